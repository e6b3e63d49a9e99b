theorem dX2_turnVote_13 : decode cX2_turnVote 13 = .ok (.putfield 22, 3) := by decide +kernel
theorem dX2_turnVote_16 : decode cX2_turnVote 16 = .ok (.return_, 1) := by decide +kernel
theorem dX2_bow_0 : decode cX2_bow 0 = .ok (.aload_n 0, 1) := by decide +kernel
theorem dX2_bow_1 : decode cX2_bow 1 = .ok (.dup, 1) := by decide +kernel
theorem dX2_bow_2 : decode cX2_bow 2 = .ok (.getfield 26, 3) := by decide +kernel
theorem dX2_bow_5 : decode cX2_bow 5 = .ok (.iload_n 1, 1) := by decide +kernel
theorem dX2_bow_6 : decode cX2_bow 6 = .ok (.ior, 1) := by decide +kernel
theorem dX2_bow_7 : decode cX2_bow 7 = .ok (.putfield 26, 3) := by decide +kernel
theorem dX2_bow_10 : decode cX2_bow 10 = .ok (.return_, 1) := by decide +kernel
set_option maxRecDepth 20000 in
theorem ggX2_empty_X5_isStreet : GoodIn wsX2_empty wsX5_isStreet := goodIn_r _ [4] (by decide +kernel) (by decide +kernel)
set_option maxRecDepth 20000 in
theorem gX2_empty_X5_isStreet_n51 : GoodIn wsX2_empty (wsX5_isStreet) := ggX2_empty_X5_isStreet
theorem dX2_empty_0 : decode cX2_empty 0 = .ok (.iload_n 1, 1) := by decide +kernel
theorem dX2_empty_1 : decode cX2_empty 1 = .ok (.invokestatic 51, 3) := by decide +kernel
theorem dX2_empty_4 : decode cX2_empty 4 = .ok (.ifCond .eq 10, 3) := by decide +kernel
theorem dX2_empty_7 : decode cX2_empty 7 = .ok (.aload_n 0, 1) := by decide +kernel
theorem dX2_empty_8 : decode cX2_empty 8 = .ok (.getfield 9, 3) := by decide +kernel
theorem dX2_empty_11 : decode cX2_empty 11 = .ok (.iload_n 1, 1) := by decide +kernel
theorem dX2_empty_12 : decode cX2_empty 12 = .ok (.iconst 0, 1) := by decide +kernel
theorem dX2_empty_13 : decode cX2_empty 13 = .ok (.iastore, 1) := by decide +kernel
theorem dX2_empty_14 : decode cX2_empty 14 = .ok (.return_, 1) := by decide +kernel
set_option maxRecDepth 20000 in
theorem ggX2_passDawn_X2_comeDown : GoodIn wsX2_passDawn wsX2_comeDown := goodIn_r _ [7, 1, 2, 8, 9, 10, 6, 11, 12, 13, 14, 15, 16, 17, 18, 19, 70, 71, 72, 73, 74, 75, 76, 77, 78, 79, 80, 81, 82, 83, 84] (by decide +kernel) (by decide +kernel)
set_option maxRecDepth 20000 in
theorem gX2_passDawn_X2_comeDown : GoodIn wsX2_passDawn (wsV RX2 87 RX2 yX2_comeDown wsX2_comeDown) := goodIn_app (goodIn_of _ (by decide +kernel)) ggX2_passDawn_X2_comeDown
set_option maxRecDepth 20000 in
theorem ggX2_passDawn_X2_work : GoodIn wsX2_passDawn wsX2_work := goodIn_r _ [23, 1, 24, 25, 26, 6, 27, 28, 29, 30, 31, 32, 33, 34, 35, 36, 37, 38, 39, 40, 41, 42, 43, 44, 45, 46, 47, 48, 49, 50, 51, 52, 53, 54, 55, 56, 57, 58, 12, 13, 14, 15, 16, 17, 18, 19, 59, 60, 61, 8, 9, 10, 11, 62, 63, 64, 70, 71, 72, 73, 74, 75, 76, 77, 78, 79, 80, 81, 82, 83, 84] (by decide +kernel) (by decide +kernel)
set_option maxRecDepth 20000 in
theorem gX2_passDawn_X2_work : GoodIn wsX2_passDawn (wsV RX2 91 RX2 yX2_work wsX2_work) := goodIn_app (goodIn_of _ (by decide +kernel)) ggX2_passDawn_X2_work
set_option maxRecDepth 20000 in
theorem ggX2_passDawn_X2_spread : GoodIn wsX2_passDawn wsX2_spread := goodIn_r _ [68, 69, 12, 62, 63, 6, 64, 59, 60, 61, 70, 71, 72, 73, 74, 75, 76] (by decide +kernel) (by decide +kernel)
set_option maxRecDepth 20000 in
theorem gX2_passDawn_X2_spread : GoodIn wsX2_passDawn (wsV RX2 94 RX2 yX2_spread wsX2_spread) := goodIn_app (goodIn_of _ (by decide +kernel)) ggX2_passDawn_X2_spread
theorem dX2_passDawn_0 : decode cX2_passDawn 0 = .ok (.aload_n 0, 1) := by decide +kernel
theorem dX2_passDawn_1 : decode cX2_passDawn 1 = .ok (.iload_n 2, 1) := by decide +kernel
theorem dX2_passDawn_2 : decode cX2_passDawn 2 = .ok (.invokevirtual 87, 3) := by decide +kernel
theorem dX2_passDawn_5 : decode cX2_passDawn 5 = .ok (.iconst 0, 1) := by decide +kernel
theorem dX2_passDawn_6 : decode cX2_passDawn 6 = .ok (.istore_n 3, 1) := by decide +kernel
theorem dX2_passDawn_7 : decode cX2_passDawn 7 = .ok (.iload_n 3, 1) := by decide +kernel
theorem dX2_passDawn_8 : decode cX2_passDawn 8 = .ok (.aload_n 0, 1) := by decide +kernel
theorem dX2_passDawn_9 : decode cX2_passDawn 9 = .ok (.getfield 33, 3) := by decide +kernel
theorem dX2_passDawn_12 : decode cX2_passDawn 12 = .ok (.getfield 65, 3) := by decide +kernel
theorem dX2_passDawn_15 : decode cX2_passDawn 15 = .ok (.if_icmp .ge 23, 3) := by decide +kernel
theorem dX2_passDawn_18 : decode cX2_passDawn 18 = .ok (.iload_n 1, 1) := by decide +kernel
theorem dX2_passDawn_19 : decode cX2_passDawn 19 = .ok (.iload_n 3, 1) := by decide +kernel
theorem dX2_passDawn_20 : decode cX2_passDawn 20 = .ok (.ishr, 1) := by decide +kernel
theorem dX2_passDawn_21 : decode cX2_passDawn 21 = .ok (.iconst 1, 1) := by decide +kernel
theorem dX2_passDawn_22 : decode cX2_passDawn 22 = .ok (.iand, 1) := by decide +kernel
theorem dX2_passDawn_23 : decode cX2_passDawn 23 = .ok (.iconst 1, 1) := by decide +kernel
theorem dX2_passDawn_24 : decode cX2_passDawn 24 = .ok (.if_icmp .ne 8, 3) := by decide +kernel
theorem dX2_passDawn_27 : decode cX2_passDawn 27 = .ok (.aload_n 0, 1) := by decide +kernel
theorem dX2_passDawn_28 : decode cX2_passDawn 28 = .ok (.iload_n 3, 1) := by decide +kernel
theorem dX2_passDawn_29 : decode cX2_passDawn 29 = .ok (.invokevirtual 91, 3) := by decide +kernel
theorem dX2_passDawn_32 : decode cX2_passDawn 32 = .ok (.iinc 3 1, 3) := by decide +kernel
theorem dX2_passDawn_35 : decode cX2_passDawn 35 = .ok (.goto (-28), 3) := by decide +kernel
theorem dX2_passDawn_38 : decode cX2_passDawn 38 = .ok (.aload_n 0, 1) := by decide +kernel
theorem dX2_passDawn_39 : decode cX2_passDawn 39 = .ok (.invokevirtual 94, 3) := by decide +kernel
theorem dX2_passDawn_42 : decode cX2_passDawn 42 = .ok (.aload_n 0, 1) := by decide +kernel
theorem dX2_passDawn_43 : decode cX2_passDawn 43 = .ok (.dup, 1) := by decide +kernel
theorem dX2_passDawn_44 : decode cX2_passDawn 44 = .ok (.getfield 30, 3) := by decide +kernel
theorem dX2_passDawn_47 : decode cX2_passDawn 47 = .ok (.iconst 1, 1) := by decide +kernel
theorem dX2_passDawn_48 : decode cX2_passDawn 48 = .ok (.iadd, 1) := by decide +kernel
theorem dX2_passDawn_49 : decode cX2_passDawn 49 = .ok (.putfield 30, 3) := by decide +kernel
theorem dX2_passDawn_52 : decode cX2_passDawn 52 = .ok (.return_, 1) := by decide +kernel
set_option maxRecDepth 20000 in
theorem ggX2_comeDown_X2_pour : GoodIn wsX2_comeDown wsX2_pour := goodIn_r _ [7, 8, 9, 10, 11, 12, 13, 14, 15, 16, 17, 18, 19, 20, 21, 22] (by decide +kernel) (by decide +kernel)
set_option maxRecDepth 20000 in
theorem gX2_comeDown_X2_pour : GoodIn wsX2_comeDown (wsV RX2 106 RX2 yX2_pour wsX2_pour) := goodIn_app (goodIn_of _ (by decide +kernel)) ggX2_comeDown_X2_pour
theorem dX2_comeDown_0 : decode cX2_comeDown 0 = .ok (.aload_n 0, 1) := by decide +kernel
theorem dX2_comeDown_1 : decode cX2_comeDown 1 = .ok (.getfield 33, 3) := by decide +kernel
theorem dX2_comeDown_4 : decode cX2_comeDown 4 = .ok (.getfield 97, 3) := by decide +kernel
theorem dX2_comeDown_7 : decode cX2_comeDown 7 = .ok (.istore_n 2, 1) := by decide +kernel
theorem dX2_comeDown_8 : decode cX2_comeDown 8 = .ok (.iload_n 2, 1) := by decide +kernel
theorem dX2_comeDown_9 : decode cX2_comeDown 9 = .ok (.ifCond .le 46, 3) := by decide +kernel
theorem dX2_comeDown_12 : decode cX2_comeDown 12 = .ok (.iload_n 2, 1) := by decide +kernel
theorem dX2_comeDown_13 : decode cX2_comeDown 13 = .ok (.iconst 5, 1) := by decide +kernel
theorem dX2_comeDown_14 : decode cX2_comeDown 14 = .ok (.if_icmp .gt 41, 3) := by decide +kernel
theorem dX2_comeDown_17 : decode cX2_comeDown 17 = .ok (.aload_n 0, 1) := by decide +kernel
theorem dX2_comeDown_18 : decode cX2_comeDown 18 = .ok (.getfield 30, 3) := by decide +kernel
theorem dX2_comeDown_21 : decode cX2_comeDown 21 = .ok (.ifCond .lt 34, 3) := by decide +kernel
theorem dX2_comeDown_24 : decode cX2_comeDown 24 = .ok (.aload_n 0, 1) := by decide +kernel
theorem dX2_comeDown_25 : decode cX2_comeDown 25 = .ok (.getfield 30, 3) := by decide +kernel
theorem dX2_comeDown_28 : decode cX2_comeDown 28 = .ok (.iload_n 2, 1) := by decide +kernel
theorem dX2_comeDown_29 : decode cX2_comeDown 29 = .ok (.irem, 1) := by decide +kernel
theorem dX2_comeDown_30 : decode cX2_comeDown 30 = .ok (.istore_n 3, 1) := by decide +kernel
theorem dX2_comeDown_31 : decode cX2_comeDown 31 = .ok (.aload_n 0, 1) := by decide +kernel
theorem dX2_comeDown_32 : decode cX2_comeDown 32 = .ok (.aload_n 0, 1) := by decide +kernel
theorem dX2_comeDown_33 : decode cX2_comeDown 33 = .ok (.getfield 33, 3) := by decide +kernel
theorem dX2_comeDown_36 : decode cX2_comeDown 36 = .ok (.getfield 100, 3) := by decide +kernel
theorem dX2_comeDown_39 : decode cX2_comeDown 39 = .ok (.iload_n 3, 1) := by decide +kernel
theorem dX2_comeDown_40 : decode cX2_comeDown 40 = .ok (.iaload, 1) := by decide +kernel
theorem dX2_comeDown_41 : decode cX2_comeDown 41 = .ok (.aload_n 0, 1) := by decide +kernel
theorem dX2_comeDown_42 : decode cX2_comeDown 42 = .ok (.getfield 33, 3) := by decide +kernel
theorem dX2_comeDown_45 : decode cX2_comeDown 45 = .ok (.getfield 103, 3) := by decide +kernel
theorem dX2_comeDown_48 : decode cX2_comeDown 48 = .ok (.iload_n 3, 1) := by decide +kernel
theorem dX2_comeDown_49 : decode cX2_comeDown 49 = .ok (.iaload, 1) := by decide +kernel
theorem dX2_comeDown_50 : decode cX2_comeDown 50 = .ok (.iload_n 1, 1) := by decide +kernel
theorem dX2_comeDown_51 : decode cX2_comeDown 51 = .ok (.imul, 1) := by decide +kernel
theorem dX2_comeDown_52 : decode cX2_comeDown 52 = .ok (.invokevirtual 106, 3) := by decide +kernel
theorem dX2_comeDown_55 : decode cX2_comeDown 55 = .ok (.return_, 1) := by decide +kernel
set_option maxRecDepth 20000 in
theorem ggX2_work_X2_placeOf : GoodIn wsX2_work wsX2_placeOf := goodIn_r _ [6, 1, 7, 8, 9, 10, 11, 12, 13, 56, 57, 58, 59, 60, 61, 62, 63, 64, 65, 66, 67, 68, 69, 70] (by decide +kernel) (by decide +kernel)
set_option maxRecDepth 20000 in
theorem gX2_work_X2_placeOf : GoodIn wsX2_work (wsV RX2 68 RX2 yX2_placeOf wsX2_placeOf) := goodIn_app (goodIn_of _ (by decide +kernel)) ggX2_work_X2_placeOf
set_option maxRecDepth 20000 in
theorem ggX2_work_X4_strengthOf : GoodIn wsX2_work wsX4_strengthOf := goodIn_r _ [17, 18, 63, 64, 65, 66, 67, 68, 69, 70] (by decide +kernel) (by decide +kernel)
set_option maxRecDepth 20000 in
theorem gX2_work_X4_strengthOf : GoodIn wsX2_work (wsV RX2 109 RX4 yX4_strengthOf wsX4_strengthOf) := goodIn_app (goodIn_of _ (by decide +kernel)) ggX2_work_X4_strengthOf
set_option maxRecDepth 20000 in
theorem ggX2_work_X2_worksAs : GoodIn wsX2_work wsX2_worksAs := goodIn_r _ [22, 1, 23, 24, 25, 26, 11, 27, 28, 29, 30, 31, 5, 32, 33, 56, 57, 58, 59, 60, 61, 62, 63, 64, 65, 66, 67, 68, 69, 70] (by decide +kernel) (by decide +kernel)
set_option maxRecDepth 20000 in
theorem gX2_work_X2_worksAs : GoodIn wsX2_work (wsV RX2 112 RX2 yX2_worksAs wsX2_worksAs) := goodIn_app (goodIn_of _ (by decide +kernel)) ggX2_work_X2_worksAs
set_option maxRecDepth 20000 in
theorem ggX2_work_X2_sweep : GoodIn wsX2_work wsX2_sweep := goodIn_r _ [37, 38, 39, 40, 41, 42, 43, 44, 45, 56, 57, 58, 59, 60, 61, 62] (by decide +kernel) (by decide +kernel)
set_option maxRecDepth 20000 in
theorem gX2_work_X2_sweep : GoodIn wsX2_work (wsV RX2 115 RX2 yX2_sweep wsX2_sweep) := goodIn_app (goodIn_of _ (by decide +kernel)) ggX2_work_X2_sweep
set_option maxRecDepth 20000 in
theorem ggX2_work_X2_rightOf : GoodIn wsX2_work wsX2_rightOf := goodIn_r _ [48] (by decide +kernel) (by decide +kernel)
set_option maxRecDepth 20000 in
theorem gX2_work_X2_rightOf : GoodIn wsX2_work (va_wsS RX2 80 yX2_rightOf wsX2_rightOf) := goodIn_app (goodIn_of _ (by decide +kernel)) ggX2_work_X2_rightOf
set_option maxRecDepth 20000 in
theorem ggX2_work_X2_pour : GoodIn wsX2_work wsX2_pour := goodIn_r _ [52, 38, 39, 40, 41, 42, 43, 44, 45, 56, 57, 58, 59, 60, 61, 62] (by decide +kernel) (by decide +kernel)
set_option maxRecDepth 20000 in
theorem gX2_work_X2_pour : GoodIn wsX2_work (wsV RX2 106 RX2 yX2_pour wsX2_pour) := goodIn_app (goodIn_of _ (by decide +kernel)) ggX2_work_X2_pour
set_option maxRecDepth 20000 in
theorem ggX2_work_X2_leftOf : GoodIn wsX2_work wsX2_leftOf := goodIn_r _ [55] (by decide +kernel) (by decide +kernel)
set_option maxRecDepth 20000 in
theorem gX2_work_X2_leftOf : GoodIn wsX2_work (va_wsS RX2 77 yX2_leftOf wsX2_leftOf) := goodIn_app (goodIn_of _ (by decide +kernel)) ggX2_work_X2_leftOf
theorem dX2_work_0 : decode cX2_work 0 = .ok (.aload_n 0, 1) := by decide +kernel
theorem dX2_work_1 : decode cX2_work 1 = .ok (.iload_n 1, 1) := by decide +kernel
theorem dX2_work_2 : decode cX2_work 2 = .ok (.invokevirtual 68, 3) := by decide +kernel
theorem dX2_work_5 : decode cX2_work 5 = .ok (.istore_n 2, 1) := by decide +kernel
theorem dX2_work_6 : decode cX2_work 6 = .ok (.aload_n 0, 1) := by decide +kernel
theorem dX2_work_7 : decode cX2_work 7 = .ok (.getfield 33, 3) := by decide +kernel
theorem dX2_work_10 : decode cX2_work 10 = .ok (.iload_n 1, 1) := by decide +kernel
theorem dX2_work_11 : decode cX2_work 11 = .ok (.invokevirtual 109, 3) := by decide +kernel
theorem dX2_work_14 : decode cX2_work 14 = .ok (.istore_n 3, 1) := by decide +kernel
theorem dX2_work_15 : decode cX2_work 15 = .ok (.aload_n 0, 1) := by decide +kernel
theorem dX2_work_16 : decode cX2_work 16 = .ok (.iload_n 1, 1) := by decide +kernel
theorem dX2_work_17 : decode cX2_work 17 = .ok (.invokevirtual 112, 3) := by decide +kernel
theorem dX2_work_20 : decode cX2_work 20 = .ok (.tableswitch 89 0 2 #[28, 38, 55], 28) := by decide +kernel
theorem dX2_work_48 : decode cX2_work 48 = .ok (.aload_n 0, 1) := by decide +kernel
theorem dX2_work_49 : decode cX2_work 49 = .ok (.iload_n 2, 1) := by decide +kernel
theorem dX2_work_50 : decode cX2_work 50 = .ok (.iload_n 3, 1) := by decide +kernel
theorem dX2_work_51 : decode cX2_work 51 = .ok (.invokevirtual 115, 3) := by decide +kernel
theorem dX2_work_54 : decode cX2_work 54 = .ok (.pop, 1) := by decide +kernel
theorem dX2_work_55 : decode cX2_work 55 = .ok (.goto 54, 3) := by decide +kernel
theorem dX2_work_58 : decode cX2_work 58 = .ok (.aload_n 0, 1) := by decide +kernel
theorem dX2_work_59 : decode cX2_work 59 = .ok (.iload_n 2, 1) := by decide +kernel
theorem dX2_work_60 : decode cX2_work 60 = .ok (.invokestatic 80, 3) := by decide +kernel
theorem dX2_work_63 : decode cX2_work 63 = .ok (.aload_n 0, 1) := by decide +kernel
theorem dX2_work_64 : decode cX2_work 64 = .ok (.iload_n 2, 1) := by decide +kernel
theorem dX2_work_65 : decode cX2_work 65 = .ok (.iload_n 3, 1) := by decide +kernel
theorem dX2_work_66 : decode cX2_work 66 = .ok (.invokevirtual 115, 3) := by decide +kernel
theorem dX2_work_69 : decode cX2_work 69 = .ok (.invokevirtual 106, 3) := by decide +kernel
theorem dX2_work_72 : decode cX2_work 72 = .ok (.goto 37, 3) := by decide +kernel
theorem dX2_work_75 : decode cX2_work 75 = .ok (.aload_n 0, 1) := by decide +kernel
theorem dX2_work_76 : decode cX2_work 76 = .ok (.iload_n 2, 1) := by decide +kernel
theorem dX2_work_77 : decode cX2_work 77 = .ok (.iload_n 3, 1) := by decide +kernel
theorem dX2_work_78 : decode cX2_work 78 = .ok (.invokevirtual 115, 3) := by decide +kernel
theorem dX2_work_81 : decode cX2_work 81 = .ok (.pop, 1) := by decide +kernel
theorem dX2_work_82 : decode cX2_work 82 = .ok (.aload_n 0, 1) := by decide +kernel
theorem dX2_work_83 : decode cX2_work 83 = .ok (.iload_n 2, 1) := by decide +kernel
theorem dX2_work_84 : decode cX2_work 84 = .ok (.invokestatic 77, 3) := by decide +kernel
theorem dX2_work_87 : decode cX2_work 87 = .ok (.iload_n 3, 1) := by decide +kernel
theorem dX2_work_88 : decode cX2_work 88 = .ok (.iconst 2, 1) := by decide +kernel
theorem dX2_work_89 : decode cX2_work 89 = .ok (.idiv, 1) := by decide +kernel
theorem dX2_work_90 : decode cX2_work 90 = .ok (.invokevirtual 115, 3) := by decide +kernel
theorem dX2_work_93 : decode cX2_work 93 = .ok (.pop, 1) := by decide +kernel
theorem dX2_work_94 : decode cX2_work 94 = .ok (.aload_n 0, 1) := by decide +kernel
theorem dX2_work_95 : decode cX2_work 95 = .ok (.iload_n 2, 1) := by decide +kernel
theorem dX2_work_96 : decode cX2_work 96 = .ok (.invokestatic 80, 3) := by decide +kernel
theorem dX2_work_99 : decode cX2_work 99 = .ok (.iload_n 3, 1) := by decide +kernel
theorem dX2_work_100 : decode cX2_work 100 = .ok (.iconst 2, 1) := by decide +kernel
theorem dX2_work_101 : decode cX2_work 101 = .ok (.idiv, 1) := by decide +kernel
theorem dX2_work_102 : decode cX2_work 102 = .ok (.invokevirtual 115, 3) := by decide +kernel
theorem dX2_work_105 : decode cX2_work 105 = .ok (.pop, 1) := by decide +kernel
theorem dX2_work_106 : decode cX2_work 106 = .ok (.goto 3, 3) := by decide +kernel
theorem dX2_work_109 : decode cX2_work 109 = .ok (.return_, 1) := by decide +kernel
set_option maxRecDepth 20000 in
theorem ggX2_pour_X5_isStreet : GoodIn wsX2_pour wsX5_isStreet := goodIn_r _ [8] (by decide +kernel) (by decide +kernel)
set_option maxRecDepth 20000 in
theorem gX2_pour_X5_isStreet_n51 : GoodIn wsX2_pour (wsX5_isStreet) := ggX2_pour_X5_isStreet
theorem dX2_pour_0 : decode cX2_pour 0 = .ok (.iload_n 1, 1) := by decide +kernel
theorem dX2_pour_1 : decode cX2_pour 1 = .ok (.invokestatic 51, 3) := by decide +kernel
theorem dX2_pour_4 : decode cX2_pour 4 = .ok (.ifCond .eq 22, 3) := by decide +kernel
theorem dX2_pour_7 : decode cX2_pour 7 = .ok (.aload_n 0, 1) := by decide +kernel
theorem dX2_pour_8 : decode cX2_pour 8 = .ok (.getfield 9, 3) := by decide +kernel
theorem dX2_pour_11 : decode cX2_pour 11 = .ok (.iload_n 1, 1) := by decide +kernel
theorem dX2_pour_12 : decode cX2_pour 12 = .ok (.bipush 99, 2) := by decide +kernel
theorem dX2_pour_14 : decode cX2_pour 14 = .ok (.aload_n 0, 1) := by decide +kernel
theorem dX2_pour_15 : decode cX2_pour 15 = .ok (.getfield 9, 3) := by decide +kernel
theorem dX2_pour_18 : decode cX2_pour 18 = .ok (.iload_n 1, 1) := by decide +kernel
theorem dX2_pour_19 : decode cX2_pour 19 = .ok (.iaload, 1) := by decide +kernel
theorem dX2_pour_20 : decode cX2_pour 20 = .ok (.iload_n 2, 1) := by decide +kernel
theorem dX2_pour_21 : decode cX2_pour 21 = .ok (.iadd, 1) := by decide +kernel
theorem dX2_pour_22 : decode cX2_pour 22 = .ok (.invokestatic 119, 3) := by decide +kernel
theorem dX2_pour_25 : decode cX2_pour 25 = .ok (.iastore, 1) := by decide +kernel
theorem dX2_pour_26 : decode cX2_pour 26 = .ok (.return_, 1) := by decide +kernel
set_option maxRecDepth 20000 in
theorem ggX2_sweep_X5_isStreet : GoodIn wsX2_sweep wsX5_isStreet := goodIn_r _ [8] (by decide +kernel) (by decide +kernel)
set_option maxRecDepth 20000 in
theorem gX2_sweep_X5_isStreet_n51 : GoodIn wsX2_sweep (wsX5_isStreet) := ggX2_sweep_X5_isStreet
theorem dX2_sweep_0 : decode cX2_sweep 0 = .ok (.iload_n 1, 1) := by decide +kernel
theorem dX2_sweep_1 : decode cX2_sweep 1 = .ok (.invokestatic 51, 3) := by decide +kernel
theorem dX2_sweep_4 : decode cX2_sweep 4 = .ok (.ifCond .ne 5, 3) := by decide +kernel
theorem dX2_sweep_7 : decode cX2_sweep 7 = .ok (.iconst 0, 1) := by decide +kernel
theorem dX2_sweep_8 : decode cX2_sweep 8 = .ok (.ireturn, 1) := by decide +kernel
theorem dX2_sweep_9 : decode cX2_sweep 9 = .ok (.iload_n 2, 1) := by decide +kernel
theorem dX2_sweep_10 : decode cX2_sweep 10 = .ok (.aload_n 0, 1) := by decide +kernel
theorem dX2_sweep_11 : decode cX2_sweep 11 = .ok (.getfield 9, 3) := by decide +kernel
theorem dX2_sweep_14 : decode cX2_sweep 14 = .ok (.iload_n 1, 1) := by decide +kernel
theorem dX2_sweep_15 : decode cX2_sweep 15 = .ok (.iaload, 1) := by decide +kernel
theorem dX2_sweep_16 : decode cX2_sweep 16 = .ok (.invokestatic 119, 3) := by decide +kernel
theorem dX2_sweep_19 : decode cX2_sweep 19 = .ok (.istore_n 3, 1) := by decide +kernel
theorem dX2_sweep_20 : decode cX2_sweep 20 = .ok (.aload_n 0, 1) := by decide +kernel
theorem dX2_sweep_21 : decode cX2_sweep 21 = .ok (.getfield 9, 3) := by decide +kernel
theorem dX2_sweep_24 : decode cX2_sweep 24 = .ok (.iload_n 1, 1) := by decide +kernel
theorem dX2_sweep_25 : decode cX2_sweep 25 = .ok (.dup2, 1) := by decide +kernel
theorem dX2_sweep_26 : decode cX2_sweep 26 = .ok (.iaload, 1) := by decide +kernel
theorem dX2_sweep_27 : decode cX2_sweep 27 = .ok (.iload_n 3, 1) := by decide +kernel
theorem dX2_sweep_28 : decode cX2_sweep 28 = .ok (.isub, 1) := by decide +kernel
theorem dX2_sweep_29 : decode cX2_sweep 29 = .ok (.iastore, 1) := by decide +kernel
theorem dX2_sweep_30 : decode cX2_sweep 30 = .ok (.iload_n 3, 1) := by decide +kernel
theorem dX2_sweep_31 : decode cX2_sweep 31 = .ok (.ireturn, 1) := by decide +kernel
set_option maxRecDepth 20000 in
theorem ggX2_spread_X2_leftOf : GoodIn wsX2_spread wsX2_leftOf := goodIn_r _ [6] (by decide +kernel) (by decide +kernel)
set_option maxRecDepth 20000 in
theorem gX2_spread_X2_leftOf : GoodIn wsX2_spread (va_wsS RX2 77 yX2_leftOf wsX2_leftOf) := goodIn_app (goodIn_of _ (by decide +kernel)) ggX2_spread_X2_leftOf
set_option maxRecDepth 20000 in
theorem ggX2_spread_X2_rightOf : GoodIn wsX2_spread wsX2_rightOf := goodIn_r _ [9] (by decide +kernel) (by decide +kernel)
set_option maxRecDepth 20000 in
theorem gX2_spread_X2_rightOf : GoodIn wsX2_spread (va_wsS RX2 80 yX2_rightOf wsX2_rightOf) := goodIn_app (goodIn_of _ (by decide +kernel)) ggX2_spread_X2_rightOf
theorem dX2_spread_0 : decode cX2_spread 0 = .ok (.iconst 0, 1) := by decide +kernel
theorem dX2_spread_1 : decode cX2_spread 1 = .ok (.istore_n 1, 1) := by decide +kernel
theorem dX2_spread_2 : decode cX2_spread 2 = .ok (.iload_n 1, 1) := by decide +kernel
theorem dX2_spread_3 : decode cX2_spread 3 = .ok (.bipush 8, 2) := by decide +kernel
theorem dX2_spread_5 : decode cX2_spread 5 = .ok (.if_icmp .ge 31, 3) := by decide +kernel
theorem dX2_spread_8 : decode cX2_spread 8 = .ok (.aload_n 0, 1) := by decide +kernel
theorem dX2_spread_9 : decode cX2_spread 9 = .ok (.getfield 18, 3) := by decide +kernel
theorem dX2_spread_12 : decode cX2_spread 12 = .ok (.iload_n 1, 1) := by decide +kernel
theorem dX2_spread_13 : decode cX2_spread 13 = .ok (.aload_n 0, 1) := by decide +kernel
theorem dX2_spread_14 : decode cX2_spread 14 = .ok (.getfield 9, 3) := by decide +kernel
theorem dX2_spread_17 : decode cX2_spread 17 = .ok (.iload_n 1, 1) := by decide +kernel
theorem dX2_spread_18 : decode cX2_spread 18 = .ok (.iaload, 1) := by decide +kernel
theorem dX2_spread_19 : decode cX2_spread 19 = .ok (.bipush 10, 2) := by decide +kernel
theorem dX2_spread_21 : decode cX2_spread 21 = .ok (.if_icmp .lt 7, 3) := by decide +kernel
theorem dX2_spread_24 : decode cX2_spread 24 = .ok (.iconst 1, 1) := by decide +kernel
theorem dX2_spread_25 : decode cX2_spread 25 = .ok (.goto 4, 3) := by decide +kernel
theorem dX2_spread_28 : decode cX2_spread 28 = .ok (.iconst 0, 1) := by decide +kernel
theorem dX2_spread_29 : decode cX2_spread 29 = .ok (.bastore, 1) := by decide +kernel
theorem dX2_spread_30 : decode cX2_spread 30 = .ok (.iinc 1 1, 3) := by decide +kernel
theorem dX2_spread_33 : decode cX2_spread 33 = .ok (.goto (-31), 3) := by decide +kernel
theorem dX2_spread_36 : decode cX2_spread 36 = .ok (.iconst 0, 1) := by decide +kernel
theorem dX2_spread_37 : decode cX2_spread 37 = .ok (.istore_n 1, 1) := by decide +kernel
theorem dX2_spread_38 : decode cX2_spread 38 = .ok (.iload_n 1, 1) := by decide +kernel
theorem dX2_spread_39 : decode cX2_spread 39 = .ok (.bipush 8, 2) := by decide +kernel
theorem dX2_spread_41 : decode cX2_spread 41 = .ok (.if_icmp .ge 54, 3) := by decide +kernel
theorem dX2_spread_44 : decode cX2_spread 44 = .ok (.aload_n 0, 1) := by decide +kernel
theorem dX2_spread_45 : decode cX2_spread 45 = .ok (.getfield 18, 3) := by decide +kernel
theorem dX2_spread_48 : decode cX2_spread 48 = .ok (.iload_n 1, 1) := by decide +kernel
theorem dX2_spread_49 : decode cX2_spread 49 = .ok (.baload, 1) := by decide +kernel
theorem dX2_spread_50 : decode cX2_spread 50 = .ok (.ifCond .eq 39, 3) := by decide +kernel
theorem dX2_spread_53 : decode cX2_spread 53 = .ok (.aload_n 0, 1) := by decide +kernel
theorem dX2_spread_54 : decode cX2_spread 54 = .ok (.getfield 9, 3) := by decide +kernel
theorem dX2_spread_57 : decode cX2_spread 57 = .ok (.iload_n 1, 1) := by decide +kernel
theorem dX2_spread_58 : decode cX2_spread 58 = .ok (.dup2, 1) := by decide +kernel
theorem dX2_spread_59 : decode cX2_spread 59 = .ok (.iaload, 1) := by decide +kernel
theorem dX2_spread_60 : decode cX2_spread 60 = .ok (.iconst 2, 1) := by decide +kernel
theorem dX2_spread_61 : decode cX2_spread 61 = .ok (.isub, 1) := by decide +kernel
theorem dX2_spread_62 : decode cX2_spread 62 = .ok (.iastore, 1) := by decide +kernel
theorem dX2_spread_63 : decode cX2_spread 63 = .ok (.aload_n 0, 1) := by decide +kernel
theorem dX2_spread_64 : decode cX2_spread 64 = .ok (.getfield 9, 3) := by decide +kernel
theorem dX2_spread_67 : decode cX2_spread 67 = .ok (.iload_n 1, 1) := by decide +kernel
theorem dX2_spread_68 : decode cX2_spread 68 = .ok (.invokestatic 77, 3) := by decide +kernel
theorem dX2_spread_71 : decode cX2_spread 71 = .ok (.dup2, 1) := by decide +kernel
theorem dX2_spread_72 : decode cX2_spread 72 = .ok (.iaload, 1) := by decide +kernel
theorem dX2_spread_73 : decode cX2_spread 73 = .ok (.iconst 1, 1) := by decide +kernel
theorem dX2_spread_74 : decode cX2_spread 74 = .ok (.iadd, 1) := by decide +kernel
theorem dX2_spread_75 : decode cX2_spread 75 = .ok (.iastore, 1) := by decide +kernel
theorem dX2_spread_76 : decode cX2_spread 76 = .ok (.aload_n 0, 1) := by decide +kernel
theorem dX2_spread_77 : decode cX2_spread 77 = .ok (.getfield 9, 3) := by decide +kernel
theorem dX2_spread_80 : decode cX2_spread 80 = .ok (.iload_n 1, 1) := by decide +kernel
theorem dX2_spread_81 : decode cX2_spread 81 = .ok (.invokestatic 80, 3) := by decide +kernel
theorem dX2_spread_84 : decode cX2_spread 84 = .ok (.dup2, 1) := by decide +kernel
theorem dX2_spread_85 : decode cX2_spread 85 = .ok (.iaload, 1) := by decide +kernel
theorem dX2_spread_86 : decode cX2_spread 86 = .ok (.iconst 1, 1) := by decide +kernel
theorem dX2_spread_87 : decode cX2_spread 87 = .ok (.iadd, 1) := by decide +kernel
theorem dX2_spread_88 : decode cX2_spread 88 = .ok (.iastore, 1) := by decide +kernel
theorem dX2_spread_89 : decode cX2_spread 89 = .ok (.iinc 1 1, 3) := by decide +kernel
theorem dX2_spread_92 : decode cX2_spread 92 = .ok (.goto (-54), 3) := by decide +kernel
theorem dX2_spread_95 : decode cX2_spread 95 = .ok (.return_, 1) := by decide +kernel
theorem dX2_leftOf_0 : decode cX2_leftOf 0 = .ok (.iload_n 0, 1) := by decide +kernel
theorem dX2_leftOf_1 : decode cX2_leftOf 1 = .ok (.bipush 8, 2) := by decide +kernel
theorem dX2_leftOf_3 : decode cX2_leftOf 3 = .ok (.iadd, 1) := by decide +kernel
theorem dX2_leftOf_4 : decode cX2_leftOf 4 = .ok (.iconst 1, 1) := by decide +kernel
theorem dX2_leftOf_5 : decode cX2_leftOf 5 = .ok (.isub, 1) := by decide +kernel
theorem dX2_leftOf_6 : decode cX2_leftOf 6 = .ok (.bipush 7, 2) := by decide +kernel
theorem dX2_leftOf_8 : decode cX2_leftOf 8 = .ok (.iand, 1) := by decide +kernel
theorem dX2_leftOf_9 : decode cX2_leftOf 9 = .ok (.ireturn, 1) := by decide +kernel
theorem dX2_rightOf_0 : decode cX2_rightOf 0 = .ok (.iload_n 0, 1) := by decide +kernel
theorem dX2_rightOf_1 : decode cX2_rightOf 1 = .ok (.iconst 1, 1) := by decide +kernel
theorem dX2_rightOf_2 : decode cX2_rightOf 2 = .ok (.iadd, 1) := by decide +kernel
theorem dX2_rightOf_3 : decode cX2_rightOf 3 = .ok (.bipush 7, 2) := by decide +kernel
theorem dX2_rightOf_5 : decode cX2_rightOf 5 = .ok (.iand, 1) := by decide +kernel
theorem dX2_rightOf_6 : decode cX2_rightOf 6 = .ok (.ireturn, 1) := by decide +kernel
theorem dX3_init_0 : decode cX3_init 0 = .ok (.aload_n 0, 1) := by decide +kernel
theorem dX3_init_1 : decode cX3_init 1 = .ok (.invokespecial 3, 3) := by decide +kernel
theorem dX3_init_4 : decode cX3_init 4 = .ok (.aload_n 0, 1) := by decide +kernel
theorem dX3_init_5 : decode cX3_init 5 = .ok (.bipush 48, 2) := by decide +kernel
theorem dX3_init_7 : decode cX3_init 7 = .ok (.newarray .int, 2) := by decide +kernel
theorem dX3_init_9 : decode cX3_init 9 = .ok (.putfield 9, 3) := by decide +kernel
theorem dX3_init_12 : decode cX3_init 12 = .ok (.aload_n 0, 1) := by decide +kernel
theorem dX3_init_13 : decode cX3_init 13 = .ok (.iconst 0, 1) := by decide +kernel
theorem dX3_init_14 : decode cX3_init 14 = .ok (.putfield 15, 3) := by decide +kernel
theorem dX3_init_17 : decode cX3_init 17 = .ok (.return_, 1) := by decide +kernel
theorem dX3_add_0 : decode cX3_add 0 = .ok (.aload_n 0, 1) := by decide +kernel
theorem dX3_add_1 : decode cX3_add 1 = .ok (.getfield 15, 3) := by decide +kernel
theorem dX3_add_4 : decode cX3_add 4 = .ok (.bipush 48, 2) := by decide +kernel
theorem dX3_add_6 : decode cX3_add 6 = .ok (.if_icmp .ge 23, 3) := by decide +kernel
theorem dX3_add_9 : decode cX3_add 9 = .ok (.aload_n 0, 1) := by decide +kernel
theorem dX3_add_10 : decode cX3_add 10 = .ok (.getfield 9, 3) := by decide +kernel
theorem dX3_add_13 : decode cX3_add 13 = .ok (.aload_n 0, 1) := by decide +kernel
theorem dX3_add_14 : decode cX3_add 14 = .ok (.getfield 15, 3) := by decide +kernel
theorem dX3_add_17 : decode cX3_add 17 = .ok (.iload_n 1, 1) := by decide +kernel
theorem dX3_add_18 : decode cX3_add 18 = .ok (.iastore, 1) := by decide +kernel
theorem dX3_add_19 : decode cX3_add 19 = .ok (.aload_n 0, 1) := by decide +kernel
theorem dX3_add_20 : decode cX3_add 20 = .ok (.dup, 1) := by decide +kernel
theorem dX3_add_21 : decode cX3_add 21 = .ok (.getfield 15, 3) := by decide +kernel
theorem dX3_add_24 : decode cX3_add 24 = .ok (.iconst 1, 1) := by decide +kernel
theorem dX3_add_25 : decode cX3_add 25 = .ok (.iadd, 1) := by decide +kernel
theorem dX3_add_26 : decode cX3_add 26 = .ok (.putfield 15, 3) := by decide +kernel
theorem dX3_add_29 : decode cX3_add 29 = .ok (.return_, 1) := by decide +kernel
theorem dX3_letterAt_0 : decode cX3_letterAt 0 = .ok (.iload_n 1, 1) := by decide +kernel
theorem dX3_letterAt_1 : decode cX3_letterAt 1 = .ok (.ifCond .lt 26, 3) := by decide +kernel
theorem dX3_letterAt_4 : decode cX3_letterAt 4 = .ok (.iload_n 1, 1) := by decide +kernel
theorem dX3_letterAt_5 : decode cX3_letterAt 5 = .ok (.aload_n 0, 1) := by decide +kernel
theorem dX3_letterAt_6 : decode cX3_letterAt 6 = .ok (.getfield 15, 3) := by decide +kernel
theorem dX3_letterAt_9 : decode cX3_letterAt 9 = .ok (.if_icmp .ge 18, 3) := by decide +kernel
theorem dX3_letterAt_12 : decode cX3_letterAt 12 = .ok (.iload_n 1, 1) := by decide +kernel
theorem dX3_letterAt_13 : decode cX3_letterAt 13 = .ok (.bipush 48, 2) := by decide +kernel
theorem dX3_letterAt_15 : decode cX3_letterAt 15 = .ok (.if_icmp .ge 12, 3) := by decide +kernel
theorem dX3_letterAt_18 : decode cX3_letterAt 18 = .ok (.aload_n 0, 1) := by decide +kernel
theorem dX3_letterAt_19 : decode cX3_letterAt 19 = .ok (.getfield 9, 3) := by decide +kernel
theorem dX3_letterAt_22 : decode cX3_letterAt 22 = .ok (.iload_n 1, 1) := by decide +kernel
theorem dX3_letterAt_23 : decode cX3_letterAt 23 = .ok (.iaload, 1) := by decide +kernel
theorem dX3_letterAt_24 : decode cX3_letterAt 24 = .ok (.goto 5, 3) := by decide +kernel
theorem dX3_letterAt_27 : decode cX3_letterAt 27 = .ok (.bipush (-9), 2) := by decide +kernel
theorem dX3_letterAt_29 : decode cX3_letterAt 29 = .ok (.ireturn, 1) := by decide +kernel
set_option maxRecDepth 20000 in
theorem ggX3_figureAt_X3_letterAt : GoodIn wsX3_figureAt wsX3_letterAt := goodIn_r _ [5, 6, 7, 8, 9] (by decide +kernel) (by decide +kernel)
set_option maxRecDepth 20000 in
theorem gX3_figureAt_X3_letterAt : GoodIn wsX3_figureAt (wsV RX3 19 RX3 yX3_letterAt wsX3_letterAt) := goodIn_app (goodIn_of _ (by decide +kernel)) ggX3_figureAt_X3_letterAt
theorem dX3_figureAt_0 : decode cX3_figureAt 0 = .ok (.aload_n 0, 1) := by decide +kernel
theorem dX3_figureAt_1 : decode cX3_figureAt 1 = .ok (.iload_n 1, 1) := by decide +kernel
theorem dX3_figureAt_2 : decode cX3_figureAt 2 = .ok (.invokevirtual 19, 3) := by decide +kernel
theorem dX3_figureAt_5 : decode cX3_figureAt 5 = .ok (.bipush 48, 2) := by decide +kernel
theorem dX3_figureAt_7 : decode cX3_figureAt 7 = .ok (.isub, 1) := by decide +kernel
theorem dX3_figureAt_8 : decode cX3_figureAt 8 = .ok (.ireturn, 1) := by decide +kernel
set_option maxRecDepth 20000 in
theorem ggX3_firstFault_X3_letterAt : GoodIn wsX3_firstFault wsX3_letterAt := goodIn_r _ [5, 6, 7, 29, 30] (by decide +kernel) (by decide +kernel)
set_option maxRecDepth 20000 in
theorem gX3_firstFault_X3_letterAt : GoodIn wsX3_firstFault (wsV RX3 19 RX3 yX3_letterAt wsX3_letterAt) := goodIn_app (goodIn_of _ (by decide +kernel)) ggX3_firstFault_X3_letterAt
set_option maxRecDepth 20000 in
theorem ggX3_firstFault_X3_figureAt : GoodIn wsX3_firstFault wsX3_figureAt := goodIn_r _ [11, 1, 2, 3, 4, 5, 6, 7, 29, 30] (by decide +kernel) (by decide +kernel)
set_option maxRecDepth 20000 in
theorem gX3_firstFault_X3_figureAt : GoodIn wsX3_firstFault (wsV RX3 23 RX3 yX3_figureAt wsX3_figureAt) := goodIn_app (goodIn_of _ (by decide +kernel)) ggX3_firstFault_X3_figureAt
set_option maxRecDepth 20000 in
theorem ggX3_firstFault_X5_within : GoodIn wsX3_firstFault wsX5_within := goodIn_r _ [14] (by decide +kernel) (by decide +kernel)
set_option maxRecDepth 20000 in
theorem gX3_firstFault_X5_within_n26 : GoodIn wsX3_firstFault (wsX5_within) := ggX3_firstFault_X5_within
set_option maxRecDepth 20000 in
theorem ggX3_firstFault_X3_firstFaultOfParts : GoodIn wsX3_firstFault wsX3_firstFaultOfParts := goodIn_r _ [18, 6, 1, 2, 3, 4, 5, 7, 19, 20, 21, 22, 8, 9, 10, 11, 23, 13, 24, 12, 14, 25, 26, 27, 28, 29, 30] (by decide +kernel) (by decide +kernel)
set_option maxRecDepth 20000 in
theorem gX3_firstFault_X3_firstFaultOfParts : GoodIn wsX3_firstFault (wsV RX3 30 RX3 yX3_firstFaultOfParts wsX3_firstFaultOfParts) := goodIn_app (goodIn_of _ (by decide +kernel)) ggX3_firstFault_X3_firstFaultOfParts
theorem dX3_firstFault_0 : decode cX3_firstFault 0 = .ok (.aload_n 0, 1) := by decide +kernel
theorem dX3_firstFault_1 : decode cX3_firstFault 1 = .ok (.iconst 0, 1) := by decide +kernel
theorem dX3_firstFault_2 : decode cX3_firstFault 2 = .ok (.invokevirtual 19, 3) := by decide +kernel
theorem dX3_firstFault_5 : decode cX3_firstFault 5 = .ok (.bipush 66, 2) := by decide +kernel
theorem dX3_firstFault_7 : decode cX3_firstFault 7 = .ok (.if_icmp .eq 5, 3) := by decide +kernel
theorem dX3_firstFault_10 : decode cX3_firstFault 10 = .ok (.iconst 0, 1) := by decide +kernel
theorem dX3_firstFault_11 : decode cX3_firstFault 11 = .ok (.ireturn, 1) := by decide +kernel
theorem dX3_firstFault_12 : decode cX3_firstFault 12 = .ok (.iconst 1, 1) := by decide +kernel
theorem dX3_firstFault_13 : decode cX3_firstFault 13 = .ok (.istore_n 1, 1) := by decide +kernel
theorem dX3_firstFault_14 : decode cX3_firstFault 14 = .ok (.iload_n 1, 1) := by decide +kernel
theorem dX3_firstFault_15 : decode cX3_firstFault 15 = .ok (.bipush 9, 2) := by decide +kernel
theorem dX3_firstFault_17 : decode cX3_firstFault 17 = .ok (.if_icmp .ge 25, 3) := by decide +kernel
theorem dX3_firstFault_20 : decode cX3_firstFault 20 = .ok (.aload_n 0, 1) := by decide +kernel
theorem dX3_firstFault_21 : decode cX3_firstFault 21 = .ok (.iload_n 1, 1) := by decide +kernel
theorem dX3_firstFault_22 : decode cX3_firstFault 22 = .ok (.invokevirtual 23, 3) := by decide +kernel
theorem dX3_firstFault_25 : decode cX3_firstFault 25 = .ok (.iconst 0, 1) := by decide +kernel
theorem dX3_firstFault_26 : decode cX3_firstFault 26 = .ok (.bipush 9, 2) := by decide +kernel
theorem dX3_firstFault_28 : decode cX3_firstFault 28 = .ok (.invokestatic 26, 3) := by decide +kernel
theorem dX3_firstFault_31 : decode cX3_firstFault 31 = .ok (.ifCond .ne 5, 3) := by decide +kernel
theorem dX3_firstFault_34 : decode cX3_firstFault 34 = .ok (.iload_n 1, 1) := by decide +kernel
theorem dX3_firstFault_35 : decode cX3_firstFault 35 = .ok (.ireturn, 1) := by decide +kernel
theorem dX3_firstFault_36 : decode cX3_firstFault 36 = .ok (.iinc 1 1, 3) := by decide +kernel
theorem dX3_firstFault_39 : decode cX3_firstFault 39 = .ok (.goto (-25), 3) := by decide +kernel
theorem dX3_firstFault_42 : decode cX3_firstFault 42 = .ok (.aload_n 0, 1) := by decide +kernel
theorem dX3_firstFault_43 : decode cX3_firstFault 43 = .ok (.invokevirtual 30, 3) := by decide +kernel
theorem dX3_firstFault_46 : decode cX3_firstFault 46 = .ok (.ireturn, 1) := by decide +kernel
set_option maxRecDepth 20000 in
theorem ggX3_firstFaultOfParts_X3_letterAt : GoodIn wsX3_firstFaultOfParts wsX3_letterAt := goodIn_r _ [6, 1, 7, 25, 26] (by decide +kernel) (by decide +kernel)
set_option maxRecDepth 20000 in
theorem gX3_firstFaultOfParts_X3_letterAt : GoodIn wsX3_firstFaultOfParts (wsV RX3 19 RX3 yX3_letterAt wsX3_letterAt) := goodIn_app (goodIn_of _ (by decide +kernel)) ggX3_firstFaultOfParts_X3_letterAt
set_option maxRecDepth 20000 in
theorem ggX3_firstFaultOfParts_X3_faultOfBroom : GoodIn wsX3_firstFaultOfParts wsX3_faultOfBroom := goodIn_r _ [11, 12, 13, 14, 5, 15, 2, 3, 4, 6, 1, 7, 16, 17, 18, 19, 20, 25, 26] (by decide +kernel) (by decide +kernel)
set_option maxRecDepth 20000 in
theorem gX3_firstFaultOfParts_X3_faultOfBroom : GoodIn wsX3_firstFaultOfParts (wsV RX3 34 RX3 yX3_faultOfBroom wsX3_faultOfBroom) := goodIn_app (goodIn_of _ (by decide +kernel)) ggX3_firstFaultOfParts_X3_faultOfBroom
set_option maxRecDepth 20000 in
theorem ggX3_firstFaultOfParts_X3_faultOfFall : GoodIn wsX3_firstFaultOfParts wsX3_faultOfFall := goodIn_r _ [24, 12, 13, 14, 5, 15, 2, 3, 4, 6, 1, 7, 16, 17, 18, 19, 20, 25, 26] (by decide +kernel) (by decide +kernel)
set_option maxRecDepth 20000 in
theorem gX3_firstFaultOfParts_X3_faultOfFall : GoodIn wsX3_firstFaultOfParts (wsV RX3 37 RX3 yX3_faultOfFall wsX3_faultOfFall) := goodIn_app (goodIn_of _ (by decide +kernel)) ggX3_firstFaultOfParts_X3_faultOfFall
theorem dX3_firstFaultOfParts_0 : decode cX3_firstFaultOfParts 0 = .ok (.iconst 0, 1) := by decide +kernel
theorem dX3_firstFaultOfParts_1 : decode cX3_firstFaultOfParts 1 = .ok (.istore_n 1, 1) := by decide +kernel
theorem dX3_firstFaultOfParts_2 : decode cX3_firstFaultOfParts 2 = .ok (.iconst 0, 1) := by decide +kernel
theorem dX3_firstFaultOfParts_3 : decode cX3_firstFaultOfParts 3 = .ok (.istore_n 2, 1) := by decide +kernel
theorem dX3_firstFaultOfParts_4 : decode cX3_firstFaultOfParts 4 = .ok (.bipush 9, 2) := by decide +kernel
theorem dX3_firstFaultOfParts_6 : decode cX3_firstFaultOfParts 6 = .ok (.istore_n 3, 1) := by decide +kernel
theorem dX3_firstFaultOfParts_7 : decode cX3_firstFaultOfParts 7 = .ok (.iload_n 3, 1) := by decide +kernel
theorem dX3_firstFaultOfParts_8 : decode cX3_firstFaultOfParts 8 = .ok (.aload_n 0, 1) := by decide +kernel
theorem dX3_firstFaultOfParts_9 : decode cX3_firstFaultOfParts 9 = .ok (.getfield 15, 3) := by decide +kernel
theorem dX3_firstFaultOfParts_12 : decode cX3_firstFaultOfParts 12 = .ok (.if_icmp .ge 136, 3) := by decide +kernel
theorem dX3_firstFaultOfParts_15 : decode cX3_firstFaultOfParts 15 = .ok (.aload_n 0, 1) := by decide +kernel
theorem dX3_firstFaultOfParts_16 : decode cX3_firstFaultOfParts 16 = .ok (.iload_n 3, 1) := by decide +kernel
theorem dX3_firstFaultOfParts_17 : decode cX3_firstFaultOfParts 17 = .ok (.invokevirtual 19, 3) := by decide +kernel
theorem dX3_firstFaultOfParts_20 : decode cX3_firstFaultOfParts 20 = .ok (.bipush 78, 2) := by decide +kernel
theorem dX3_firstFaultOfParts_22 : decode cX3_firstFaultOfParts 22 = .ok (.if_icmp .ne 12, 3) := by decide +kernel
theorem dX3_firstFaultOfParts_25 : decode cX3_firstFaultOfParts 25 = .ok (.iload_n 1, 1) := by decide +kernel
theorem dX3_firstFaultOfParts_26 : decode cX3_firstFaultOfParts 26 = .ok (.iconst 5, 1) := by decide +kernel
theorem dX3_firstFaultOfParts_27 : decode cX3_firstFaultOfParts 27 = .ok (.if_icmp .ge 7, 3) := by decide +kernel
theorem dX3_firstFaultOfParts_30 : decode cX3_firstFaultOfParts 30 = .ok (.iconst 1, 1) := by decide +kernel
theorem dX3_firstFaultOfParts_31 : decode cX3_firstFaultOfParts 31 = .ok (.goto 4, 3) := by decide +kernel
theorem dX3_firstFaultOfParts_34 : decode cX3_firstFaultOfParts 34 = .ok (.iconst 0, 1) := by decide +kernel
theorem dX3_firstFaultOfParts_35 : decode cX3_firstFaultOfParts 35 = .ok (.istore 4, 2) := by decide +kernel
theorem dX3_firstFaultOfParts_37 : decode cX3_firstFaultOfParts 37 = .ok (.aload_n 0, 1) := by decide +kernel
theorem dX3_firstFaultOfParts_38 : decode cX3_firstFaultOfParts 38 = .ok (.iload_n 3, 1) := by decide +kernel
theorem dX3_firstFaultOfParts_39 : decode cX3_firstFaultOfParts 39 = .ok (.invokevirtual 19, 3) := by decide +kernel
theorem dX3_firstFaultOfParts_42 : decode cX3_firstFaultOfParts 42 = .ok (.bipush 70, 2) := by decide +kernel
theorem dX3_firstFaultOfParts_44 : decode cX3_firstFaultOfParts 44 = .ok (.if_icmp .ne 12, 3) := by decide +kernel
theorem dX3_firstFaultOfParts_47 : decode cX3_firstFaultOfParts 47 = .ok (.iload_n 2, 1) := by decide +kernel
theorem dX3_firstFaultOfParts_48 : decode cX3_firstFaultOfParts 48 = .ok (.iconst 5, 1) := by decide +kernel
theorem dX3_firstFaultOfParts_49 : decode cX3_firstFaultOfParts 49 = .ok (.if_icmp .ge 7, 3) := by decide +kernel
theorem dX3_firstFaultOfParts_52 : decode cX3_firstFaultOfParts 52 = .ok (.iconst 1, 1) := by decide +kernel
theorem dX3_firstFaultOfParts_53 : decode cX3_firstFaultOfParts 53 = .ok (.goto 4, 3) := by decide +kernel
theorem dX3_firstFaultOfParts_56 : decode cX3_firstFaultOfParts 56 = .ok (.iconst 0, 1) := by decide +kernel
theorem dX3_firstFaultOfParts_57 : decode cX3_firstFaultOfParts 57 = .ok (.istore 5, 2) := by decide +kernel
theorem dX3_firstFaultOfParts_59 : decode cX3_firstFaultOfParts 59 = .ok (.iload 4, 2) := by decide +kernel
theorem dX3_firstFaultOfParts_61 : decode cX3_firstFaultOfParts 61 = .ok (.ifCond .ne 10, 3) := by decide +kernel
theorem dX3_firstFaultOfParts_64 : decode cX3_firstFaultOfParts 64 = .ok (.iload 5, 2) := by decide +kernel
theorem dX3_firstFaultOfParts_66 : decode cX3_firstFaultOfParts 66 = .ok (.ifCond .ne 5, 3) := by decide +kernel
theorem dX3_firstFaultOfParts_69 : decode cX3_firstFaultOfParts 69 = .ok (.iload_n 3, 1) := by decide +kernel
theorem dX3_firstFaultOfParts_70 : decode cX3_firstFaultOfParts 70 = .ok (.ireturn, 1) := by decide +kernel
theorem dX3_firstFaultOfParts_71 : decode cX3_firstFaultOfParts 71 = .ok (.iload 4, 2) := by decide +kernel
theorem dX3_firstFaultOfParts_73 : decode cX3_firstFaultOfParts 73 = .ok (.ifCond .eq 11, 3) := by decide +kernel
theorem dX3_firstFaultOfParts_76 : decode cX3_firstFaultOfParts 76 = .ok (.aload_n 0, 1) := by decide +kernel
theorem dX3_firstFaultOfParts_77 : decode cX3_firstFaultOfParts 77 = .ok (.iload_n 3, 1) := by decide +kernel
theorem dX3_firstFaultOfParts_78 : decode cX3_firstFaultOfParts 78 = .ok (.invokevirtual 34, 3) := by decide +kernel
theorem dX3_firstFaultOfParts_81 : decode cX3_firstFaultOfParts 81 = .ok (.goto 8, 3) := by decide +kernel
theorem dX3_firstFaultOfParts_84 : decode cX3_firstFaultOfParts 84 = .ok (.aload_n 0, 1) := by decide +kernel
theorem dX3_firstFaultOfParts_85 : decode cX3_firstFaultOfParts 85 = .ok (.iload_n 3, 1) := by decide +kernel
theorem dX3_firstFaultOfParts_86 : decode cX3_firstFaultOfParts 86 = .ok (.invokevirtual 37, 3) := by decide +kernel
theorem dX3_firstFaultOfParts_89 : decode cX3_firstFaultOfParts 89 = .ok (.istore 6, 2) := by decide +kernel
theorem dX3_firstFaultOfParts_91 : decode cX3_firstFaultOfParts 91 = .ok (.iload 6, 2) := by decide +kernel
theorem dX3_firstFaultOfParts_93 : decode cX3_firstFaultOfParts 93 = .ok (.bipush (-9), 2) := by decide +kernel
theorem dX3_firstFaultOfParts_95 : decode cX3_firstFaultOfParts 95 = .ok (.if_icmp .eq 6, 3) := by decide +kernel
theorem dX3_firstFaultOfParts_98 : decode cX3_firstFaultOfParts 98 = .ok (.iload 6, 2) := by decide +kernel
theorem dX3_firstFaultOfParts_100 : decode cX3_firstFaultOfParts 100 = .ok (.ireturn, 1) := by decide +kernel
theorem dX3_firstFaultOfParts_101 : decode cX3_firstFaultOfParts 101 = .ok (.iload_n 1, 1) := by decide +kernel
theorem dX3_firstFaultOfParts_102 : decode cX3_firstFaultOfParts 102 = .ok (.iload 4, 2) := by decide +kernel
theorem dX3_firstFaultOfParts_104 : decode cX3_firstFaultOfParts 104 = .ok (.ifCond .eq 7, 3) := by decide +kernel
theorem dX3_firstFaultOfParts_107 : decode cX3_firstFaultOfParts 107 = .ok (.iconst 1, 1) := by decide +kernel
theorem dX3_firstFaultOfParts_108 : decode cX3_firstFaultOfParts 108 = .ok (.goto 4, 3) := by decide +kernel
theorem dX3_firstFaultOfParts_111 : decode cX3_firstFaultOfParts 111 = .ok (.iconst 0, 1) := by decide +kernel
theorem dX3_firstFaultOfParts_112 : decode cX3_firstFaultOfParts 112 = .ok (.iadd, 1) := by decide +kernel
theorem dX3_firstFaultOfParts_113 : decode cX3_firstFaultOfParts 113 = .ok (.istore_n 1, 1) := by decide +kernel
theorem dX3_firstFaultOfParts_114 : decode cX3_firstFaultOfParts 114 = .ok (.iload_n 2, 1) := by decide +kernel
theorem dX3_firstFaultOfParts_115 : decode cX3_firstFaultOfParts 115 = .ok (.iload 5, 2) := by decide +kernel
theorem dX3_firstFaultOfParts_117 : decode cX3_firstFaultOfParts 117 = .ok (.ifCond .eq 7, 3) := by decide +kernel
theorem dX3_firstFaultOfParts_120 : decode cX3_firstFaultOfParts 120 = .ok (.iconst 1, 1) := by decide +kernel
theorem dX3_firstFaultOfParts_121 : decode cX3_firstFaultOfParts 121 = .ok (.goto 4, 3) := by decide +kernel
theorem dX3_firstFaultOfParts_124 : decode cX3_firstFaultOfParts 124 = .ok (.iconst 0, 1) := by decide +kernel
theorem dX3_firstFaultOfParts_125 : decode cX3_firstFaultOfParts 125 = .ok (.iadd, 1) := by decide +kernel
theorem dX3_firstFaultOfParts_126 : decode cX3_firstFaultOfParts 126 = .ok (.istore_n 2, 1) := by decide +kernel
theorem dX3_firstFaultOfParts_127 : decode cX3_firstFaultOfParts 127 = .ok (.iload_n 3, 1) := by decide +kernel
theorem dX3_firstFaultOfParts_128 : decode cX3_firstFaultOfParts 128 = .ok (.aload_n 0, 1) := by decide +kernel
theorem dX3_firstFaultOfParts_129 : decode cX3_firstFaultOfParts 129 = .ok (.iload_n 3, 1) := by decide +kernel
theorem dX3_firstFaultOfParts_130 : decode cX3_firstFaultOfParts 130 = .ok (.invokevirtual 19, 3) := by decide +kernel
theorem dX3_firstFaultOfParts_133 : decode cX3_firstFaultOfParts 133 = .ok (.bipush 78, 2) := by decide +kernel
theorem dX3_firstFaultOfParts_135 : decode cX3_firstFaultOfParts 135 = .ok (.if_icmp .ne 7, 3) := by decide +kernel
theorem dX3_firstFaultOfParts_138 : decode cX3_firstFaultOfParts 138 = .ok (.iconst 4, 1) := by decide +kernel
theorem dX3_firstFaultOfParts_139 : decode cX3_firstFaultOfParts 139 = .ok (.goto 4, 3) := by decide +kernel
theorem dX3_firstFaultOfParts_142 : decode cX3_firstFaultOfParts 142 = .ok (.iconst 3, 1) := by decide +kernel
theorem dX3_firstFaultOfParts_143 : decode cX3_firstFaultOfParts 143 = .ok (.iadd, 1) := by decide +kernel
theorem dX3_firstFaultOfParts_144 : decode cX3_firstFaultOfParts 144 = .ok (.istore_n 3, 1) := by decide +kernel
theorem dX3_firstFaultOfParts_145 : decode cX3_firstFaultOfParts 145 = .ok (.goto (-138), 3) := by decide +kernel
theorem dX3_firstFaultOfParts_148 : decode cX3_firstFaultOfParts 148 = .ok (.bipush (-9), 2) := by decide +kernel
theorem dX3_firstFaultOfParts_150 : decode cX3_firstFaultOfParts 150 = .ok (.ireturn, 1) := by decide +kernel
set_option maxRecDepth 20000 in
theorem ggX3_faultOfBroom_X3_figureAt : GoodIn wsX3_faultOfBroom wsX3_figureAt := goodIn_r _ [5, 6, 7, 8, 4, 9, 10, 11, 17, 18] (by decide +kernel) (by decide +kernel)
set_option maxRecDepth 20000 in
theorem gX3_faultOfBroom_X3_figureAt : GoodIn wsX3_faultOfBroom (wsV RX3 23 RX3 yX3_figureAt wsX3_figureAt) := goodIn_app (goodIn_of _ (by decide +kernel)) ggX3_faultOfBroom_X3_figureAt
set_option maxRecDepth 20000 in
theorem ggX3_faultOfBroom_X5_isStreet : GoodIn wsX3_faultOfBroom wsX5_isStreet := goodIn_r _ [14] (by decide +kernel) (by decide +kernel)
set_option maxRecDepth 20000 in
theorem gX3_faultOfBroom_X5_isStreet_n40 : GoodIn wsX3_faultOfBroom (wsX5_isStreet) := ggX3_faultOfBroom_X5_isStreet
set_option maxRecDepth 20000 in
theorem ggX3_faultOfBroom_X5_within : GoodIn wsX3_faultOfBroom wsX5_within := goodIn_r _ [16] (by decide +kernel) (by decide +kernel)
set_option maxRecDepth 20000 in
theorem gX3_faultOfBroom_X5_within_n26 : GoodIn wsX3_faultOfBroom (wsX5_within) := ggX3_faultOfBroom_X5_within
theorem dX3_faultOfBroom_0 : decode cX3_faultOfBroom 0 = .ok (.aload_n 0, 1) := by decide +kernel
theorem dX3_faultOfBroom_1 : decode cX3_faultOfBroom 1 = .ok (.iload_n 1, 1) := by decide +kernel
theorem dX3_faultOfBroom_2 : decode cX3_faultOfBroom 2 = .ok (.iconst 1, 1) := by decide +kernel
theorem dX3_faultOfBroom_3 : decode cX3_faultOfBroom 3 = .ok (.iadd, 1) := by decide +kernel
theorem dX3_faultOfBroom_4 : decode cX3_faultOfBroom 4 = .ok (.invokevirtual 23, 3) := by decide +kernel
theorem dX3_faultOfBroom_7 : decode cX3_faultOfBroom 7 = .ok (.invokestatic 40, 3) := by decide +kernel
theorem dX3_faultOfBroom_10 : decode cX3_faultOfBroom 10 = .ok (.ifCond .ne 7, 3) := by decide +kernel
theorem dX3_faultOfBroom_13 : decode cX3_faultOfBroom 13 = .ok (.iload_n 1, 1) := by decide +kernel
theorem dX3_faultOfBroom_14 : decode cX3_faultOfBroom 14 = .ok (.iconst 1, 1) := by decide +kernel
theorem dX3_faultOfBroom_15 : decode cX3_faultOfBroom 15 = .ok (.iadd, 1) := by decide +kernel
theorem dX3_faultOfBroom_16 : decode cX3_faultOfBroom 16 = .ok (.ireturn, 1) := by decide +kernel
theorem dX3_faultOfBroom_17 : decode cX3_faultOfBroom 17 = .ok (.aload_n 0, 1) := by decide +kernel
theorem dX3_faultOfBroom_18 : decode cX3_faultOfBroom 18 = .ok (.iload_n 1, 1) := by decide +kernel
theorem dX3_faultOfBroom_19 : decode cX3_faultOfBroom 19 = .ok (.iconst 2, 1) := by decide +kernel
theorem dX3_faultOfBroom_20 : decode cX3_faultOfBroom 20 = .ok (.iadd, 1) := by decide +kernel
theorem dX3_faultOfBroom_21 : decode cX3_faultOfBroom 21 = .ok (.invokevirtual 23, 3) := by decide +kernel
theorem dX3_faultOfBroom_24 : decode cX3_faultOfBroom 24 = .ok (.iconst 1, 1) := by decide +kernel
theorem dX3_faultOfBroom_25 : decode cX3_faultOfBroom 25 = .ok (.bipush 9, 2) := by decide +kernel
theorem dX3_faultOfBroom_27 : decode cX3_faultOfBroom 27 = .ok (.invokestatic 26, 3) := by decide +kernel
theorem dX3_faultOfBroom_30 : decode cX3_faultOfBroom 30 = .ok (.ifCond .ne 7, 3) := by decide +kernel
theorem dX3_faultOfBroom_33 : decode cX3_faultOfBroom 33 = .ok (.iload_n 1, 1) := by decide +kernel
theorem dX3_faultOfBroom_34 : decode cX3_faultOfBroom 34 = .ok (.iconst 2, 1) := by decide +kernel
theorem dX3_faultOfBroom_35 : decode cX3_faultOfBroom 35 = .ok (.iadd, 1) := by decide +kernel
theorem dX3_faultOfBroom_36 : decode cX3_faultOfBroom 36 = .ok (.ireturn, 1) := by decide +kernel
theorem dX3_faultOfBroom_37 : decode cX3_faultOfBroom 37 = .ok (.aload_n 0, 1) := by decide +kernel
theorem dX3_faultOfBroom_38 : decode cX3_faultOfBroom 38 = .ok (.iload_n 1, 1) := by decide +kernel
theorem dX3_faultOfBroom_39 : decode cX3_faultOfBroom 39 = .ok (.iconst 3, 1) := by decide +kernel
theorem dX3_faultOfBroom_40 : decode cX3_faultOfBroom 40 = .ok (.iadd, 1) := by decide +kernel
theorem dX3_faultOfBroom_41 : decode cX3_faultOfBroom 41 = .ok (.invokevirtual 23, 3) := by decide +kernel
theorem dX3_faultOfBroom_44 : decode cX3_faultOfBroom 44 = .ok (.iconst 0, 1) := by decide +kernel
theorem dX3_faultOfBroom_45 : decode cX3_faultOfBroom 45 = .ok (.iconst 3, 1) := by decide +kernel
theorem dX3_faultOfBroom_46 : decode cX3_faultOfBroom 46 = .ok (.invokestatic 26, 3) := by decide +kernel
theorem dX3_faultOfBroom_49 : decode cX3_faultOfBroom 49 = .ok (.ifCond .eq 8, 3) := by decide +kernel
theorem dX3_faultOfBroom_52 : decode cX3_faultOfBroom 52 = .ok (.bipush (-9), 2) := by decide +kernel
theorem dX3_faultOfBroom_54 : decode cX3_faultOfBroom 54 = .ok (.goto 6, 3) := by decide +kernel
theorem dX3_faultOfBroom_57 : decode cX3_faultOfBroom 57 = .ok (.iload_n 1, 1) := by decide +kernel
theorem dX3_faultOfBroom_58 : decode cX3_faultOfBroom 58 = .ok (.iconst 3, 1) := by decide +kernel
theorem dX3_faultOfBroom_59 : decode cX3_faultOfBroom 59 = .ok (.iadd, 1) := by decide +kernel
theorem dX3_faultOfBroom_60 : decode cX3_faultOfBroom 60 = .ok (.ireturn, 1) := by decide +kernel
set_option maxRecDepth 20000 in
theorem ggX3_faultOfFall_X3_figureAt : GoodIn wsX3_faultOfFall wsX3_figureAt := goodIn_r _ [5, 6, 7, 8, 4, 9, 10, 11, 17, 18] (by decide +kernel) (by decide +kernel)
set_option maxRecDepth 20000 in
theorem gX3_faultOfFall_X3_figureAt : GoodIn wsX3_faultOfFall (wsV RX3 23 RX3 yX3_figureAt wsX3_figureAt) := goodIn_app (goodIn_of _ (by decide +kernel)) ggX3_faultOfFall_X3_figureAt
set_option maxRecDepth 20000 in
theorem ggX3_faultOfFall_X5_isStreet : GoodIn wsX3_faultOfFall wsX5_isStreet := goodIn_r _ [14] (by decide +kernel) (by decide +kernel)
set_option maxRecDepth 20000 in
theorem gX3_faultOfFall_X5_isStreet_n40 : GoodIn wsX3_faultOfFall (wsX5_isStreet) := ggX3_faultOfFall_X5_isStreet
set_option maxRecDepth 20000 in
theorem ggX3_faultOfFall_X5_within : GoodIn wsX3_faultOfFall wsX5_within := goodIn_r _ [16] (by decide +kernel) (by decide +kernel)
set_option maxRecDepth 20000 in
theorem gX3_faultOfFall_X5_within_n26 : GoodIn wsX3_faultOfFall (wsX5_within) := ggX3_faultOfFall_X5_within
theorem dX3_faultOfFall_0 : decode cX3_faultOfFall 0 = .ok (.aload_n 0, 1) := by decide +kernel
theorem dX3_faultOfFall_1 : decode cX3_faultOfFall 1 = .ok (.iload_n 1, 1) := by decide +kernel
theorem dX3_faultOfFall_2 : decode cX3_faultOfFall 2 = .ok (.iconst 1, 1) := by decide +kernel
theorem dX3_faultOfFall_3 : decode cX3_faultOfFall 3 = .ok (.iadd, 1) := by decide +kernel
theorem dX3_faultOfFall_4 : decode cX3_faultOfFall 4 = .ok (.invokevirtual 23, 3) := by decide +kernel
theorem dX3_faultOfFall_7 : decode cX3_faultOfFall 7 = .ok (.invokestatic 40, 3) := by decide +kernel
theorem dX3_faultOfFall_10 : decode cX3_faultOfFall 10 = .ok (.ifCond .ne 7, 3) := by decide +kernel
theorem dX3_faultOfFall_13 : decode cX3_faultOfFall 13 = .ok (.iload_n 1, 1) := by decide +kernel
theorem dX3_faultOfFall_14 : decode cX3_faultOfFall 14 = .ok (.iconst 1, 1) := by decide +kernel
theorem dX3_faultOfFall_15 : decode cX3_faultOfFall 15 = .ok (.iadd, 1) := by decide +kernel
theorem dX3_faultOfFall_16 : decode cX3_faultOfFall 16 = .ok (.ireturn, 1) := by decide +kernel
theorem dX3_faultOfFall_17 : decode cX3_faultOfFall 17 = .ok (.aload_n 0, 1) := by decide +kernel
theorem dX3_faultOfFall_18 : decode cX3_faultOfFall 18 = .ok (.iload_n 1, 1) := by decide +kernel
theorem dX3_faultOfFall_19 : decode cX3_faultOfFall 19 = .ok (.iconst 2, 1) := by decide +kernel
theorem dX3_faultOfFall_20 : decode cX3_faultOfFall 20 = .ok (.iadd, 1) := by decide +kernel
theorem dX3_faultOfFall_21 : decode cX3_faultOfFall 21 = .ok (.invokevirtual 23, 3) := by decide +kernel
theorem dX3_faultOfFall_24 : decode cX3_faultOfFall 24 = .ok (.iconst 0, 1) := by decide +kernel
theorem dX3_faultOfFall_25 : decode cX3_faultOfFall 25 = .ok (.bipush 9, 2) := by decide +kernel
theorem dX3_faultOfFall_27 : decode cX3_faultOfFall 27 = .ok (.invokestatic 26, 3) := by decide +kernel
theorem dX3_faultOfFall_30 : decode cX3_faultOfFall 30 = .ok (.ifCond .eq 8, 3) := by decide +kernel
theorem dX3_faultOfFall_33 : decode cX3_faultOfFall 33 = .ok (.bipush (-9), 2) := by decide +kernel
theorem dX3_faultOfFall_35 : decode cX3_faultOfFall 35 = .ok (.goto 6, 3) := by decide +kernel
theorem dX3_faultOfFall_38 : decode cX3_faultOfFall 38 = .ok (.iload_n 1, 1) := by decide +kernel
theorem dX3_faultOfFall_39 : decode cX3_faultOfFall 39 = .ok (.iconst 2, 1) := by decide +kernel
theorem dX3_faultOfFall_40 : decode cX3_faultOfFall 40 = .ok (.iadd, 1) := by decide +kernel
theorem dX3_faultOfFall_41 : decode cX3_faultOfFall 41 = .ok (.ireturn, 1) := by decide +kernel
theorem dX4_init_0 : decode cX4_init 0 = .ok (.aload_n 0, 1) := by decide +kernel
theorem dX4_init_1 : decode cX4_init 1 = .ok (.invokespecial 3, 3) := by decide +kernel
theorem dX4_init_4 : decode cX4_init 4 = .ok (.aload_n 0, 1) := by decide +kernel
theorem dX4_init_5 : decode cX4_init 5 = .ok (.bipush 8, 2) := by decide +kernel
theorem dX4_init_7 : decode cX4_init 7 = .ok (.newarray .int, 2) := by decide +kernel
theorem dX4_init_9 : decode cX4_init 9 = .ok (.putfield 9, 3) := by decide +kernel
theorem dX4_init_12 : decode cX4_init 12 = .ok (.aload_n 0, 1) := by decide +kernel
theorem dX4_init_13 : decode cX4_init 13 = .ok (.iconst 5, 1) := by decide +kernel
theorem dX4_init_14 : decode cX4_init 14 = .ok (.newarray .int, 2) := by decide +kernel
theorem dX4_init_16 : decode cX4_init 16 = .ok (.putfield 15, 3) := by decide +kernel
theorem dX4_init_19 : decode cX4_init 19 = .ok (.aload_n 0, 1) := by decide +kernel
theorem dX4_init_20 : decode cX4_init 20 = .ok (.iconst 5, 1) := by decide +kernel
theorem dX4_init_21 : decode cX4_init 21 = .ok (.newarray .int, 2) := by decide +kernel
theorem dX4_init_23 : decode cX4_init 23 = .ok (.putfield 18, 3) := by decide +kernel
theorem dX4_init_26 : decode cX4_init 26 = .ok (.aload_n 0, 1) := by decide +kernel
theorem dX4_init_27 : decode cX4_init 27 = .ok (.iconst 5, 1) := by decide +kernel
theorem dX4_init_28 : decode cX4_init 28 = .ok (.newarray .int, 2) := by decide +kernel
theorem dX4_init_30 : decode cX4_init 30 = .ok (.putfield 21, 3) := by decide +kernel
theorem dX4_init_33 : decode cX4_init 33 = .ok (.aload_n 0, 1) := by decide +kernel
theorem dX4_init_34 : decode cX4_init 34 = .ok (.iconst 5, 1) := by decide +kernel
theorem dX4_init_35 : decode cX4_init 35 = .ok (.newarray .int, 2) := by decide +kernel
theorem dX4_init_37 : decode cX4_init 37 = .ok (.putfield 24, 3) := by decide +kernel
theorem dX4_init_40 : decode cX4_init 40 = .ok (.aload_n 0, 1) := by decide +kernel
theorem dX4_init_41 : decode cX4_init 41 = .ok (.iconst 5, 1) := by decide +kernel
theorem dX4_init_42 : decode cX4_init 42 = .ok (.newarray .int, 2) := by decide +kernel
theorem dX4_init_44 : decode cX4_init 44 = .ok (.putfield 27, 3) := by decide +kernel
theorem dX4_init_47 : decode cX4_init 47 = .ok (.aload_n 0, 1) := by decide +kernel
theorem dX4_init_48 : decode cX4_init 48 = .ok (.iconst 0, 1) := by decide +kernel
theorem dX4_init_49 : decode cX4_init 49 = .ok (.putfield 30, 3) := by decide +kernel
theorem dX4_init_52 : decode cX4_init 52 = .ok (.aload_n 0, 1) := by decide +kernel
theorem dX4_init_53 : decode cX4_init 53 = .ok (.iconst 0, 1) := by decide +kernel
theorem dX4_init_54 : decode cX4_init 54 = .ok (.putfield 34, 3) := by decide +kernel
theorem dX4_init_57 : decode cX4_init 57 = .ok (.return_, 1) := by decide +kernel
theorem dX4_hasBroom_0 : decode cX4_hasBroom 0 = .ok (.iload_n 1, 1) := by decide +kernel
theorem dX4_hasBroom_1 : decode cX4_hasBroom 1 = .ok (.ifCond .lt 20, 3) := by decide +kernel
theorem dX4_hasBroom_4 : decode cX4_hasBroom 4 = .ok (.iload_n 1, 1) := by decide +kernel
theorem dX4_hasBroom_5 : decode cX4_hasBroom 5 = .ok (.aload_n 0, 1) := by decide +kernel
theorem dX4_hasBroom_6 : decode cX4_hasBroom 6 = .ok (.getfield 30, 3) := by decide +kernel
theorem dX4_hasBroom_9 : decode cX4_hasBroom 9 = .ok (.if_icmp .ge 12, 3) := by decide +kernel
theorem dX4_hasBroom_12 : decode cX4_hasBroom 12 = .ok (.iload_n 1, 1) := by decide +kernel
theorem dX4_hasBroom_13 : decode cX4_hasBroom 13 = .ok (.iconst 5, 1) := by decide +kernel
theorem dX4_hasBroom_14 : decode cX4_hasBroom 14 = .ok (.if_icmp .ge 7, 3) := by decide +kernel
theorem dX4_hasBroom_17 : decode cX4_hasBroom 17 = .ok (.iconst 1, 1) := by decide +kernel
theorem dX4_hasBroom_18 : decode cX4_hasBroom 18 = .ok (.goto 4, 3) := by decide +kernel
theorem dX4_hasBroom_21 : decode cX4_hasBroom 21 = .ok (.iconst 0, 1) := by decide +kernel
theorem dX4_hasBroom_22 : decode cX4_hasBroom 22 = .ok (.ireturn, 1) := by decide +kernel
theorem dX4_strengthOf_0 : decode cX4_strengthOf 0 = .ok (.iload_n 1, 1) := by decide +kernel
theorem dX4_strengthOf_1 : decode cX4_strengthOf 1 = .ok (.ifCond .lt 17, 3) := by decide +kernel
theorem dX4_strengthOf_4 : decode cX4_strengthOf 4 = .ok (.iload_n 1, 1) := by decide +kernel
theorem dX4_strengthOf_5 : decode cX4_strengthOf 5 = .ok (.iconst 5, 1) := by decide +kernel
theorem dX4_strengthOf_6 : decode cX4_strengthOf 6 = .ok (.if_icmp .ge 12, 3) := by decide +kernel
theorem dX4_strengthOf_9 : decode cX4_strengthOf 9 = .ok (.aload_n 0, 1) := by decide +kernel
theorem dX4_strengthOf_10 : decode cX4_strengthOf 10 = .ok (.getfield 18, 3) := by decide +kernel
theorem dX4_strengthOf_13 : decode cX4_strengthOf 13 = .ok (.iload_n 1, 1) := by decide +kernel
theorem dX4_strengthOf_14 : decode cX4_strengthOf 14 = .ok (.iaload, 1) := by decide +kernel
theorem dX4_strengthOf_15 : decode cX4_strengthOf 15 = .ok (.goto 4, 3) := by decide +kernel
theorem dX4_strengthOf_18 : decode cX4_strengthOf 18 = .ok (.iconst 0, 1) := by decide +kernel
theorem dX4_strengthOf_19 : decode cX4_strengthOf 19 = .ok (.ireturn, 1) := by decide +kernel
theorem dX4_kindOf_0 : decode cX4_kindOf 0 = .ok (.iload_n 1, 1) := by decide +kernel
theorem dX4_kindOf_1 : decode cX4_kindOf 1 = .ok (.ifCond .lt 17, 3) := by decide +kernel
theorem dX4_kindOf_4 : decode cX4_kindOf 4 = .ok (.iload_n 1, 1) := by decide +kernel
theorem dX4_kindOf_5 : decode cX4_kindOf 5 = .ok (.iconst 5, 1) := by decide +kernel
theorem dX4_kindOf_6 : decode cX4_kindOf 6 = .ok (.if_icmp .ge 12, 3) := by decide +kernel
theorem dX4_kindOf_9 : decode cX4_kindOf 9 = .ok (.aload_n 0, 1) := by decide +kernel
theorem dX4_kindOf_10 : decode cX4_kindOf 10 = .ok (.getfield 21, 3) := by decide +kernel
theorem dX4_kindOf_13 : decode cX4_kindOf 13 = .ok (.iload_n 1, 1) := by decide +kernel
theorem dX4_kindOf_14 : decode cX4_kindOf 14 = .ok (.iaload, 1) := by decide +kernel
theorem dX4_kindOf_15 : decode cX4_kindOf 15 = .ok (.goto 4, 3) := by decide +kernel
theorem dX4_kindOf_18 : decode cX4_kindOf 18 = .ok (.iconst 0, 1) := by decide +kernel
theorem dX4_kindOf_19 : decode cX4_kindOf 19 = .ok (.ireturn, 1) := by decide +kernel
set_option maxRecDepth 20000 in
theorem ggX4_read_X3_figureAt : GoodIn wsX4_read wsX3_figureAt := goodIn_r _ [8, 9, 10, 11, 7, 12, 13, 14, 38, 39] (by decide +kernel) (by decide +kernel)
set_option maxRecDepth 20000 in
theorem gX4_read_X3_figureAt : GoodIn wsX4_read (wsV RX4 37 RX3 yX3_figureAt wsX3_figureAt) := goodIn_app (goodIn_of _ (by decide +kernel)) ggX4_read_X3_figureAt
set_option maxRecDepth 20000 in
theorem ggX4_read_X3_letterAt : GoodIn wsX4_read wsX3_letterAt := goodIn_r _ [12, 13, 14, 38, 39] (by decide +kernel) (by decide +kernel)
set_option maxRecDepth 20000 in
theorem gX4_read_X3_letterAt : GoodIn wsX4_read (wsV RX4 46 RX3 yX3_letterAt wsX3_letterAt) := goodIn_app (goodIn_of _ (by decide +kernel)) ggX4_read_X3_letterAt
set_option maxRecDepth 20000 in
theorem ggX4_read_X4_addBroom : GoodIn wsX4_read wsX4_addBroom := goodIn_r _ [20, 2, 21, 22, 23, 4, 5, 6, 7, 8, 9, 10, 11, 12, 13, 14, 30, 31, 32, 33, 34, 35, 36, 37, 38, 39] (by decide +kernel) (by decide +kernel)
set_option maxRecDepth 20000 in
theorem gX4_read_X4_addBroom : GoodIn wsX4_read (wsV RX4 49 RX4 yX4_addBroom wsX4_addBroom) := goodIn_app (goodIn_of _ (by decide +kernel)) ggX4_read_X4_addBroom
set_option maxRecDepth 20000 in
theorem ggX4_read_X4_addFall : GoodIn wsX4_read wsX4_addFall := goodIn_r _ [27, 3, 28, 29, 4, 5, 6, 7, 8, 9, 10, 11, 12, 13, 14, 30, 31, 32, 33, 34, 35, 36, 37, 38, 39] (by decide +kernel) (by decide +kernel)
set_option maxRecDepth 20000 in
theorem gX4_read_X4_addFall : GoodIn wsX4_read (wsV RX4 53 RX4 yX4_addFall wsX4_addFall) := goodIn_app (goodIn_of _ (by decide +kernel)) ggX4_read_X4_addFall
theorem dX4_read_0 : decode cX4_read 0 = .ok (.iconst 0, 1) := by decide +kernel
theorem dX4_read_1 : decode cX4_read 1 = .ok (.istore_n 2, 1) := by decide +kernel
theorem dX4_read_2 : decode cX4_read 2 = .ok (.iload_n 2, 1) := by decide +kernel
theorem dX4_read_3 : decode cX4_read 3 = .ok (.bipush 8, 2) := by decide +kernel
theorem dX4_read_5 : decode cX4_read 5 = .ok (.if_icmp .ge 22, 3) := by decide +kernel
theorem dX4_read_8 : decode cX4_read 8 = .ok (.aload_n 0, 1) := by decide +kernel
theorem dX4_read_9 : decode cX4_read 9 = .ok (.getfield 9, 3) := by decide +kernel
theorem dX4_read_12 : decode cX4_read 12 = .ok (.iload_n 2, 1) := by decide +kernel
theorem dX4_read_13 : decode cX4_read 13 = .ok (.aload_n 1, 1) := by decide +kernel
theorem dX4_read_14 : decode cX4_read 14 = .ok (.iconst 1, 1) := by decide +kernel
theorem dX4_read_15 : decode cX4_read 15 = .ok (.iload_n 2, 1) := by decide +kernel
theorem dX4_read_16 : decode cX4_read 16 = .ok (.iadd, 1) := by decide +kernel
theorem dX4_read_17 : decode cX4_read 17 = .ok (.invokevirtual 37, 3) := by decide +kernel
theorem dX4_read_20 : decode cX4_read 20 = .ok (.iastore, 1) := by decide +kernel
theorem dX4_read_21 : decode cX4_read 21 = .ok (.iinc 2 1, 3) := by decide +kernel
theorem dX4_read_24 : decode cX4_read 24 = .ok (.goto (-22), 3) := by decide +kernel
theorem dX4_read_27 : decode cX4_read 27 = .ok (.aload_n 0, 1) := by decide +kernel
theorem dX4_read_28 : decode cX4_read 28 = .ok (.iconst 0, 1) := by decide +kernel
theorem dX4_read_29 : decode cX4_read 29 = .ok (.putfield 30, 3) := by decide +kernel
theorem dX4_read_32 : decode cX4_read 32 = .ok (.aload_n 0, 1) := by decide +kernel
theorem dX4_read_33 : decode cX4_read 33 = .ok (.iconst 0, 1) := by decide +kernel
theorem dX4_read_34 : decode cX4_read 34 = .ok (.putfield 34, 3) := by decide +kernel
theorem dX4_read_37 : decode cX4_read 37 = .ok (.bipush 9, 2) := by decide +kernel
theorem dX4_read_39 : decode cX4_read 39 = .ok (.istore_n 2, 1) := by decide +kernel
theorem dX4_read_40 : decode cX4_read 40 = .ok (.iload_n 2, 1) := by decide +kernel
theorem dX4_read_41 : decode cX4_read 41 = .ok (.aload_n 1, 1) := by decide +kernel
theorem dX4_read_42 : decode cX4_read 42 = .ok (.getfield 43, 3) := by decide +kernel
theorem dX4_read_45 : decode cX4_read 45 = .ok (.if_icmp .ge 37, 3) := by decide +kernel
theorem dX4_read_48 : decode cX4_read 48 = .ok (.aload_n 1, 1) := by decide +kernel
theorem dX4_read_49 : decode cX4_read 49 = .ok (.iload_n 2, 1) := by decide +kernel
theorem dX4_read_50 : decode cX4_read 50 = .ok (.invokevirtual 46, 3) := by decide +kernel
theorem dX4_read_53 : decode cX4_read 53 = .ok (.bipush 78, 2) := by decide +kernel
theorem dX4_read_55 : decode cX4_read 55 = .ok (.if_icmp .ne 15, 3) := by decide +kernel
theorem dX4_read_58 : decode cX4_read 58 = .ok (.aload_n 0, 1) := by decide +kernel
theorem dX4_read_59 : decode cX4_read 59 = .ok (.aload_n 1, 1) := by decide +kernel
theorem dX4_read_60 : decode cX4_read 60 = .ok (.iload_n 2, 1) := by decide +kernel
theorem dX4_read_61 : decode cX4_read 61 = .ok (.invokevirtual 49, 3) := by decide +kernel
theorem dX4_read_64 : decode cX4_read 64 = .ok (.iinc 2 4, 3) := by decide +kernel
theorem dX4_read_67 : decode cX4_read 67 = .ok (.goto (-27), 3) := by decide +kernel
theorem dX4_read_70 : decode cX4_read 70 = .ok (.aload_n 0, 1) := by decide +kernel
theorem dX4_read_71 : decode cX4_read 71 = .ok (.aload_n 1, 1) := by decide +kernel
theorem dX4_read_72 : decode cX4_read 72 = .ok (.iload_n 2, 1) := by decide +kernel
theorem dX4_read_73 : decode cX4_read 73 = .ok (.invokevirtual 53, 3) := by decide +kernel
theorem dX4_read_76 : decode cX4_read 76 = .ok (.iinc 2 3, 3) := by decide +kernel
theorem dX4_read_79 : decode cX4_read 79 = .ok (.goto (-39), 3) := by decide +kernel
theorem dX4_read_82 : decode cX4_read 82 = .ok (.return_, 1) := by decide +kernel
set_option maxRecDepth 20000 in
theorem ggX4_addBroom_X3_figureAt : GoodIn wsX4_addBroom wsX3_figureAt := goodIn_r _ [9, 10, 11, 12, 8, 13, 14, 15, 24, 25] (by decide +kernel) (by decide +kernel)
set_option maxRecDepth 20000 in
theorem gX4_addBroom_X3_figureAt : GoodIn wsX4_addBroom (wsV RX4 37 RX3 yX3_figureAt wsX3_figureAt) := goodIn_app (goodIn_of _ (by decide +kernel)) ggX4_addBroom_X3_figureAt
theorem dX4_addBroom_0 : decode cX4_addBroom 0 = .ok (.aload_n 0, 1) := by decide +kernel
theorem dX4_addBroom_1 : decode cX4_addBroom 1 = .ok (.getfield 30, 3) := by decide +kernel
theorem dX4_addBroom_4 : decode cX4_addBroom 4 = .ok (.iconst 5, 1) := by decide +kernel
theorem dX4_addBroom_5 : decode cX4_addBroom 5 = .ok (.if_icmp .ge 61, 3) := by decide +kernel
theorem dX4_addBroom_8 : decode cX4_addBroom 8 = .ok (.aload_n 0, 1) := by decide +kernel
theorem dX4_addBroom_9 : decode cX4_addBroom 9 = .ok (.getfield 15, 3) := by decide +kernel
theorem dX4_addBroom_12 : decode cX4_addBroom 12 = .ok (.aload_n 0, 1) := by decide +kernel
theorem dX4_addBroom_13 : decode cX4_addBroom 13 = .ok (.getfield 30, 3) := by decide +kernel
theorem dX4_addBroom_16 : decode cX4_addBroom 16 = .ok (.aload_n 1, 1) := by decide +kernel
theorem dX4_addBroom_17 : decode cX4_addBroom 17 = .ok (.iload_n 2, 1) := by decide +kernel
theorem dX4_addBroom_18 : decode cX4_addBroom 18 = .ok (.iconst 1, 1) := by decide +kernel
theorem dX4_addBroom_19 : decode cX4_addBroom 19 = .ok (.iadd, 1) := by decide +kernel
theorem dX4_addBroom_20 : decode cX4_addBroom 20 = .ok (.invokevirtual 37, 3) := by decide +kernel
theorem dX4_addBroom_23 : decode cX4_addBroom 23 = .ok (.iastore, 1) := by decide +kernel
theorem dX4_addBroom_24 : decode cX4_addBroom 24 = .ok (.aload_n 0, 1) := by decide +kernel
theorem dX4_addBroom_25 : decode cX4_addBroom 25 = .ok (.getfield 18, 3) := by decide +kernel
theorem dX4_addBroom_28 : decode cX4_addBroom 28 = .ok (.aload_n 0, 1) := by decide +kernel
theorem dX4_addBroom_29 : decode cX4_addBroom 29 = .ok (.getfield 30, 3) := by decide +kernel
theorem dX4_addBroom_32 : decode cX4_addBroom 32 = .ok (.aload_n 1, 1) := by decide +kernel
theorem dX4_addBroom_33 : decode cX4_addBroom 33 = .ok (.iload_n 2, 1) := by decide +kernel
theorem dX4_addBroom_34 : decode cX4_addBroom 34 = .ok (.iconst 2, 1) := by decide +kernel
theorem dX4_addBroom_35 : decode cX4_addBroom 35 = .ok (.iadd, 1) := by decide +kernel
theorem dX4_addBroom_36 : decode cX4_addBroom 36 = .ok (.invokevirtual 37, 3) := by decide +kernel
theorem dX4_addBroom_39 : decode cX4_addBroom 39 = .ok (.iastore, 1) := by decide +kernel
theorem dX4_addBroom_40 : decode cX4_addBroom 40 = .ok (.aload_n 0, 1) := by decide +kernel
theorem dX4_addBroom_41 : decode cX4_addBroom 41 = .ok (.getfield 21, 3) := by decide +kernel
theorem dX4_addBroom_44 : decode cX4_addBroom 44 = .ok (.aload_n 0, 1) := by decide +kernel
theorem dX4_addBroom_45 : decode cX4_addBroom 45 = .ok (.getfield 30, 3) := by decide +kernel
theorem dX4_addBroom_48 : decode cX4_addBroom 48 = .ok (.aload_n 1, 1) := by decide +kernel
theorem dX4_addBroom_49 : decode cX4_addBroom 49 = .ok (.iload_n 2, 1) := by decide +kernel
theorem dX4_addBroom_50 : decode cX4_addBroom 50 = .ok (.iconst 3, 1) := by decide +kernel
theorem dX4_addBroom_51 : decode cX4_addBroom 51 = .ok (.iadd, 1) := by decide +kernel
theorem dX4_addBroom_52 : decode cX4_addBroom 52 = .ok (.invokevirtual 37, 3) := by decide +kernel
theorem dX4_addBroom_55 : decode cX4_addBroom 55 = .ok (.iastore, 1) := by decide +kernel
theorem dX4_addBroom_56 : decode cX4_addBroom 56 = .ok (.aload_n 0, 1) := by decide +kernel
theorem dX4_addBroom_57 : decode cX4_addBroom 57 = .ok (.dup, 1) := by decide +kernel
theorem dX4_addBroom_58 : decode cX4_addBroom 58 = .ok (.getfield 30, 3) := by decide +kernel
theorem dX4_addBroom_61 : decode cX4_addBroom 61 = .ok (.iconst 1, 1) := by decide +kernel
theorem dX4_addBroom_62 : decode cX4_addBroom 62 = .ok (.iadd, 1) := by decide +kernel
theorem dX4_addBroom_63 : decode cX4_addBroom 63 = .ok (.putfield 30, 3) := by decide +kernel
theorem dX4_addBroom_66 : decode cX4_addBroom 66 = .ok (.return_, 1) := by decide +kernel
set_option maxRecDepth 20000 in
theorem ggX4_addFall_X3_figureAt : GoodIn wsX4_addFall wsX3_figureAt := goodIn_r _ [8, 9, 10, 11, 7, 12, 13, 14, 23, 24] (by decide +kernel) (by decide +kernel)
set_option maxRecDepth 20000 in
theorem gX4_addFall_X3_figureAt : GoodIn wsX4_addFall (wsV RX4 37 RX3 yX3_figureAt wsX3_figureAt) := goodIn_app (goodIn_of _ (by decide +kernel)) ggX4_addFall_X3_figureAt
theorem dX4_addFall_0 : decode cX4_addFall 0 = .ok (.aload_n 0, 1) := by decide +kernel
theorem dX4_addFall_1 : decode cX4_addFall 1 = .ok (.getfield 34, 3) := by decide +kernel
theorem dX4_addFall_4 : decode cX4_addFall 4 = .ok (.iconst 5, 1) := by decide +kernel
theorem dX4_addFall_5 : decode cX4_addFall 5 = .ok (.if_icmp .ge 45, 3) := by decide +kernel
theorem dX4_addFall_8 : decode cX4_addFall 8 = .ok (.aload_n 0, 1) := by decide +kernel
theorem dX4_addFall_9 : decode cX4_addFall 9 = .ok (.getfield 24, 3) := by decide +kernel
theorem dX4_addFall_12 : decode cX4_addFall 12 = .ok (.aload_n 0, 1) := by decide +kernel
theorem dX4_addFall_13 : decode cX4_addFall 13 = .ok (.getfield 34, 3) := by decide +kernel
theorem dX4_addFall_16 : decode cX4_addFall 16 = .ok (.aload_n 1, 1) := by decide +kernel
theorem dX4_addFall_17 : decode cX4_addFall 17 = .ok (.iload_n 2, 1) := by decide +kernel
theorem dX4_addFall_18 : decode cX4_addFall 18 = .ok (.iconst 1, 1) := by decide +kernel
theorem dX4_addFall_19 : decode cX4_addFall 19 = .ok (.iadd, 1) := by decide +kernel
theorem dX4_addFall_20 : decode cX4_addFall 20 = .ok (.invokevirtual 37, 3) := by decide +kernel
theorem dX4_addFall_23 : decode cX4_addFall 23 = .ok (.iastore, 1) := by decide +kernel
theorem dX4_addFall_24 : decode cX4_addFall 24 = .ok (.aload_n 0, 1) := by decide +kernel
theorem dX4_addFall_25 : decode cX4_addFall 25 = .ok (.getfield 27, 3) := by decide +kernel
theorem dX4_addFall_28 : decode cX4_addFall 28 = .ok (.aload_n 0, 1) := by decide +kernel
theorem dX4_addFall_29 : decode cX4_addFall 29 = .ok (.getfield 34, 3) := by decide +kernel
theorem dX4_addFall_32 : decode cX4_addFall 32 = .ok (.aload_n 1, 1) := by decide +kernel
theorem dX4_addFall_33 : decode cX4_addFall 33 = .ok (.iload_n 2, 1) := by decide +kernel
theorem dX4_addFall_34 : decode cX4_addFall 34 = .ok (.iconst 2, 1) := by decide +kernel
theorem dX4_addFall_35 : decode cX4_addFall 35 = .ok (.iadd, 1) := by decide +kernel
theorem dX4_addFall_36 : decode cX4_addFall 36 = .ok (.invokevirtual 37, 3) := by decide +kernel
theorem dX4_addFall_39 : decode cX4_addFall 39 = .ok (.iastore, 1) := by decide +kernel
theorem dX4_addFall_40 : decode cX4_addFall 40 = .ok (.aload_n 0, 1) := by decide +kernel
theorem dX4_addFall_41 : decode cX4_addFall 41 = .ok (.dup, 1) := by decide +kernel
theorem dX4_addFall_42 : decode cX4_addFall 42 = .ok (.getfield 34, 3) := by decide +kernel
theorem dX4_addFall_45 : decode cX4_addFall 45 = .ok (.iconst 1, 1) := by decide +kernel
theorem dX4_addFall_46 : decode cX4_addFall 46 = .ok (.iadd, 1) := by decide +kernel
theorem dX4_addFall_47 : decode cX4_addFall 47 = .ok (.putfield 34, 3) := by decide +kernel
theorem dX4_addFall_50 : decode cX4_addFall 50 = .ok (.return_, 1) := by decide +kernel
set_option maxRecDepth 20000 in
theorem ggX5_init_X3_init : GoodIn wsX5_init wsX3_init := goodIn_r _ [31, 32, 2, 3, 25, 33, 34, 70, 71] (by decide +kernel) (by decide +kernel)
set_option maxRecDepth 20000 in
theorem gX5_init_X3_init_n11 : GoodIn wsX5_init (wsX3_init) := ggX5_init_X3_init
set_option maxRecDepth 20000 in
theorem ggX5_init_X4_init : GoodIn wsX5_init wsX4_init := goodIn_r _ [36, 37, 2, 3, 25, 38, 39, 40, 41, 42, 43, 44, 45, 81, 82, 83, 84, 85, 86, 87, 88] (by decide +kernel) (by decide +kernel)
set_option maxRecDepth 20000 in
theorem gX5_init_X4_init_n18 : GoodIn wsX5_init (wsX4_init) := ggX5_init_X4_init
set_option maxRecDepth 20000 in
theorem ggX5_init_X2_init : GoodIn wsX5_init wsX2_init := goodIn_r _ [48, 49, 2, 3, 25, 50, 51, 27, 52, 53, 54, 55, 56, 89, 90, 91, 92, 93, 94, 95] (by decide +kernel) (by decide +kernel)
set_option maxRecDepth 20000 in
theorem gX5_init_X2_init : GoodIn wsX5_init (wsX2_init) := ggX5_init_X2_init
set_option maxRecDepth 20000 in
theorem ggX5_init_X0_init : GoodIn wsX5_init wsX0_init := goodIn_r _ [58, 59, 2, 3, 25, 60, 61, 62, 96, 97, 98] (by decide +kernel) (by decide +kernel)
set_option maxRecDepth 20000 in
theorem gX5_init_X0_init_n37 : GoodIn wsX5_init (wsX0_init) := ggX5_init_X0_init
set_option maxRecDepth 20000 in
theorem ggX5_init_X1_init : GoodIn wsX5_init wsX1_init := goodIn_r _ [64, 65, 2, 3, 25, 66, 67, 68, 69, 99, 100, 101, 102] (by decide +kernel) (by decide +kernel)
set_option maxRecDepth 20000 in
theorem gX5_init_X1_init_n44 : GoodIn wsX5_init (wsX1_init) := ggX5_init_X1_init
theorem dX5_init_0 : decode cX5_init 0 = .ok (.aload_n 0, 1) := by decide +kernel
theorem dX5_init_1 : decode cX5_init 1 = .ok (.invokespecial 3, 3) := by decide +kernel
theorem dX5_init_4 : decode cX5_init 4 = .ok (.aload_n 0, 1) := by decide +kernel
theorem dX5_init_5 : decode cX5_init 5 = .ok (.new 9, 3) := by decide +kernel
theorem dX5_init_8 : decode cX5_init 8 = .ok (.dup, 1) := by decide +kernel
theorem dX5_init_9 : decode cX5_init 9 = .ok (.invokespecial 11, 3) := by decide +kernel
theorem dX5_init_12 : decode cX5_init 12 = .ok (.putfield 12, 3) := by decide +kernel
theorem dX5_init_15 : decode cX5_init 15 = .ok (.aload_n 0, 1) := by decide +kernel
theorem dX5_init_16 : decode cX5_init 16 = .ok (.new 16, 3) := by decide +kernel
theorem dX5_init_19 : decode cX5_init 19 = .ok (.dup, 1) := by decide +kernel
theorem dX5_init_20 : decode cX5_init 20 = .ok (.invokespecial 18, 3) := by decide +kernel
theorem dX5_init_23 : decode cX5_init 23 = .ok (.putfield 19, 3) := by decide +kernel
theorem dX5_init_26 : decode cX5_init 26 = .ok (.aload_n 0, 1) := by decide +kernel
theorem dX5_init_27 : decode cX5_init 27 = .ok (.new 23, 3) := by decide +kernel
theorem dX5_init_30 : decode cX5_init 30 = .ok (.dup, 1) := by decide +kernel
theorem dX5_init_31 : decode cX5_init 31 = .ok (.aload_n 0, 1) := by decide +kernel
theorem dX5_init_32 : decode cX5_init 32 = .ok (.getfield 19, 3) := by decide +kernel
theorem dX5_init_35 : decode cX5_init 35 = .ok (.invokespecial 25, 3) := by decide +kernel
theorem dX5_init_38 : decode cX5_init 38 = .ok (.putfield 28, 3) := by decide +kernel
theorem dX5_init_41 : decode cX5_init 41 = .ok (.aload_n 0, 1) := by decide +kernel
theorem dX5_init_42 : decode cX5_init 42 = .ok (.new 23, 3) := by decide +kernel
theorem dX5_init_45 : decode cX5_init 45 = .ok (.dup, 1) := by decide +kernel
theorem dX5_init_46 : decode cX5_init 46 = .ok (.aload_n 0, 1) := by decide +kernel
theorem dX5_init_47 : decode cX5_init 47 = .ok (.getfield 19, 3) := by decide +kernel
theorem dX5_init_50 : decode cX5_init 50 = .ok (.invokespecial 25, 3) := by decide +kernel
theorem dX5_init_53 : decode cX5_init 53 = .ok (.putfield 32, 3) := by decide +kernel
theorem dX5_init_56 : decode cX5_init 56 = .ok (.aload_n 0, 1) := by decide +kernel
theorem dX5_init_57 : decode cX5_init 57 = .ok (.new 35, 3) := by decide +kernel
theorem dX5_init_60 : decode cX5_init 60 = .ok (.dup, 1) := by decide +kernel
theorem dX5_init_61 : decode cX5_init 61 = .ok (.invokespecial 37, 3) := by decide +kernel
theorem dX5_init_64 : decode cX5_init 64 = .ok (.putfield 38, 3) := by decide +kernel
theorem dX5_init_67 : decode cX5_init 67 = .ok (.aload_n 0, 1) := by decide +kernel
theorem dX5_init_68 : decode cX5_init 68 = .ok (.new 42, 3) := by decide +kernel
theorem dX5_init_71 : decode cX5_init 71 = .ok (.dup, 1) := by decide +kernel
theorem dX5_init_72 : decode cX5_init 72 = .ok (.invokespecial 44, 3) := by decide +kernel
theorem dX5_init_75 : decode cX5_init 75 = .ok (.putfield 45, 3) := by decide +kernel
theorem dX5_init_78 : decode cX5_init 78 = .ok (.aload_n 0, 1) := by decide +kernel
theorem dX5_init_79 : decode cX5_init 79 = .ok (.bipush 32, 2) := by decide +kernel
theorem dX5_init_81 : decode cX5_init 81 = .ok (.newarray .int, 2) := by decide +kernel
theorem dX5_init_83 : decode cX5_init 83 = .ok (.putfield 49, 3) := by decide +kernel
theorem dX5_init_86 : decode cX5_init 86 = .ok (.aload_n 0, 1) := by decide +kernel
theorem dX5_init_87 : decode cX5_init 87 = .ok (.iconst 2, 1) := by decide +kernel
theorem dX5_init_88 : decode cX5_init 88 = .ok (.newarray .boolean, 2) := by decide +kernel
theorem dX5_init_90 : decode cX5_init 90 = .ok (.putfield 53, 3) := by decide +kernel
theorem dX5_init_93 : decode cX5_init 93 = .ok (.aload_n 0, 1) := by decide +kernel
theorem dX5_init_94 : decode cX5_init 94 = .ok (.lconst 0, 1) := by decide +kernel
theorem dX5_init_95 : decode cX5_init 95 = .ok (.putfield 57, 3) := by decide +kernel
theorem dX5_init_98 : decode cX5_init 98 = .ok (.return_, 1) := by decide +kernel
set_option maxRecDepth 20000 in
theorem ggX5_write_X5_within : GoodIn wsX5_write wsX5_within := goodIn_r _ [5] (by decide +kernel) (by decide +kernel)
set_option maxRecDepth 20000 in
theorem gX5_write_X5_within : GoodIn wsX5_write (va_wsS RX5 61 yX5_within wsX5_within) := goodIn_app (goodIn_of _ (by decide +kernel)) ggX5_write_X5_within
set_option maxRecDepth 20000 in
theorem ggX5_write_X3_add : GoodIn wsX5_write wsX3_add := goodIn_r _ [10, 11, 12, 22, 23] (by decide +kernel) (by decide +kernel)
set_option maxRecDepth 20000 in
theorem gX5_write_X3_add : GoodIn wsX5_write (wsV RX5 69 RX3 yX3_add wsX3_add) := goodIn_app (goodIn_of _ (by decide +kernel)) ggX5_write_X3_add
theorem dX5_write_0 : decode cX5_write 0 = .ok (.iload_n 1, 1) := by decide +kernel
theorem dX5_write_1 : decode cX5_write 1 = .ok (.iconst 0, 1) := by decide +kernel
theorem dX5_write_2 : decode cX5_write 2 = .ok (.sipush 255, 3) := by decide +kernel
theorem dX5_write_5 : decode cX5_write 5 = .ok (.invokestatic 61, 3) := by decide +kernel
theorem dX5_write_8 : decode cX5_write 8 = .ok (.ifCond .ne 6, 3) := by decide +kernel
theorem dX5_write_11 : decode cX5_write 11 = .ok (.bipush (-2), 2) := by decide +kernel
theorem dX5_write_13 : decode cX5_write 13 = .ok (.ireturn, 1) := by decide +kernel
theorem dX5_write_14 : decode cX5_write 14 = .ok (.aload_n 0, 1) := by decide +kernel
theorem dX5_write_15 : decode cX5_write 15 = .ok (.getfield 12, 3) := by decide +kernel
theorem dX5_write_18 : decode cX5_write 18 = .ok (.getfield 65, 3) := by decide +kernel
theorem dX5_write_21 : decode cX5_write 21 = .ok (.bipush 48, 2) := by decide +kernel
theorem dX5_write_23 : decode cX5_write 23 = .ok (.if_icmp .lt 6, 3) := by decide +kernel
theorem dX5_write_26 : decode cX5_write 26 = .ok (.bipush (-4), 2) := by decide +kernel
theorem dX5_write_28 : decode cX5_write 28 = .ok (.ireturn, 1) := by decide +kernel
theorem dX5_write_29 : decode cX5_write 29 = .ok (.aload_n 0, 1) := by decide +kernel
theorem dX5_write_30 : decode cX5_write 30 = .ok (.getfield 12, 3) := by decide +kernel
theorem dX5_write_33 : decode cX5_write 33 = .ok (.iload_n 1, 1) := by decide +kernel
theorem dX5_write_34 : decode cX5_write 34 = .ok (.invokevirtual 69, 3) := by decide +kernel
theorem dX5_write_37 : decode cX5_write 37 = .ok (.aload_n 0, 1) := by decide +kernel
theorem dX5_write_38 : decode cX5_write 38 = .ok (.getfield 12, 3) := by decide +kernel
theorem dX5_write_41 : decode cX5_write 41 = .ok (.getfield 65, 3) := by decide +kernel
theorem dX5_write_44 : decode cX5_write 44 = .ok (.ireturn, 1) := by decide +kernel
theorem dX5_wipe_0 : decode cX5_wipe 0 = .ok (.aload_n 0, 1) := by decide +kernel
theorem dX5_wipe_1 : decode cX5_wipe 1 = .ok (.getfield 12, 3) := by decide +kernel
theorem dX5_wipe_4 : decode cX5_wipe 4 = .ok (.getfield 65, 3) := by decide +kernel
theorem dX5_wipe_7 : decode cX5_wipe 7 = .ok (.istore_n 1, 1) := by decide +kernel
theorem dX5_wipe_8 : decode cX5_wipe 8 = .ok (.aload_n 0, 1) := by decide +kernel
theorem dX5_wipe_9 : decode cX5_wipe 9 = .ok (.getfield 12, 3) := by decide +kernel
theorem dX5_wipe_12 : decode cX5_wipe 12 = .ok (.iconst 0, 1) := by decide +kernel
theorem dX5_wipe_13 : decode cX5_wipe 13 = .ok (.putfield 65, 3) := by decide +kernel
theorem dX5_wipe_16 : decode cX5_wipe 16 = .ok (.iload_n 1, 1) := by decide +kernel
theorem dX5_wipe_17 : decode cX5_wipe 17 = .ok (.ireturn, 1) := by decide +kernel
set_option maxRecDepth 20000 in
theorem ggX5_fault_X3_firstFault : GoodIn wsX5_fault wsX3_firstFault := goodIn_r _ [6, 7, 8, 9, 5, 10, 11, 12, 13, 14, 15, 16, 17, 18, 19, 20, 21, 22, 23, 24, 25, 26, 27, 28, 29, 30, 31, 32, 33, 43, 44] (by decide +kernel) (by decide +kernel)
set_option maxRecDepth 20000 in
theorem gX5_fault_X3_firstFault : GoodIn wsX5_fault (wsV RX5 73 RX3 yX3_firstFault wsX3_firstFault) := goodIn_app (goodIn_of _ (by decide +kernel)) ggX5_fault_X3_firstFault
theorem dX5_fault_0 : decode cX5_fault 0 = .ok (.aload_n 0, 1) := by decide +kernel
theorem dX5_fault_1 : decode cX5_fault 1 = .ok (.getfield 12, 3) := by decide +kernel
theorem dX5_fault_4 : decode cX5_fault 4 = .ok (.invokevirtual 73, 3) := by decide +kernel
theorem dX5_fault_7 : decode cX5_fault 7 = .ok (.ireturn, 1) := by decide +kernel
set_option maxRecDepth 20000 in
theorem ggX5_city_X3_firstFault : GoodIn wsX5_city wsX3_firstFault := goodIn_r _ [10, 11, 12, 13, 9, 14, 15, 16, 17, 18, 19, 20, 21, 22, 23, 24, 25, 26, 27, 28, 29, 30, 31, 32, 33, 34, 35, 36, 37, 100, 101] (by decide +kernel) (by decide +kernel)
set_option maxRecDepth 20000 in
theorem gX5_city_X3_firstFault : GoodIn wsX5_city (wsV RX5 73 RX3 yX3_firstFault wsX3_firstFault) := goodIn_app (goodIn_of _ (by decide +kernel)) ggX5_city_X3_firstFault
set_option maxRecDepth 20000 in
theorem ggX5_city_X4_read : GoodIn wsX5_city wsX4_read := goodIn_r _ [42, 43, 44, 45, 46, 18, 19, 9, 20, 11, 12, 13, 14, 15, 16, 47, 48, 49, 50, 41, 51, 52, 53, 54, 55, 56, 57, 58, 59, 60, 92, 93, 94, 95, 96, 97, 98, 99, 100, 101] (by decide +kernel) (by decide +kernel)
set_option maxRecDepth 20000 in
theorem gX5_city_X4_read : GoodIn wsX5_city (wsV RX5 77 RX4 yX4_read wsX4_read) := goodIn_app (goodIn_of _ (by decide +kernel)) ggX5_city_X4_read
set_option maxRecDepth 20000 in
theorem ggX5_city_X2_begin : GoodIn wsX5_city wsX2_begin := goodIn_r _ [65, 66, 67, 68, 69, 70, 71, 72, 73, 74, 75, 102, 103, 104, 105, 106, 107, 108, 92, 93, 94, 95, 96, 97, 98, 99] (by decide +kernel) (by decide +kernel)
set_option maxRecDepth 20000 in
theorem gX5_city_X2_begin : GoodIn wsX5_city (wsV RX5 81 RX2 yX2_begin wsX2_begin) := goodIn_app (goodIn_of _ (by decide +kernel)) ggX5_city_X2_begin
set_option maxRecDepth 20000 in
theorem ggX5_city_X0_clear : GoodIn wsX5_city wsX0_clear := goodIn_r _ [80, 81, 82, 109, 110, 111] (by decide +kernel) (by decide +kernel)
set_option maxRecDepth 20000 in
theorem gX5_city_X0_clear : GoodIn wsX5_city (wsV RX5 84 RX0 yX0_clear wsX0_clear) := goodIn_app (goodIn_of _ (by decide +kernel)) ggX5_city_X0_clear
theorem dX5_city_0 : decode cX5_city 0 = .ok (.aload_n 0, 1) := by decide +kernel
theorem dX5_city_1 : decode cX5_city 1 = .ok (.getfield 12, 3) := by decide +kernel
theorem dX5_city_4 : decode cX5_city 4 = .ok (.invokevirtual 73, 3) := by decide +kernel
theorem dX5_city_7 : decode cX5_city 7 = .ok (.bipush (-9), 2) := by decide +kernel
theorem dX5_city_9 : decode cX5_city 9 = .ok (.if_icmp .eq 6, 3) := by decide +kernel
theorem dX5_city_12 : decode cX5_city 12 = .ok (.bipush (-3), 2) := by decide +kernel
theorem dX5_city_14 : decode cX5_city 14 = .ok (.ireturn, 1) := by decide +kernel
theorem dX5_city_15 : decode cX5_city 15 = .ok (.aload_n 0, 1) := by decide +kernel
theorem dX5_city_16 : decode cX5_city 16 = .ok (.getfield 19, 3) := by decide +kernel
theorem dX5_city_19 : decode cX5_city 19 = .ok (.aload_n 0, 1) := by decide +kernel
theorem dX5_city_20 : decode cX5_city 20 = .ok (.getfield 12, 3) := by decide +kernel
theorem dX5_city_23 : decode cX5_city 23 = .ok (.invokevirtual 77, 3) := by decide +kernel
theorem dX5_city_26 : decode cX5_city 26 = .ok (.aload_n 0, 1) := by decide +kernel
theorem dX5_city_27 : decode cX5_city 27 = .ok (.getfield 28, 3) := by decide +kernel
theorem dX5_city_30 : decode cX5_city 30 = .ok (.invokevirtual 81, 3) := by decide +kernel
theorem dX5_city_33 : decode cX5_city 33 = .ok (.aload_n 0, 1) := by decide +kernel
theorem dX5_city_34 : decode cX5_city 34 = .ok (.getfield 38, 3) := by decide +kernel
theorem dX5_city_37 : decode cX5_city 37 = .ok (.invokevirtual 84, 3) := by decide +kernel
theorem dX5_city_40 : decode cX5_city 40 = .ok (.iconst 0, 1) := by decide +kernel
theorem dX5_city_41 : decode cX5_city 41 = .ok (.istore_n 1, 1) := by decide +kernel
theorem dX5_city_42 : decode cX5_city 42 = .ok (.iload_n 1, 1) := by decide +kernel
theorem dX5_city_43 : decode cX5_city 43 = .ok (.iconst 2, 1) := by decide +kernel
theorem dX5_city_44 : decode cX5_city 44 = .ok (.if_icmp .ge 16, 3) := by decide +kernel
theorem dX5_city_47 : decode cX5_city 47 = .ok (.aload_n 0, 1) := by decide +kernel
theorem dX5_city_48 : decode cX5_city 48 = .ok (.getfield 53, 3) := by decide +kernel
theorem dX5_city_51 : decode cX5_city 51 = .ok (.iload_n 1, 1) := by decide +kernel
theorem dX5_city_52 : decode cX5_city 52 = .ok (.iconst 0, 1) := by decide +kernel
theorem dX5_city_53 : decode cX5_city 53 = .ok (.bastore, 1) := by decide +kernel
theorem dX5_city_54 : decode cX5_city 54 = .ok (.iinc 1 1, 3) := by decide +kernel
theorem dX5_city_57 : decode cX5_city 57 = .ok (.goto (-15), 3) := by decide +kernel
theorem dX5_city_60 : decode cX5_city 60 = .ok (.bipush 10, 2) := by decide +kernel
theorem dX5_city_62 : decode cX5_city 62 = .ok (.aload_n 0, 1) := by decide +kernel
theorem dX5_city_63 : decode cX5_city 63 = .ok (.getfield 19, 3) := by decide +kernel
theorem dX5_city_66 : decode cX5_city 66 = .ok (.getfield 87, 3) := by decide +kernel
theorem dX5_city_69 : decode cX5_city 69 = .ok (.imul, 1) := by decide +kernel
theorem dX5_city_70 : decode cX5_city 70 = .ok (.aload_n 0, 1) := by decide +kernel
theorem dX5_city_71 : decode cX5_city 71 = .ok (.getfield 19, 3) := by decide +kernel
theorem dX5_city_74 : decode cX5_city 74 = .ok (.getfield 90, 3) := by decide +kernel
theorem dX5_city_77 : decode cX5_city 77 = .ok (.iadd, 1) := by decide +kernel
theorem dX5_city_78 : decode cX5_city 78 = .ok (.ireturn, 1) := by decide +kernel
set_option maxRecDepth 20000 in
theorem ggX5_street_X5_isStreet : GoodIn wsX5_street wsX5_isStreet := goodIn_r _ [5] (by decide +kernel) (by decide +kernel)
set_option maxRecDepth 20000 in
theorem gX5_street_X5_isStreet : GoodIn wsX5_street (va_wsS RX5 93 yX5_isStreet wsX5_isStreet) := goodIn_app (goodIn_of _ (by decide +kernel)) ggX5_street_X5_isStreet
set_option maxRecDepth 20000 in
theorem ggX5_street_X2_dustIn : GoodIn wsX5_street wsX2_dustIn := goodIn_r _ [10, 11, 3, 4, 5, 42, 43, 44, 45, 46, 47, 48] (by decide +kernel) (by decide +kernel)
set_option maxRecDepth 20000 in
theorem gX5_street_X2_dustIn : GoodIn wsX5_street (wsV RX5 97 RX2 yX2_dustIn wsX2_dustIn) := goodIn_app (goodIn_of _ (by decide +kernel)) ggX5_street_X2_dustIn
set_option maxRecDepth 20000 in
theorem ggX5_street_X2_isDeep : GoodIn wsX5_street wsX2_isDeep := goodIn_r _ [15, 16, 7, 8, 9, 10, 11, 3, 4, 5, 42, 43, 44, 45, 46, 47, 48] (by decide +kernel) (by decide +kernel)
set_option maxRecDepth 20000 in
theorem gX5_street_X2_isDeep : GoodIn wsX5_street (wsV RX5 101 RX2 yX2_isDeep wsX2_isDeep) := goodIn_app (goodIn_of _ (by decide +kernel)) ggX5_street_X2_isDeep
set_option maxRecDepth 20000 in
theorem ggX5_street_X2_broomsIn : GoodIn wsX5_street wsX2_broomsIn := goodIn_r _ [20, 21, 22, 23, 24, 9, 25, 26, 27, 28, 29, 30, 31, 32, 42, 43, 44, 45, 46, 47, 48, 49, 50, 51, 52, 53, 54, 55, 56] (by decide +kernel) (by decide +kernel)
set_option maxRecDepth 20000 in
theorem gX5_street_X2_broomsIn : GoodIn wsX5_street (wsV RX5 104 RX2 yX2_broomsIn wsX2_broomsIn) := goodIn_app (goodIn_of _ (by decide +kernel)) ggX5_street_X2_broomsIn
theorem dX5_street_0 : decode cX5_street 0 = .ok (.iload_n 1, 1) := by decide +kernel
theorem dX5_street_1 : decode cX5_street 1 = .ok (.invokestatic 93, 3) := by decide +kernel
theorem dX5_street_4 : decode cX5_street 4 = .ok (.ifCond .ne 5, 3) := by decide +kernel
theorem dX5_street_7 : decode cX5_street 7 = .ok (.iconst (-1), 1) := by decide +kernel
theorem dX5_street_8 : decode cX5_street 8 = .ok (.ireturn, 1) := by decide +kernel
theorem dX5_street_9 : decode cX5_street 9 = .ok (.iload_n 2, 1) := by decide +kernel
theorem dX5_street_10 : decode cX5_street 10 = .ok (.tableswitch 61 0 2 #[26, 35, 52], 26) := by decide +kernel
theorem dX5_street_36 : decode cX5_street 36 = .ok (.aload_n 0, 1) := by decide +kernel
theorem dX5_street_37 : decode cX5_street 37 = .ok (.getfield 28, 3) := by decide +kernel
theorem dX5_street_40 : decode cX5_street 40 = .ok (.iload_n 1, 1) := by decide +kernel
theorem dX5_street_41 : decode cX5_street 41 = .ok (.invokevirtual 97, 3) := by decide +kernel
theorem dX5_street_44 : decode cX5_street 44 = .ok (.ireturn, 1) := by decide +kernel
theorem dX5_street_45 : decode cX5_street 45 = .ok (.aload_n 0, 1) := by decide +kernel
theorem dX5_street_46 : decode cX5_street 46 = .ok (.getfield 28, 3) := by decide +kernel
theorem dX5_street_49 : decode cX5_street 49 = .ok (.iload_n 1, 1) := by decide +kernel
theorem dX5_street_50 : decode cX5_street 50 = .ok (.invokevirtual 101, 3) := by decide +kernel
theorem dX5_street_53 : decode cX5_street 53 = .ok (.ifCond .eq 7, 3) := by decide +kernel
theorem dX5_street_56 : decode cX5_street 56 = .ok (.iconst 1, 1) := by decide +kernel
theorem dX5_street_57 : decode cX5_street 57 = .ok (.goto 4, 3) := by decide +kernel
theorem dX5_street_60 : decode cX5_street 60 = .ok (.iconst 0, 1) := by decide +kernel
theorem dX5_street_61 : decode cX5_street 61 = .ok (.ireturn, 1) := by decide +kernel
theorem dX5_street_62 : decode cX5_street 62 = .ok (.aload_n 0, 1) := by decide +kernel
theorem dX5_street_63 : decode cX5_street 63 = .ok (.getfield 28, 3) := by decide +kernel
theorem dX5_street_66 : decode cX5_street 66 = .ok (.iload_n 1, 1) := by decide +kernel
theorem dX5_street_67 : decode cX5_street 67 = .ok (.invokevirtual 104, 3) := by decide +kernel
theorem dX5_street_70 : decode cX5_street 70 = .ok (.ireturn, 1) := by decide +kernel
theorem dX5_street_71 : decode cX5_street 71 = .ok (.bipush (-2), 2) := by decide +kernel
theorem dX5_street_73 : decode cX5_street 73 = .ok (.ireturn, 1) := by decide +kernel
set_option maxRecDepth 20000 in
theorem ggX5_broom_X4_hasBroom : GoodIn wsX5_broom wsX4_hasBroom := goodIn_r _ [7, 8, 48, 49, 50, 51, 52, 53, 54, 55] (by decide +kernel) (by decide +kernel)
set_option maxRecDepth 20000 in
theorem gX5_broom_X4_hasBroom : GoodIn wsX5_broom (wsV RX5 107 RX4 yX4_hasBroom wsX4_hasBroom) := goodIn_app (goodIn_of _ (by decide +kernel)) ggX5_broom_X4_hasBroom
set_option maxRecDepth 20000 in
theorem ggX5_broom_X2_placeOf : GoodIn wsX5_broom wsX2_placeOf := goodIn_r _ [13, 14, 15, 16, 4, 5, 6, 7, 8, 56, 57, 58, 59, 60, 61, 62, 48, 49, 50, 51, 52, 53, 54, 55] (by decide +kernel) (by decide +kernel)
set_option maxRecDepth 20000 in
theorem gX5_broom_X2_placeOf : GoodIn wsX5_broom (wsV RX5 110 RX2 yX2_placeOf wsX2_placeOf) := goodIn_app (goodIn_of _ (by decide +kernel)) ggX5_broom_X2_placeOf
set_option maxRecDepth 20000 in
theorem ggX5_broom_X4_strengthOf : GoodIn wsX5_broom wsX4_strengthOf := goodIn_r _ [20, 21, 48, 49, 50, 51, 52, 53, 54, 55] (by decide +kernel) (by decide +kernel)
set_option maxRecDepth 20000 in
theorem gX5_broom_X4_strengthOf : GoodIn wsX5_broom (wsV RX5 113 RX4 yX4_strengthOf wsX4_strengthOf) := goodIn_app (goodIn_of _ (by decide +kernel)) ggX5_broom_X4_strengthOf
set_option maxRecDepth 20000 in
theorem ggX5_broom_X4_kindOf : GoodIn wsX5_broom wsX4_kindOf := goodIn_r _ [25, 26, 48, 49, 50, 51, 52, 53, 54, 55] (by decide +kernel) (by decide +kernel)
set_option maxRecDepth 20000 in
theorem gX5_broom_X4_kindOf : GoodIn wsX5_broom (wsV RX5 116 RX4 yX4_kindOf wsX4_kindOf) := goodIn_app (goodIn_of _ (by decide +kernel)) ggX5_broom_X4_kindOf
set_option maxRecDepth 20000 in
theorem ggX5_broom_X2_isBent : GoodIn wsX5_broom wsX2_isBent := goodIn_r _ [30, 31, 56, 57, 58, 59, 60, 61, 62] (by decide +kernel) (by decide +kernel)
set_option maxRecDepth 20000 in
theorem gX5_broom_X2_isBent : GoodIn wsX5_broom (wsV RX5 119 RX2 yX2_isBent wsX2_isBent) := goodIn_app (goodIn_of _ (by decide +kernel)) ggX5_broom_X2_isBent
set_option maxRecDepth 20000 in
theorem ggX5_broom_X2_worksAs : GoodIn wsX5_broom wsX2_worksAs := goodIn_r _ [35, 14, 36, 37, 23, 24, 6, 25, 26, 38, 28, 29, 12, 30, 31, 56, 57, 58, 59, 60, 61, 62, 48, 49, 50, 51, 52, 53, 54, 55] (by decide +kernel) (by decide +kernel)
set_option maxRecDepth 20000 in
theorem gX5_broom_X2_worksAs : GoodIn wsX5_broom (wsV RX5 122 RX2 yX2_worksAs wsX2_worksAs) := goodIn_app (goodIn_of _ (by decide +kernel)) ggX5_broom_X2_worksAs
theorem dX5_broom_0 : decode cX5_broom 0 = .ok (.aload_n 0, 1) := by decide +kernel
theorem dX5_broom_1 : decode cX5_broom 1 = .ok (.getfield 19, 3) := by decide +kernel
theorem dX5_broom_4 : decode cX5_broom 4 = .ok (.iload_n 1, 1) := by decide +kernel
theorem dX5_broom_5 : decode cX5_broom 5 = .ok (.invokevirtual 107, 3) := by decide +kernel
theorem dX5_broom_8 : decode cX5_broom 8 = .ok (.ifCond .ne 5, 3) := by decide +kernel
theorem dX5_broom_11 : decode cX5_broom 11 = .ok (.iconst (-1), 1) := by decide +kernel
theorem dX5_broom_12 : decode cX5_broom 12 = .ok (.ireturn, 1) := by decide +kernel
theorem dX5_broom_13 : decode cX5_broom 13 = .ok (.iload_n 2, 1) := by decide +kernel
theorem dX5_broom_14 : decode cX5_broom 14 = .ok (.tableswitch 87 0 4 #[34, 43, 52, 61, 78], 34) := by decide +kernel
theorem dX5_broom_48 : decode cX5_broom 48 = .ok (.aload_n 0, 1) := by decide +kernel
theorem dX5_broom_49 : decode cX5_broom 49 = .ok (.getfield 28, 3) := by decide +kernel
theorem dX5_broom_52 : decode cX5_broom 52 = .ok (.iload_n 1, 1) := by decide +kernel
theorem dX5_broom_53 : decode cX5_broom 53 = .ok (.invokevirtual 110, 3) := by decide +kernel
theorem dX5_broom_56 : decode cX5_broom 56 = .ok (.ireturn, 1) := by decide +kernel
theorem dX5_broom_57 : decode cX5_broom 57 = .ok (.aload_n 0, 1) := by decide +kernel
theorem dX5_broom_58 : decode cX5_broom 58 = .ok (.getfield 19, 3) := by decide +kernel
theorem dX5_broom_61 : decode cX5_broom 61 = .ok (.iload_n 1, 1) := by decide +kernel
theorem dX5_broom_62 : decode cX5_broom 62 = .ok (.invokevirtual 113, 3) := by decide +kernel
theorem dX5_broom_65 : decode cX5_broom 65 = .ok (.ireturn, 1) := by decide +kernel
theorem dX5_broom_66 : decode cX5_broom 66 = .ok (.aload_n 0, 1) := by decide +kernel
theorem dX5_broom_67 : decode cX5_broom 67 = .ok (.getfield 19, 3) := by decide +kernel
theorem dX5_broom_70 : decode cX5_broom 70 = .ok (.iload_n 1, 1) := by decide +kernel
theorem dX5_broom_71 : decode cX5_broom 71 = .ok (.invokevirtual 116, 3) := by decide +kernel
theorem dX5_broom_74 : decode cX5_broom 74 = .ok (.ireturn, 1) := by decide +kernel
theorem dX5_broom_75 : decode cX5_broom 75 = .ok (.aload_n 0, 1) := by decide +kernel
theorem dX5_broom_76 : decode cX5_broom 76 = .ok (.getfield 28, 3) := by decide +kernel
theorem dX5_broom_79 : decode cX5_broom 79 = .ok (.iload_n 1, 1) := by decide +kernel
theorem dX5_broom_80 : decode cX5_broom 80 = .ok (.invokevirtual 119, 3) := by decide +kernel
theorem dX5_broom_83 : decode cX5_broom 83 = .ok (.ifCond .eq 7, 3) := by decide +kernel
theorem dX5_broom_86 : decode cX5_broom 86 = .ok (.iconst 1, 1) := by decide +kernel
theorem dX5_broom_87 : decode cX5_broom 87 = .ok (.goto 4, 3) := by decide +kernel
theorem dX5_broom_90 : decode cX5_broom 90 = .ok (.iconst 0, 1) := by decide +kernel
theorem dX5_broom_91 : decode cX5_broom 91 = .ok (.ireturn, 1) := by decide +kernel
theorem dX5_broom_92 : decode cX5_broom 92 = .ok (.aload_n 0, 1) := by decide +kernel
theorem dX5_broom_93 : decode cX5_broom 93 = .ok (.getfield 28, 3) := by decide +kernel
theorem dX5_broom_96 : decode cX5_broom 96 = .ok (.iload_n 1, 1) := by decide +kernel
theorem dX5_broom_97 : decode cX5_broom 97 = .ok (.invokevirtual 122, 3) := by decide +kernel
theorem dX5_broom_100 : decode cX5_broom 100 = .ok (.ireturn, 1) := by decide +kernel
theorem dX5_broom_101 : decode cX5_broom 101 = .ok (.bipush (-2), 2) := by decide +kernel
theorem dX5_broom_103 : decode cX5_broom 103 = .ok (.ireturn, 1) := by decide +kernel
set_option maxRecDepth 20000 in
theorem ggX5_dawn_X0_push : GoodIn wsX5_dawn wsX0_push := goodIn_r _ [7, 8, 9, 10, 11, 12, 6, 13, 14, 15, 16, 17, 18, 19, 20, 21, 22, 23, 24, 25, 26, 27, 108, 109, 110, 111, 112, 113, 114, 115, 116, 117] (by decide +kernel) (by decide +kernel)
set_option maxRecDepth 20000 in
theorem gX5_dawn_X0_push : GoodIn wsX5_dawn (wsV RX5 125 RX0 yX0_push wsX0_push) := goodIn_app (goodIn_of _ (by decide +kernel)) ggX5_dawn_X0_push
set_option maxRecDepth 20000 in
theorem ggX5_dawn_X2_passDawn : GoodIn wsX5_dawn wsX2_passDawn := goodIn_r _ [31, 32, 27, 33, 34, 35, 17, 36, 37, 38, 39, 40, 19, 41, 42, 43, 44, 45, 46, 47, 48, 49, 50, 51, 52, 53, 54, 55, 24, 56, 57, 58, 59, 60, 61, 62, 63, 64, 65, 66, 67, 68, 69, 70, 25, 71, 72, 73, 74, 75, 76, 77, 78, 79, 26, 80, 81, 82, 83, 84, 85, 86, 87, 88, 89, 90, 91, 92, 93, 94, 111, 112, 113, 114, 115, 116, 117, 118, 119, 120, 121, 122, 123, 124, 125] (by decide +kernel) (by decide +kernel)
set_option maxRecDepth 20000 in
theorem gX5_dawn_X2_passDawn : GoodIn wsX5_dawn (wsV RX5 129 RX2 yX2_passDawn wsX2_passDawn) := goodIn_app (goodIn_of _ (by decide +kernel)) ggX5_dawn_X2_passDawn
set_option maxRecDepth 20000 in
theorem ggX5_dawn_X2_allDust : GoodIn wsX5_dawn wsX2_allDust := goodIn_r _ [98, 19, 111, 112, 113, 114, 115, 116, 117] (by decide +kernel) (by decide +kernel)
set_option maxRecDepth 20000 in
theorem gX5_dawn_X2_allDust : GoodIn wsX5_dawn (wsV RX5 133 RX2 yX2_allDust wsX2_allDust) := goodIn_app (goodIn_of _ (by decide +kernel)) ggX5_dawn_X2_allDust
theorem dX5_dawn_0 : decode cX5_dawn 0 = .ok (.aload_n 0, 1) := by decide +kernel
theorem dX5_dawn_1 : decode cX5_dawn 1 = .ok (.getfield 38, 3) := by decide +kernel
theorem dX5_dawn_4 : decode cX5_dawn 4 = .ok (.aload_n 0, 1) := by decide +kernel
theorem dX5_dawn_5 : decode cX5_dawn 5 = .ok (.getfield 28, 3) := by decide +kernel
theorem dX5_dawn_8 : decode cX5_dawn 8 = .ok (.invokevirtual 125, 3) := by decide +kernel
theorem dX5_dawn_11 : decode cX5_dawn 11 = .ok (.aload_n 0, 1) := by decide +kernel
theorem dX5_dawn_12 : decode cX5_dawn 12 = .ok (.getfield 28, 3) := by decide +kernel
theorem dX5_dawn_15 : decode cX5_dawn 15 = .ok (.bipush 31, 2) := by decide +kernel
theorem dX5_dawn_17 : decode cX5_dawn 17 = .ok (.iconst 1, 1) := by decide +kernel
theorem dX5_dawn_18 : decode cX5_dawn 18 = .ok (.invokevirtual 129, 3) := by decide +kernel
theorem dX5_dawn_21 : decode cX5_dawn 21 = .ok (.aload_n 0, 1) := by decide +kernel
theorem dX5_dawn_22 : decode cX5_dawn 22 = .ok (.getfield 28, 3) := by decide +kernel
theorem dX5_dawn_25 : decode cX5_dawn 25 = .ok (.invokevirtual 133, 3) := by decide +kernel
theorem dX5_dawn_28 : decode cX5_dawn 28 = .ok (.ireturn, 1) := by decide +kernel
set_option maxRecDepth 20000 in
theorem ggX5_walk_X4_hasBroom : GoodIn wsX5_walk wsX4_hasBroom := goodIn_r _ [8, 9, 69, 70, 71, 72, 73, 74, 75, 76] (by decide +kernel) (by decide +kernel)
set_option maxRecDepth 20000 in
theorem gX5_walk_X4_hasBroom : GoodIn wsX5_walk (wsV RX5 107 RX4 yX4_hasBroom wsX4_hasBroom) := goodIn_app (goodIn_of _ (by decide +kernel)) ggX5_walk_X4_hasBroom
set_option maxRecDepth 20000 in
theorem ggX5_walk_X5_within : GoodIn wsX5_walk wsX5_within := goodIn_r _ [13] (by decide +kernel) (by decide +kernel)
set_option maxRecDepth 20000 in
theorem gX5_walk_X5_within : GoodIn wsX5_walk (va_wsS RX5 61 yX5_within wsX5_within) := goodIn_app (goodIn_of _ (by decide +kernel)) ggX5_walk_X5_within
set_option maxRecDepth 20000 in
theorem ggX5_walk_X0_push : GoodIn wsX5_walk wsX0_push := goodIn_r _ [18, 19, 20, 21, 22, 23, 17, 24, 25, 26, 27, 28, 29, 30, 31, 32, 33, 34, 35, 36, 37, 38, 77, 78, 79, 80, 81, 82, 83, 84, 85, 86] (by decide +kernel) (by decide +kernel)
set_option maxRecDepth 20000 in
theorem gX5_walk_X0_push : GoodIn wsX5_walk (wsV RX5 125 RX0 yX0_push wsX0_push) := goodIn_app (goodIn_of _ (by decide +kernel)) ggX5_walk_X0_push
set_option maxRecDepth 20000 in
theorem ggX5_walk_X2_step : GoodIn wsX5_walk wsX2_step := goodIn_r _ [42, 43, 44, 45, 28, 46, 47, 35, 48, 5, 6, 7, 8, 9, 49, 50, 51, 52, 53, 54, 55, 56, 57, 58, 80, 81, 82, 83, 84, 85, 86, 69, 70, 71, 72, 73, 74, 75, 76] (by decide +kernel) (by decide +kernel)
set_option maxRecDepth 20000 in
theorem gX5_walk_X2_step : GoodIn wsX5_walk (wsV RX5 136 RX2 yX2_step wsX2_step) := goodIn_app (goodIn_of _ (by decide +kernel)) ggX5_walk_X2_step
set_option maxRecDepth 20000 in
theorem ggX5_walk_X2_placeOf : GoodIn wsX5_walk wsX2_placeOf := goodIn_r _ [46, 47, 35, 48, 5, 6, 7, 8, 9, 80, 81, 82, 83, 84, 85, 86, 69, 70, 71, 72, 73, 74, 75, 76] (by decide +kernel) (by decide +kernel)
set_option maxRecDepth 20000 in
theorem gX5_walk_X2_placeOf : GoodIn wsX5_walk (wsV RX5 110 RX2 yX2_placeOf wsX2_placeOf) := goodIn_app (goodIn_of _ (by decide +kernel)) ggX5_walk_X2_placeOf
theorem dX5_walk_0 : decode cX5_walk 0 = .ok (.aload_n 0, 1) := by decide +kernel
theorem dX5_walk_1 : decode cX5_walk 1 = .ok (.getfield 19, 3) := by decide +kernel
theorem dX5_walk_4 : decode cX5_walk 4 = .ok (.iload_n 1, 1) := by decide +kernel
theorem dX5_walk_5 : decode cX5_walk 5 = .ok (.invokevirtual 107, 3) := by decide +kernel
theorem dX5_walk_8 : decode cX5_walk 8 = .ok (.ifCond .ne 5, 3) := by decide +kernel
theorem dX5_walk_11 : decode cX5_walk 11 = .ok (.iconst (-1), 1) := by decide +kernel
theorem dX5_walk_12 : decode cX5_walk 12 = .ok (.ireturn, 1) := by decide +kernel
theorem dX5_walk_13 : decode cX5_walk 13 = .ok (.iload_n 2, 1) := by decide +kernel
theorem dX5_walk_14 : decode cX5_walk 14 = .ok (.iconst 0, 1) := by decide +kernel
theorem dX5_walk_15 : decode cX5_walk 15 = .ok (.iconst 1, 1) := by decide +kernel
theorem dX5_walk_16 : decode cX5_walk 16 = .ok (.invokestatic 61, 3) := by decide +kernel
theorem dX5_walk_19 : decode cX5_walk 19 = .ok (.ifCond .ne 6, 3) := by decide +kernel
theorem dX5_walk_22 : decode cX5_walk 22 = .ok (.bipush (-2), 2) := by decide +kernel
theorem dX5_walk_24 : decode cX5_walk 24 = .ok (.ireturn, 1) := by decide +kernel
theorem dX5_walk_25 : decode cX5_walk 25 = .ok (.aload_n 0, 1) := by decide +kernel
theorem dX5_walk_26 : decode cX5_walk 26 = .ok (.getfield 38, 3) := by decide +kernel
theorem dX5_walk_29 : decode cX5_walk 29 = .ok (.aload_n 0, 1) := by decide +kernel
theorem dX5_walk_30 : decode cX5_walk 30 = .ok (.getfield 28, 3) := by decide +kernel
theorem dX5_walk_33 : decode cX5_walk 33 = .ok (.invokevirtual 125, 3) := by decide +kernel
theorem dX5_walk_36 : decode cX5_walk 36 = .ok (.aload_n 0, 1) := by decide +kernel
theorem dX5_walk_37 : decode cX5_walk 37 = .ok (.getfield 28, 3) := by decide +kernel
theorem dX5_walk_40 : decode cX5_walk 40 = .ok (.iload_n 1, 1) := by decide +kernel
theorem dX5_walk_41 : decode cX5_walk 41 = .ok (.iload_n 2, 1) := by decide +kernel
theorem dX5_walk_42 : decode cX5_walk 42 = .ok (.invokevirtual 136, 3) := by decide +kernel
theorem dX5_walk_45 : decode cX5_walk 45 = .ok (.aload_n 0, 1) := by decide +kernel
theorem dX5_walk_46 : decode cX5_walk 46 = .ok (.getfield 28, 3) := by decide +kernel
theorem dX5_walk_49 : decode cX5_walk 49 = .ok (.iload_n 1, 1) := by decide +kernel
theorem dX5_walk_50 : decode cX5_walk 50 = .ok (.invokevirtual 110, 3) := by decide +kernel
theorem dX5_walk_53 : decode cX5_walk 53 = .ok (.ireturn, 1) := by decide +kernel
set_option maxRecDepth 20000 in
theorem ggX5_vote_X0_push : GoodIn wsX5_vote wsX0_push := goodIn_r _ [7, 8, 9, 10, 11, 12, 6, 13, 14, 15, 16, 17, 18, 19, 20, 21, 22, 23, 24, 25, 26, 27, 48, 49, 50, 41, 42, 43, 44, 45, 46, 47] (by decide +kernel) (by decide +kernel)
set_option maxRecDepth 20000 in
theorem gX5_vote_X0_push : GoodIn wsX5_vote (wsV RX5 125 RX0 yX0_push wsX0_push) := goodIn_app (goodIn_of _ (by decide +kernel)) ggX5_vote_X0_push
set_option maxRecDepth 20000 in
theorem ggX5_vote_X2_turnVote : GoodIn wsX5_vote wsX2_turnVote := goodIn_r _ [31, 25, 41, 42, 43, 44, 45, 46, 47] (by decide +kernel) (by decide +kernel)
set_option maxRecDepth 20000 in
theorem gX5_vote_X2_turnVote : GoodIn wsX5_vote (wsV RX5 139 RX2 yX2_turnVote wsX2_turnVote) := goodIn_app (goodIn_of _ (by decide +kernel)) ggX5_vote_X2_turnVote
theorem dX5_vote_0 : decode cX5_vote 0 = .ok (.aload_n 0, 1) := by decide +kernel
theorem dX5_vote_1 : decode cX5_vote 1 = .ok (.getfield 38, 3) := by decide +kernel
theorem dX5_vote_4 : decode cX5_vote 4 = .ok (.aload_n 0, 1) := by decide +kernel
theorem dX5_vote_5 : decode cX5_vote 5 = .ok (.getfield 28, 3) := by decide +kernel
theorem dX5_vote_8 : decode cX5_vote 8 = .ok (.invokevirtual 125, 3) := by decide +kernel
theorem dX5_vote_11 : decode cX5_vote 11 = .ok (.aload_n 0, 1) := by decide +kernel
theorem dX5_vote_12 : decode cX5_vote 12 = .ok (.getfield 28, 3) := by decide +kernel
theorem dX5_vote_15 : decode cX5_vote 15 = .ok (.invokevirtual 139, 3) := by decide +kernel
theorem dX5_vote_18 : decode cX5_vote 18 = .ok (.aload_n 0, 1) := by decide +kernel
theorem dX5_vote_19 : decode cX5_vote 19 = .ok (.getfield 28, 3) := by decide +kernel
theorem dX5_vote_22 : decode cX5_vote 22 = .ok (.getfield 142, 3) := by decide +kernel
theorem dX5_vote_25 : decode cX5_vote 25 = .ok (.ifCond .eq 7, 3) := by decide +kernel
theorem dX5_vote_28 : decode cX5_vote 28 = .ok (.iconst 1, 1) := by decide +kernel
theorem dX5_vote_29 : decode cX5_vote 29 = .ok (.goto 4, 3) := by decide +kernel
theorem dX5_vote_32 : decode cX5_vote 32 = .ok (.iconst 0, 1) := by decide +kernel
theorem dX5_vote_33 : decode cX5_vote 33 = .ok (.ireturn, 1) := by decide +kernel
set_option maxRecDepth 20000 in
theorem ggX5_bend_X4_hasBroom : GoodIn wsX5_bend wsX4_hasBroom := goodIn_r _ [8, 9, 66, 67, 68, 69, 70, 71, 72, 73] (by decide +kernel) (by decide +kernel)
set_option maxRecDepth 20000 in
theorem gX5_bend_X4_hasBroom : GoodIn wsX5_bend (wsV RX5 107 RX4 yX4_hasBroom wsX4_hasBroom) := goodIn_app (goodIn_of _ (by decide +kernel)) ggX5_bend_X4_hasBroom
set_option maxRecDepth 20000 in
theorem ggX5_bend_X2_isBent : GoodIn wsX5_bend wsX2_isBent := goodIn_r _ [14, 15, 59, 60, 61, 62, 63, 64, 65] (by decide +kernel) (by decide +kernel)
set_option maxRecDepth 20000 in
theorem gX5_bend_X2_isBent : GoodIn wsX5_bend (wsV RX5 119 RX2 yX2_isBent wsX2_isBent) := goodIn_app (goodIn_of _ (by decide +kernel)) ggX5_bend_X2_isBent
set_option maxRecDepth 20000 in
theorem ggX5_bend_X0_push : GoodIn wsX5_bend wsX0_push := goodIn_r _ [20, 21, 22, 23, 24, 25, 19, 26, 27, 28, 29, 13, 30, 31, 32, 33, 34, 35, 36, 37, 15, 38, 74, 75, 76, 59, 60, 61, 62, 63, 64, 65] (by decide +kernel) (by decide +kernel)
set_option maxRecDepth 20000 in
theorem gX5_bend_X0_push : GoodIn wsX5_bend (wsV RX5 125 RX0 yX0_push wsX0_push) := goodIn_app (goodIn_of _ (by decide +kernel)) ggX5_bend_X0_push
set_option maxRecDepth 20000 in
theorem ggX5_bend_X2_bow : GoodIn wsX5_bend wsX2_bow := goodIn_r _ [42, 15, 59, 60, 61, 62, 63, 64, 65] (by decide +kernel) (by decide +kernel)
set_option maxRecDepth 20000 in
theorem gX5_bend_X2_bow : GoodIn wsX5_bend (wsV RX5 146 RX2 yX2_bow wsX2_bow) := goodIn_app (goodIn_of _ (by decide +kernel)) ggX5_bend_X2_bow
set_option maxRecDepth 20000 in
theorem ggX5_bend_J6_bitCount_0f7a4 : GoodIn wsX5_bend wsJ6_bitCount_0f7a4 := goodIn_r _ [46, 47, 48, 49] (by decide +kernel) (by decide +kernel)
set_option maxRecDepth 20000 in
theorem gX5_bend_J6_bitCount_0f7a4 : GoodIn wsX5_bend (va_wsS RX5 152 yJ6_bitCount_0f7a4 wsJ6_bitCount_0f7a4) := goodIn_app (goodIn_of _ (by decide +kernel)) ggX5_bend_J6_bitCount_0f7a4
theorem dX5_bend_0 : decode cX5_bend 0 = .ok (.aload_n 0, 1) := by decide +kernel
theorem dX5_bend_1 : decode cX5_bend 1 = .ok (.getfield 19, 3) := by decide +kernel
theorem dX5_bend_4 : decode cX5_bend 4 = .ok (.iload_n 1, 1) := by decide +kernel
theorem dX5_bend_5 : decode cX5_bend 5 = .ok (.invokevirtual 107, 3) := by decide +kernel
theorem dX5_bend_8 : decode cX5_bend 8 = .ok (.ifCond .ne 5, 3) := by decide +kernel
theorem dX5_bend_11 : decode cX5_bend 11 = .ok (.iconst (-1), 1) := by decide +kernel
theorem dX5_bend_12 : decode cX5_bend 12 = .ok (.ireturn, 1) := by decide +kernel
theorem dX5_bend_13 : decode cX5_bend 13 = .ok (.aload_n 0, 1) := by decide +kernel
theorem dX5_bend_14 : decode cX5_bend 14 = .ok (.getfield 28, 3) := by decide +kernel
theorem dX5_bend_17 : decode cX5_bend 17 = .ok (.iload_n 1, 1) := by decide +kernel
theorem dX5_bend_18 : decode cX5_bend 18 = .ok (.invokevirtual 119, 3) := by decide +kernel
theorem dX5_bend_21 : decode cX5_bend 21 = .ok (.ifCond .eq 6, 3) := by decide +kernel
theorem dX5_bend_24 : decode cX5_bend 24 = .ok (.bipush (-3), 2) := by decide +kernel
theorem dX5_bend_26 : decode cX5_bend 26 = .ok (.ireturn, 1) := by decide +kernel
theorem dX5_bend_27 : decode cX5_bend 27 = .ok (.aload_n 0, 1) := by decide +kernel
theorem dX5_bend_28 : decode cX5_bend 28 = .ok (.getfield 38, 3) := by decide +kernel
theorem dX5_bend_31 : decode cX5_bend 31 = .ok (.aload_n 0, 1) := by decide +kernel
theorem dX5_bend_32 : decode cX5_bend 32 = .ok (.getfield 28, 3) := by decide +kernel
theorem dX5_bend_35 : decode cX5_bend 35 = .ok (.invokevirtual 125, 3) := by decide +kernel
theorem dX5_bend_38 : decode cX5_bend 38 = .ok (.aload_n 0, 1) := by decide +kernel
theorem dX5_bend_39 : decode cX5_bend 39 = .ok (.getfield 28, 3) := by decide +kernel
theorem dX5_bend_42 : decode cX5_bend 42 = .ok (.iconst 1, 1) := by decide +kernel
theorem dX5_bend_43 : decode cX5_bend 43 = .ok (.iload_n 1, 1) := by decide +kernel
theorem dX5_bend_44 : decode cX5_bend 44 = .ok (.ishl, 1) := by decide +kernel
theorem dX5_bend_45 : decode cX5_bend 45 = .ok (.invokevirtual 146, 3) := by decide +kernel
theorem dX5_bend_48 : decode cX5_bend 48 = .ok (.aload_n 0, 1) := by decide +kernel
theorem dX5_bend_49 : decode cX5_bend 49 = .ok (.getfield 28, 3) := by decide +kernel
theorem dX5_bend_52 : decode cX5_bend 52 = .ok (.getfield 149, 3) := by decide +kernel
theorem dX5_bend_55 : decode cX5_bend 55 = .ok (.invokestatic 152, 3) := by decide +kernel
theorem dX5_bend_58 : decode cX5_bend 58 = .ok (.ireturn, 1) := by decide +kernel
set_option maxRecDepth 20000 in
theorem ggX5_hand_X5_isStreet : GoodIn wsX5_hand wsX5_isStreet := goodIn_r _ [6] (by decide +kernel) (by decide +kernel)
set_option maxRecDepth 20000 in
theorem gX5_hand_X5_isStreet : GoodIn wsX5_hand (va_wsS RX5 93 yX5_isStreet wsX5_isStreet) := goodIn_app (goodIn_of _ (by decide +kernel)) ggX5_hand_X5_isStreet
set_option maxRecDepth 20000 in
theorem ggX5_hand_X2_dustIn : GoodIn wsX5_hand wsX2_dustIn := goodIn_r _ [11, 12, 4, 5, 6, 49, 50, 51, 52, 53, 54, 55] (by decide +kernel) (by decide +kernel)
set_option maxRecDepth 20000 in
theorem gX5_hand_X2_dustIn : GoodIn wsX5_hand (wsV RX5 97 RX2 yX2_dustIn wsX2_dustIn) := goodIn_app (goodIn_of _ (by decide +kernel)) ggX5_hand_X2_dustIn
set_option maxRecDepth 20000 in
theorem ggX5_hand_X0_push : GoodIn wsX5_hand wsX0_push := goodIn_r _ [17, 18, 19, 20, 21, 22, 16, 23, 24, 25, 26, 10, 27, 12, 28, 29, 30, 31, 32, 33, 34, 35, 56, 57, 58, 49, 50, 51, 52, 53, 54, 55] (by decide +kernel) (by decide +kernel)
set_option maxRecDepth 20000 in
theorem gX5_hand_X0_push : GoodIn wsX5_hand (wsV RX5 125 RX0 yX0_push wsX0_push) := goodIn_app (goodIn_of _ (by decide +kernel)) ggX5_hand_X0_push
set_option maxRecDepth 20000 in
theorem ggX5_hand_X2_empty : GoodIn wsX5_hand wsX2_empty := goodIn_r _ [39, 12, 4, 5, 6, 49, 50, 51, 52, 53, 54, 55] (by decide +kernel) (by decide +kernel)
set_option maxRecDepth 20000 in
theorem gX5_hand_X2_empty : GoodIn wsX5_hand (wsV RX5 157 RX2 yX2_empty wsX2_empty) := goodIn_app (goodIn_of _ (by decide +kernel)) ggX5_hand_X2_empty
theorem dX5_hand_0 : decode cX5_hand 0 = .ok (.iload_n 1, 1) := by decide +kernel
theorem dX5_hand_1 : decode cX5_hand 1 = .ok (.invokestatic 93, 3) := by decide +kernel
theorem dX5_hand_4 : decode cX5_hand 4 = .ok (.ifCond .ne 5, 3) := by decide +kernel
theorem dX5_hand_7 : decode cX5_hand 7 = .ok (.iconst (-1), 1) := by decide +kernel
theorem dX5_hand_8 : decode cX5_hand 8 = .ok (.ireturn, 1) := by decide +kernel
theorem dX5_hand_9 : decode cX5_hand 9 = .ok (.aload_n 0, 1) := by decide +kernel
theorem dX5_hand_10 : decode cX5_hand 10 = .ok (.getfield 28, 3) := by decide +kernel
theorem dX5_hand_13 : decode cX5_hand 13 = .ok (.iload_n 1, 1) := by decide +kernel
theorem dX5_hand_14 : decode cX5_hand 14 = .ok (.invokevirtual 97, 3) := by decide +kernel
theorem dX5_hand_17 : decode cX5_hand 17 = .ok (.istore_n 2, 1) := by decide +kernel
theorem dX5_hand_18 : decode cX5_hand 18 = .ok (.iload_n 2, 1) := by decide +kernel
theorem dX5_hand_19 : decode cX5_hand 19 = .ok (.ifCond .ne 6, 3) := by decide +kernel
theorem dX5_hand_22 : decode cX5_hand 22 = .ok (.bipush (-3), 2) := by decide +kernel
theorem dX5_hand_24 : decode cX5_hand 24 = .ok (.ireturn, 1) := by decide +kernel
theorem dX5_hand_25 : decode cX5_hand 25 = .ok (.aload_n 0, 1) := by decide +kernel
theorem dX5_hand_26 : decode cX5_hand 26 = .ok (.getfield 38, 3) := by decide +kernel
theorem dX5_hand_29 : decode cX5_hand 29 = .ok (.aload_n 0, 1) := by decide +kernel
theorem dX5_hand_30 : decode cX5_hand 30 = .ok (.getfield 28, 3) := by decide +kernel
theorem dX5_hand_33 : decode cX5_hand 33 = .ok (.invokevirtual 125, 3) := by decide +kernel
theorem dX5_hand_36 : decode cX5_hand 36 = .ok (.aload_n 0, 1) := by decide +kernel
theorem dX5_hand_37 : decode cX5_hand 37 = .ok (.getfield 28, 3) := by decide +kernel
theorem dX5_hand_40 : decode cX5_hand 40 = .ok (.iload_n 1, 1) := by decide +kernel
theorem dX5_hand_41 : decode cX5_hand 41 = .ok (.invokevirtual 157, 3) := by decide +kernel
theorem dX5_hand_44 : decode cX5_hand 44 = .ok (.iload_n 2, 1) := by decide +kernel
theorem dX5_hand_45 : decode cX5_hand 45 = .ok (.ireturn, 1) := by decide +kernel
set_option maxRecDepth 20000 in
theorem ggX5_undo_X0_pop : GoodIn wsX5_undo wsX0_pop := goodIn_r _ [7, 8, 9, 10, 11, 12, 6, 13, 14, 15, 16, 17, 18, 19, 20, 21, 22, 23, 24, 25, 26, 27, 37, 38, 39, 40, 41, 42, 43, 44, 45, 46] (by decide +kernel) (by decide +kernel)
set_option maxRecDepth 20000 in
theorem gX5_undo_X0_pop : GoodIn wsX5_undo (wsV RX5 163 RX0 yX0_pop wsX0_pop) := goodIn_app (goodIn_of _ (by decide +kernel)) ggX5_undo_X0_pop
theorem dX5_undo_0 : decode cX5_undo 0 = .ok (.aload_n 0, 1) := by decide +kernel
theorem dX5_undo_1 : decode cX5_undo 1 = .ok (.getfield 38, 3) := by decide +kernel
theorem dX5_undo_4 : decode cX5_undo 4 = .ok (.getfield 160, 3) := by decide +kernel
theorem dX5_undo_7 : decode cX5_undo 7 = .ok (.ifCond .ne 6, 3) := by decide +kernel
theorem dX5_undo_10 : decode cX5_undo 10 = .ok (.bipush (-3), 2) := by decide +kernel
theorem dX5_undo_12 : decode cX5_undo 12 = .ok (.ireturn, 1) := by decide +kernel
theorem dX5_undo_13 : decode cX5_undo 13 = .ok (.aload_n 0, 1) := by decide +kernel
theorem dX5_undo_14 : decode cX5_undo 14 = .ok (.getfield 38, 3) := by decide +kernel
theorem dX5_undo_17 : decode cX5_undo 17 = .ok (.aload_n 0, 1) := by decide +kernel
theorem dX5_undo_18 : decode cX5_undo 18 = .ok (.getfield 28, 3) := by decide +kernel
theorem dX5_undo_21 : decode cX5_undo 21 = .ok (.invokevirtual 163, 3) := by decide +kernel
theorem dX5_undo_24 : decode cX5_undo 24 = .ok (.aload_n 0, 1) := by decide +kernel
theorem dX5_undo_25 : decode cX5_undo 25 = .ok (.getfield 38, 3) := by decide +kernel
theorem dX5_undo_28 : decode cX5_undo 28 = .ok (.getfield 160, 3) := by decide +kernel
theorem dX5_undo_31 : decode cX5_undo 31 = .ok (.ireturn, 1) := by decide +kernel
set_option maxRecDepth 20000 in
theorem ggX5_dust_X5_isStreet : GoodIn wsX5_dust wsX5_isStreet := goodIn_r _ [4] (by decide +kernel) (by decide +kernel)
set_option maxRecDepth 20000 in
theorem gX5_dust_X5_isStreet : GoodIn wsX5_dust (va_wsS RX5 93 yX5_isStreet wsX5_isStreet) := goodIn_app (goodIn_of _ (by decide +kernel)) ggX5_dust_X5_isStreet
set_option maxRecDepth 20000 in
theorem ggX5_dust_X5_within : GoodIn wsX5_dust wsX5_within := goodIn_r _ [7] (by decide +kernel) (by decide +kernel)
set_option maxRecDepth 20000 in
theorem gX5_dust_X5_within : GoodIn wsX5_dust (va_wsS RX5 61 yX5_within wsX5_within) := goodIn_app (goodIn_of _ (by decide +kernel)) ggX5_dust_X5_within
set_option maxRecDepth 20000 in
theorem ggX5_dust_X5_behind : GoodIn wsX5_dust wsX5_behind := goodIn_r _ [11, 12, 13, 14, 3, 15, 16, 17, 18, 19, 20, 21, 22, 23, 24, 25, 26, 27, 28, 29, 30, 31, 32, 33, 34, 35, 36, 37, 38, 39, 40, 41, 42, 43, 44, 45, 46, 47, 48, 2, 4, 49, 50, 51, 52, 53, 54, 55, 56, 57, 58, 59, 60, 61, 62, 63, 64, 65, 66, 67, 68, 69, 70, 71, 72, 73, 74, 75, 76, 77, 78, 79, 80, 81, 82, 83, 84, 85, 86, 87, 88, 89, 90, 91, 92, 93, 94, 95, 100, 101, 102, 103, 104, 105, 106, 107, 108, 109, 110, 111, 112, 113, 114, 115, 116, 117, 118, 119, 120, 121, 122, 123] (by decide +kernel) (by decide +kernel)
set_option maxRecDepth 20000 in
theorem gX5_dust_X5_behind : GoodIn wsX5_dust (wsV RX5 166 RX5 yX5_behind wsX5_behind) := goodIn_app (goodIn_of _ (by decide +kernel)) ggX5_dust_X5_behind
set_option maxRecDepth 20000 in
theorem ggX5_dust_X2_dustIn : GoodIn wsX5_dust wsX2_dustIn := goodIn_r _ [99, 23, 2, 3, 4, 109, 110, 111, 112, 113, 114, 115] (by decide +kernel) (by decide +kernel)
set_option maxRecDepth 20000 in
theorem gX5_dust_X2_dustIn : GoodIn wsX5_dust (wsV RX5 97 RX2 yX2_dustIn wsX2_dustIn) := goodIn_app (goodIn_of _ (by decide +kernel)) ggX5_dust_X2_dustIn
theorem dX5_dust_0 : decode cX5_dust 0 = .ok (.iload_n 1, 1) := by decide +kernel
theorem dX5_dust_1 : decode cX5_dust 1 = .ok (.invokestatic 93, 3) := by decide +kernel
theorem dX5_dust_4 : decode cX5_dust 4 = .ok (.ifCond .ne 5, 3) := by decide +kernel
theorem dX5_dust_7 : decode cX5_dust 7 = .ok (.iconst (-1), 1) := by decide +kernel
theorem dX5_dust_8 : decode cX5_dust 8 = .ok (.ireturn, 1) := by decide +kernel
theorem dX5_dust_9 : decode cX5_dust 9 = .ok (.iload_n 2, 1) := by decide +kernel
theorem dX5_dust_10 : decode cX5_dust 10 = .ok (.iconst 0, 1) := by decide +kernel
theorem dX5_dust_11 : decode cX5_dust 11 = .ok (.bipush 30, 2) := by decide +kernel
theorem dX5_dust_13 : decode cX5_dust 13 = .ok (.invokestatic 61, 3) := by decide +kernel
theorem dX5_dust_16 : decode cX5_dust 16 = .ok (.ifCond .ne 6, 3) := by decide +kernel
theorem dX5_dust_19 : decode cX5_dust 19 = .ok (.bipush (-2), 2) := by decide +kernel
theorem dX5_dust_21 : decode cX5_dust 21 = .ok (.ireturn, 1) := by decide +kernel
theorem dX5_dust_22 : decode cX5_dust 22 = .ok (.aload_n 0, 1) := by decide +kernel
theorem dX5_dust_23 : decode cX5_dust 23 = .ok (.iload_n 2, 1) := by decide +kernel
theorem dX5_dust_24 : decode cX5_dust 24 = .ok (.bipush 31, 2) := by decide +kernel
theorem dX5_dust_26 : decode cX5_dust 26 = .ok (.invokevirtual 166, 3) := by decide +kernel
theorem dX5_dust_29 : decode cX5_dust 29 = .ok (.iload_n 1, 1) := by decide +kernel
theorem dX5_dust_30 : decode cX5_dust 30 = .ok (.invokevirtual 97, 3) := by decide +kernel
theorem dX5_dust_33 : decode cX5_dust 33 = .ok (.ireturn, 1) := by decide +kernel
set_option maxRecDepth 20000 in
theorem ggX5_knees_X5_within : GoodIn wsX5_knees wsX5_within := goodIn_r _ [4] (by decide +kernel) (by decide +kernel)
set_option maxRecDepth 20000 in
theorem gX5_knees_X5_within : GoodIn wsX5_knees (va_wsS RX5 61 yX5_within wsX5_within) := goodIn_app (goodIn_of _ (by decide +kernel)) ggX5_knees_X5_within
set_option maxRecDepth 20000 in
theorem ggX5_knees_X5_behind : GoodIn wsX5_knees wsX5_behind := goodIn_r _ [8, 9, 10, 11, 3, 12, 13, 14, 15, 16, 17, 18, 19, 20, 21, 22, 23, 24, 25, 26, 27, 28, 29, 30, 31, 32, 33, 34, 35, 36, 37, 38, 39, 40, 41, 42, 43, 44, 45, 46, 47, 48, 49, 50, 51, 52, 53, 54, 55, 56, 57, 58, 59, 60, 61, 62, 63, 64, 65, 66, 67, 68, 69, 70, 71, 72, 73, 74, 75, 76, 77, 78, 79, 80, 81, 82, 83, 84, 85, 86, 87, 88, 89, 90, 91, 92, 93, 94, 107, 108, 109, 110, 111, 112, 113, 114, 115, 116, 117, 118, 119, 120, 121, 122, 123, 124, 125, 126, 127, 128, 129, 130] (by decide +kernel) (by decide +kernel)
set_option maxRecDepth 20000 in
theorem gX5_knees_X5_behind : GoodIn wsX5_knees (wsV RX5 166 RX5 yX5_behind wsX5_behind) := goodIn_app (goodIn_of _ (by decide +kernel)) ggX5_knees_X5_behind
set_option maxRecDepth 20000 in
theorem ggX5_knees_X2_deepStreets : GoodIn wsX5_knees wsX2_deepStreets := goodIn_r _ [98, 99, 100, 101, 18, 102, 103, 104, 105, 106, 20, 46, 3, 47, 116, 117, 118, 119, 120, 121, 122] (by decide +kernel) (by decide +kernel)
set_option maxRecDepth 20000 in
theorem gX5_knees_X2_deepStreets : GoodIn wsX5_knees (wsV RX5 170 RX2 yX2_deepStreets wsX2_deepStreets) := goodIn_app (goodIn_of _ (by decide +kernel)) ggX5_knees_X2_deepStreets
theorem dX5_knees_0 : decode cX5_knees 0 = .ok (.iload_n 1, 1) := by decide +kernel
theorem dX5_knees_1 : decode cX5_knees 1 = .ok (.iconst 0, 1) := by decide +kernel
theorem dX5_knees_2 : decode cX5_knees 2 = .ok (.bipush 30, 2) := by decide +kernel
theorem dX5_knees_4 : decode cX5_knees 4 = .ok (.invokestatic 61, 3) := by decide +kernel
theorem dX5_knees_7 : decode cX5_knees 7 = .ok (.ifCond .ne 6, 3) := by decide +kernel
theorem dX5_knees_10 : decode cX5_knees 10 = .ok (.bipush (-2), 2) := by decide +kernel
theorem dX5_knees_12 : decode cX5_knees 12 = .ok (.ireturn, 1) := by decide +kernel
theorem dX5_knees_13 : decode cX5_knees 13 = .ok (.aload_n 0, 1) := by decide +kernel
theorem dX5_knees_14 : decode cX5_knees 14 = .ok (.iload_n 1, 1) := by decide +kernel
theorem dX5_knees_15 : decode cX5_knees 15 = .ok (.bipush 31, 2) := by decide +kernel
theorem dX5_knees_17 : decode cX5_knees 17 = .ok (.invokevirtual 166, 3) := by decide +kernel
theorem dX5_knees_20 : decode cX5_knees 20 = .ok (.invokevirtual 170, 3) := by decide +kernel
theorem dX5_knees_23 : decode cX5_knees 23 = .ok (.ireturn, 1) := by decide +kernel
set_option maxRecDepth 20000 in
theorem ggX5_knee_X5_within : GoodIn wsX5_knee wsX5_within := goodIn_r _ [4] (by decide +kernel) (by decide +kernel)
set_option maxRecDepth 20000 in
theorem gX5_knee_X5_within : GoodIn wsX5_knee (va_wsS RX5 61 yX5_within wsX5_within) := goodIn_app (goodIn_of _ (by decide +kernel)) ggX5_knee_X5_within
set_option maxRecDepth 20000 in
theorem ggX5_knee_X5_fromNow : GoodIn wsX5_knee wsX5_fromNow := goodIn_r _ [8, 9, 10, 11, 12, 13, 14, 15, 16, 17, 18, 19, 20, 21, 22, 23, 24, 103, 104, 105, 106, 107, 108, 109, 110, 111, 112, 113, 114, 115, 116, 117, 118] (by decide +kernel) (by decide +kernel)
set_option maxRecDepth 20000 in
theorem gX5_knee_X5_fromNow : GoodIn wsX5_knee (wsV RX5 173 RX5 yX5_fromNow wsX5_fromNow) := goodIn_app (goodIn_of _ (by decide +kernel)) ggX5_knee_X5_fromNow
set_option maxRecDepth 20000 in
theorem ggX5_knee_X2_firstDeep : GoodIn wsX5_knee wsX2_firstDeep := goodIn_r _ [28, 29, 30, 31, 14, 32, 33, 34, 35, 36, 16, 37, 3, 38, 112, 113, 114, 115, 116, 117, 118] (by decide +kernel) (by decide +kernel)
set_option maxRecDepth 20000 in
theorem gX5_knee_X2_firstDeep : GoodIn wsX5_knee (wsV RX5 177 RX2 yX2_firstDeep wsX2_firstDeep) := goodIn_app (goodIn_of _ (by decide +kernel)) ggX5_knee_X2_firstDeep
set_option maxRecDepth 20000 in
theorem ggX5_knee_X2_passDawn : GoodIn wsX5_knee wsX2_passDawn := goodIn_r _ [42, 43, 24, 44, 45, 46, 14, 47, 48, 49, 50, 51, 16, 52, 53, 54, 55, 37, 3, 38, 56, 57, 58, 59, 60, 61, 62, 63, 21, 64, 65, 66, 67, 68, 69, 70, 71, 72, 73, 74, 75, 76, 77, 78, 22, 79, 80, 81, 82, 83, 84, 85, 86, 87, 23, 88, 89, 90, 91, 92, 93, 94, 95, 96, 97, 98, 99, 100, 101, 102, 112, 113, 114, 115, 116, 117, 118, 119, 120, 121, 122, 123, 124, 125, 126] (by decide +kernel) (by decide +kernel)
set_option maxRecDepth 20000 in
theorem gX5_knee_X2_passDawn : GoodIn wsX5_knee (wsV RX5 129 RX2 yX2_passDawn wsX2_passDawn) := goodIn_app (goodIn_of _ (by decide +kernel)) ggX5_knee_X2_passDawn
theorem dX5_knee_0 : decode cX5_knee 0 = .ok (.iload_n 1, 1) := by decide +kernel
theorem dX5_knee_1 : decode cX5_knee 1 = .ok (.iconst 0, 1) := by decide +kernel
theorem dX5_knee_2 : decode cX5_knee 2 = .ok (.iconst 1, 1) := by decide +kernel
theorem dX5_knee_3 : decode cX5_knee 3 = .ok (.invokestatic 61, 3) := by decide +kernel
theorem dX5_knee_6 : decode cX5_knee 6 = .ok (.ifCond .ne 6, 3) := by decide +kernel
theorem dX5_knee_9 : decode cX5_knee 9 = .ok (.bipush (-2), 2) := by decide +kernel
theorem dX5_knee_11 : decode cX5_knee 11 = .ok (.ireturn, 1) := by decide +kernel
theorem dX5_knee_12 : decode cX5_knee 12 = .ok (.aload_n 0, 1) := by decide +kernel
theorem dX5_knee_13 : decode cX5_knee 13 = .ok (.invokevirtual 173, 3) := by decide +kernel
theorem dX5_knee_16 : decode cX5_knee 16 = .ok (.astore_n 2, 1) := by decide +kernel
theorem dX5_knee_17 : decode cX5_knee 17 = .ok (.iconst 0, 1) := by decide +kernel
theorem dX5_knee_18 : decode cX5_knee 18 = .ok (.istore_n 3, 1) := by decide +kernel
theorem dX5_knee_19 : decode cX5_knee 19 = .ok (.iload_n 3, 1) := by decide +kernel
theorem dX5_knee_20 : decode cX5_knee 20 = .ok (.bipush 30, 2) := by decide +kernel
theorem dX5_knee_22 : decode cX5_knee 22 = .ok (.if_icmp .gt 40, 3) := by decide +kernel
theorem dX5_knee_25 : decode cX5_knee 25 = .ok (.aload_n 2, 1) := by decide +kernel
theorem dX5_knee_26 : decode cX5_knee 26 = .ok (.invokevirtual 177, 3) := by decide +kernel
theorem dX5_knee_29 : decode cX5_knee 29 = .ok (.istore 4, 2) := by decide +kernel
theorem dX5_knee_31 : decode cX5_knee 31 = .ok (.iload 4, 2) := by decide +kernel
theorem dX5_knee_33 : decode cX5_knee 33 = .ok (.bipush (-9), 2) := by decide +kernel
theorem dX5_knee_35 : decode cX5_knee 35 = .ok (.if_icmp .eq 14, 3) := by decide +kernel
theorem dX5_knee_38 : decode cX5_knee 38 = .ok (.iload_n 1, 1) := by decide +kernel
theorem dX5_knee_39 : decode cX5_knee 39 = .ok (.ifCond .ne 7, 3) := by decide +kernel
theorem dX5_knee_42 : decode cX5_knee 42 = .ok (.iload_n 3, 1) := by decide +kernel
theorem dX5_knee_43 : decode cX5_knee 43 = .ok (.goto 5, 3) := by decide +kernel
theorem dX5_knee_46 : decode cX5_knee 46 = .ok (.iload 4, 2) := by decide +kernel
theorem dX5_knee_48 : decode cX5_knee 48 = .ok (.ireturn, 1) := by decide +kernel
theorem dX5_knee_49 : decode cX5_knee 49 = .ok (.aload_n 2, 1) := by decide +kernel
theorem dX5_knee_50 : decode cX5_knee 50 = .ok (.bipush 31, 2) := by decide +kernel
theorem dX5_knee_52 : decode cX5_knee 52 = .ok (.iconst 1, 1) := by decide +kernel
theorem dX5_knee_53 : decode cX5_knee 53 = .ok (.invokevirtual 129, 3) := by decide +kernel
theorem dX5_knee_56 : decode cX5_knee 56 = .ok (.iinc 3 1, 3) := by decide +kernel
theorem dX5_knee_59 : decode cX5_knee 59 = .ok (.goto (-40), 3) := by decide +kernel
theorem dX5_knee_62 : decode cX5_knee 62 = .ok (.bipush (-9), 2) := by decide +kernel
theorem dX5_knee_64 : decode cX5_knee 64 = .ok (.ireturn, 1) := by decide +kernel
set_option maxRecDepth 20000 in
theorem ggX5_best_X4_hasBroom : GoodIn wsX5_best wsX4_hasBroom := goodIn_r _ [6, 7, 110, 111, 112, 113, 114, 115, 116, 117] (by decide +kernel) (by decide +kernel)
set_option maxRecDepth 20000 in
theorem gX5_best_X4_hasBroom : GoodIn wsX5_best (wsV RX5 107 RX4 yX4_hasBroom wsX4_hasBroom) := goodIn_app (goodIn_of _ (by decide +kernel)) ggX5_best_X4_hasBroom
set_option maxRecDepth 20000 in
theorem ggX5_best_X5_within : GoodIn wsX5_best wsX5_within := goodIn_r _ [11] (by decide +kernel) (by decide +kernel)
set_option maxRecDepth 20000 in
theorem gX5_best_X5_within : GoodIn wsX5_best (va_wsS RX5 61 yX5_within wsX5_within) := goodIn_app (goodIn_of _ (by decide +kernel)) ggX5_best_X5_within
set_option maxRecDepth 20000 in
theorem ggX5_best_X5_fromNow : GoodIn wsX5_best wsX5_fromNow := goodIn_r _ [15, 16, 17, 18, 19, 20, 21, 22, 23, 24, 25, 26, 27, 28, 29, 30, 31, 101, 102, 103, 104, 105, 106, 107, 108, 109, 118, 119, 120, 121, 122, 123, 124] (by decide +kernel) (by decide +kernel)
set_option maxRecDepth 20000 in
theorem gX5_best_X5_fromNow : GoodIn wsX5_best (wsV RX5 173 RX5 yX5_fromNow wsX5_fromNow) := goodIn_app (goodIn_of _ (by decide +kernel)) ggX5_best_X5_fromNow
set_option maxRecDepth 20000 in
theorem ggX5_best_X2_goTo : GoodIn wsX5_best wsX2_goTo := goodIn_r _ [35, 36, 28, 37, 3, 4, 5, 6, 7, 118, 119, 120, 121, 122, 123, 124, 110, 111, 112, 113, 114, 115, 116, 117] (by decide +kernel) (by decide +kernel)
set_option maxRecDepth 20000 in
theorem gX5_best_X2_goTo : GoodIn wsX5_best (wsV RX5 180 RX2 yX2_goTo wsX2_goTo) := goodIn_app (goodIn_of _ (by decide +kernel)) ggX5_best_X2_goTo
set_option maxRecDepth 20000 in
theorem ggX5_best_X2_passDawn : GoodIn wsX5_best wsX2_passDawn := goodIn_r _ [41, 36, 31, 42, 43, 44, 21, 45, 46, 47, 48, 49, 23, 50, 51, 52, 53, 54, 10, 55, 56, 57, 58, 59, 60, 61, 62, 63, 28, 37, 3, 4, 5, 6, 7, 64, 65, 66, 67, 68, 69, 70, 71, 72, 29, 73, 74, 75, 76, 77, 78, 79, 80, 81, 30, 82, 83, 84, 85, 86, 87, 88, 89, 90, 91, 92, 93, 94, 95, 96, 118, 119, 120, 121, 122, 123, 124, 110, 111, 112, 113, 114, 115, 116, 117] (by decide +kernel) (by decide +kernel)
set_option maxRecDepth 20000 in
theorem gX5_best_X2_passDawn : GoodIn wsX5_best (wsV RX5 129 RX2 yX2_passDawn wsX2_passDawn) := goodIn_app (goodIn_of _ (by decide +kernel)) ggX5_best_X2_passDawn
set_option maxRecDepth 20000 in
theorem ggX5_best_X2_allDust : GoodIn wsX5_best wsX2_allDust := goodIn_r _ [100, 23, 118, 119, 120, 121, 122, 123, 124] (by decide +kernel) (by decide +kernel)
set_option maxRecDepth 20000 in
theorem gX5_best_X2_allDust : GoodIn wsX5_best (wsV RX5 133 RX2 yX2_allDust wsX2_allDust) := goodIn_app (goodIn_of _ (by decide +kernel)) ggX5_best_X2_allDust
theorem dX5_best_0 : decode cX5_best 0 = .ok (.aload_n 0, 1) := by decide +kernel
theorem dX5_best_1 : decode cX5_best 1 = .ok (.getfield 19, 3) := by decide +kernel
theorem dX5_best_4 : decode cX5_best 4 = .ok (.iload_n 1, 1) := by decide +kernel
theorem dX5_best_5 : decode cX5_best 5 = .ok (.invokevirtual 107, 3) := by decide +kernel
theorem dX5_best_8 : decode cX5_best 8 = .ok (.ifCond .ne 5, 3) := by decide +kernel
theorem dX5_best_11 : decode cX5_best 11 = .ok (.iconst (-1), 1) := by decide +kernel
theorem dX5_best_12 : decode cX5_best 12 = .ok (.ireturn, 1) := by decide +kernel
theorem dX5_best_13 : decode cX5_best 13 = .ok (.iload_n 2, 1) := by decide +kernel
theorem dX5_best_14 : decode cX5_best 14 = .ok (.iconst 1, 1) := by decide +kernel
theorem dX5_best_15 : decode cX5_best 15 = .ok (.bipush 9, 2) := by decide +kernel
theorem dX5_best_17 : decode cX5_best 17 = .ok (.invokestatic 61, 3) := by decide +kernel
theorem dX5_best_20 : decode cX5_best 20 = .ok (.ifCond .eq 12, 3) := by decide +kernel
theorem dX5_best_23 : decode cX5_best 23 = .ok (.iload_n 3, 1) := by decide +kernel
theorem dX5_best_24 : decode cX5_best 24 = .ok (.iconst 0, 1) := by decide +kernel
theorem dX5_best_25 : decode cX5_best 25 = .ok (.iconst 1, 1) := by decide +kernel
theorem dX5_best_26 : decode cX5_best 26 = .ok (.invokestatic 61, 3) := by decide +kernel
theorem dX5_best_29 : decode cX5_best 29 = .ok (.ifCond .ne 6, 3) := by decide +kernel
theorem dX5_best_32 : decode cX5_best 32 = .ok (.bipush (-2), 2) := by decide +kernel
theorem dX5_best_34 : decode cX5_best 34 = .ok (.ireturn, 1) := by decide +kernel
theorem dX5_best_35 : decode cX5_best 35 = .ok (.iconst 0, 1) := by decide +kernel
theorem dX5_best_36 : decode cX5_best 36 = .ok (.istore 4, 2) := by decide +kernel
theorem dX5_best_38 : decode cX5_best 38 = .ok (.sipush 793, 3) := by decide +kernel
theorem dX5_best_41 : decode cX5_best 41 = .ok (.istore 5, 2) := by decide +kernel
theorem dX5_best_43 : decode cX5_best 43 = .ok (.iconst 0, 1) := by decide +kernel
theorem dX5_best_44 : decode cX5_best 44 = .ok (.istore 6, 2) := by decide +kernel
theorem dX5_best_46 : decode cX5_best 46 = .ok (.iload 6, 2) := by decide +kernel
theorem dX5_best_48 : decode cX5_best 48 = .ok (.bipush 8, 2) := by decide +kernel
theorem dX5_best_50 : decode cX5_best 50 = .ok (.if_icmp .ge 67, 3) := by decide +kernel
theorem dX5_best_53 : decode cX5_best 53 = .ok (.aload_n 0, 1) := by decide +kernel
theorem dX5_best_54 : decode cX5_best 54 = .ok (.invokevirtual 173, 3) := by decide +kernel
theorem dX5_best_57 : decode cX5_best 57 = .ok (.astore 7, 2) := by decide +kernel
theorem dX5_best_59 : decode cX5_best 59 = .ok (.aload 7, 2) := by decide +kernel
theorem dX5_best_61 : decode cX5_best 61 = .ok (.iload_n 1, 1) := by decide +kernel
theorem dX5_best_62 : decode cX5_best 62 = .ok (.iload 6, 2) := by decide +kernel
theorem dX5_best_64 : decode cX5_best 64 = .ok (.invokevirtual 180, 3) := by decide +kernel
theorem dX5_best_67 : decode cX5_best 67 = .ok (.iconst 0, 1) := by decide +kernel
theorem dX5_best_68 : decode cX5_best 68 = .ok (.istore 8, 2) := by decide +kernel
theorem dX5_best_70 : decode cX5_best 70 = .ok (.iload 8, 2) := by decide +kernel
theorem dX5_best_72 : decode cX5_best 72 = .ok (.iload_n 2, 1) := by decide +kernel
theorem dX5_best_73 : decode cX5_best 73 = .ok (.if_icmp .ge 17, 3) := by decide +kernel
theorem dX5_best_76 : decode cX5_best 76 = .ok (.aload 7, 2) := by decide +kernel
theorem dX5_best_78 : decode cX5_best 78 = .ok (.bipush 31, 2) := by decide +kernel
theorem dX5_best_80 : decode cX5_best 80 = .ok (.iconst 1, 1) := by decide +kernel
theorem dX5_best_81 : decode cX5_best 81 = .ok (.invokevirtual 129, 3) := by decide +kernel
theorem dX5_best_84 : decode cX5_best 84 = .ok (.iinc 8 1, 3) := by decide +kernel
theorem dX5_best_87 : decode cX5_best 87 = .ok (.goto (-17), 3) := by decide +kernel
theorem dX5_best_90 : decode cX5_best 90 = .ok (.aload 7, 2) := by decide +kernel
theorem dX5_best_92 : decode cX5_best 92 = .ok (.invokevirtual 133, 3) := by decide +kernel
theorem dX5_best_95 : decode cX5_best 95 = .ok (.iload 5, 2) := by decide +kernel
theorem dX5_best_97 : decode cX5_best 97 = .ok (.if_icmp .ge 14, 3) := by decide +kernel
theorem dX5_best_100 : decode cX5_best 100 = .ok (.iload 6, 2) := by decide +kernel
theorem dX5_best_102 : decode cX5_best 102 = .ok (.istore 4, 2) := by decide +kernel
theorem dX5_best_104 : decode cX5_best 104 = .ok (.aload 7, 2) := by decide +kernel
theorem dX5_best_106 : decode cX5_best 106 = .ok (.invokevirtual 133, 3) := by decide +kernel
theorem dX5_best_109 : decode cX5_best 109 = .ok (.istore 5, 2) := by decide +kernel
theorem dX5_best_111 : decode cX5_best 111 = .ok (.iinc 6 1, 3) := by decide +kernel
theorem dX5_best_114 : decode cX5_best 114 = .ok (.goto (-68), 3) := by decide +kernel
theorem dX5_best_117 : decode cX5_best 117 = .ok (.iload_n 3, 1) := by decide +kernel
theorem dX5_best_118 : decode cX5_best 118 = .ok (.ifCond .ne 8, 3) := by decide +kernel
theorem dX5_best_121 : decode cX5_best 121 = .ok (.iload 4, 2) := by decide +kernel
theorem dX5_best_123 : decode cX5_best 123 = .ok (.goto 5, 3) := by decide +kernel
theorem dX5_best_126 : decode cX5_best 126 = .ok (.iload 5, 2) := by decide +kernel
theorem dX5_best_128 : decode cX5_best 128 = .ok (.ireturn, 1) := by decide +kernel
set_option maxRecDepth 20000 in
theorem ggX5_bends_X5_within : GoodIn wsX5_bends wsX5_within := goodIn_r _ [6] (by decide +kernel) (by decide +kernel)
set_option maxRecDepth 20000 in
theorem gX5_bends_X5_within : GoodIn wsX5_bends (va_wsS RX5 61 yX5_within wsX5_within) := goodIn_app (goodIn_of _ (by decide +kernel)) ggX5_bends_X5_within
set_option maxRecDepth 20000 in
theorem ggX5_bends_J6_bitCount_0f7a4 : GoodIn wsX5_bends wsJ6_bitCount_0f7a4 := goodIn_r _ [10, 11, 12, 13] (by decide +kernel) (by decide +kernel)
set_option maxRecDepth 20000 in
theorem gX5_bends_J6_bitCount_0f7a4 : GoodIn wsX5_bends (va_wsS RX5 152 yJ6_bitCount_0f7a4 wsJ6_bitCount_0f7a4) := goodIn_app (goodIn_of _ (by decide +kernel)) ggX5_bends_J6_bitCount_0f7a4
set_option maxRecDepth 20000 in
theorem ggX5_bends_X5_staysShallow : GoodIn wsX5_bends wsX5_staysShallow := goodIn_r _ [17, 18, 19, 20, 5, 21, 22, 2, 23, 24, 25, 26, 27, 28, 29, 30, 31, 32, 33, 34, 35, 36, 37, 38, 39, 40, 41, 42, 43, 44, 45, 46, 47, 48, 49, 50, 51, 52, 53, 54, 55, 56, 57, 58, 59, 60, 61, 62, 63, 64, 65, 66, 67, 68, 69, 70, 71, 72, 73, 74, 75, 76, 77, 78, 79, 80, 81, 82, 83, 84, 85, 86, 87, 88, 89, 90, 91, 92, 93, 94, 95, 96, 97, 98, 99, 100, 101, 102, 103, 104, 105, 106, 107, 108, 109, 110, 111, 112, 113, 114, 115, 116, 117, 118, 119, 120, 121, 122, 123, 124, 125, 126, 127, 136, 137, 138, 139, 140, 141, 142, 128, 129, 130, 131, 132, 133, 134, 135] (by decide +kernel) (by decide +kernel)
set_option maxRecDepth 20000 in
theorem gX5_bends_X5_staysShallow : GoodIn wsX5_bends (wsV RX5 183 RX5 yX5_staysShallow wsX5_staysShallow) := goodIn_app (goodIn_of _ (by decide +kernel)) ggX5_bends_X5_staysShallow
theorem dX5_bends_0 : decode cX5_bends 0 = .ok (.iload_n 1, 1) := by decide +kernel
theorem dX5_bends_1 : decode cX5_bends 1 = .ok (.iconst 1, 1) := by decide +kernel
