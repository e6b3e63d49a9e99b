theorem dX5_bends_2 : decode cX5_bends 2 = .ok (.bipush 9, 2) := by decide +kernel
theorem dX5_bends_4 : decode cX5_bends 4 = .ok (.invokestatic 61, 3) := by decide +kernel
theorem dX5_bends_7 : decode cX5_bends 7 = .ok (.ifCond .ne 6, 3) := by decide +kernel
theorem dX5_bends_10 : decode cX5_bends 10 = .ok (.bipush (-2), 2) := by decide +kernel
theorem dX5_bends_12 : decode cX5_bends 12 = .ok (.ireturn, 1) := by decide +kernel
theorem dX5_bends_13 : decode cX5_bends 13 = .ok (.bipush (-9), 2) := by decide +kernel
theorem dX5_bends_15 : decode cX5_bends 15 = .ok (.istore_n 2, 1) := by decide +kernel
theorem dX5_bends_16 : decode cX5_bends 16 = .ok (.bipush 6, 2) := by decide +kernel
theorem dX5_bends_18 : decode cX5_bends 18 = .ok (.istore_n 3, 1) := by decide +kernel
theorem dX5_bends_19 : decode cX5_bends 19 = .ok (.iconst 0, 1) := by decide +kernel
theorem dX5_bends_20 : decode cX5_bends 20 = .ok (.istore 4, 2) := by decide +kernel
theorem dX5_bends_22 : decode cX5_bends 22 = .ok (.iload 4, 2) := by decide +kernel
theorem dX5_bends_24 : decode cX5_bends 24 = .ok (.iconst 1, 1) := by decide +kernel
theorem dX5_bends_25 : decode cX5_bends 25 = .ok (.aload_n 0, 1) := by decide +kernel
theorem dX5_bends_26 : decode cX5_bends 26 = .ok (.getfield 19, 3) := by decide +kernel
theorem dX5_bends_29 : decode cX5_bends 29 = .ok (.getfield 87, 3) := by decide +kernel
theorem dX5_bends_32 : decode cX5_bends 32 = .ok (.ishl, 1) := by decide +kernel
theorem dX5_bends_33 : decode cX5_bends 33 = .ok (.if_icmp .ge 62, 3) := by decide +kernel
theorem dX5_bends_36 : decode cX5_bends 36 = .ok (.iload 4, 2) := by decide +kernel
theorem dX5_bends_38 : decode cX5_bends 38 = .ok (.aload_n 0, 1) := by decide +kernel
theorem dX5_bends_39 : decode cX5_bends 39 = .ok (.getfield 28, 3) := by decide +kernel
theorem dX5_bends_42 : decode cX5_bends 42 = .ok (.getfield 149, 3) := by decide +kernel
theorem dX5_bends_45 : decode cX5_bends 45 = .ok (.iand, 1) := by decide +kernel
theorem dX5_bends_46 : decode cX5_bends 46 = .ok (.ifCond .ne 7, 3) := by decide +kernel
theorem dX5_bends_49 : decode cX5_bends 49 = .ok (.iconst 1, 1) := by decide +kernel
theorem dX5_bends_50 : decode cX5_bends 50 = .ok (.goto 4, 3) := by decide +kernel
theorem dX5_bends_53 : decode cX5_bends 53 = .ok (.iconst 0, 1) := by decide +kernel
theorem dX5_bends_54 : decode cX5_bends 54 = .ok (.istore 5, 2) := by decide +kernel
theorem dX5_bends_56 : decode cX5_bends 56 = .ok (.iload 5, 2) := by decide +kernel
theorem dX5_bends_58 : decode cX5_bends 58 = .ok (.ifCond .eq 31, 3) := by decide +kernel
theorem dX5_bends_61 : decode cX5_bends 61 = .ok (.iload 4, 2) := by decide +kernel
theorem dX5_bends_63 : decode cX5_bends 63 = .ok (.invokestatic 152, 3) := by decide +kernel
theorem dX5_bends_66 : decode cX5_bends 66 = .ok (.iload_n 3, 1) := by decide +kernel
theorem dX5_bends_67 : decode cX5_bends 67 = .ok (.if_icmp .ge 22, 3) := by decide +kernel
theorem dX5_bends_70 : decode cX5_bends 70 = .ok (.aload_n 0, 1) := by decide +kernel
theorem dX5_bends_71 : decode cX5_bends 71 = .ok (.iload 4, 2) := by decide +kernel
theorem dX5_bends_73 : decode cX5_bends 73 = .ok (.iload_n 1, 1) := by decide +kernel
theorem dX5_bends_74 : decode cX5_bends 74 = .ok (.invokevirtual 183, 3) := by decide +kernel
theorem dX5_bends_77 : decode cX5_bends 77 = .ok (.ifCond .eq 12, 3) := by decide +kernel
theorem dX5_bends_80 : decode cX5_bends 80 = .ok (.iload 4, 2) := by decide +kernel
theorem dX5_bends_82 : decode cX5_bends 82 = .ok (.istore_n 2, 1) := by decide +kernel
theorem dX5_bends_83 : decode cX5_bends 83 = .ok (.iload 4, 2) := by decide +kernel
theorem dX5_bends_85 : decode cX5_bends 85 = .ok (.invokestatic 152, 3) := by decide +kernel
theorem dX5_bends_88 : decode cX5_bends 88 = .ok (.istore_n 3, 1) := by decide +kernel
theorem dX5_bends_89 : decode cX5_bends 89 = .ok (.iinc 4 1, 3) := by decide +kernel
theorem dX5_bends_92 : decode cX5_bends 92 = .ok (.goto (-70), 3) := by decide +kernel
theorem dX5_bends_95 : decode cX5_bends 95 = .ok (.iload_n 2, 1) := by decide +kernel
theorem dX5_bends_96 : decode cX5_bends 96 = .ok (.ireturn, 1) := by decide +kernel
set_option maxRecDepth 20000 in
theorem ggX5_judge_X5_within : GoodIn wsX5_judge wsX5_within := goodIn_r _ [9] (by decide +kernel) (by decide +kernel)
set_option maxRecDepth 20000 in
theorem gX5_judge_X5_within : GoodIn wsX5_judge (va_wsS RX5 61 yX5_within wsX5_within) := goodIn_app (goodIn_of _ (by decide +kernel)) ggX5_judge_X5_within
set_option maxRecDepth 20000 in
theorem ggX5_judge_X5_power : GoodIn wsX5_judge wsX5_power := goodIn_r _ [12] (by decide +kernel) (by decide +kernel)
set_option maxRecDepth 20000 in
theorem gX5_judge_X5_power : GoodIn wsX5_judge (va_wsS RX5 187 yX5_power wsX5_power) := goodIn_app (goodIn_of _ (by decide +kernel)) ggX5_judge_X5_power
set_option maxRecDepth 20000 in
theorem ggX5_judge_X5_fromNow : GoodIn wsX5_judge wsX5_fromNow := goodIn_r _ [16, 17, 18, 19, 20, 21, 22, 23, 24, 25, 26, 27, 28, 29, 30, 31, 32, 155, 156, 157, 158, 159, 160, 161, 162, 163, 164, 165, 166, 167, 168, 169, 170] (by decide +kernel) (by decide +kernel)
set_option maxRecDepth 20000 in
theorem gX5_judge_X5_fromNow : GoodIn wsX5_judge (wsV RX5 173 RX5 yX5_fromNow wsX5_fromNow) := goodIn_app (goodIn_of _ (by decide +kernel)) ggX5_judge_X5_fromNow
set_option maxRecDepth 20000 in
theorem ggX5_judge_X5_isSo : GoodIn wsX5_judge wsX5_isSo := goodIn_r _ [36, 37, 38, 39, 8, 40, 41, 42, 43, 44, 45, 46, 47, 6, 7, 9, 48, 49, 50, 22, 51, 52, 53, 54, 55, 56, 29, 57, 58, 59, 60, 61, 62, 63, 64, 65, 66, 67, 68, 69, 70, 71, 72, 73, 74, 24, 75, 76, 77, 78, 79, 80, 81, 82, 32, 83, 84, 85, 86, 87, 88, 89, 90, 91, 92, 3, 93, 94, 95, 96, 97, 98, 99, 100, 101, 102, 103, 104, 105, 106, 30, 107, 108, 109, 110, 111, 112, 113, 114, 115, 31, 116, 117, 118, 119, 120, 121, 122, 123, 124, 125, 126, 127, 128, 129, 130, 131, 132, 133, 134, 135, 136, 137, 138, 139, 140, 141, 142, 143, 144, 145, 146, 147, 148, 149, 150, 151, 152, 153, 154, 155, 156, 157, 158, 159, 160, 161, 162, 163, 171, 172, 173, 174, 175, 176, 177, 178, 164, 165, 166, 167, 168, 169, 170] (by decide +kernel) (by decide +kernel)
set_option maxRecDepth 20000 in
theorem gX5_judge_X5_isSo : GoodIn wsX5_judge (wsV RX5 199 RX5 yX5_isSo wsX5_isSo) := goodIn_app (goodIn_of _ (by decide +kernel)) ggX5_judge_X5_isSo
theorem dX5_judge_0 : decode cX5_judge 0 = .ok (.iload_n 1, 1) := by decide +kernel
theorem dX5_judge_1 : decode cX5_judge 1 = .ok (.iconst 1, 1) := by decide +kernel
theorem dX5_judge_2 : decode cX5_judge 2 = .ok (.iconst 4, 1) := by decide +kernel
theorem dX5_judge_3 : decode cX5_judge 3 = .ok (.invokestatic 61, 3) := by decide +kernel
theorem dX5_judge_6 : decode cX5_judge 6 = .ok (.ifCond .eq 21, 3) := by decide +kernel
theorem dX5_judge_9 : decode cX5_judge 9 = .ok (.lload_n 2, 1) := by decide +kernel
theorem dX5_judge_10 : decode cX5_judge 10 = .ok (.lconst 0, 1) := by decide +kernel
theorem dX5_judge_11 : decode cX5_judge 11 = .ok (.lcmp, 1) := by decide +kernel
theorem dX5_judge_12 : decode cX5_judge 12 = .ok (.ifCond .lt 15, 3) := by decide +kernel
theorem dX5_judge_15 : decode cX5_judge 15 = .ok (.lload_n 2, 1) := by decide +kernel
theorem dX5_judge_16 : decode cX5_judge 16 = .ok (.sipush 1000, 3) := by decide +kernel
theorem dX5_judge_19 : decode cX5_judge 19 = .ok (.iload_n 1, 1) := by decide +kernel
theorem dX5_judge_20 : decode cX5_judge 20 = .ok (.invokestatic 187, 3) := by decide +kernel
theorem dX5_judge_23 : decode cX5_judge 23 = .ok (.lcmp, 1) := by decide +kernel
theorem dX5_judge_24 : decode cX5_judge 24 = .ok (.ifCond .lt 6, 3) := by decide +kernel
theorem dX5_judge_27 : decode cX5_judge 27 = .ok (.bipush (-2), 2) := by decide +kernel
theorem dX5_judge_29 : decode cX5_judge 29 = .ok (.ireturn, 1) := by decide +kernel
theorem dX5_judge_30 : decode cX5_judge 30 = .ok (.aload_n 0, 1) := by decide +kernel
theorem dX5_judge_31 : decode cX5_judge 31 = .ok (.invokevirtual 173, 3) := by decide +kernel
theorem dX5_judge_34 : decode cX5_judge 34 = .ok (.astore 4, 2) := by decide +kernel
theorem dX5_judge_36 : decode cX5_judge 36 = .ok (.iconst 0, 1) := by decide +kernel
theorem dX5_judge_37 : decode cX5_judge 37 = .ok (.istore 5, 2) := by decide +kernel
theorem dX5_judge_39 : decode cX5_judge 39 = .ok (.iload 5, 2) := by decide +kernel
theorem dX5_judge_41 : decode cX5_judge 41 = .ok (.iload_n 1, 1) := by decide +kernel
theorem dX5_judge_42 : decode cX5_judge 42 = .ok (.if_icmp .ge 64, 3) := by decide +kernel
theorem dX5_judge_45 : decode cX5_judge 45 = .ok (.lload_n 2, 1) := by decide +kernel
theorem dX5_judge_46 : decode cX5_judge 46 = .ok (.lconst 1, 1) := by decide +kernel
theorem dX5_judge_47 : decode cX5_judge 47 = .ok (.sipush 1000, 3) := by decide +kernel
theorem dX5_judge_50 : decode cX5_judge 50 = .ok (.iload_n 1, 1) := by decide +kernel
theorem dX5_judge_51 : decode cX5_judge 51 = .ok (.iconst 1, 1) := by decide +kernel
theorem dX5_judge_52 : decode cX5_judge 52 = .ok (.isub, 1) := by decide +kernel
theorem dX5_judge_53 : decode cX5_judge 53 = .ok (.iload 5, 2) := by decide +kernel
theorem dX5_judge_55 : decode cX5_judge 55 = .ok (.isub, 1) := by decide +kernel
theorem dX5_judge_56 : decode cX5_judge 56 = .ok (.invokestatic 187, 3) := by decide +kernel
theorem dX5_judge_59 : decode cX5_judge 59 = .ok (.invokestatic 191, 3) := by decide +kernel
theorem dX5_judge_62 : decode cX5_judge 62 = .ok (.ldiv, 1) := by decide +kernel
theorem dX5_judge_63 : decode cX5_judge 63 = .ok (.ldc2_w 197, 3) := by decide +kernel
theorem dX5_judge_66 : decode cX5_judge 66 = .ok (.lrem, 1) := by decide +kernel
theorem dX5_judge_67 : decode cX5_judge 67 = .ok (.l2i, 1) := by decide +kernel
theorem dX5_judge_68 : decode cX5_judge 68 = .ok (.istore 6, 2) := by decide +kernel
theorem dX5_judge_70 : decode cX5_judge 70 = .ok (.aload_n 0, 1) := by decide +kernel
theorem dX5_judge_71 : decode cX5_judge 71 = .ok (.aload 4, 2) := by decide +kernel
theorem dX5_judge_73 : decode cX5_judge 73 = .ok (.iload 6, 2) := by decide +kernel
theorem dX5_judge_75 : decode cX5_judge 75 = .ok (.bipush 100, 2) := by decide +kernel
theorem dX5_judge_77 : decode cX5_judge 77 = .ok (.idiv, 1) := by decide +kernel
theorem dX5_judge_78 : decode cX5_judge 78 = .ok (.iload 6, 2) := by decide +kernel
theorem dX5_judge_80 : decode cX5_judge 80 = .ok (.bipush 10, 2) := by decide +kernel
theorem dX5_judge_82 : decode cX5_judge 82 = .ok (.idiv, 1) := by decide +kernel
theorem dX5_judge_83 : decode cX5_judge 83 = .ok (.bipush 10, 2) := by decide +kernel
theorem dX5_judge_85 : decode cX5_judge 85 = .ok (.irem, 1) := by decide +kernel
theorem dX5_judge_86 : decode cX5_judge 86 = .ok (.iload 6, 2) := by decide +kernel
theorem dX5_judge_88 : decode cX5_judge 88 = .ok (.bipush 10, 2) := by decide +kernel
theorem dX5_judge_90 : decode cX5_judge 90 = .ok (.irem, 1) := by decide +kernel
theorem dX5_judge_91 : decode cX5_judge 91 = .ok (.invokevirtual 199, 3) := by decide +kernel
theorem dX5_judge_94 : decode cX5_judge 94 = .ok (.ifCond .ne 6, 3) := by decide +kernel
theorem dX5_judge_97 : decode cX5_judge 97 = .ok (.iload 5, 2) := by decide +kernel
theorem dX5_judge_99 : decode cX5_judge 99 = .ok (.ireturn, 1) := by decide +kernel
theorem dX5_judge_100 : decode cX5_judge 100 = .ok (.iinc 5 1, 3) := by decide +kernel
theorem dX5_judge_103 : decode cX5_judge 103 = .ok (.goto (-64), 3) := by decide +kernel
theorem dX5_judge_106 : decode cX5_judge 106 = .ok (.bipush (-9), 2) := by decide +kernel
theorem dX5_judge_108 : decode cX5_judge 108 = .ok (.ireturn, 1) := by decide +kernel
set_option maxRecDepth 20000 in
theorem ggX5_heap_X5_within : GoodIn wsX5_heap wsX5_within := goodIn_r _ [5] (by decide +kernel) (by decide +kernel)
set_option maxRecDepth 20000 in
theorem gX5_heap_X5_within : GoodIn wsX5_heap (va_wsS RX5 61 yX5_within wsX5_within) := goodIn_app (goodIn_of _ (by decide +kernel)) ggX5_heap_X5_within
set_option maxRecDepth 20000 in
theorem ggX5_heap_X1_add : GoodIn wsX5_heap wsX1_add := goodIn_r _ [10, 11, 12, 13, 14, 24, 25, 26, 27] (by decide +kernel) (by decide +kernel)
set_option maxRecDepth 20000 in
theorem gX5_heap_X1_add : GoodIn wsX5_heap (wsV RX5 204 RX1 yX1_add wsX1_add) := goodIn_app (goodIn_of _ (by decide +kernel)) ggX5_heap_X1_add
theorem dX5_heap_0 : decode cX5_heap 0 = .ok (.iload_n 1, 1) := by decide +kernel
theorem dX5_heap_1 : decode cX5_heap 1 = .ok (.iconst 0, 1) := by decide +kernel
theorem dX5_heap_2 : decode cX5_heap 2 = .ok (.bipush 20, 2) := by decide +kernel
theorem dX5_heap_4 : decode cX5_heap 4 = .ok (.invokestatic 61, 3) := by decide +kernel
theorem dX5_heap_7 : decode cX5_heap 7 = .ok (.ifCond .eq 23, 3) := by decide +kernel
theorem dX5_heap_10 : decode cX5_heap 10 = .ok (.iload_n 2, 1) := by decide +kernel
theorem dX5_heap_11 : decode cX5_heap 11 = .ok (.iconst 0, 1) := by decide +kernel
theorem dX5_heap_12 : decode cX5_heap 12 = .ok (.bipush 20, 2) := by decide +kernel
theorem dX5_heap_14 : decode cX5_heap 14 = .ok (.invokestatic 61, 3) := by decide +kernel
theorem dX5_heap_17 : decode cX5_heap 17 = .ok (.ifCond .eq 13, 3) := by decide +kernel
theorem dX5_heap_20 : decode cX5_heap 20 = .ok (.iload_n 3, 1) := by decide +kernel
theorem dX5_heap_21 : decode cX5_heap 21 = .ok (.iconst 0, 1) := by decide +kernel
theorem dX5_heap_22 : decode cX5_heap 22 = .ok (.bipush 9, 2) := by decide +kernel
theorem dX5_heap_24 : decode cX5_heap 24 = .ok (.invokestatic 61, 3) := by decide +kernel
theorem dX5_heap_27 : decode cX5_heap 27 = .ok (.ifCond .ne 6, 3) := by decide +kernel
theorem dX5_heap_30 : decode cX5_heap 30 = .ok (.bipush (-2), 2) := by decide +kernel
theorem dX5_heap_32 : decode cX5_heap 32 = .ok (.ireturn, 1) := by decide +kernel
theorem dX5_heap_33 : decode cX5_heap 33 = .ok (.aload_n 0, 1) := by decide +kernel
theorem dX5_heap_34 : decode cX5_heap 34 = .ok (.getfield 45, 3) := by decide +kernel
theorem dX5_heap_37 : decode cX5_heap 37 = .ok (.getfield 203, 3) := by decide +kernel
theorem dX5_heap_40 : decode cX5_heap 40 = .ok (.bipush 6, 2) := by decide +kernel
theorem dX5_heap_42 : decode cX5_heap 42 = .ok (.if_icmp .lt 6, 3) := by decide +kernel
theorem dX5_heap_45 : decode cX5_heap 45 = .ok (.bipush (-4), 2) := by decide +kernel
theorem dX5_heap_47 : decode cX5_heap 47 = .ok (.ireturn, 1) := by decide +kernel
theorem dX5_heap_48 : decode cX5_heap 48 = .ok (.aload_n 0, 1) := by decide +kernel
theorem dX5_heap_49 : decode cX5_heap 49 = .ok (.getfield 45, 3) := by decide +kernel
theorem dX5_heap_52 : decode cX5_heap 52 = .ok (.iload_n 1, 1) := by decide +kernel
theorem dX5_heap_53 : decode cX5_heap 53 = .ok (.iload_n 2, 1) := by decide +kernel
theorem dX5_heap_54 : decode cX5_heap 54 = .ok (.iload_n 3, 1) := by decide +kernel
theorem dX5_heap_55 : decode cX5_heap 55 = .ok (.invokevirtual 204, 3) := by decide +kernel
theorem dX5_heap_58 : decode cX5_heap 58 = .ok (.aload_n 0, 1) := by decide +kernel
theorem dX5_heap_59 : decode cX5_heap 59 = .ok (.getfield 45, 3) := by decide +kernel
theorem dX5_heap_62 : decode cX5_heap 62 = .ok (.getfield 203, 3) := by decide +kernel
theorem dX5_heap_65 : decode cX5_heap 65 = .ok (.ireturn, 1) := by decide +kernel
theorem dX5_unheap_0 : decode cX5_unheap 0 = .ok (.aload_n 0, 1) := by decide +kernel
theorem dX5_unheap_1 : decode cX5_unheap 1 = .ok (.getfield 45, 3) := by decide +kernel
theorem dX5_unheap_4 : decode cX5_unheap 4 = .ok (.getfield 203, 3) := by decide +kernel
theorem dX5_unheap_7 : decode cX5_unheap 7 = .ok (.istore_n 1, 1) := by decide +kernel
theorem dX5_unheap_8 : decode cX5_unheap 8 = .ok (.aload_n 0, 1) := by decide +kernel
theorem dX5_unheap_9 : decode cX5_unheap 9 = .ok (.getfield 45, 3) := by decide +kernel
theorem dX5_unheap_12 : decode cX5_unheap 12 = .ok (.iconst 0, 1) := by decide +kernel
theorem dX5_unheap_13 : decode cX5_unheap 13 = .ok (.putfield 203, 3) := by decide +kernel
theorem dX5_unheap_16 : decode cX5_unheap 16 = .ok (.iload_n 1, 1) := by decide +kernel
theorem dX5_unheap_17 : decode cX5_unheap 17 = .ok (.ireturn, 1) := by decide +kernel
set_option maxRecDepth 20000 in
theorem ggX5_whose_X5_within : GoodIn wsX5_whose wsX5_within := goodIn_r _ [5] (by decide +kernel) (by decide +kernel)
set_option maxRecDepth 20000 in
theorem gX5_whose_X5_within : GoodIn wsX5_whose (va_wsS RX5 61 yX5_within wsX5_within) := goodIn_app (goodIn_of _ (by decide +kernel)) ggX5_whose_X5_within
set_option maxRecDepth 20000 in
theorem ggX5_whose_X1_fit : GoodIn wsX5_whose wsX1_fit := goodIn_r _ [10, 11, 12, 13, 14, 15, 16, 17, 18, 28, 29, 30, 31] (by decide +kernel) (by decide +kernel)
set_option maxRecDepth 20000 in
theorem gX5_whose_X1_fit : GoodIn wsX5_whose (wsV RX5 207 RX1 yX1_fit wsX1_fit) := goodIn_app (goodIn_of _ (by decide +kernel)) ggX5_whose_X1_fit
theorem dX5_whose_0 : decode cX5_whose 0 = .ok (.iload_n 1, 1) := by decide +kernel
theorem dX5_whose_1 : decode cX5_whose 1 = .ok (.iconst 0, 1) := by decide +kernel
theorem dX5_whose_2 : decode cX5_whose 2 = .ok (.iconst 1, 1) := by decide +kernel
theorem dX5_whose_3 : decode cX5_whose 3 = .ok (.invokestatic 61, 3) := by decide +kernel
theorem dX5_whose_6 : decode cX5_whose 6 = .ok (.ifCond .ne 6, 3) := by decide +kernel
theorem dX5_whose_9 : decode cX5_whose 9 = .ok (.bipush (-2), 2) := by decide +kernel
theorem dX5_whose_11 : decode cX5_whose 11 = .ok (.ireturn, 1) := by decide +kernel
theorem dX5_whose_12 : decode cX5_whose 12 = .ok (.iconst 0, 1) := by decide +kernel
theorem dX5_whose_13 : decode cX5_whose 13 = .ok (.istore_n 2, 1) := by decide +kernel
theorem dX5_whose_14 : decode cX5_whose 14 = .ok (.bipush (-9), 2) := by decide +kernel
theorem dX5_whose_16 : decode cX5_whose 16 = .ok (.istore_n 3, 1) := by decide +kernel
theorem dX5_whose_17 : decode cX5_whose 17 = .ok (.iconst 0, 1) := by decide +kernel
theorem dX5_whose_18 : decode cX5_whose 18 = .ok (.istore 4, 2) := by decide +kernel
theorem dX5_whose_20 : decode cX5_whose 20 = .ok (.iload 4, 2) := by decide +kernel
theorem dX5_whose_22 : decode cX5_whose 22 = .ok (.iconst 1, 1) := by decide +kernel
theorem dX5_whose_23 : decode cX5_whose 23 = .ok (.if_icmp .gt 61, 3) := by decide +kernel
theorem dX5_whose_26 : decode cX5_whose 26 = .ok (.iconst 1, 1) := by decide +kernel
theorem dX5_whose_27 : decode cX5_whose 27 = .ok (.istore 5, 2) := by decide +kernel
theorem dX5_whose_29 : decode cX5_whose 29 = .ok (.iload 5, 2) := by decide +kernel
theorem dX5_whose_31 : decode cX5_whose 31 = .ok (.bipush 9, 2) := by decide +kernel
theorem dX5_whose_33 : decode cX5_whose 33 = .ok (.if_icmp .gt 45, 3) := by decide +kernel
theorem dX5_whose_36 : decode cX5_whose 36 = .ok (.aload_n 0, 1) := by decide +kernel
theorem dX5_whose_37 : decode cX5_whose 37 = .ok (.getfield 45, 3) := by decide +kernel
theorem dX5_whose_40 : decode cX5_whose 40 = .ok (.iload 4, 2) := by decide +kernel
theorem dX5_whose_42 : decode cX5_whose 42 = .ok (.iload 5, 2) := by decide +kernel
theorem dX5_whose_44 : decode cX5_whose 44 = .ok (.invokevirtual 207, 3) := by decide +kernel
theorem dX5_whose_47 : decode cX5_whose 47 = .ok (.ifCond .eq 25, 3) := by decide +kernel
theorem dX5_whose_50 : decode cX5_whose 50 = .ok (.iinc 2 1, 3) := by decide +kernel
theorem dX5_whose_53 : decode cX5_whose 53 = .ok (.iload_n 3, 1) := by decide +kernel
theorem dX5_whose_54 : decode cX5_whose 54 = .ok (.bipush (-9), 2) := by decide +kernel
theorem dX5_whose_56 : decode cX5_whose 56 = .ok (.if_icmp .ne 14, 3) := by decide +kernel
theorem dX5_whose_59 : decode cX5_whose 59 = .ok (.bipush 10, 2) := by decide +kernel
theorem dX5_whose_61 : decode cX5_whose 61 = .ok (.iload 4, 2) := by decide +kernel
theorem dX5_whose_63 : decode cX5_whose 63 = .ok (.imul, 1) := by decide +kernel
theorem dX5_whose_64 : decode cX5_whose 64 = .ok (.iload 5, 2) := by decide +kernel
theorem dX5_whose_66 : decode cX5_whose 66 = .ok (.iadd, 1) := by decide +kernel
theorem dX5_whose_67 : decode cX5_whose 67 = .ok (.goto 4, 3) := by decide +kernel
theorem dX5_whose_70 : decode cX5_whose 70 = .ok (.iload_n 3, 1) := by decide +kernel
theorem dX5_whose_71 : decode cX5_whose 71 = .ok (.istore_n 3, 1) := by decide +kernel
theorem dX5_whose_72 : decode cX5_whose 72 = .ok (.iinc 5 1, 3) := by decide +kernel
theorem dX5_whose_75 : decode cX5_whose 75 = .ok (.goto (-46), 3) := by decide +kernel
theorem dX5_whose_78 : decode cX5_whose 78 = .ok (.iinc 4 1, 3) := by decide +kernel
theorem dX5_whose_81 : decode cX5_whose 81 = .ok (.goto (-61), 3) := by decide +kernel
theorem dX5_whose_84 : decode cX5_whose 84 = .ok (.iload_n 1, 1) := by decide +kernel
theorem dX5_whose_85 : decode cX5_whose 85 = .ok (.ifCond .ne 7, 3) := by decide +kernel
theorem dX5_whose_88 : decode cX5_whose 88 = .ok (.iload_n 2, 1) := by decide +kernel
theorem dX5_whose_89 : decode cX5_whose 89 = .ok (.goto 4, 3) := by decide +kernel
theorem dX5_whose_92 : decode cX5_whose 92 = .ok (.iload_n 3, 1) := by decide +kernel
theorem dX5_whose_93 : decode cX5_whose 93 = .ok (.ireturn, 1) := by decide +kernel
set_option maxRecDepth 20000 in
theorem ggX5_share_X4_hasBroom : GoodIn wsX5_share wsX4_hasBroom := goodIn_r _ [6, 7, 133, 134, 135, 136, 137, 138, 139, 140] (by decide +kernel) (by decide +kernel)
set_option maxRecDepth 20000 in
theorem gX5_share_X4_hasBroom : GoodIn wsX5_share (wsV RX5 107 RX4 yX4_hasBroom wsX4_hasBroom) := goodIn_app (goodIn_of _ (by decide +kernel)) ggX5_share_X4_hasBroom
set_option maxRecDepth 20000 in
theorem ggX5_share_X5_behind : GoodIn wsX5_share wsX5_behind := goodIn_r _ [12, 13, 14, 15, 11, 16, 17, 18, 19, 20, 21, 22, 23, 24, 25, 26, 27, 28, 29, 30, 31, 32, 33, 34, 35, 36, 37, 38, 39, 40, 41, 42, 43, 44, 45, 46, 47, 48, 49, 50, 51, 52, 53, 54, 55, 56, 57, 58, 59, 60, 3, 4, 5, 6, 7, 61, 62, 63, 64, 65, 66, 67, 68, 69, 70, 71, 72, 73, 74, 75, 76, 77, 78, 79, 80, 81, 82, 83, 84, 85, 86, 87, 88, 89, 90, 91, 92, 93, 124, 125, 126, 127, 128, 129, 130, 131, 132, 141, 142, 143, 144, 145, 146, 147, 133, 134, 135, 136, 137, 138, 139, 140] (by decide +kernel) (by decide +kernel)
set_option maxRecDepth 20000 in
theorem gX5_share_X5_behind : GoodIn wsX5_share (wsV RX5 166 RX5 yX5_behind wsX5_behind) := goodIn_app (goodIn_of _ (by decide +kernel)) ggX5_share_X5_behind
set_option maxRecDepth 20000 in
theorem ggX5_share_X2_allDust : GoodIn wsX5_share wsX2_allDust := goodIn_r _ [97, 24, 141, 142, 143, 144, 145, 146, 147] (by decide +kernel) (by decide +kernel)
set_option maxRecDepth 20000 in
theorem gX5_share_X2_allDust : GoodIn wsX5_share (wsV RX5 133 RX2 yX2_allDust wsX2_allDust) := goodIn_app (goodIn_of _ (by decide +kernel)) ggX5_share_X2_allDust
set_option maxRecDepth 20000 in
theorem ggX5_share_J6_bitCount_0f7a4 : GoodIn wsX5_share wsJ6_bitCount_0f7a4 := goodIn_r _ [101, 102, 103, 104] (by decide +kernel) (by decide +kernel)
set_option maxRecDepth 20000 in
theorem gX5_share_J6_bitCount_0f7a4 : GoodIn wsX5_share (va_wsS RX5 152 yJ6_bitCount_0f7a4 wsJ6_bitCount_0f7a4) := goodIn_app (goodIn_of _ (by decide +kernel)) ggX5_share_J6_bitCount_0f7a4
set_option maxRecDepth 20000 in
theorem ggX5_share_X5_ordersWith : GoodIn wsX5_share wsX5_ordersWith := goodIn_r _ [108, 1, 109, 110, 11, 111, 124, 125, 126, 127, 128, 129, 130, 131, 132, 133, 134, 135, 136, 137, 138, 139, 140] (by decide +kernel) (by decide +kernel)
set_option maxRecDepth 20000 in
theorem gX5_share_X5_ordersWith : GoodIn wsX5_share (wsV RX5 210 RX5 yX5_ordersWith wsX5_ordersWith) := goodIn_app (goodIn_of _ (by decide +kernel)) ggX5_share_X5_ordersWith
set_option maxRecDepth 20000 in
theorem ggX5_share_X5_factorial : GoodIn wsX5_share wsX5_factorial := goodIn_r _ [111] (by decide +kernel) (by decide +kernel)
set_option maxRecDepth 20000 in
theorem gX5_share_X5_factorial : GoodIn wsX5_share (va_wsS RX5 214 yX5_factorial wsX5_factorial) := goodIn_app (goodIn_of _ (by decide +kernel)) ggX5_share_X5_factorial
set_option maxRecDepth 20000 in
theorem ggX5_share_X5_fraction : GoodIn wsX5_share wsX5_fraction := goodIn_r _ [114, 115, 116, 48, 117, 118, 119, 120, 121, 122, 11, 123] (by decide +kernel) (by decide +kernel)
set_option maxRecDepth 20000 in
theorem gX5_share_X5_fraction : GoodIn wsX5_share (va_wsS RX5 217 yX5_fraction wsX5_fraction) := goodIn_app (goodIn_of _ (by decide +kernel)) ggX5_share_X5_fraction
theorem dX5_share_0 : decode cX5_share 0 = .ok (.aload_n 0, 1) := by decide +kernel
theorem dX5_share_1 : decode cX5_share 1 = .ok (.getfield 19, 3) := by decide +kernel
theorem dX5_share_4 : decode cX5_share 4 = .ok (.iload_n 1, 1) := by decide +kernel
theorem dX5_share_5 : decode cX5_share 5 = .ok (.invokevirtual 107, 3) := by decide +kernel
theorem dX5_share_8 : decode cX5_share 8 = .ok (.ifCond .ne 5, 3) := by decide +kernel
theorem dX5_share_11 : decode cX5_share 11 = .ok (.iconst (-1), 1) := by decide +kernel
theorem dX5_share_12 : decode cX5_share 12 = .ok (.ireturn, 1) := by decide +kernel
theorem dX5_share_13 : decode cX5_share 13 = .ok (.iconst 1, 1) := by decide +kernel
theorem dX5_share_14 : decode cX5_share 14 = .ok (.iload_n 1, 1) := by decide +kernel
theorem dX5_share_15 : decode cX5_share 15 = .ok (.ishl, 1) := by decide +kernel
theorem dX5_share_16 : decode cX5_share 16 = .ok (.istore_n 3, 1) := by decide +kernel
theorem dX5_share_17 : decode cX5_share 17 = .ok (.lconst 0, 1) := by decide +kernel
theorem dX5_share_18 : decode cX5_share 18 = .ok (.lstore 4, 2) := by decide +kernel
theorem dX5_share_20 : decode cX5_share 20 = .ok (.iconst 0, 1) := by decide +kernel
theorem dX5_share_21 : decode cX5_share 21 = .ok (.istore 6, 2) := by decide +kernel
theorem dX5_share_23 : decode cX5_share 23 = .ok (.iload 6, 2) := by decide +kernel
theorem dX5_share_25 : decode cX5_share 25 = .ok (.iconst 1, 1) := by decide +kernel
theorem dX5_share_26 : decode cX5_share 26 = .ok (.aload_n 0, 1) := by decide +kernel
theorem dX5_share_27 : decode cX5_share 27 = .ok (.getfield 19, 3) := by decide +kernel
theorem dX5_share_30 : decode cX5_share 30 = .ok (.getfield 87, 3) := by decide +kernel
theorem dX5_share_33 : decode cX5_share 33 = .ok (.ishl, 1) := by decide +kernel
theorem dX5_share_34 : decode cX5_share 34 = .ok (.if_icmp .ge 65, 3) := by decide +kernel
theorem dX5_share_37 : decode cX5_share 37 = .ok (.iload 6, 2) := by decide +kernel
theorem dX5_share_39 : decode cX5_share 39 = .ok (.iload_n 3, 1) := by decide +kernel
theorem dX5_share_40 : decode cX5_share 40 = .ok (.iand, 1) := by decide +kernel
theorem dX5_share_41 : decode cX5_share 41 = .ok (.ifCond .ne 52, 3) := by decide +kernel
theorem dX5_share_44 : decode cX5_share 44 = .ok (.aload_n 0, 1) := by decide +kernel
theorem dX5_share_45 : decode cX5_share 45 = .ok (.bipush 6, 2) := by decide +kernel
theorem dX5_share_47 : decode cX5_share 47 = .ok (.iload 6, 2) := by decide +kernel
theorem dX5_share_49 : decode cX5_share 49 = .ok (.invokevirtual 166, 3) := by decide +kernel
theorem dX5_share_52 : decode cX5_share 52 = .ok (.invokevirtual 133, 3) := by decide +kernel
theorem dX5_share_55 : decode cX5_share 55 = .ok (.istore 7, 2) := by decide +kernel
theorem dX5_share_57 : decode cX5_share 57 = .ok (.iload 7, 2) := by decide +kernel
theorem dX5_share_59 : decode cX5_share 59 = .ok (.aload_n 0, 1) := by decide +kernel
theorem dX5_share_60 : decode cX5_share 60 = .ok (.bipush 6, 2) := by decide +kernel
theorem dX5_share_62 : decode cX5_share 62 = .ok (.iload 6, 2) := by decide +kernel
theorem dX5_share_64 : decode cX5_share 64 = .ok (.iload_n 3, 1) := by decide +kernel
theorem dX5_share_65 : decode cX5_share 65 = .ok (.ior, 1) := by decide +kernel
theorem dX5_share_66 : decode cX5_share 66 = .ok (.invokevirtual 166, 3) := by decide +kernel
theorem dX5_share_69 : decode cX5_share 69 = .ok (.invokevirtual 133, 3) := by decide +kernel
theorem dX5_share_72 : decode cX5_share 72 = .ok (.isub, 1) := by decide +kernel
theorem dX5_share_73 : decode cX5_share 73 = .ok (.istore 7, 2) := by decide +kernel
theorem dX5_share_75 : decode cX5_share 75 = .ok (.lload 4, 2) := by decide +kernel
theorem dX5_share_77 : decode cX5_share 77 = .ok (.iload 7, 2) := by decide +kernel
theorem dX5_share_79 : decode cX5_share 79 = .ok (.i2l, 1) := by decide +kernel
theorem dX5_share_80 : decode cX5_share 80 = .ok (.aload_n 0, 1) := by decide +kernel
theorem dX5_share_81 : decode cX5_share 81 = .ok (.iload 6, 2) := by decide +kernel
theorem dX5_share_83 : decode cX5_share 83 = .ok (.invokestatic 152, 3) := by decide +kernel
theorem dX5_share_86 : decode cX5_share 86 = .ok (.invokevirtual 210, 3) := by decide +kernel
theorem dX5_share_89 : decode cX5_share 89 = .ok (.lmul, 1) := by decide +kernel
theorem dX5_share_90 : decode cX5_share 90 = .ok (.ladd, 1) := by decide +kernel
theorem dX5_share_91 : decode cX5_share 91 = .ok (.lstore 4, 2) := by decide +kernel
theorem dX5_share_93 : decode cX5_share 93 = .ok (.iinc 6 1, 3) := by decide +kernel
theorem dX5_share_96 : decode cX5_share 96 = .ok (.goto (-73), 3) := by decide +kernel
theorem dX5_share_99 : decode cX5_share 99 = .ok (.lload 4, 2) := by decide +kernel
theorem dX5_share_101 : decode cX5_share 101 = .ok (.aload_n 0, 1) := by decide +kernel
theorem dX5_share_102 : decode cX5_share 102 = .ok (.getfield 19, 3) := by decide +kernel
theorem dX5_share_105 : decode cX5_share 105 = .ok (.getfield 87, 3) := by decide +kernel
theorem dX5_share_108 : decode cX5_share 108 = .ok (.invokestatic 214, 3) := by decide +kernel
theorem dX5_share_111 : decode cX5_share 111 = .ok (.iload_n 2, 1) := by decide +kernel
theorem dX5_share_112 : decode cX5_share 112 = .ok (.invokestatic 217, 3) := by decide +kernel
theorem dX5_share_115 : decode cX5_share 115 = .ok (.ireturn, 1) := by decide +kernel
set_option maxRecDepth 20000 in
theorem ggX5_rests_X4_hasBroom : GoodIn wsX5_rests wsX4_hasBroom := goodIn_r _ [6, 7, 119, 120, 121, 122, 123, 124, 125, 126] (by decide +kernel) (by decide +kernel)
set_option maxRecDepth 20000 in
theorem gX5_rests_X4_hasBroom : GoodIn wsX5_rests (wsV RX5 107 RX4 yX4_hasBroom wsX4_hasBroom) := goodIn_app (goodIn_of _ (by decide +kernel)) ggX5_rests_X4_hasBroom
set_option maxRecDepth 20000 in
theorem ggX5_rests_X5_within : GoodIn wsX5_rests wsX5_within := goodIn_r _ [11] (by decide +kernel) (by decide +kernel)
set_option maxRecDepth 20000 in
theorem gX5_rests_X5_within : GoodIn wsX5_rests (va_wsS RX5 61 yX5_within wsX5_within) := goodIn_app (goodIn_of _ (by decide +kernel)) ggX5_rests_X5_within
set_option maxRecDepth 20000 in
theorem ggX5_rests_X5_isAtRest : GoodIn wsX5_rests wsX5_isAtRest := goodIn_r _ [15, 16, 17, 18, 10, 19, 20, 21, 22, 23, 24, 25, 26, 27, 28, 29, 30, 31, 32, 33, 34, 35, 36, 37, 38, 39, 40, 41, 42, 43, 44, 45, 46, 47, 48, 49, 50, 51, 52, 53, 54, 55, 56, 57, 58, 59, 60, 61, 62, 63, 64, 65, 66, 67, 68, 69, 70, 71, 3, 4, 5, 6, 7, 72, 73, 74, 75, 76, 77, 78, 79, 80, 81, 82, 83, 84, 85, 86, 87, 88, 89, 90, 91, 92, 93, 94, 95, 96, 97, 98, 99, 100, 101, 102, 103, 104, 105, 106, 107, 108, 109, 110, 111, 112, 113, 114, 115, 116, 117, 118, 127, 128, 129, 130, 131, 132, 133, 119, 120, 121, 122, 123, 124, 125, 126] (by decide +kernel) (by decide +kernel)
set_option maxRecDepth 20000 in
theorem gX5_rests_X5_isAtRest : GoodIn wsX5_rests (wsV RX5 221 RX5 yX5_isAtRest wsX5_isAtRest) := goodIn_app (goodIn_of _ (by decide +kernel)) ggX5_rests_X5_isAtRest
theorem dX5_rests_0 : decode cX5_rests 0 = .ok (.aload_n 0, 1) := by decide +kernel
theorem dX5_rests_1 : decode cX5_rests 1 = .ok (.getfield 19, 3) := by decide +kernel
theorem dX5_rests_4 : decode cX5_rests 4 = .ok (.iload_n 1, 1) := by decide +kernel
theorem dX5_rests_5 : decode cX5_rests 5 = .ok (.invokevirtual 107, 3) := by decide +kernel
theorem dX5_rests_8 : decode cX5_rests 8 = .ok (.ifCond .eq 14, 3) := by decide +kernel
theorem dX5_rests_11 : decode cX5_rests 11 = .ok (.aload_n 0, 1) := by decide +kernel
theorem dX5_rests_12 : decode cX5_rests 12 = .ok (.getfield 19, 3) := by decide +kernel
theorem dX5_rests_15 : decode cX5_rests 15 = .ok (.iload_n 2, 1) := by decide +kernel
theorem dX5_rests_16 : decode cX5_rests 16 = .ok (.invokevirtual 107, 3) := by decide +kernel
theorem dX5_rests_19 : decode cX5_rests 19 = .ok (.ifCond .ne 5, 3) := by decide +kernel
theorem dX5_rests_22 : decode cX5_rests 22 = .ok (.iconst (-1), 1) := by decide +kernel
theorem dX5_rests_23 : decode cX5_rests 23 = .ok (.ireturn, 1) := by decide +kernel
theorem dX5_rests_24 : decode cX5_rests 24 = .ok (.iload_n 1, 1) := by decide +kernel
theorem dX5_rests_25 : decode cX5_rests 25 = .ok (.iload_n 2, 1) := by decide +kernel
theorem dX5_rests_26 : decode cX5_rests 26 = .ok (.if_icmp .eq 12, 3) := by decide +kernel
theorem dX5_rests_29 : decode cX5_rests 29 = .ok (.iload_n 3, 1) := by decide +kernel
theorem dX5_rests_30 : decode cX5_rests 30 = .ok (.iconst 0, 1) := by decide +kernel
theorem dX5_rests_31 : decode cX5_rests 31 = .ok (.iconst 1, 1) := by decide +kernel
theorem dX5_rests_32 : decode cX5_rests 32 = .ok (.invokestatic 61, 3) := by decide +kernel
theorem dX5_rests_35 : decode cX5_rests 35 = .ok (.ifCond .ne 6, 3) := by decide +kernel
theorem dX5_rests_38 : decode cX5_rests 38 = .ok (.bipush (-2), 2) := by decide +kernel
theorem dX5_rests_40 : decode cX5_rests 40 = .ok (.ireturn, 1) := by decide +kernel
theorem dX5_rests_41 : decode cX5_rests 41 = .ok (.bipush 31, 2) := by decide +kernel
theorem dX5_rests_43 : decode cX5_rests 43 = .ok (.iconst 1, 1) := by decide +kernel
theorem dX5_rests_44 : decode cX5_rests 44 = .ok (.iload_n 1, 1) := by decide +kernel
theorem dX5_rests_45 : decode cX5_rests 45 = .ok (.ishl, 1) := by decide +kernel
theorem dX5_rests_46 : decode cX5_rests 46 = .ok (.iconst 1, 1) := by decide +kernel
theorem dX5_rests_47 : decode cX5_rests 47 = .ok (.iload_n 2, 1) := by decide +kernel
theorem dX5_rests_48 : decode cX5_rests 48 = .ok (.ishl, 1) := by decide +kernel
theorem dX5_rests_49 : decode cX5_rests 49 = .ok (.ior, 1) := by decide +kernel
theorem dX5_rests_50 : decode cX5_rests 50 = .ok (.iconst (-1), 1) := by decide +kernel
theorem dX5_rests_51 : decode cX5_rests 51 = .ok (.ixor, 1) := by decide +kernel
theorem dX5_rests_52 : decode cX5_rests 52 = .ok (.iand, 1) := by decide +kernel
theorem dX5_rests_53 : decode cX5_rests 53 = .ok (.istore 4, 2) := by decide +kernel
theorem dX5_rests_55 : decode cX5_rests 55 = .ok (.iconst 0, 1) := by decide +kernel
theorem dX5_rests_56 : decode cX5_rests 56 = .ok (.istore 5, 2) := by decide +kernel
theorem dX5_rests_58 : decode cX5_rests 58 = .ok (.bipush (-9), 2) := by decide +kernel
theorem dX5_rests_60 : decode cX5_rests 60 = .ok (.istore 6, 2) := by decide +kernel
theorem dX5_rests_62 : decode cX5_rests 62 = .ok (.iconst 0, 1) := by decide +kernel
theorem dX5_rests_63 : decode cX5_rests 63 = .ok (.istore 7, 2) := by decide +kernel
theorem dX5_rests_65 : decode cX5_rests 65 = .ok (.iload 7, 2) := by decide +kernel
theorem dX5_rests_67 : decode cX5_rests 67 = .ok (.iconst 1, 1) := by decide +kernel
theorem dX5_rests_68 : decode cX5_rests 68 = .ok (.if_icmp .gt 70, 3) := by decide +kernel
theorem dX5_rests_71 : decode cX5_rests 71 = .ok (.iconst 0, 1) := by decide +kernel
theorem dX5_rests_72 : decode cX5_rests 72 = .ok (.istore 8, 2) := by decide +kernel
theorem dX5_rests_74 : decode cX5_rests 74 = .ok (.iload 8, 2) := by decide +kernel
theorem dX5_rests_76 : decode cX5_rests 76 = .ok (.iconst 1, 1) := by decide +kernel
theorem dX5_rests_77 : decode cX5_rests 77 = .ok (.if_icmp .gt 55, 3) := by decide +kernel
theorem dX5_rests_80 : decode cX5_rests 80 = .ok (.aload_n 0, 1) := by decide +kernel
theorem dX5_rests_81 : decode cX5_rests 81 = .ok (.iload_n 1, 1) := by decide +kernel
theorem dX5_rests_82 : decode cX5_rests 82 = .ok (.iload_n 2, 1) := by decide +kernel
theorem dX5_rests_83 : decode cX5_rests 83 = .ok (.iload 4, 2) := by decide +kernel
theorem dX5_rests_85 : decode cX5_rests 85 = .ok (.iload 7, 2) := by decide +kernel
theorem dX5_rests_87 : decode cX5_rests 87 = .ok (.iload_n 1, 1) := by decide +kernel
theorem dX5_rests_88 : decode cX5_rests 88 = .ok (.ishl, 1) := by decide +kernel
theorem dX5_rests_89 : decode cX5_rests 89 = .ok (.ior, 1) := by decide +kernel
theorem dX5_rests_90 : decode cX5_rests 90 = .ok (.iload 8, 2) := by decide +kernel
theorem dX5_rests_92 : decode cX5_rests 92 = .ok (.iload_n 2, 1) := by decide +kernel
theorem dX5_rests_93 : decode cX5_rests 93 = .ok (.ishl, 1) := by decide +kernel
theorem dX5_rests_94 : decode cX5_rests 94 = .ok (.ior, 1) := by decide +kernel
theorem dX5_rests_95 : decode cX5_rests 95 = .ok (.invokevirtual 221, 3) := by decide +kernel
theorem dX5_rests_98 : decode cX5_rests 98 = .ok (.ifCond .eq 28, 3) := by decide +kernel
theorem dX5_rests_101 : decode cX5_rests 101 = .ok (.iinc 5 1, 3) := by decide +kernel
theorem dX5_rests_104 : decode cX5_rests 104 = .ok (.iload 6, 2) := by decide +kernel
theorem dX5_rests_106 : decode cX5_rests 106 = .ok (.bipush (-9), 2) := by decide +kernel
theorem dX5_rests_108 : decode cX5_rests 108 = .ok (.if_icmp .ne 14, 3) := by decide +kernel
theorem dX5_rests_111 : decode cX5_rests 111 = .ok (.bipush 10, 2) := by decide +kernel
theorem dX5_rests_113 : decode cX5_rests 113 = .ok (.iload 7, 2) := by decide +kernel
theorem dX5_rests_115 : decode cX5_rests 115 = .ok (.imul, 1) := by decide +kernel
theorem dX5_rests_116 : decode cX5_rests 116 = .ok (.iload 8, 2) := by decide +kernel
theorem dX5_rests_118 : decode cX5_rests 118 = .ok (.iadd, 1) := by decide +kernel
theorem dX5_rests_119 : decode cX5_rests 119 = .ok (.goto 5, 3) := by decide +kernel
theorem dX5_rests_122 : decode cX5_rests 122 = .ok (.iload 6, 2) := by decide +kernel
theorem dX5_rests_124 : decode cX5_rests 124 = .ok (.istore 6, 2) := by decide +kernel
theorem dX5_rests_126 : decode cX5_rests 126 = .ok (.iinc 8 1, 3) := by decide +kernel
theorem dX5_rests_129 : decode cX5_rests 129 = .ok (.goto (-55), 3) := by decide +kernel
theorem dX5_rests_132 : decode cX5_rests 132 = .ok (.iinc 7 1, 3) := by decide +kernel
theorem dX5_rests_135 : decode cX5_rests 135 = .ok (.goto (-70), 3) := by decide +kernel
theorem dX5_rests_138 : decode cX5_rests 138 = .ok (.iload_n 3, 1) := by decide +kernel
theorem dX5_rests_139 : decode cX5_rests 139 = .ok (.ifCond .ne 8, 3) := by decide +kernel
theorem dX5_rests_142 : decode cX5_rests 142 = .ok (.iload 5, 2) := by decide +kernel
theorem dX5_rests_144 : decode cX5_rests 144 = .ok (.goto 5, 3) := by decide +kernel
theorem dX5_rests_147 : decode cX5_rests 147 = .ok (.iload 6, 2) := by decide +kernel
theorem dX5_rests_149 : decode cX5_rests 149 = .ok (.ireturn, 1) := by decide +kernel
set_option maxRecDepth 20000 in
theorem ggX5_twice_X5_isStreet : GoodIn wsX5_twice wsX5_isStreet := goodIn_r _ [4] (by decide +kernel) (by decide +kernel)
set_option maxRecDepth 20000 in
theorem gX5_twice_X5_isStreet : GoodIn wsX5_twice (va_wsS RX5 93 yX5_isStreet wsX5_isStreet) := goodIn_app (goodIn_of _ (by decide +kernel)) ggX5_twice_X5_isStreet
set_option maxRecDepth 20000 in
theorem ggX5_twice_X5_within : GoodIn wsX5_twice wsX5_within := goodIn_r _ [7] (by decide +kernel) (by decide +kernel)
set_option maxRecDepth 20000 in
theorem gX5_twice_X5_within : GoodIn wsX5_twice (va_wsS RX5 61 yX5_within wsX5_within) := goodIn_app (goodIn_of _ (by decide +kernel)) ggX5_twice_X5_within
set_option maxRecDepth 20000 in
theorem ggX5_twice_X5_isDeepBehind : GoodIn wsX5_twice wsX5_isDeepBehind := goodIn_r _ [11, 12, 13, 14, 3, 15, 16, 17, 18, 19, 20, 21, 22, 23, 24, 25, 26, 27, 28, 29, 30, 31, 32, 33, 34, 35, 36, 37, 38, 39, 40, 41, 42, 43, 44, 45, 46, 47, 48, 2, 4, 49, 50, 51, 52, 53, 54, 55, 56, 57, 58, 59, 60, 61, 62, 63, 64, 65, 66, 67, 68, 69, 70, 71, 72, 73, 74, 75, 76, 77, 78, 79, 80, 81, 82, 83, 84, 85, 86, 87, 88, 89, 90, 91, 92, 93, 94, 95, 96, 97, 98, 99, 100, 101, 102, 103, 126, 127, 128, 129, 130, 131, 132, 133, 134, 135, 136, 137, 138, 139, 140, 141, 142, 143, 144, 145, 146, 147, 148, 149] (by decide +kernel) (by decide +kernel)
set_option maxRecDepth 20000 in
theorem gX5_twice_X5_isDeepBehind : GoodIn wsX5_twice (wsV RX5 224 RX5 yX5_isDeepBehind wsX5_isDeepBehind) := goodIn_app (goodIn_of _ (by decide +kernel)) ggX5_twice_X5_isDeepBehind
set_option maxRecDepth 20000 in
theorem ggX5_twice_J6_bitCount_0f7a4 : GoodIn wsX5_twice wsJ6_bitCount_0f7a4 := goodIn_r _ [107, 108, 109, 110] (by decide +kernel) (by decide +kernel)
set_option maxRecDepth 20000 in
theorem gX5_twice_J6_bitCount_0f7a4 : GoodIn wsX5_twice (va_wsS RX5 152 yJ6_bitCount_0f7a4 wsJ6_bitCount_0f7a4) := goodIn_app (goodIn_of _ (by decide +kernel)) ggX5_twice_J6_bitCount_0f7a4
set_option maxRecDepth 20000 in
theorem ggX5_twice_X5_power : GoodIn wsX5_twice wsX5_power := goodIn_r _ [113] (by decide +kernel) (by decide +kernel)
set_option maxRecDepth 20000 in
theorem gX5_twice_X5_power : GoodIn wsX5_twice (va_wsS RX5 187 yX5_power wsX5_power) := goodIn_app (goodIn_of _ (by decide +kernel)) ggX5_twice_X5_power
set_option maxRecDepth 20000 in
theorem ggX5_twice_X5_fraction : GoodIn wsX5_twice wsX5_fraction := goodIn_r _ [116, 117, 118, 47, 119, 120, 121, 122, 123, 124, 3, 125] (by decide +kernel) (by decide +kernel)
set_option maxRecDepth 20000 in
theorem gX5_twice_X5_fraction : GoodIn wsX5_twice (va_wsS RX5 217 yX5_fraction wsX5_fraction) := goodIn_app (goodIn_of _ (by decide +kernel)) ggX5_twice_X5_fraction
theorem dX5_twice_0 : decode cX5_twice 0 = .ok (.iload_n 1, 1) := by decide +kernel
theorem dX5_twice_1 : decode cX5_twice 1 = .ok (.invokestatic 93, 3) := by decide +kernel
theorem dX5_twice_4 : decode cX5_twice 4 = .ok (.ifCond .ne 5, 3) := by decide +kernel
theorem dX5_twice_7 : decode cX5_twice 7 = .ok (.iconst (-1), 1) := by decide +kernel
theorem dX5_twice_8 : decode cX5_twice 8 = .ok (.ireturn, 1) := by decide +kernel
theorem dX5_twice_9 : decode cX5_twice 9 = .ok (.iload_n 2, 1) := by decide +kernel
theorem dX5_twice_10 : decode cX5_twice 10 = .ok (.iconst 1, 1) := by decide +kernel
theorem dX5_twice_11 : decode cX5_twice 11 = .ok (.bipush 6, 2) := by decide +kernel
theorem dX5_twice_13 : decode cX5_twice 13 = .ok (.invokestatic 61, 3) := by decide +kernel
theorem dX5_twice_16 : decode cX5_twice 16 = .ok (.ifCond .eq 13, 3) := by decide +kernel
theorem dX5_twice_19 : decode cX5_twice 19 = .ok (.iload_n 3, 1) := by decide +kernel
theorem dX5_twice_20 : decode cX5_twice 20 = .ok (.iconst 0, 1) := by decide +kernel
theorem dX5_twice_21 : decode cX5_twice 21 = .ok (.bipush 10, 2) := by decide +kernel
theorem dX5_twice_23 : decode cX5_twice 23 = .ok (.invokestatic 61, 3) := by decide +kernel
theorem dX5_twice_26 : decode cX5_twice 26 = .ok (.ifCond .ne 6, 3) := by decide +kernel
theorem dX5_twice_29 : decode cX5_twice 29 = .ok (.bipush (-2), 2) := by decide +kernel
theorem dX5_twice_31 : decode cX5_twice 31 = .ok (.ireturn, 1) := by decide +kernel
theorem dX5_twice_32 : decode cX5_twice 32 = .ok (.lconst 0, 1) := by decide +kernel
theorem dX5_twice_33 : decode cX5_twice 33 = .ok (.lstore 5, 2) := by decide +kernel
theorem dX5_twice_35 : decode cX5_twice 35 = .ok (.iconst 0, 1) := by decide +kernel
theorem dX5_twice_36 : decode cX5_twice 36 = .ok (.istore 7, 2) := by decide +kernel
theorem dX5_twice_38 : decode cX5_twice 38 = .ok (.iload 7, 2) := by decide +kernel
theorem dX5_twice_40 : decode cX5_twice 40 = .ok (.iconst 1, 1) := by decide +kernel
theorem dX5_twice_41 : decode cX5_twice 41 = .ok (.iload_n 2, 1) := by decide +kernel
theorem dX5_twice_42 : decode cX5_twice 42 = .ok (.ishl, 1) := by decide +kernel
theorem dX5_twice_43 : decode cX5_twice 43 = .ok (.if_icmp .ge 50, 3) := by decide +kernel
theorem dX5_twice_46 : decode cX5_twice 46 = .ok (.aload_n 0, 1) := by decide +kernel
theorem dX5_twice_47 : decode cX5_twice 47 = .ok (.iload_n 1, 1) := by decide +kernel
theorem dX5_twice_48 : decode cX5_twice 48 = .ok (.iload_n 2, 1) := by decide +kernel
theorem dX5_twice_49 : decode cX5_twice 49 = .ok (.iload 7, 2) := by decide +kernel
theorem dX5_twice_51 : decode cX5_twice 51 = .ok (.invokevirtual 224, 3) := by decide +kernel
theorem dX5_twice_54 : decode cX5_twice 54 = .ok (.ifCond .eq 33, 3) := by decide +kernel
theorem dX5_twice_57 : decode cX5_twice 57 = .ok (.iload 7, 2) := by decide +kernel
theorem dX5_twice_59 : decode cX5_twice 59 = .ok (.invokestatic 152, 3) := by decide +kernel
theorem dX5_twice_62 : decode cX5_twice 62 = .ok (.istore 8, 2) := by decide +kernel
theorem dX5_twice_64 : decode cX5_twice 64 = .ok (.lload 5, 2) := by decide +kernel
theorem dX5_twice_66 : decode cX5_twice 66 = .ok (.iload_n 3, 1) := by decide +kernel
theorem dX5_twice_67 : decode cX5_twice 67 = .ok (.iload 8, 2) := by decide +kernel
theorem dX5_twice_69 : decode cX5_twice 69 = .ok (.invokestatic 187, 3) := by decide +kernel
theorem dX5_twice_72 : decode cX5_twice 72 = .ok (.bipush 10, 2) := by decide +kernel
theorem dX5_twice_74 : decode cX5_twice 74 = .ok (.iload_n 3, 1) := by decide +kernel
theorem dX5_twice_75 : decode cX5_twice 75 = .ok (.isub, 1) := by decide +kernel
theorem dX5_twice_76 : decode cX5_twice 76 = .ok (.iload_n 2, 1) := by decide +kernel
theorem dX5_twice_77 : decode cX5_twice 77 = .ok (.iload 8, 2) := by decide +kernel
theorem dX5_twice_79 : decode cX5_twice 79 = .ok (.isub, 1) := by decide +kernel
theorem dX5_twice_80 : decode cX5_twice 80 = .ok (.invokestatic 187, 3) := by decide +kernel
theorem dX5_twice_83 : decode cX5_twice 83 = .ok (.lmul, 1) := by decide +kernel
theorem dX5_twice_84 : decode cX5_twice 84 = .ok (.ladd, 1) := by decide +kernel
theorem dX5_twice_85 : decode cX5_twice 85 = .ok (.lstore 5, 2) := by decide +kernel
theorem dX5_twice_87 : decode cX5_twice 87 = .ok (.iinc 7 1, 3) := by decide +kernel
theorem dX5_twice_90 : decode cX5_twice 90 = .ok (.goto (-52), 3) := by decide +kernel
theorem dX5_twice_93 : decode cX5_twice 93 = .ok (.lload 5, 2) := by decide +kernel
theorem dX5_twice_95 : decode cX5_twice 95 = .ok (.bipush 10, 2) := by decide +kernel
theorem dX5_twice_97 : decode cX5_twice 97 = .ok (.iload_n 2, 1) := by decide +kernel
theorem dX5_twice_98 : decode cX5_twice 98 = .ok (.invokestatic 187, 3) := by decide +kernel
theorem dX5_twice_101 : decode cX5_twice 101 = .ok (.iload 4, 2) := by decide +kernel
theorem dX5_twice_103 : decode cX5_twice 103 = .ok (.invokestatic 217, 3) := by decide +kernel
theorem dX5_twice_106 : decode cX5_twice 106 = .ok (.ireturn, 1) := by decide +kernel
theorem dX5_seed_0 : decode cX5_seed 0 = .ok (.aload_n 0, 1) := by decide +kernel
theorem dX5_seed_1 : decode cX5_seed 1 = .ok (.getfield 57, 3) := by decide +kernel
theorem dX5_seed_4 : decode cX5_seed 4 = .ok (.lstore_n 3, 1) := by decide +kernel
theorem dX5_seed_5 : decode cX5_seed 5 = .ok (.aload_n 0, 1) := by decide +kernel
theorem dX5_seed_6 : decode cX5_seed 6 = .ok (.lload_n 1, 1) := by decide +kernel
theorem dX5_seed_7 : decode cX5_seed 7 = .ok (.putfield 57, 3) := by decide +kernel
theorem dX5_seed_10 : decode cX5_seed 10 = .ok (.lload_n 3, 1) := by decide +kernel
theorem dX5_seed_11 : decode cX5_seed 11 = .ok (.lreturn, 1) := by decide +kernel
set_option maxRecDepth 20000 in
theorem ggX5_years_X5_within : GoodIn wsX5_years wsX5_within := goodIn_r _ [8] (by decide +kernel) (by decide +kernel)
set_option maxRecDepth 20000 in
theorem gX5_years_X5_within : GoodIn wsX5_years (va_wsS RX5 61 yX5_within wsX5_within) := goodIn_app (goodIn_of _ (by decide +kernel)) ggX5_years_X5_within
set_option maxRecDepth 20000 in
theorem ggX5_years_X5_fromNow : GoodIn wsX5_years wsX5_fromNow := goodIn_r _ [12, 13, 14, 15, 16, 17, 18, 19, 20, 21, 22, 23, 24, 25, 26, 27, 28, 142, 143, 144, 145, 146, 147, 148, 149, 150, 151, 152, 153, 154, 155, 156, 157] (by decide +kernel) (by decide +kernel)
set_option maxRecDepth 20000 in
theorem gX5_years_X5_fromNow : GoodIn wsX5_years (wsV RX5 173 RX5 yX5_fromNow wsX5_fromNow) := goodIn_app (goodIn_of _ (by decide +kernel)) ggX5_years_X5_fromNow
set_option maxRecDepth 20000 in
theorem ggX5_years_X5_happen : GoodIn wsX5_years wsX5_happen := goodIn_r _ [32, 33, 34, 35, 7, 36, 37, 38, 39, 40, 41, 42, 43, 5, 6, 8, 44, 45, 46, 18, 47, 48, 49, 50, 51, 52, 25, 53, 54, 55, 56, 57, 58, 59, 60, 61, 62, 63, 64, 65, 66, 67, 68, 69, 70, 71, 26, 72, 73, 74, 75, 76, 77, 78, 79, 80, 81, 82, 20, 83, 84, 85, 86, 87, 88, 89, 90, 91, 92, 93, 94, 28, 95, 96, 97, 98, 99, 100, 101, 102, 103, 104, 105, 106, 107, 108, 109, 110, 111, 112, 113, 114, 115, 116, 117, 118, 119, 120, 121, 122, 123, 124, 125, 126, 127, 128, 27, 129, 130, 131, 132, 133, 134, 135, 136, 137, 142, 143, 144, 145, 146, 147, 148, 149, 150, 158, 159, 160, 161, 162, 163, 164, 165, 151, 152, 153, 154, 155, 156, 157] (by decide +kernel) (by decide +kernel)
set_option maxRecDepth 20000 in
theorem gX5_years_X5_happen : GoodIn wsX5_years (wsV RX5 233 RX5 yX5_happen wsX5_happen) := goodIn_app (goodIn_of _ (by decide +kernel)) ggX5_years_X5_happen
set_option maxRecDepth 20000 in
theorem ggX5_years_X2_allDust : GoodIn wsX5_years wsX2_allDust := goodIn_r _ [141, 20, 151, 152, 153, 154, 155, 156, 157] (by decide +kernel) (by decide +kernel)
set_option maxRecDepth 20000 in
theorem gX5_years_X2_allDust : GoodIn wsX5_years (wsV RX5 133 RX2 yX2_allDust wsX2_allDust) := goodIn_app (goodIn_of _ (by decide +kernel)) ggX5_years_X2_allDust
theorem dX5_years_0 : decode cX5_years 0 = .ok (.iload_n 1, 1) := by decide +kernel
theorem dX5_years_1 : decode cX5_years 1 = .ok (.iconst 1, 1) := by decide +kernel
theorem dX5_years_2 : decode cX5_years 2 = .ok (.bipush 30, 2) := by decide +kernel
theorem dX5_years_4 : decode cX5_years 4 = .ok (.invokestatic 61, 3) := by decide +kernel
theorem dX5_years_7 : decode cX5_years 7 = .ok (.ifCond .ne 6, 3) := by decide +kernel
theorem dX5_years_10 : decode cX5_years 10 = .ok (.bipush (-2), 2) := by decide +kernel
theorem dX5_years_12 : decode cX5_years 12 = .ok (.ireturn, 1) := by decide +kernel
theorem dX5_years_13 : decode cX5_years 13 = .ok (.aload_n 0, 1) := by decide +kernel
theorem dX5_years_14 : decode cX5_years 14 = .ok (.invokevirtual 173, 3) := by decide +kernel
theorem dX5_years_17 : decode cX5_years 17 = .ok (.astore_n 2, 1) := by decide +kernel
theorem dX5_years_18 : decode cX5_years 18 = .ok (.iconst 0, 1) := by decide +kernel
theorem dX5_years_19 : decode cX5_years 19 = .ok (.istore_n 3, 1) := by decide +kernel
theorem dX5_years_20 : decode cX5_years 20 = .ok (.iconst 0, 1) := by decide +kernel
theorem dX5_years_21 : decode cX5_years 21 = .ok (.istore 4, 2) := by decide +kernel
theorem dX5_years_23 : decode cX5_years 23 = .ok (.iload 4, 2) := by decide +kernel
theorem dX5_years_25 : decode cX5_years 25 = .ok (.iload_n 1, 1) := by decide +kernel
theorem dX5_years_26 : decode cX5_years 26 = .ok (.if_icmp .ge 49, 3) := by decide +kernel
theorem dX5_years_29 : decode cX5_years 29 = .ok (.aload_n 0, 1) := by decide +kernel
theorem dX5_years_30 : decode cX5_years 30 = .ok (.aload_n 0, 1) := by decide +kernel
theorem dX5_years_31 : decode cX5_years 31 = .ok (.getfield 57, 3) := by decide +kernel
theorem dX5_years_34 : decode cX5_years 34 = .ok (.ldc2_w 227, 3) := by decide +kernel
theorem dX5_years_37 : decode cX5_years 37 = .ok (.lmul, 1) := by decide +kernel
theorem dX5_years_38 : decode cX5_years 38 = .ok (.ldc2_w 229, 3) := by decide +kernel
theorem dX5_years_41 : decode cX5_years 41 = .ok (.ladd, 1) := by decide +kernel
theorem dX5_years_42 : decode cX5_years 42 = .ok (.putfield 57, 3) := by decide +kernel
theorem dX5_years_45 : decode cX5_years 45 = .ok (.aload_n 0, 1) := by decide +kernel
theorem dX5_years_46 : decode cX5_years 46 = .ok (.aload_n 2, 1) := by decide +kernel
theorem dX5_years_47 : decode cX5_years 47 = .ok (.aload_n 0, 1) := by decide +kernel
theorem dX5_years_48 : decode cX5_years 48 = .ok (.getfield 57, 3) := by decide +kernel
theorem dX5_years_51 : decode cX5_years 51 = .ok (.bipush 33, 2) := by decide +kernel
theorem dX5_years_53 : decode cX5_years 53 = .ok (.lushr, 1) := by decide +kernel
theorem dX5_years_54 : decode cX5_years 54 = .ok (.ldc2_w 231, 3) := by decide +kernel
theorem dX5_years_57 : decode cX5_years 57 = .ok (.lrem, 1) := by decide +kernel
theorem dX5_years_58 : decode cX5_years 58 = .ok (.l2i, 1) := by decide +kernel
theorem dX5_years_59 : decode cX5_years 59 = .ok (.invokevirtual 233, 3) := by decide +kernel
theorem dX5_years_62 : decode cX5_years 62 = .ok (.iload_n 3, 1) := by decide +kernel
theorem dX5_years_63 : decode cX5_years 63 = .ok (.aload_n 2, 1) := by decide +kernel
theorem dX5_years_64 : decode cX5_years 64 = .ok (.invokevirtual 133, 3) := by decide +kernel
theorem dX5_years_67 : decode cX5_years 67 = .ok (.iadd, 1) := by decide +kernel
theorem dX5_years_68 : decode cX5_years 68 = .ok (.istore_n 3, 1) := by decide +kernel
theorem dX5_years_69 : decode cX5_years 69 = .ok (.iinc 4 1, 3) := by decide +kernel
theorem dX5_years_72 : decode cX5_years 72 = .ok (.goto (-49), 3) := by decide +kernel
theorem dX5_years_75 : decode cX5_years 75 = .ok (.iload_n 3, 1) := by decide +kernel
theorem dX5_years_76 : decode cX5_years 76 = .ok (.ireturn, 1) := by decide +kernel
set_option maxRecDepth 20000 in
theorem ggX5_keep_X5_within : GoodIn wsX5_keep wsX5_within := goodIn_r _ [7] (by decide +kernel) (by decide +kernel)
set_option maxRecDepth 20000 in
theorem gX5_keep_X5_within : GoodIn wsX5_keep (va_wsS RX5 61 yX5_within wsX5_within) := goodIn_app (goodIn_of _ (by decide +kernel)) ggX5_keep_X5_within
set_option maxRecDepth 20000 in
theorem ggX5_keep_X2_save : GoodIn wsX5_keep wsX2_save := goodIn_r _ [12, 13, 14, 15, 16, 17, 18, 19, 20, 21, 31, 32, 33, 34, 35, 36, 37] (by decide +kernel) (by decide +kernel)
set_option maxRecDepth 20000 in
theorem gX5_keep_X2_save : GoodIn wsX5_keep (wsV RX5 237 RX2 yX2_save wsX2_save) := goodIn_app (goodIn_of _ (by decide +kernel)) ggX5_keep_X2_save
theorem dX5_keep_0 : decode cX5_keep 0 = .ok (.iload_n 1, 1) := by decide +kernel
theorem dX5_keep_1 : decode cX5_keep 1 = .ok (.iconst 0, 1) := by decide +kernel
theorem dX5_keep_2 : decode cX5_keep 2 = .ok (.iconst 1, 1) := by decide +kernel
theorem dX5_keep_3 : decode cX5_keep 3 = .ok (.invokestatic 61, 3) := by decide +kernel
theorem dX5_keep_6 : decode cX5_keep 6 = .ok (.ifCond .ne 5, 3) := by decide +kernel
theorem dX5_keep_9 : decode cX5_keep 9 = .ok (.iconst (-1), 1) := by decide +kernel
theorem dX5_keep_10 : decode cX5_keep 10 = .ok (.ireturn, 1) := by decide +kernel
theorem dX5_keep_11 : decode cX5_keep 11 = .ok (.aload_n 0, 1) := by decide +kernel
theorem dX5_keep_12 : decode cX5_keep 12 = .ok (.getfield 28, 3) := by decide +kernel
theorem dX5_keep_15 : decode cX5_keep 15 = .ok (.aload_n 0, 1) := by decide +kernel
theorem dX5_keep_16 : decode cX5_keep 16 = .ok (.getfield 49, 3) := by decide +kernel
theorem dX5_keep_19 : decode cX5_keep 19 = .ok (.iload_n 1, 1) := by decide +kernel
theorem dX5_keep_20 : decode cX5_keep 20 = .ok (.bipush 16, 2) := by decide +kernel
theorem dX5_keep_22 : decode cX5_keep 22 = .ok (.imul, 1) := by decide +kernel
theorem dX5_keep_23 : decode cX5_keep 23 = .ok (.invokevirtual 237, 3) := by decide +kernel
theorem dX5_keep_26 : decode cX5_keep 26 = .ok (.aload_n 0, 1) := by decide +kernel
theorem dX5_keep_27 : decode cX5_keep 27 = .ok (.getfield 53, 3) := by decide +kernel
theorem dX5_keep_30 : decode cX5_keep 30 = .ok (.iload_n 1, 1) := by decide +kernel
theorem dX5_keep_31 : decode cX5_keep 31 = .ok (.iconst 1, 1) := by decide +kernel
theorem dX5_keep_32 : decode cX5_keep 32 = .ok (.bastore, 1) := by decide +kernel
theorem dX5_keep_33 : decode cX5_keep 33 = .ok (.aload_n 0, 1) := by decide +kernel
theorem dX5_keep_34 : decode cX5_keep 34 = .ok (.getfield 28, 3) := by decide +kernel
theorem dX5_keep_37 : decode cX5_keep 37 = .ok (.getfield 241, 3) := by decide +kernel
theorem dX5_keep_40 : decode cX5_keep 40 = .ok (.ireturn, 1) := by decide +kernel
set_option maxRecDepth 20000 in
theorem ggX5_again_X5_within : GoodIn wsX5_again wsX5_within := goodIn_r _ [8] (by decide +kernel) (by decide +kernel)
set_option maxRecDepth 20000 in
theorem gX5_again_X5_within : GoodIn wsX5_again (va_wsS RX5 61 yX5_within wsX5_within) := goodIn_app (goodIn_of _ (by decide +kernel)) ggX5_again_X5_within
set_option maxRecDepth 20000 in
theorem ggX5_again_X2_load : GoodIn wsX5_again wsX2_load := goodIn_r _ [13, 14, 15, 16, 17, 18, 19, 20, 21, 22, 39, 40, 41, 42, 43, 44, 45] (by decide +kernel) (by decide +kernel)
set_option maxRecDepth 20000 in
theorem gX5_again_X2_load : GoodIn wsX5_again (wsV RX5 244 RX2 yX2_load wsX2_load) := goodIn_app (goodIn_of _ (by decide +kernel)) ggX5_again_X2_load
set_option maxRecDepth 20000 in
theorem ggX5_again_X0_clear : GoodIn wsX5_again wsX0_clear := goodIn_r _ [27, 28, 29, 46, 47, 48] (by decide +kernel) (by decide +kernel)
set_option maxRecDepth 20000 in
theorem gX5_again_X0_clear : GoodIn wsX5_again (wsV RX5 84 RX0 yX0_clear wsX0_clear) := goodIn_app (goodIn_of _ (by decide +kernel)) ggX5_again_X0_clear
theorem dX5_again_0 : decode cX5_again 0 = .ok (.iload_n 1, 1) := by decide +kernel
theorem dX5_again_1 : decode cX5_again 1 = .ok (.iconst 0, 1) := by decide +kernel
theorem dX5_again_2 : decode cX5_again 2 = .ok (.iconst 1, 1) := by decide +kernel
theorem dX5_again_3 : decode cX5_again 3 = .ok (.invokestatic 61, 3) := by decide +kernel
theorem dX5_again_6 : decode cX5_again 6 = .ok (.ifCond .ne 5, 3) := by decide +kernel
theorem dX5_again_9 : decode cX5_again 9 = .ok (.iconst (-1), 1) := by decide +kernel
theorem dX5_again_10 : decode cX5_again 10 = .ok (.ireturn, 1) := by decide +kernel
theorem dX5_again_11 : decode cX5_again 11 = .ok (.aload_n 0, 1) := by decide +kernel
theorem dX5_again_12 : decode cX5_again 12 = .ok (.getfield 53, 3) := by decide +kernel
theorem dX5_again_15 : decode cX5_again 15 = .ok (.iload_n 1, 1) := by decide +kernel
theorem dX5_again_16 : decode cX5_again 16 = .ok (.baload, 1) := by decide +kernel
theorem dX5_again_17 : decode cX5_again 17 = .ok (.ifCond .ne 6, 3) := by decide +kernel
theorem dX5_again_20 : decode cX5_again 20 = .ok (.bipush (-3), 2) := by decide +kernel
theorem dX5_again_22 : decode cX5_again 22 = .ok (.ireturn, 1) := by decide +kernel
theorem dX5_again_23 : decode cX5_again 23 = .ok (.aload_n 0, 1) := by decide +kernel
theorem dX5_again_24 : decode cX5_again 24 = .ok (.getfield 28, 3) := by decide +kernel
theorem dX5_again_27 : decode cX5_again 27 = .ok (.aload_n 0, 1) := by decide +kernel
theorem dX5_again_28 : decode cX5_again 28 = .ok (.getfield 49, 3) := by decide +kernel
theorem dX5_again_31 : decode cX5_again 31 = .ok (.iload_n 1, 1) := by decide +kernel
theorem dX5_again_32 : decode cX5_again 32 = .ok (.bipush 16, 2) := by decide +kernel
theorem dX5_again_34 : decode cX5_again 34 = .ok (.imul, 1) := by decide +kernel
theorem dX5_again_35 : decode cX5_again 35 = .ok (.invokevirtual 244, 3) := by decide +kernel
theorem dX5_again_38 : decode cX5_again 38 = .ok (.aload_n 0, 1) := by decide +kernel
theorem dX5_again_39 : decode cX5_again 39 = .ok (.getfield 38, 3) := by decide +kernel
theorem dX5_again_42 : decode cX5_again 42 = .ok (.invokevirtual 84, 3) := by decide +kernel
theorem dX5_again_45 : decode cX5_again 45 = .ok (.aload_n 0, 1) := by decide +kernel
theorem dX5_again_46 : decode cX5_again 46 = .ok (.getfield 28, 3) := by decide +kernel
theorem dX5_again_49 : decode cX5_again 49 = .ok (.getfield 241, 3) := by decide +kernel
theorem dX5_again_52 : decode cX5_again 52 = .ok (.ireturn, 1) := by decide +kernel
set_option maxRecDepth 20000 in
theorem ggX5_count_X2_allDust : GoodIn wsX5_count wsX2_allDust := goodIn_r _ [10, 11, 46, 47, 48, 49, 50, 51, 52] (by decide +kernel) (by decide +kernel)
set_option maxRecDepth 20000 in
theorem gX5_count_X2_allDust : GoodIn wsX5_count (wsV RX5 133 RX2 yX2_allDust wsX2_allDust) := goodIn_app (goodIn_of _ (by decide +kernel)) ggX5_count_X2_allDust
set_option maxRecDepth 20000 in
theorem ggX5_count_X2_deepStreets : GoodIn wsX5_count wsX2_deepStreets := goodIn_r _ [15, 16, 17, 18, 9, 19, 20, 21, 22, 23, 11, 24, 25, 26, 46, 47, 48, 49, 50, 51, 52] (by decide +kernel) (by decide +kernel)
set_option maxRecDepth 20000 in
theorem gX5_count_X2_deepStreets : GoodIn wsX5_count (wsV RX5 170 RX2 yX2_deepStreets wsX2_deepStreets) := goodIn_app (goodIn_of _ (by decide +kernel)) ggX5_count_X2_deepStreets
theorem dX5_count_0 : decode cX5_count 0 = .ok (.iload_n 1, 1) := by decide +kernel
theorem dX5_count_1 : decode cX5_count 1 = .ok (.tableswitch 143 0 9 #[55, 63, 71, 79, 87, 95, 103, 119, 127, 135], 55) := by decide +kernel
theorem dX5_count_56 : decode cX5_count 56 = .ok (.aload_n 0, 1) := by decide +kernel
theorem dX5_count_57 : decode cX5_count 57 = .ok (.getfield 12, 3) := by decide +kernel
theorem dX5_count_60 : decode cX5_count 60 = .ok (.getfield 65, 3) := by decide +kernel
theorem dX5_count_63 : decode cX5_count 63 = .ok (.ireturn, 1) := by decide +kernel
theorem dX5_count_64 : decode cX5_count 64 = .ok (.aload_n 0, 1) := by decide +kernel
theorem dX5_count_65 : decode cX5_count 65 = .ok (.getfield 19, 3) := by decide +kernel
theorem dX5_count_68 : decode cX5_count 68 = .ok (.getfield 87, 3) := by decide +kernel
theorem dX5_count_71 : decode cX5_count 71 = .ok (.ireturn, 1) := by decide +kernel
theorem dX5_count_72 : decode cX5_count 72 = .ok (.aload_n 0, 1) := by decide +kernel
theorem dX5_count_73 : decode cX5_count 73 = .ok (.getfield 19, 3) := by decide +kernel
theorem dX5_count_76 : decode cX5_count 76 = .ok (.getfield 90, 3) := by decide +kernel
theorem dX5_count_79 : decode cX5_count 79 = .ok (.ireturn, 1) := by decide +kernel
theorem dX5_count_80 : decode cX5_count 80 = .ok (.aload_n 0, 1) := by decide +kernel
theorem dX5_count_81 : decode cX5_count 81 = .ok (.getfield 28, 3) := by decide +kernel
theorem dX5_count_84 : decode cX5_count 84 = .ok (.getfield 241, 3) := by decide +kernel
theorem dX5_count_87 : decode cX5_count 87 = .ok (.ireturn, 1) := by decide +kernel
theorem dX5_count_88 : decode cX5_count 88 = .ok (.aload_n 0, 1) := by decide +kernel
theorem dX5_count_89 : decode cX5_count 89 = .ok (.getfield 28, 3) := by decide +kernel
theorem dX5_count_92 : decode cX5_count 92 = .ok (.invokevirtual 133, 3) := by decide +kernel
theorem dX5_count_95 : decode cX5_count 95 = .ok (.ireturn, 1) := by decide +kernel
theorem dX5_count_96 : decode cX5_count 96 = .ok (.aload_n 0, 1) := by decide +kernel
theorem dX5_count_97 : decode cX5_count 97 = .ok (.getfield 28, 3) := by decide +kernel
theorem dX5_count_100 : decode cX5_count 100 = .ok (.invokevirtual 170, 3) := by decide +kernel
theorem dX5_count_103 : decode cX5_count 103 = .ok (.ireturn, 1) := by decide +kernel
theorem dX5_count_104 : decode cX5_count 104 = .ok (.aload_n 0, 1) := by decide +kernel
theorem dX5_count_105 : decode cX5_count 105 = .ok (.getfield 28, 3) := by decide +kernel
theorem dX5_count_108 : decode cX5_count 108 = .ok (.getfield 142, 3) := by decide +kernel
theorem dX5_count_111 : decode cX5_count 111 = .ok (.ifCond .eq 7, 3) := by decide +kernel
theorem dX5_count_114 : decode cX5_count 114 = .ok (.iconst 1, 1) := by decide +kernel
theorem dX5_count_115 : decode cX5_count 115 = .ok (.goto 4, 3) := by decide +kernel
theorem dX5_count_118 : decode cX5_count 118 = .ok (.iconst 0, 1) := by decide +kernel
theorem dX5_count_119 : decode cX5_count 119 = .ok (.ireturn, 1) := by decide +kernel
theorem dX5_count_120 : decode cX5_count 120 = .ok (.aload_n 0, 1) := by decide +kernel
theorem dX5_count_121 : decode cX5_count 121 = .ok (.getfield 28, 3) := by decide +kernel
theorem dX5_count_124 : decode cX5_count 124 = .ok (.getfield 149, 3) := by decide +kernel
theorem dX5_count_127 : decode cX5_count 127 = .ok (.ireturn, 1) := by decide +kernel
theorem dX5_count_128 : decode cX5_count 128 = .ok (.aload_n 0, 1) := by decide +kernel
theorem dX5_count_129 : decode cX5_count 129 = .ok (.getfield 38, 3) := by decide +kernel
theorem dX5_count_132 : decode cX5_count 132 = .ok (.getfield 160, 3) := by decide +kernel
theorem dX5_count_135 : decode cX5_count 135 = .ok (.ireturn, 1) := by decide +kernel
theorem dX5_count_136 : decode cX5_count 136 = .ok (.aload_n 0, 1) := by decide +kernel
theorem dX5_count_137 : decode cX5_count 137 = .ok (.getfield 45, 3) := by decide +kernel
theorem dX5_count_140 : decode cX5_count 140 = .ok (.getfield 203, 3) := by decide +kernel
theorem dX5_count_143 : decode cX5_count 143 = .ok (.ireturn, 1) := by decide +kernel
theorem dX5_count_144 : decode cX5_count 144 = .ok (.bipush (-2), 2) := by decide +kernel
theorem dX5_count_146 : decode cX5_count 146 = .ok (.ireturn, 1) := by decide +kernel
theorem dX5_within_0 : decode cX5_within 0 = .ok (.iload_n 0, 1) := by decide +kernel
theorem dX5_within_1 : decode cX5_within 1 = .ok (.iload_n 1, 1) := by decide +kernel
theorem dX5_within_2 : decode cX5_within 2 = .ok (.if_icmp .lt 12, 3) := by decide +kernel
theorem dX5_within_5 : decode cX5_within 5 = .ok (.iload_n 0, 1) := by decide +kernel
theorem dX5_within_6 : decode cX5_within 6 = .ok (.iload_n 2, 1) := by decide +kernel
theorem dX5_within_7 : decode cX5_within 7 = .ok (.if_icmp .gt 7, 3) := by decide +kernel
theorem dX5_within_10 : decode cX5_within 10 = .ok (.iconst 1, 1) := by decide +kernel
theorem dX5_within_11 : decode cX5_within 11 = .ok (.goto 4, 3) := by decide +kernel
theorem dX5_within_14 : decode cX5_within 14 = .ok (.iconst 0, 1) := by decide +kernel
theorem dX5_within_15 : decode cX5_within 15 = .ok (.ireturn, 1) := by decide +kernel
theorem dX5_isStreet_0 : decode cX5_isStreet 0 = .ok (.iload_n 0, 1) := by decide +kernel
theorem dX5_isStreet_1 : decode cX5_isStreet 1 = .ok (.ifCond .lt 13, 3) := by decide +kernel
theorem dX5_isStreet_4 : decode cX5_isStreet 4 = .ok (.iload_n 0, 1) := by decide +kernel
theorem dX5_isStreet_5 : decode cX5_isStreet 5 = .ok (.bipush 8, 2) := by decide +kernel
theorem dX5_isStreet_7 : decode cX5_isStreet 7 = .ok (.if_icmp .ge 7, 3) := by decide +kernel
theorem dX5_isStreet_10 : decode cX5_isStreet 10 = .ok (.iconst 1, 1) := by decide +kernel
theorem dX5_isStreet_11 : decode cX5_isStreet 11 = .ok (.goto 4, 3) := by decide +kernel
theorem dX5_isStreet_14 : decode cX5_isStreet 14 = .ok (.iconst 0, 1) := by decide +kernel
theorem dX5_isStreet_15 : decode cX5_isStreet 15 = .ok (.ireturn, 1) := by decide +kernel
set_option maxRecDepth 20000 in
theorem ggX5_fromNow_X2_copy : GoodIn wsX5_fromNow wsX2_copy := goodIn_r _ [7, 8, 9, 10, 11, 12, 13, 14, 15, 16, 26, 27, 28, 29, 30, 31, 32] (by decide +kernel) (by decide +kernel)
set_option maxRecDepth 20000 in
theorem gX5_fromNow_X2_copy : GoodIn wsX5_fromNow (wsV RX5 247 RX2 yX2_copy wsX2_copy) := goodIn_app (goodIn_of _ (by decide +kernel)) ggX5_fromNow_X2_copy
theorem dX5_fromNow_0 : decode cX5_fromNow 0 = .ok (.aload_n 0, 1) := by decide +kernel
theorem dX5_fromNow_1 : decode cX5_fromNow 1 = .ok (.getfield 32, 3) := by decide +kernel
theorem dX5_fromNow_4 : decode cX5_fromNow 4 = .ok (.aload_n 0, 1) := by decide +kernel
theorem dX5_fromNow_5 : decode cX5_fromNow 5 = .ok (.getfield 28, 3) := by decide +kernel
theorem dX5_fromNow_8 : decode cX5_fromNow 8 = .ok (.invokevirtual 247, 3) := by decide +kernel
theorem dX5_fromNow_11 : decode cX5_fromNow 11 = .ok (.aload_n 0, 1) := by decide +kernel
theorem dX5_fromNow_12 : decode cX5_fromNow 12 = .ok (.getfield 32, 3) := by decide +kernel
theorem dX5_fromNow_15 : decode cX5_fromNow 15 = .ok (.areturn, 1) := by decide +kernel
set_option maxRecDepth 20000 in
theorem ggX5_behind_X5_fromNow : GoodIn wsX5_behind wsX5_fromNow := goodIn_r _ [5, 6, 7, 8, 9, 10, 11, 12, 13, 14, 15, 16, 17, 18, 19, 20, 21, 88, 89, 90, 91, 92, 93, 94, 95, 96, 97, 98, 99, 100, 101, 102, 103] (by decide +kernel) (by decide +kernel)
set_option maxRecDepth 20000 in
theorem gX5_behind_X5_fromNow : GoodIn wsX5_behind (wsV RX5 173 RX5 yX5_fromNow wsX5_fromNow) := goodIn_app (goodIn_of _ (by decide +kernel)) ggX5_behind_X5_fromNow
set_option maxRecDepth 20000 in
theorem ggX5_behind_X2_passDawn : GoodIn wsX5_behind wsX2_passDawn := goodIn_r _ [25, 26, 21, 27, 28, 29, 11, 30, 31, 32, 33, 34, 13, 35, 36, 37, 38, 39, 4, 40, 41, 42, 43, 44, 45, 46, 47, 48, 18, 49, 50, 51, 52, 53, 54, 55, 56, 57, 58, 59, 60, 61, 62, 63, 19, 64, 65, 66, 67, 68, 69, 70, 71, 72, 20, 73, 74, 75, 76, 77, 78, 79, 80, 81, 82, 83, 84, 85, 86, 87, 97, 98, 99, 100, 101, 102, 103, 104, 105, 106, 107, 108, 109, 110, 111] (by decide +kernel) (by decide +kernel)
set_option maxRecDepth 20000 in
theorem gX5_behind_X2_passDawn : GoodIn wsX5_behind (wsV RX5 129 RX2 yX2_passDawn wsX2_passDawn) := goodIn_app (goodIn_of _ (by decide +kernel)) ggX5_behind_X2_passDawn
theorem dX5_behind_0 : decode cX5_behind 0 = .ok (.aload_n 0, 1) := by decide +kernel
theorem dX5_behind_1 : decode cX5_behind 1 = .ok (.invokevirtual 173, 3) := by decide +kernel
theorem dX5_behind_4 : decode cX5_behind 4 = .ok (.astore_n 3, 1) := by decide +kernel
theorem dX5_behind_5 : decode cX5_behind 5 = .ok (.iconst 0, 1) := by decide +kernel
theorem dX5_behind_6 : decode cX5_behind 6 = .ok (.istore 4, 2) := by decide +kernel
theorem dX5_behind_8 : decode cX5_behind 8 = .ok (.iload 4, 2) := by decide +kernel
theorem dX5_behind_10 : decode cX5_behind 10 = .ok (.iload_n 1, 1) := by decide +kernel
theorem dX5_behind_11 : decode cX5_behind 11 = .ok (.if_icmp .ge 15, 3) := by decide +kernel
theorem dX5_behind_14 : decode cX5_behind 14 = .ok (.aload_n 3, 1) := by decide +kernel
theorem dX5_behind_15 : decode cX5_behind 15 = .ok (.iload_n 2, 1) := by decide +kernel
theorem dX5_behind_16 : decode cX5_behind 16 = .ok (.iconst 1, 1) := by decide +kernel
theorem dX5_behind_17 : decode cX5_behind 17 = .ok (.invokevirtual 129, 3) := by decide +kernel
theorem dX5_behind_20 : decode cX5_behind 20 = .ok (.iinc 4 1, 3) := by decide +kernel
theorem dX5_behind_23 : decode cX5_behind 23 = .ok (.goto (-15), 3) := by decide +kernel
theorem dX5_behind_26 : decode cX5_behind 26 = .ok (.aload_n 3, 1) := by decide +kernel
theorem dX5_behind_27 : decode cX5_behind 27 = .ok (.areturn, 1) := by decide +kernel
set_option maxRecDepth 20000 in
theorem ggX5_staysShallow_X5_fromNow : GoodIn wsX5_staysShallow wsX5_fromNow := goodIn_r _ [5, 6, 7, 8, 9, 10, 11, 12, 13, 14, 15, 16, 17, 18, 19, 20, 21, 104, 105, 106, 107, 108, 109, 110, 111, 112, 113, 114, 115, 116, 117, 118, 119] (by decide +kernel) (by decide +kernel)
set_option maxRecDepth 20000 in
theorem gX5_staysShallow_X5_fromNow : GoodIn wsX5_staysShallow (wsV RX5 173 RX5 yX5_fromNow wsX5_fromNow) := goodIn_app (goodIn_of _ (by decide +kernel)) ggX5_staysShallow_X5_fromNow
set_option maxRecDepth 20000 in
theorem ggX5_staysShallow_X2_bow : GoodIn wsX5_staysShallow wsX2_bow := goodIn_r _ [25, 20, 113, 114, 115, 116, 117, 118, 119] (by decide +kernel) (by decide +kernel)
set_option maxRecDepth 20000 in
theorem gX5_staysShallow_X2_bow : GoodIn wsX5_staysShallow (wsV RX5 146 RX2 yX2_bow wsX2_bow) := goodIn_app (goodIn_of _ (by decide +kernel)) ggX5_staysShallow_X2_bow
set_option maxRecDepth 20000 in
theorem ggX5_staysShallow_X2_passDawn : GoodIn wsX5_staysShallow wsX2_passDawn := goodIn_r _ [29, 30, 21, 31, 32, 33, 11, 34, 35, 36, 37, 38, 13, 39, 40, 41, 42, 43, 4, 44, 45, 46, 47, 48, 49, 50, 51, 52, 18, 53, 54, 55, 56, 57, 58, 59, 60, 61, 62, 63, 64, 65, 66, 67, 19, 68, 69, 70, 71, 72, 73, 74, 75, 76, 20, 77, 78, 79, 80, 81, 82, 83, 84, 85, 86, 87, 88, 89, 90, 91, 113, 114, 115, 116, 117, 118, 119, 120, 121, 122, 123, 124, 125, 126, 127] (by decide +kernel) (by decide +kernel)
set_option maxRecDepth 20000 in
theorem gX5_staysShallow_X2_passDawn : GoodIn wsX5_staysShallow (wsV RX5 129 RX2 yX2_passDawn wsX2_passDawn) := goodIn_app (goodIn_of _ (by decide +kernel)) ggX5_staysShallow_X2_passDawn
set_option maxRecDepth 20000 in
theorem ggX5_staysShallow_X2_firstDeep : GoodIn wsX5_staysShallow wsX2_firstDeep := goodIn_r _ [95, 96, 97, 98, 11, 99, 100, 101, 102, 103, 13, 43, 4, 44, 113, 114, 115, 116, 117, 118, 119] (by decide +kernel) (by decide +kernel)
set_option maxRecDepth 20000 in
theorem gX5_staysShallow_X2_firstDeep : GoodIn wsX5_staysShallow (wsV RX5 177 RX2 yX2_firstDeep wsX2_firstDeep) := goodIn_app (goodIn_of _ (by decide +kernel)) ggX5_staysShallow_X2_firstDeep
theorem dX5_staysShallow_0 : decode cX5_staysShallow 0 = .ok (.aload_n 0, 1) := by decide +kernel
theorem dX5_staysShallow_1 : decode cX5_staysShallow 1 = .ok (.invokevirtual 173, 3) := by decide +kernel
theorem dX5_staysShallow_4 : decode cX5_staysShallow 4 = .ok (.astore_n 3, 1) := by decide +kernel
theorem dX5_staysShallow_5 : decode cX5_staysShallow 5 = .ok (.aload_n 3, 1) := by decide +kernel
theorem dX5_staysShallow_6 : decode cX5_staysShallow 6 = .ok (.iload_n 1, 1) := by decide +kernel
theorem dX5_staysShallow_7 : decode cX5_staysShallow 7 = .ok (.invokevirtual 146, 3) := by decide +kernel
theorem dX5_staysShallow_10 : decode cX5_staysShallow 10 = .ok (.iconst 0, 1) := by decide +kernel
theorem dX5_staysShallow_11 : decode cX5_staysShallow 11 = .ok (.istore 4, 2) := by decide +kernel
theorem dX5_staysShallow_13 : decode cX5_staysShallow 13 = .ok (.iload 4, 2) := by decide +kernel
theorem dX5_staysShallow_15 : decode cX5_staysShallow 15 = .ok (.iload_n 2, 1) := by decide +kernel
theorem dX5_staysShallow_16 : decode cX5_staysShallow 16 = .ok (.if_icmp .ge 27, 3) := by decide +kernel
theorem dX5_staysShallow_19 : decode cX5_staysShallow 19 = .ok (.aload_n 3, 1) := by decide +kernel
theorem dX5_staysShallow_20 : decode cX5_staysShallow 20 = .ok (.bipush 31, 2) := by decide +kernel
theorem dX5_staysShallow_22 : decode cX5_staysShallow 22 = .ok (.iconst 1, 1) := by decide +kernel
theorem dX5_staysShallow_23 : decode cX5_staysShallow 23 = .ok (.invokevirtual 129, 3) := by decide +kernel
theorem dX5_staysShallow_26 : decode cX5_staysShallow 26 = .ok (.aload_n 3, 1) := by decide +kernel
theorem dX5_staysShallow_27 : decode cX5_staysShallow 27 = .ok (.invokevirtual 177, 3) := by decide +kernel
theorem dX5_staysShallow_30 : decode cX5_staysShallow 30 = .ok (.bipush (-9), 2) := by decide +kernel
theorem dX5_staysShallow_32 : decode cX5_staysShallow 32 = .ok (.if_icmp .eq 5, 3) := by decide +kernel
theorem dX5_staysShallow_35 : decode cX5_staysShallow 35 = .ok (.iconst 0, 1) := by decide +kernel
theorem dX5_staysShallow_36 : decode cX5_staysShallow 36 = .ok (.ireturn, 1) := by decide +kernel
theorem dX5_staysShallow_37 : decode cX5_staysShallow 37 = .ok (.iinc 4 1, 3) := by decide +kernel
theorem dX5_staysShallow_40 : decode cX5_staysShallow 40 = .ok (.goto (-27), 3) := by decide +kernel
theorem dX5_staysShallow_43 : decode cX5_staysShallow 43 = .ok (.iconst 1, 1) := by decide +kernel
theorem dX5_staysShallow_44 : decode cX5_staysShallow 44 = .ok (.ireturn, 1) := by decide +kernel
set_option maxRecDepth 20000 in
theorem ggX5_isSo_X5_tryStep : GoodIn wsX5_isSo wsX5_tryStep := goodIn_r _ [5, 6, 7, 8, 9, 10, 11, 12, 13, 14, 4, 15, 16, 17, 18, 19, 20, 21, 22, 23, 24, 25, 26, 27, 28, 29, 30, 31, 32, 33, 34, 35, 36, 37, 130, 131, 132, 133, 134, 135, 136, 137, 138, 139, 140, 141, 142, 143, 144, 145, 146, 147, 148, 149, 150, 151, 152, 153] (by decide +kernel) (by decide +kernel)
set_option maxRecDepth 20000 in
theorem gX5_isSo_X5_tryStep : GoodIn wsX5_isSo (wsV RX5 250 RX5 yX5_tryStep wsX5_tryStep) := goodIn_app (goodIn_of _ (by decide +kernel)) ggX5_isSo_X5_tryStep
set_option maxRecDepth 20000 in
theorem ggX5_isSo_X5_isStreet : GoodIn wsX5_isSo wsX5_isStreet := goodIn_r _ [40] (by decide +kernel) (by decide +kernel)
set_option maxRecDepth 20000 in
theorem gX5_isSo_X5_isStreet : GoodIn wsX5_isSo (va_wsS RX5 93 yX5_isStreet wsX5_isStreet) := goodIn_app (goodIn_of _ (by decide +kernel)) ggX5_isSo_X5_isStreet
set_option maxRecDepth 20000 in
theorem ggX5_isSo_X2_dustIn : GoodIn wsX5_isSo wsX2_dustIn := goodIn_r _ [44, 45, 39, 4, 40, 147, 148, 149, 150, 151, 152, 153] (by decide +kernel) (by decide +kernel)
set_option maxRecDepth 20000 in
theorem gX5_isSo_X2_dustIn : GoodIn wsX5_isSo (wsV RX5 97 RX2 yX2_dustIn wsX2_dustIn) := goodIn_app (goodIn_of _ (by decide +kernel)) ggX5_isSo_X2_dustIn
set_option maxRecDepth 20000 in
theorem ggX5_isSo_X5_tryDawn : GoodIn wsX5_isSo wsX5_tryDawn := goodIn_r _ [49, 50, 51, 52, 19, 53, 25, 54, 55, 56, 57, 58, 59, 60, 61, 62, 45, 63, 64, 65, 66, 39, 4, 40, 67, 68, 69, 70, 21, 22, 23, 24, 26, 27, 8, 9, 10, 11, 12, 71, 72, 73, 74, 75, 76, 77, 78, 79, 80, 81, 82, 83, 84, 85, 86, 87, 88, 89, 90, 91, 92, 93, 94, 31, 32, 33, 28, 29, 30, 95, 96, 97, 98, 99, 147, 148, 149, 150, 151, 152, 153, 139, 140, 141, 142, 143, 144, 145, 146] (by decide +kernel) (by decide +kernel)
set_option maxRecDepth 20000 in
theorem gX5_isSo_X5_tryDawn : GoodIn wsX5_isSo (wsV RX5 254 RX5 yX5_tryDawn wsX5_tryDawn) := goodIn_app (goodIn_of _ (by decide +kernel)) ggX5_isSo_X5_tryDawn
set_option maxRecDepth 20000 in
theorem ggX5_isSo_X5_tryVote : GoodIn wsX5_isSo wsX5_tryVote := goodIn_r _ [103, 104, 105, 106, 19, 107, 80, 147, 148, 149, 150, 151, 152, 153] (by decide +kernel) (by decide +kernel)
set_option maxRecDepth 20000 in
theorem gX5_isSo_X5_tryVote : GoodIn wsX5_isSo (wsV RX5 258 RX5 yX5_tryVote wsX5_tryVote) := goodIn_app (goodIn_of _ (by decide +kernel)) ggX5_isSo_X5_tryVote
set_option maxRecDepth 20000 in
theorem ggX5_isSo_X5_tryBow : GoodIn wsX5_isSo wsX5_tryBow := goodIn_r _ [111, 6, 7, 8, 9, 10, 11, 12, 112, 87, 88, 19, 89, 90, 113, 114, 115, 116, 130, 131, 132, 133, 134, 135, 136, 137, 138, 139, 140, 141, 142, 143, 144, 145, 146, 147, 148, 149, 150, 151, 152, 153] (by decide +kernel) (by decide +kernel)
set_option maxRecDepth 20000 in
theorem gX5_isSo_X5_tryBow : GoodIn wsX5_isSo (wsV RX5 261 RX5 yX5_tryBow wsX5_tryBow) := goodIn_app (goodIn_of _ (by decide +kernel)) ggX5_isSo_X5_tryBow
set_option maxRecDepth 20000 in
theorem ggX5_isSo_X5_tryEmpty : GoodIn wsX5_isSo wsX5_tryEmpty := goodIn_r _ [120, 38, 39, 4, 40, 41, 42, 43, 19, 44, 45, 121, 122, 123, 124, 147, 148, 149, 150, 151, 152, 153] (by decide +kernel) (by decide +kernel)
set_option maxRecDepth 20000 in
theorem gX5_isSo_X5_tryEmpty : GoodIn wsX5_isSo (wsV RX5 265 RX5 yX5_tryEmpty wsX5_tryEmpty) := goodIn_app (goodIn_of _ (by decide +kernel)) ggX5_isSo_X5_tryEmpty
set_option maxRecDepth 20000 in
theorem ggX5_isSo_X2_isDeep : GoodIn wsX5_isSo wsX2_isDeep := goodIn_r _ [128, 129, 42, 43, 19, 44, 45, 39, 4, 40, 147, 148, 149, 150, 151, 152, 153] (by decide +kernel) (by decide +kernel)
set_option maxRecDepth 20000 in
theorem gX5_isSo_X2_isDeep : GoodIn wsX5_isSo (wsV RX5 101 RX2 yX2_isDeep wsX2_isDeep) := goodIn_app (goodIn_of _ (by decide +kernel)) ggX5_isSo_X2_isDeep
theorem dX5_isSo_0 : decode cX5_isSo 0 = .ok (.iload_n 2, 1) := by decide +kernel
theorem dX5_isSo_1 : decode cX5_isSo 1 = .ok (.iconst 1, 1) := by decide +kernel
theorem dX5_isSo_2 : decode cX5_isSo 2 = .ok (.if_icmp .ne 12, 3) := by decide +kernel
theorem dX5_isSo_5 : decode cX5_isSo 5 = .ok (.aload_n 0, 1) := by decide +kernel
theorem dX5_isSo_6 : decode cX5_isSo 6 = .ok (.aload_n 1, 1) := by decide +kernel
theorem dX5_isSo_7 : decode cX5_isSo 7 = .ok (.iload_n 3, 1) := by decide +kernel
theorem dX5_isSo_8 : decode cX5_isSo 8 = .ok (.iload 4, 2) := by decide +kernel
theorem dX5_isSo_10 : decode cX5_isSo 10 = .ok (.invokevirtual 250, 3) := by decide +kernel
theorem dX5_isSo_13 : decode cX5_isSo 13 = .ok (.ireturn, 1) := by decide +kernel
theorem dX5_isSo_14 : decode cX5_isSo 14 = .ok (.iload_n 2, 1) := by decide +kernel
theorem dX5_isSo_15 : decode cX5_isSo 15 = .ok (.iconst 5, 1) := by decide +kernel
theorem dX5_isSo_16 : decode cX5_isSo 16 = .ok (.if_icmp .ne 26, 3) := by decide +kernel
theorem dX5_isSo_19 : decode cX5_isSo 19 = .ok (.iload_n 3, 1) := by decide +kernel
theorem dX5_isSo_20 : decode cX5_isSo 20 = .ok (.invokestatic 93, 3) := by decide +kernel
theorem dX5_isSo_23 : decode cX5_isSo 23 = .ok (.ifCond .eq 17, 3) := by decide +kernel
theorem dX5_isSo_26 : decode cX5_isSo 26 = .ok (.aload_n 1, 1) := by decide +kernel
theorem dX5_isSo_27 : decode cX5_isSo 27 = .ok (.iload_n 3, 1) := by decide +kernel
theorem dX5_isSo_28 : decode cX5_isSo 28 = .ok (.invokevirtual 97, 3) := by decide +kernel
theorem dX5_isSo_31 : decode cX5_isSo 31 = .ok (.iload 4, 2) := by decide +kernel
theorem dX5_isSo_33 : decode cX5_isSo 33 = .ok (.if_icmp .lt 7, 3) := by decide +kernel
theorem dX5_isSo_36 : decode cX5_isSo 36 = .ok (.iconst 1, 1) := by decide +kernel
theorem dX5_isSo_37 : decode cX5_isSo 37 = .ok (.goto 4, 3) := by decide +kernel
theorem dX5_isSo_40 : decode cX5_isSo 40 = .ok (.iconst 0, 1) := by decide +kernel
theorem dX5_isSo_41 : decode cX5_isSo 41 = .ok (.ireturn, 1) := by decide +kernel
theorem dX5_isSo_42 : decode cX5_isSo 42 = .ok (.iload_n 3, 1) := by decide +kernel
theorem dX5_isSo_43 : decode cX5_isSo 43 = .ok (.ifCond .eq 5, 3) := by decide +kernel
theorem dX5_isSo_46 : decode cX5_isSo 46 = .ok (.iconst 0, 1) := by decide +kernel
theorem dX5_isSo_47 : decode cX5_isSo 47 = .ok (.ireturn, 1) := by decide +kernel
theorem dX5_isSo_48 : decode cX5_isSo 48 = .ok (.iload_n 2, 1) := by decide +kernel
theorem dX5_isSo_49 : decode cX5_isSo 49 = .ok (.tableswitch 120 0 6 #[43, 120, 62, 81, 89, 120, 97], 43) := by decide +kernel
theorem dX5_isSo_92 : decode cX5_isSo 92 = .ok (.iload 4, 2) := by decide +kernel
theorem dX5_isSo_94 : decode cX5_isSo 94 = .ok (.ifCond .ne 15, 3) := by decide +kernel
theorem dX5_isSo_97 : decode cX5_isSo 97 = .ok (.aload_n 0, 1) := by decide +kernel
theorem dX5_isSo_98 : decode cX5_isSo 98 = .ok (.aload_n 1, 1) := by decide +kernel
theorem dX5_isSo_99 : decode cX5_isSo 99 = .ok (.invokevirtual 254, 3) := by decide +kernel
theorem dX5_isSo_102 : decode cX5_isSo 102 = .ok (.ifCond .eq 7, 3) := by decide +kernel
theorem dX5_isSo_105 : decode cX5_isSo 105 = .ok (.iconst 1, 1) := by decide +kernel
theorem dX5_isSo_106 : decode cX5_isSo 106 = .ok (.goto 4, 3) := by decide +kernel
theorem dX5_isSo_109 : decode cX5_isSo 109 = .ok (.iconst 0, 1) := by decide +kernel
theorem dX5_isSo_110 : decode cX5_isSo 110 = .ok (.ireturn, 1) := by decide +kernel
theorem dX5_isSo_111 : decode cX5_isSo 111 = .ok (.iload 4, 2) := by decide +kernel
theorem dX5_isSo_113 : decode cX5_isSo 113 = .ok (.ifCond .ne 15, 3) := by decide +kernel
theorem dX5_isSo_116 : decode cX5_isSo 116 = .ok (.aload_n 0, 1) := by decide +kernel
theorem dX5_isSo_117 : decode cX5_isSo 117 = .ok (.aload_n 1, 1) := by decide +kernel
theorem dX5_isSo_118 : decode cX5_isSo 118 = .ok (.invokevirtual 258, 3) := by decide +kernel
theorem dX5_isSo_121 : decode cX5_isSo 121 = .ok (.ifCond .eq 7, 3) := by decide +kernel
theorem dX5_isSo_124 : decode cX5_isSo 124 = .ok (.iconst 1, 1) := by decide +kernel
theorem dX5_isSo_125 : decode cX5_isSo 125 = .ok (.goto 4, 3) := by decide +kernel
theorem dX5_isSo_128 : decode cX5_isSo 128 = .ok (.iconst 0, 1) := by decide +kernel
theorem dX5_isSo_129 : decode cX5_isSo 129 = .ok (.ireturn, 1) := by decide +kernel
theorem dX5_isSo_130 : decode cX5_isSo 130 = .ok (.aload_n 0, 1) := by decide +kernel
theorem dX5_isSo_131 : decode cX5_isSo 131 = .ok (.aload_n 1, 1) := by decide +kernel
theorem dX5_isSo_132 : decode cX5_isSo 132 = .ok (.iload 4, 2) := by decide +kernel
theorem dX5_isSo_134 : decode cX5_isSo 134 = .ok (.invokevirtual 261, 3) := by decide +kernel
theorem dX5_isSo_137 : decode cX5_isSo 137 = .ok (.ireturn, 1) := by decide +kernel
theorem dX5_isSo_138 : decode cX5_isSo 138 = .ok (.aload_n 0, 1) := by decide +kernel
theorem dX5_isSo_139 : decode cX5_isSo 139 = .ok (.aload_n 1, 1) := by decide +kernel
theorem dX5_isSo_140 : decode cX5_isSo 140 = .ok (.iload 4, 2) := by decide +kernel
theorem dX5_isSo_142 : decode cX5_isSo 142 = .ok (.invokevirtual 265, 3) := by decide +kernel
theorem dX5_isSo_145 : decode cX5_isSo 145 = .ok (.ireturn, 1) := by decide +kernel
theorem dX5_isSo_146 : decode cX5_isSo 146 = .ok (.iload 4, 2) := by decide +kernel
theorem dX5_isSo_148 : decode cX5_isSo 148 = .ok (.invokestatic 93, 3) := by decide +kernel
theorem dX5_isSo_151 : decode cX5_isSo 151 = .ok (.ifCond .eq 16, 3) := by decide +kernel
theorem dX5_isSo_154 : decode cX5_isSo 154 = .ok (.aload_n 1, 1) := by decide +kernel
theorem dX5_isSo_155 : decode cX5_isSo 155 = .ok (.iload 4, 2) := by decide +kernel
theorem dX5_isSo_157 : decode cX5_isSo 157 = .ok (.invokevirtual 101, 3) := by decide +kernel
theorem dX5_isSo_160 : decode cX5_isSo 160 = .ok (.ifCond .eq 7, 3) := by decide +kernel
theorem dX5_isSo_163 : decode cX5_isSo 163 = .ok (.iconst 1, 1) := by decide +kernel
theorem dX5_isSo_164 : decode cX5_isSo 164 = .ok (.goto 4, 3) := by decide +kernel
theorem dX5_isSo_167 : decode cX5_isSo 167 = .ok (.iconst 0, 1) := by decide +kernel
theorem dX5_isSo_168 : decode cX5_isSo 168 = .ok (.ireturn, 1) := by decide +kernel
theorem dX5_isSo_169 : decode cX5_isSo 169 = .ok (.iconst 0, 1) := by decide +kernel
theorem dX5_isSo_170 : decode cX5_isSo 170 = .ok (.ireturn, 1) := by decide +kernel
set_option maxRecDepth 20000 in
theorem ggX5_tryDawn_X2_passDawn : GoodIn wsX5_tryDawn wsX2_passDawn := goodIn_r _ [5, 6, 7, 8, 9, 10, 4, 11, 12, 13, 14, 15, 16, 17, 18, 19, 20, 21, 22, 23, 24, 25, 26, 27, 28, 29, 30, 31, 32, 33, 34, 35, 36, 37, 38, 39, 40, 41, 42, 43, 44, 45, 46, 47, 48, 49, 50, 51, 52, 53, 54, 55, 56, 57, 58, 59, 60, 61, 62, 63, 64, 65, 66, 67, 68, 69, 70, 71, 72, 73, 74, 75, 76, 77, 78, 79, 80, 81, 82, 83, 84, 85, 86, 87, 88] (by decide +kernel) (by decide +kernel)
set_option maxRecDepth 20000 in
theorem gX5_tryDawn_X2_passDawn : GoodIn wsX5_tryDawn (wsV RX5 129 RX2 yX2_passDawn wsX2_passDawn) := goodIn_app (goodIn_of _ (by decide +kernel)) ggX5_tryDawn_X2_passDawn
theorem dX5_tryDawn_0 : decode cX5_tryDawn 0 = .ok (.aload_n 1, 1) := by decide +kernel
theorem dX5_tryDawn_1 : decode cX5_tryDawn 1 = .ok (.bipush 31, 2) := by decide +kernel
theorem dX5_tryDawn_3 : decode cX5_tryDawn 3 = .ok (.iconst 1, 1) := by decide +kernel
theorem dX5_tryDawn_4 : decode cX5_tryDawn 4 = .ok (.invokevirtual 129, 3) := by decide +kernel
theorem dX5_tryDawn_7 : decode cX5_tryDawn 7 = .ok (.iconst 1, 1) := by decide +kernel
theorem dX5_tryDawn_8 : decode cX5_tryDawn 8 = .ok (.ireturn, 1) := by decide +kernel
set_option maxRecDepth 20000 in
theorem ggX5_tryStep_X4_hasBroom : GoodIn wsX5_tryStep wsX4_hasBroom := goodIn_r _ [6, 7, 43, 44, 45, 46, 47, 48, 49, 50] (by decide +kernel) (by decide +kernel)
set_option maxRecDepth 20000 in
theorem gX5_tryStep_X4_hasBroom : GoodIn wsX5_tryStep (wsV RX5 107 RX4 yX4_hasBroom wsX4_hasBroom) := goodIn_app (goodIn_of _ (by decide +kernel)) ggX5_tryStep_X4_hasBroom
set_option maxRecDepth 20000 in
theorem ggX5_tryStep_X5_within : GoodIn wsX5_tryStep wsX5_within := goodIn_r _ [11] (by decide +kernel) (by decide +kernel)
set_option maxRecDepth 20000 in
theorem gX5_tryStep_X5_within : GoodIn wsX5_tryStep (va_wsS RX5 61 yX5_within wsX5_within) := goodIn_app (goodIn_of _ (by decide +kernel)) ggX5_tryStep_X5_within
set_option maxRecDepth 20000 in
theorem ggX5_tryStep_X2_step : GoodIn wsX5_tryStep wsX2_step := goodIn_r _ [16, 17, 18, 19, 15, 20, 21, 22, 23, 3, 4, 5, 6, 7, 24, 25, 26, 27, 28, 29, 30, 31, 32, 33, 51, 52, 53, 54, 55, 56, 57, 43, 44, 45, 46, 47, 48, 49, 50] (by decide +kernel) (by decide +kernel)
set_option maxRecDepth 20000 in
theorem gX5_tryStep_X2_step : GoodIn wsX5_tryStep (wsV RX5 136 RX2 yX2_step wsX2_step) := goodIn_app (goodIn_of _ (by decide +kernel)) ggX5_tryStep_X2_step
theorem dX5_tryStep_0 : decode cX5_tryStep 0 = .ok (.aload_n 0, 1) := by decide +kernel
theorem dX5_tryStep_1 : decode cX5_tryStep 1 = .ok (.getfield 19, 3) := by decide +kernel
theorem dX5_tryStep_4 : decode cX5_tryStep 4 = .ok (.iload_n 2, 1) := by decide +kernel
theorem dX5_tryStep_5 : decode cX5_tryStep 5 = .ok (.invokevirtual 107, 3) := by decide +kernel
theorem dX5_tryStep_8 : decode cX5_tryStep 8 = .ok (.ifCond .eq 12, 3) := by decide +kernel
theorem dX5_tryStep_11 : decode cX5_tryStep 11 = .ok (.iload_n 3, 1) := by decide +kernel
theorem dX5_tryStep_12 : decode cX5_tryStep 12 = .ok (.iconst 0, 1) := by decide +kernel
theorem dX5_tryStep_13 : decode cX5_tryStep 13 = .ok (.iconst 1, 1) := by decide +kernel
theorem dX5_tryStep_14 : decode cX5_tryStep 14 = .ok (.invokestatic 61, 3) := by decide +kernel
theorem dX5_tryStep_17 : decode cX5_tryStep 17 = .ok (.ifCond .ne 5, 3) := by decide +kernel
theorem dX5_tryStep_20 : decode cX5_tryStep 20 = .ok (.iconst 0, 1) := by decide +kernel
theorem dX5_tryStep_21 : decode cX5_tryStep 21 = .ok (.ireturn, 1) := by decide +kernel
theorem dX5_tryStep_22 : decode cX5_tryStep 22 = .ok (.aload_n 1, 1) := by decide +kernel
theorem dX5_tryStep_23 : decode cX5_tryStep 23 = .ok (.iload_n 2, 1) := by decide +kernel
theorem dX5_tryStep_24 : decode cX5_tryStep 24 = .ok (.iload_n 3, 1) := by decide +kernel
theorem dX5_tryStep_25 : decode cX5_tryStep 25 = .ok (.invokevirtual 136, 3) := by decide +kernel
theorem dX5_tryStep_28 : decode cX5_tryStep 28 = .ok (.iconst 1, 1) := by decide +kernel
theorem dX5_tryStep_29 : decode cX5_tryStep 29 = .ok (.ireturn, 1) := by decide +kernel
set_option maxRecDepth 20000 in
theorem ggX5_tryVote_X2_turnVote : GoodIn wsX5_tryVote wsX2_turnVote := goodIn_r _ [5, 6, 7, 8, 9, 10, 11, 12, 13] (by decide +kernel) (by decide +kernel)
set_option maxRecDepth 20000 in
theorem gX5_tryVote_X2_turnVote : GoodIn wsX5_tryVote (wsV RX5 139 RX2 yX2_turnVote wsX2_turnVote) := goodIn_app (goodIn_of _ (by decide +kernel)) ggX5_tryVote_X2_turnVote
theorem dX5_tryVote_0 : decode cX5_tryVote 0 = .ok (.aload_n 1, 1) := by decide +kernel
theorem dX5_tryVote_1 : decode cX5_tryVote 1 = .ok (.invokevirtual 139, 3) := by decide +kernel
theorem dX5_tryVote_4 : decode cX5_tryVote 4 = .ok (.iconst 1, 1) := by decide +kernel
theorem dX5_tryVote_5 : decode cX5_tryVote 5 = .ok (.ireturn, 1) := by decide +kernel
set_option maxRecDepth 20000 in
theorem ggX5_tryBow_X4_hasBroom : GoodIn wsX5_tryBow wsX4_hasBroom := goodIn_r _ [6, 7, 27, 28, 29, 30, 31, 32, 33, 34] (by decide +kernel) (by decide +kernel)
set_option maxRecDepth 20000 in
theorem gX5_tryBow_X4_hasBroom : GoodIn wsX5_tryBow (wsV RX5 107 RX4 yX4_hasBroom wsX4_hasBroom) := goodIn_app (goodIn_of _ (by decide +kernel)) ggX5_tryBow_X4_hasBroom
set_option maxRecDepth 20000 in
theorem ggX5_tryBow_X2_isBent : GoodIn wsX5_tryBow wsX2_isBent := goodIn_r _ [12, 13, 35, 36, 37, 38, 39, 40, 41] (by decide +kernel) (by decide +kernel)
set_option maxRecDepth 20000 in
theorem gX5_tryBow_X2_isBent : GoodIn wsX5_tryBow (wsV RX5 119 RX2 yX2_isBent wsX2_isBent) := goodIn_app (goodIn_of _ (by decide +kernel)) ggX5_tryBow_X2_isBent
set_option maxRecDepth 20000 in
theorem ggX5_tryBow_X2_bow : GoodIn wsX5_tryBow wsX2_bow := goodIn_r _ [17, 13, 35, 36, 37, 38, 39, 40, 41] (by decide +kernel) (by decide +kernel)
set_option maxRecDepth 20000 in
theorem gX5_tryBow_X2_bow : GoodIn wsX5_tryBow (wsV RX5 146 RX2 yX2_bow wsX2_bow) := goodIn_app (goodIn_of _ (by decide +kernel)) ggX5_tryBow_X2_bow
theorem dX5_tryBow_0 : decode cX5_tryBow 0 = .ok (.aload_n 0, 1) := by decide +kernel
theorem dX5_tryBow_1 : decode cX5_tryBow 1 = .ok (.getfield 19, 3) := by decide +kernel
theorem dX5_tryBow_4 : decode cX5_tryBow 4 = .ok (.iload_n 2, 1) := by decide +kernel
theorem dX5_tryBow_5 : decode cX5_tryBow 5 = .ok (.invokevirtual 107, 3) := by decide +kernel
theorem dX5_tryBow_8 : decode cX5_tryBow 8 = .ok (.ifCond .eq 11, 3) := by decide +kernel
theorem dX5_tryBow_11 : decode cX5_tryBow 11 = .ok (.aload_n 1, 1) := by decide +kernel
theorem dX5_tryBow_12 : decode cX5_tryBow 12 = .ok (.iload_n 2, 1) := by decide +kernel
theorem dX5_tryBow_13 : decode cX5_tryBow 13 = .ok (.invokevirtual 119, 3) := by decide +kernel
theorem dX5_tryBow_16 : decode cX5_tryBow 16 = .ok (.ifCond .eq 5, 3) := by decide +kernel
theorem dX5_tryBow_19 : decode cX5_tryBow 19 = .ok (.iconst 0, 1) := by decide +kernel
theorem dX5_tryBow_20 : decode cX5_tryBow 20 = .ok (.ireturn, 1) := by decide +kernel
theorem dX5_tryBow_21 : decode cX5_tryBow 21 = .ok (.aload_n 1, 1) := by decide +kernel
theorem dX5_tryBow_22 : decode cX5_tryBow 22 = .ok (.iconst 1, 1) := by decide +kernel
theorem dX5_tryBow_23 : decode cX5_tryBow 23 = .ok (.iload_n 2, 1) := by decide +kernel
theorem dX5_tryBow_24 : decode cX5_tryBow 24 = .ok (.ishl, 1) := by decide +kernel
theorem dX5_tryBow_25 : decode cX5_tryBow 25 = .ok (.invokevirtual 146, 3) := by decide +kernel
theorem dX5_tryBow_28 : decode cX5_tryBow 28 = .ok (.iconst 1, 1) := by decide +kernel
theorem dX5_tryBow_29 : decode cX5_tryBow 29 = .ok (.ireturn, 1) := by decide +kernel
set_option maxRecDepth 20000 in
theorem ggX5_tryEmpty_X5_isStreet : GoodIn wsX5_tryEmpty wsX5_isStreet := goodIn_r _ [4] (by decide +kernel) (by decide +kernel)
set_option maxRecDepth 20000 in
theorem gX5_tryEmpty_X5_isStreet : GoodIn wsX5_tryEmpty (va_wsS RX5 93 yX5_isStreet wsX5_isStreet) := goodIn_app (goodIn_of _ (by decide +kernel)) ggX5_tryEmpty_X5_isStreet
set_option maxRecDepth 20000 in
theorem ggX5_tryEmpty_X2_dustIn : GoodIn wsX5_tryEmpty wsX2_dustIn := goodIn_r _ [9, 10, 2, 3, 4, 15, 16, 17, 18, 19, 20, 21] (by decide +kernel) (by decide +kernel)
set_option maxRecDepth 20000 in
theorem gX5_tryEmpty_X2_dustIn : GoodIn wsX5_tryEmpty (wsV RX5 97 RX2 yX2_dustIn wsX2_dustIn) := goodIn_app (goodIn_of _ (by decide +kernel)) ggX5_tryEmpty_X2_dustIn
set_option maxRecDepth 20000 in
theorem ggX5_tryEmpty_X2_empty : GoodIn wsX5_tryEmpty wsX2_empty := goodIn_r _ [14, 10, 2, 3, 4, 15, 16, 17, 18, 19, 20, 21] (by decide +kernel) (by decide +kernel)
set_option maxRecDepth 20000 in
theorem gX5_tryEmpty_X2_empty : GoodIn wsX5_tryEmpty (wsV RX5 157 RX2 yX2_empty wsX2_empty) := goodIn_app (goodIn_of _ (by decide +kernel)) ggX5_tryEmpty_X2_empty
theorem dX5_tryEmpty_0 : decode cX5_tryEmpty 0 = .ok (.iload_n 2, 1) := by decide +kernel
theorem dX5_tryEmpty_1 : decode cX5_tryEmpty 1 = .ok (.invokestatic 93, 3) := by decide +kernel
theorem dX5_tryEmpty_4 : decode cX5_tryEmpty 4 = .ok (.ifCond .eq 11, 3) := by decide +kernel
theorem dX5_tryEmpty_7 : decode cX5_tryEmpty 7 = .ok (.aload_n 1, 1) := by decide +kernel
theorem dX5_tryEmpty_8 : decode cX5_tryEmpty 8 = .ok (.iload_n 2, 1) := by decide +kernel
theorem dX5_tryEmpty_9 : decode cX5_tryEmpty 9 = .ok (.invokevirtual 97, 3) := by decide +kernel
theorem dX5_tryEmpty_12 : decode cX5_tryEmpty 12 = .ok (.ifCond .ne 5, 3) := by decide +kernel
theorem dX5_tryEmpty_15 : decode cX5_tryEmpty 15 = .ok (.iconst 0, 1) := by decide +kernel
theorem dX5_tryEmpty_16 : decode cX5_tryEmpty 16 = .ok (.ireturn, 1) := by decide +kernel
theorem dX5_tryEmpty_17 : decode cX5_tryEmpty 17 = .ok (.aload_n 1, 1) := by decide +kernel
theorem dX5_tryEmpty_18 : decode cX5_tryEmpty 18 = .ok (.iload_n 2, 1) := by decide +kernel
theorem dX5_tryEmpty_19 : decode cX5_tryEmpty 19 = .ok (.invokevirtual 157, 3) := by decide +kernel
theorem dX5_tryEmpty_22 : decode cX5_tryEmpty 22 = .ok (.iconst 1, 1) := by decide +kernel
theorem dX5_tryEmpty_23 : decode cX5_tryEmpty 23 = .ok (.ireturn, 1) := by decide +kernel
set_option maxRecDepth 20000 in
theorem ggX5_happen_X5_tryStep : GoodIn wsX5_happen wsX5_tryStep := goodIn_r _ [5, 6, 7, 8, 9, 10, 11, 12, 13, 14, 4, 15, 16, 17, 18, 19, 20, 21, 22, 23, 24, 25, 26, 27, 28, 29, 30, 31, 32, 33, 34, 35, 36, 37, 116, 117, 118, 119, 120, 121, 122, 123, 124, 125, 126, 127, 128, 129, 130, 131, 132, 133, 134, 135, 136, 137, 138, 139] (by decide +kernel) (by decide +kernel)
set_option maxRecDepth 20000 in
theorem gX5_happen_X5_tryStep : GoodIn wsX5_happen (wsV RX5 250 RX5 yX5_tryStep wsX5_tryStep) := goodIn_app (goodIn_of _ (by decide +kernel)) ggX5_happen_X5_tryStep
set_option maxRecDepth 20000 in
theorem ggX5_happen_X5_tryVote : GoodIn wsX5_happen wsX5_tryVote := goodIn_r _ [41, 42, 43, 44, 19, 45, 46, 133, 134, 135, 136, 137, 138, 139] (by decide +kernel) (by decide +kernel)
set_option maxRecDepth 20000 in
theorem gX5_happen_X5_tryVote : GoodIn wsX5_happen (wsV RX5 258 RX5 yX5_tryVote wsX5_tryVote) := goodIn_app (goodIn_of _ (by decide +kernel)) ggX5_happen_X5_tryVote
set_option maxRecDepth 20000 in
theorem ggX5_happen_X5_tryEmpty : GoodIn wsX5_happen wsX5_tryEmpty := goodIn_r _ [50, 51, 52, 4, 53, 54, 55, 56, 19, 57, 58, 59, 60, 61, 62, 133, 134, 135, 136, 137, 138, 139] (by decide +kernel) (by decide +kernel)
set_option maxRecDepth 20000 in
theorem gX5_happen_X5_tryEmpty : GoodIn wsX5_happen (wsV RX5 265 RX5 yX5_tryEmpty wsX5_tryEmpty) := goodIn_app (goodIn_of _ (by decide +kernel)) ggX5_happen_X5_tryEmpty
set_option maxRecDepth 20000 in
theorem ggX5_happen_X5_tryDawn : GoodIn wsX5_happen wsX5_tryDawn := goodIn_r _ [66, 67, 68, 69, 19, 70, 25, 71, 72, 73, 74, 75, 76, 77, 78, 79, 58, 80, 81, 82, 83, 52, 4, 53, 84, 85, 86, 87, 21, 22, 23, 24, 26, 27, 8, 9, 10, 11, 12, 88, 89, 90, 91, 92, 93, 94, 95, 96, 46, 97, 98, 99, 100, 101, 102, 103, 104, 105, 106, 107, 108, 109, 110, 31, 32, 33, 28, 29, 30, 111, 112, 113, 114, 115, 133, 134, 135, 136, 137, 138, 139, 125, 126, 127, 128, 129, 130, 131, 132] (by decide +kernel) (by decide +kernel)
set_option maxRecDepth 20000 in
theorem gX5_happen_X5_tryDawn : GoodIn wsX5_happen (wsV RX5 254 RX5 yX5_tryDawn wsX5_tryDawn) := goodIn_app (goodIn_of _ (by decide +kernel)) ggX5_happen_X5_tryDawn
theorem dX5_happen_0 : decode cX5_happen 0 = .ok (.iload_n 2, 1) := by decide +kernel
theorem dX5_happen_1 : decode cX5_happen 1 = .ok (.bipush 9, 2) := by decide +kernel
theorem dX5_happen_3 : decode cX5_happen 3 = .ok (.if_icmp .gt 18, 3) := by decide +kernel
theorem dX5_happen_6 : decode cX5_happen 6 = .ok (.aload_n 0, 1) := by decide +kernel
theorem dX5_happen_7 : decode cX5_happen 7 = .ok (.aload_n 1, 1) := by decide +kernel
theorem dX5_happen_8 : decode cX5_happen 8 = .ok (.iload_n 2, 1) := by decide +kernel
theorem dX5_happen_9 : decode cX5_happen 9 = .ok (.iconst 2, 1) := by decide +kernel
theorem dX5_happen_10 : decode cX5_happen 10 = .ok (.idiv, 1) := by decide +kernel
theorem dX5_happen_11 : decode cX5_happen 11 = .ok (.iload_n 2, 1) := by decide +kernel
theorem dX5_happen_12 : decode cX5_happen 12 = .ok (.iconst 2, 1) := by decide +kernel
theorem dX5_happen_13 : decode cX5_happen 13 = .ok (.irem, 1) := by decide +kernel
theorem dX5_happen_14 : decode cX5_happen 14 = .ok (.invokevirtual 250, 3) := by decide +kernel
theorem dX5_happen_17 : decode cX5_happen 17 = .ok (.pop, 1) := by decide +kernel
theorem dX5_happen_18 : decode cX5_happen 18 = .ok (.goto 43, 3) := by decide +kernel
theorem dX5_happen_21 : decode cX5_happen 21 = .ok (.iload_n 2, 1) := by decide +kernel
theorem dX5_happen_22 : decode cX5_happen 22 = .ok (.bipush 10, 2) := by decide +kernel
theorem dX5_happen_24 : decode cX5_happen 24 = .ok (.if_icmp .ne 12, 3) := by decide +kernel
theorem dX5_happen_27 : decode cX5_happen 27 = .ok (.aload_n 0, 1) := by decide +kernel
theorem dX5_happen_28 : decode cX5_happen 28 = .ok (.aload_n 1, 1) := by decide +kernel
theorem dX5_happen_29 : decode cX5_happen 29 = .ok (.invokevirtual 258, 3) := by decide +kernel
theorem dX5_happen_32 : decode cX5_happen 32 = .ok (.pop, 1) := by decide +kernel
theorem dX5_happen_33 : decode cX5_happen 33 = .ok (.goto 28, 3) := by decide +kernel
theorem dX5_happen_36 : decode cX5_happen 36 = .ok (.iload_n 2, 1) := by decide +kernel
theorem dX5_happen_37 : decode cX5_happen 37 = .ok (.bipush 18, 2) := by decide +kernel
theorem dX5_happen_39 : decode cX5_happen 39 = .ok (.if_icmp .gt 16, 3) := by decide +kernel
theorem dX5_happen_42 : decode cX5_happen 42 = .ok (.aload_n 0, 1) := by decide +kernel
theorem dX5_happen_43 : decode cX5_happen 43 = .ok (.aload_n 1, 1) := by decide +kernel
theorem dX5_happen_44 : decode cX5_happen 44 = .ok (.iload_n 2, 1) := by decide +kernel
theorem dX5_happen_45 : decode cX5_happen 45 = .ok (.bipush 11, 2) := by decide +kernel
theorem dX5_happen_47 : decode cX5_happen 47 = .ok (.isub, 1) := by decide +kernel
theorem dX5_happen_48 : decode cX5_happen 48 = .ok (.invokevirtual 265, 3) := by decide +kernel
theorem dX5_happen_51 : decode cX5_happen 51 = .ok (.pop, 1) := by decide +kernel
theorem dX5_happen_52 : decode cX5_happen 52 = .ok (.goto 9, 3) := by decide +kernel
theorem dX5_happen_55 : decode cX5_happen 55 = .ok (.aload_n 0, 1) := by decide +kernel
theorem dX5_happen_56 : decode cX5_happen 56 = .ok (.aload_n 1, 1) := by decide +kernel
theorem dX5_happen_57 : decode cX5_happen 57 = .ok (.invokevirtual 254, 3) := by decide +kernel
theorem dX5_happen_60 : decode cX5_happen 60 = .ok (.pop, 1) := by decide +kernel
theorem dX5_happen_61 : decode cX5_happen 61 = .ok (.return_, 1) := by decide +kernel
set_option maxRecDepth 20000 in
theorem ggX5_ordersWith_X5_factorial : GoodIn wsX5_ordersWith wsX5_factorial := goodIn_r _ [5] (by decide +kernel) (by decide +kernel)
set_option maxRecDepth 20000 in
theorem gX5_ordersWith_X5_factorial : GoodIn wsX5_ordersWith (va_wsS RX5 214 yX5_factorial wsX5_factorial) := goodIn_app (goodIn_of _ (by decide +kernel)) ggX5_ordersWith_X5_factorial
theorem dX5_ordersWith_0 : decode cX5_ordersWith 0 = .ok (.iload_n 1, 1) := by decide +kernel
theorem dX5_ordersWith_1 : decode cX5_ordersWith 1 = .ok (.invokestatic 214, 3) := by decide +kernel
theorem dX5_ordersWith_4 : decode cX5_ordersWith 4 = .ok (.aload_n 0, 1) := by decide +kernel
theorem dX5_ordersWith_5 : decode cX5_ordersWith 5 = .ok (.getfield 19, 3) := by decide +kernel
theorem dX5_ordersWith_8 : decode cX5_ordersWith 8 = .ok (.getfield 87, 3) := by decide +kernel
theorem dX5_ordersWith_11 : decode cX5_ordersWith 11 = .ok (.iconst 1, 1) := by decide +kernel
theorem dX5_ordersWith_12 : decode cX5_ordersWith 12 = .ok (.isub, 1) := by decide +kernel
theorem dX5_ordersWith_13 : decode cX5_ordersWith 13 = .ok (.iload_n 1, 1) := by decide +kernel
theorem dX5_ordersWith_14 : decode cX5_ordersWith 14 = .ok (.isub, 1) := by decide +kernel
theorem dX5_ordersWith_15 : decode cX5_ordersWith 15 = .ok (.invokestatic 214, 3) := by decide +kernel
theorem dX5_ordersWith_18 : decode cX5_ordersWith 18 = .ok (.lmul, 1) := by decide +kernel
theorem dX5_ordersWith_19 : decode cX5_ordersWith 19 = .ok (.lreturn, 1) := by decide +kernel
set_option maxRecDepth 20000 in
theorem ggX5_isAtRest_X5_gain : GoodIn wsX5_isAtRest wsX5_gain := goodIn_r _ [5, 6, 7, 8, 4, 9, 10, 11, 12, 13, 14, 15, 16, 17, 18, 19, 20, 21, 22, 23, 24, 25, 26, 27, 28, 29, 30, 31, 32, 33, 34, 35, 36, 37, 38, 39, 40, 41, 42, 43, 44, 45, 46, 47, 48, 49, 50, 51, 52, 53, 54, 55, 56, 57, 58, 59, 60, 61, 62, 63, 64, 65, 66, 67, 68, 69, 70, 71, 72, 73, 74, 75, 76, 77, 78, 79, 80, 81, 82, 83, 84, 85, 86, 87, 88, 89, 90, 91, 92, 93, 94, 95, 96, 97, 98, 99, 100, 101, 102, 103, 104, 105, 106, 107, 108, 109, 110, 111, 112, 113, 114, 115, 116, 117, 118, 119, 120, 121, 122, 123, 124] (by decide +kernel) (by decide +kernel)
set_option maxRecDepth 20000 in
theorem gX5_isAtRest_X5_gain : GoodIn wsX5_isAtRest (wsV RX5 268 RX5 yX5_gain wsX5_gain) := goodIn_app (goodIn_of _ (by decide +kernel)) ggX5_isAtRest_X5_gain
theorem dX5_isAtRest_0 : decode cX5_isAtRest 0 = .ok (.aload_n 0, 1) := by decide +kernel
theorem dX5_isAtRest_1 : decode cX5_isAtRest 1 = .ok (.iload_n 1, 1) := by decide +kernel
theorem dX5_isAtRest_2 : decode cX5_isAtRest 2 = .ok (.iload_n 3, 1) := by decide +kernel
theorem dX5_isAtRest_3 : decode cX5_isAtRest 3 = .ok (.invokevirtual 268, 3) := by decide +kernel
theorem dX5_isAtRest_6 : decode cX5_isAtRest 6 = .ok (.aload_n 0, 1) := by decide +kernel
theorem dX5_isAtRest_7 : decode cX5_isAtRest 7 = .ok (.iload_n 1, 1) := by decide +kernel
theorem dX5_isAtRest_8 : decode cX5_isAtRest 8 = .ok (.iload_n 3, 1) := by decide +kernel
theorem dX5_isAtRest_9 : decode cX5_isAtRest 9 = .ok (.iconst 1, 1) := by decide +kernel
theorem dX5_isAtRest_10 : decode cX5_isAtRest 10 = .ok (.iload_n 1, 1) := by decide +kernel
theorem dX5_isAtRest_11 : decode cX5_isAtRest 11 = .ok (.ishl, 1) := by decide +kernel
theorem dX5_isAtRest_12 : decode cX5_isAtRest 12 = .ok (.ixor, 1) := by decide +kernel
theorem dX5_isAtRest_13 : decode cX5_isAtRest 13 = .ok (.invokevirtual 268, 3) := by decide +kernel
theorem dX5_isAtRest_16 : decode cX5_isAtRest 16 = .ok (.if_icmp .lt 26, 3) := by decide +kernel
theorem dX5_isAtRest_19 : decode cX5_isAtRest 19 = .ok (.aload_n 0, 1) := by decide +kernel
theorem dX5_isAtRest_20 : decode cX5_isAtRest 20 = .ok (.iload_n 2, 1) := by decide +kernel
theorem dX5_isAtRest_21 : decode cX5_isAtRest 21 = .ok (.iload_n 3, 1) := by decide +kernel
theorem dX5_isAtRest_22 : decode cX5_isAtRest 22 = .ok (.invokevirtual 268, 3) := by decide +kernel
theorem dX5_isAtRest_25 : decode cX5_isAtRest 25 = .ok (.aload_n 0, 1) := by decide +kernel
theorem dX5_isAtRest_26 : decode cX5_isAtRest 26 = .ok (.iload_n 2, 1) := by decide +kernel
theorem dX5_isAtRest_27 : decode cX5_isAtRest 27 = .ok (.iload_n 3, 1) := by decide +kernel
theorem dX5_isAtRest_28 : decode cX5_isAtRest 28 = .ok (.iconst 1, 1) := by decide +kernel
theorem dX5_isAtRest_29 : decode cX5_isAtRest 29 = .ok (.iload_n 2, 1) := by decide +kernel
theorem dX5_isAtRest_30 : decode cX5_isAtRest 30 = .ok (.ishl, 1) := by decide +kernel
theorem dX5_isAtRest_31 : decode cX5_isAtRest 31 = .ok (.ixor, 1) := by decide +kernel
theorem dX5_isAtRest_32 : decode cX5_isAtRest 32 = .ok (.invokevirtual 268, 3) := by decide +kernel
theorem dX5_isAtRest_35 : decode cX5_isAtRest 35 = .ok (.if_icmp .lt 7, 3) := by decide +kernel
theorem dX5_isAtRest_38 : decode cX5_isAtRest 38 = .ok (.iconst 1, 1) := by decide +kernel
theorem dX5_isAtRest_39 : decode cX5_isAtRest 39 = .ok (.goto 4, 3) := by decide +kernel
theorem dX5_isAtRest_42 : decode cX5_isAtRest 42 = .ok (.iconst 0, 1) := by decide +kernel
theorem dX5_isAtRest_43 : decode cX5_isAtRest 43 = .ok (.ireturn, 1) := by decide +kernel
set_option maxRecDepth 20000 in
theorem ggX5_gain_X5_behind : GoodIn wsX5_gain wsX5_behind := goodIn_r _ [5, 6, 7, 8, 4, 9, 10, 11, 12, 13, 14, 15, 16, 17, 18, 19, 20, 21, 22, 23, 24, 25, 26, 27, 28, 29, 30, 31, 32, 33, 34, 35, 36, 37, 38, 39, 40, 41, 42, 43, 44, 45, 46, 47, 48, 49, 50, 51, 52, 53, 54, 55, 56, 57, 58, 59, 60, 61, 62, 63, 64, 65, 66, 67, 68, 69, 70, 71, 72, 73, 74, 75, 76, 77, 78, 79, 80, 81, 82, 83, 84, 85, 86, 87, 88, 89, 90, 91, 97, 98, 99, 100, 101, 102, 103, 104, 105, 106, 107, 108, 109, 110, 111, 112, 113, 114, 115, 116, 117, 118, 119, 120] (by decide +kernel) (by decide +kernel)
set_option maxRecDepth 20000 in
theorem gX5_gain_X5_behind : GoodIn wsX5_gain (wsV RX5 166 RX5 yX5_behind wsX5_behind) := goodIn_app (goodIn_of _ (by decide +kernel)) ggX5_gain_X5_behind
set_option maxRecDepth 20000 in
theorem ggX5_gain_X2_placeOf : GoodIn wsX5_gain wsX2_placeOf := goodIn_r _ [52, 30, 22, 53, 54, 55, 56, 57, 58, 106, 107, 108, 109, 110, 111, 112, 113, 114, 115, 116, 117, 118, 119, 120] (by decide +kernel) (by decide +kernel)
set_option maxRecDepth 20000 in
theorem gX5_gain_X2_placeOf : GoodIn wsX5_gain (wsV RX5 110 RX2 yX2_placeOf wsX2_placeOf) := goodIn_app (goodIn_of _ (by decide +kernel)) ggX5_gain_X2_placeOf
set_option maxRecDepth 20000 in
theorem ggX5_gain_X2_dustIn : GoodIn wsX5_gain wsX2_dustIn := goodIn_r _ [96, 17, 43, 4, 44, 106, 107, 108, 109, 110, 111, 112] (by decide +kernel) (by decide +kernel)
set_option maxRecDepth 20000 in
theorem gX5_gain_X2_dustIn : GoodIn wsX5_gain (wsV RX5 97 RX2 yX2_dustIn wsX2_dustIn) := goodIn_app (goodIn_of _ (by decide +kernel)) ggX5_gain_X2_dustIn
theorem dX5_gain_0 : decode cX5_gain 0 = .ok (.aload_n 0, 1) := by decide +kernel
theorem dX5_gain_1 : decode cX5_gain 1 = .ok (.iconst 3, 1) := by decide +kernel
theorem dX5_gain_2 : decode cX5_gain 2 = .ok (.iload_n 2, 1) := by decide +kernel
theorem dX5_gain_3 : decode cX5_gain 3 = .ok (.invokevirtual 166, 3) := by decide +kernel
theorem dX5_gain_6 : decode cX5_gain 6 = .ok (.astore_n 3, 1) := by decide +kernel
theorem dX5_gain_7 : decode cX5_gain 7 = .ok (.iload_n 2, 1) := by decide +kernel
theorem dX5_gain_8 : decode cX5_gain 8 = .ok (.iload_n 1, 1) := by decide +kernel
theorem dX5_gain_9 : decode cX5_gain 9 = .ok (.ishr, 1) := by decide +kernel
theorem dX5_gain_10 : decode cX5_gain 10 = .ok (.iconst 1, 1) := by decide +kernel
theorem dX5_gain_11 : decode cX5_gain 11 = .ok (.iand, 1) := by decide +kernel
theorem dX5_gain_12 : decode cX5_gain 12 = .ok (.iconst 1, 1) := by decide +kernel
theorem dX5_gain_13 : decode cX5_gain 13 = .ok (.if_icmp .ne 7, 3) := by decide +kernel
theorem dX5_gain_16 : decode cX5_gain 16 = .ok (.iconst 4, 1) := by decide +kernel
theorem dX5_gain_17 : decode cX5_gain 17 = .ok (.goto 4, 3) := by decide +kernel
theorem dX5_gain_20 : decode cX5_gain 20 = .ok (.iconst 0, 1) := by decide +kernel
theorem dX5_gain_21 : decode cX5_gain 21 = .ok (.istore 4, 2) := by decide +kernel
theorem dX5_gain_23 : decode cX5_gain 23 = .ok (.bipush 20, 2) := by decide +kernel
theorem dX5_gain_25 : decode cX5_gain 25 = .ok (.aload_n 3, 1) := by decide +kernel
theorem dX5_gain_26 : decode cX5_gain 26 = .ok (.aload_n 3, 1) := by decide +kernel
theorem dX5_gain_27 : decode cX5_gain 27 = .ok (.iload_n 1, 1) := by decide +kernel
theorem dX5_gain_28 : decode cX5_gain 28 = .ok (.invokevirtual 110, 3) := by decide +kernel
theorem dX5_gain_31 : decode cX5_gain 31 = .ok (.invokevirtual 97, 3) := by decide +kernel
theorem dX5_gain_34 : decode cX5_gain 34 = .ok (.isub, 1) := by decide +kernel
theorem dX5_gain_35 : decode cX5_gain 35 = .ok (.iload 4, 2) := by decide +kernel
theorem dX5_gain_37 : decode cX5_gain 37 = .ok (.isub, 1) := by decide +kernel
theorem dX5_gain_38 : decode cX5_gain 38 = .ok (.ireturn, 1) := by decide +kernel
set_option maxRecDepth 20000 in
theorem ggX5_isDeepBehind_X5_fromNow : GoodIn wsX5_isDeepBehind wsX5_fromNow := goodIn_r _ [5, 6, 7, 8, 9, 10, 11, 12, 13, 14, 15, 16, 17, 18, 19, 20, 21, 96, 97, 98, 99, 100, 101, 102, 103, 104, 105, 106, 107, 108, 109, 110, 111] (by decide +kernel) (by decide +kernel)
set_option maxRecDepth 20000 in
theorem gX5_isDeepBehind_X5_fromNow : GoodIn wsX5_isDeepBehind (wsV RX5 173 RX5 yX5_fromNow wsX5_fromNow) := goodIn_app (goodIn_of _ (by decide +kernel)) ggX5_isDeepBehind_X5_fromNow
set_option maxRecDepth 20000 in
theorem ggX5_isDeepBehind_X2_passDawn : GoodIn wsX5_isDeepBehind wsX2_passDawn := goodIn_r _ [25, 26, 21, 27, 28, 29, 11, 30, 31, 32, 33, 34, 13, 35, 36, 37, 38, 39, 4, 40, 41, 42, 43, 44, 45, 46, 47, 48, 18, 49, 50, 51, 52, 53, 54, 55, 56, 57, 58, 59, 60, 61, 62, 63, 19, 64, 65, 66, 67, 68, 69, 70, 71, 72, 20, 73, 74, 75, 76, 77, 78, 79, 80, 81, 82, 83, 84, 85, 86, 87, 105, 106, 107, 108, 109, 110, 111, 112, 113, 114, 115, 116, 117, 118, 119] (by decide +kernel) (by decide +kernel)
set_option maxRecDepth 20000 in
theorem gX5_isDeepBehind_X2_passDawn : GoodIn wsX5_isDeepBehind (wsV RX5 129 RX2 yX2_passDawn wsX2_passDawn) := goodIn_app (goodIn_of _ (by decide +kernel)) ggX5_isDeepBehind_X2_passDawn
set_option maxRecDepth 20000 in
theorem ggX5_isDeepBehind_X2_isDeep : GoodIn wsX5_isDeepBehind wsX2_isDeep := goodIn_r _ [91, 92, 93, 94, 11, 95, 13, 39, 4, 40, 105, 106, 107, 108, 109, 110, 111] (by decide +kernel) (by decide +kernel)
set_option maxRecDepth 20000 in
theorem gX5_isDeepBehind_X2_isDeep : GoodIn wsX5_isDeepBehind (wsV RX5 101 RX2 yX2_isDeep wsX2_isDeep) := goodIn_app (goodIn_of _ (by decide +kernel)) ggX5_isDeepBehind_X2_isDeep
theorem dX5_isDeepBehind_0 : decode cX5_isDeepBehind 0 = .ok (.aload_n 0, 1) := by decide +kernel
theorem dX5_isDeepBehind_1 : decode cX5_isDeepBehind 1 = .ok (.invokevirtual 173, 3) := by decide +kernel
theorem dX5_isDeepBehind_4 : decode cX5_isDeepBehind 4 = .ok (.astore 4, 2) := by decide +kernel
theorem dX5_isDeepBehind_6 : decode cX5_isDeepBehind 6 = .ok (.iconst 0, 1) := by decide +kernel
theorem dX5_isDeepBehind_7 : decode cX5_isDeepBehind 7 = .ok (.istore 5, 2) := by decide +kernel
theorem dX5_isDeepBehind_9 : decode cX5_isDeepBehind 9 = .ok (.iload 5, 2) := by decide +kernel
theorem dX5_isDeepBehind_11 : decode cX5_isDeepBehind 11 = .ok (.iload_n 2, 1) := by decide +kernel
theorem dX5_isDeepBehind_12 : decode cX5_isDeepBehind 12 = .ok (.if_icmp .ge 24, 3) := by decide +kernel
theorem dX5_isDeepBehind_15 : decode cX5_isDeepBehind 15 = .ok (.aload 4, 2) := by decide +kernel
theorem dX5_isDeepBehind_17 : decode cX5_isDeepBehind 17 = .ok (.bipush 31, 2) := by decide +kernel
theorem dX5_isDeepBehind_19 : decode cX5_isDeepBehind 19 = .ok (.iconst 1, 1) := by decide +kernel
theorem dX5_isDeepBehind_20 : decode cX5_isDeepBehind 20 = .ok (.iload_n 3, 1) := by decide +kernel
theorem dX5_isDeepBehind_21 : decode cX5_isDeepBehind 21 = .ok (.iload 5, 2) := by decide +kernel
theorem dX5_isDeepBehind_23 : decode cX5_isDeepBehind 23 = .ok (.ishr, 1) := by decide +kernel
theorem dX5_isDeepBehind_24 : decode cX5_isDeepBehind 24 = .ok (.iconst 1, 1) := by decide +kernel
theorem dX5_isDeepBehind_25 : decode cX5_isDeepBehind 25 = .ok (.iand, 1) := by decide +kernel
theorem dX5_isDeepBehind_26 : decode cX5_isDeepBehind 26 = .ok (.iadd, 1) := by decide +kernel
theorem dX5_isDeepBehind_27 : decode cX5_isDeepBehind 27 = .ok (.invokevirtual 129, 3) := by decide +kernel
theorem dX5_isDeepBehind_30 : decode cX5_isDeepBehind 30 = .ok (.iinc 5 1, 3) := by decide +kernel
theorem dX5_isDeepBehind_33 : decode cX5_isDeepBehind 33 = .ok (.goto (-24), 3) := by decide +kernel
theorem dX5_isDeepBehind_36 : decode cX5_isDeepBehind 36 = .ok (.aload 4, 2) := by decide +kernel
theorem dX5_isDeepBehind_38 : decode cX5_isDeepBehind 38 = .ok (.iload_n 1, 1) := by decide +kernel
theorem dX5_isDeepBehind_39 : decode cX5_isDeepBehind 39 = .ok (.invokevirtual 101, 3) := by decide +kernel
theorem dX5_isDeepBehind_42 : decode cX5_isDeepBehind 42 = .ok (.ireturn, 1) := by decide +kernel
theorem dX5_factorial_0 : decode cX5_factorial 0 = .ok (.lconst 1, 1) := by decide +kernel
theorem dX5_factorial_1 : decode cX5_factorial 1 = .ok (.lstore_n 1, 1) := by decide +kernel
theorem dX5_factorial_2 : decode cX5_factorial 2 = .ok (.iconst 2, 1) := by decide +kernel
theorem dX5_factorial_3 : decode cX5_factorial 3 = .ok (.istore_n 3, 1) := by decide +kernel
theorem dX5_factorial_4 : decode cX5_factorial 4 = .ok (.iload_n 3, 1) := by decide +kernel
theorem dX5_factorial_5 : decode cX5_factorial 5 = .ok (.iload_n 0, 1) := by decide +kernel
theorem dX5_factorial_6 : decode cX5_factorial 6 = .ok (.if_icmp .gt 14, 3) := by decide +kernel
theorem dX5_factorial_9 : decode cX5_factorial 9 = .ok (.lload_n 1, 1) := by decide +kernel
theorem dX5_factorial_10 : decode cX5_factorial 10 = .ok (.iload_n 3, 1) := by decide +kernel
theorem dX5_factorial_11 : decode cX5_factorial 11 = .ok (.i2l, 1) := by decide +kernel
theorem dX5_factorial_12 : decode cX5_factorial 12 = .ok (.lmul, 1) := by decide +kernel
theorem dX5_factorial_13 : decode cX5_factorial 13 = .ok (.lstore_n 1, 1) := by decide +kernel
theorem dX5_factorial_14 : decode cX5_factorial 14 = .ok (.iinc 3 1, 3) := by decide +kernel
theorem dX5_factorial_17 : decode cX5_factorial 17 = .ok (.goto (-13), 3) := by decide +kernel
theorem dX5_factorial_20 : decode cX5_factorial 20 = .ok (.lload_n 1, 1) := by decide +kernel
theorem dX5_factorial_21 : decode cX5_factorial 21 = .ok (.lreturn, 1) := by decide +kernel
theorem dX5_power_0 : decode cX5_power 0 = .ok (.lconst 1, 1) := by decide +kernel
theorem dX5_power_1 : decode cX5_power 1 = .ok (.lstore_n 2, 1) := by decide +kernel
theorem dX5_power_2 : decode cX5_power 2 = .ok (.iconst 0, 1) := by decide +kernel
theorem dX5_power_3 : decode cX5_power 3 = .ok (.istore 4, 2) := by decide +kernel
theorem dX5_power_5 : decode cX5_power 5 = .ok (.iload 4, 2) := by decide +kernel
theorem dX5_power_7 : decode cX5_power 7 = .ok (.iload_n 1, 1) := by decide +kernel
theorem dX5_power_8 : decode cX5_power 8 = .ok (.if_icmp .ge 14, 3) := by decide +kernel
theorem dX5_power_11 : decode cX5_power 11 = .ok (.lload_n 2, 1) := by decide +kernel
theorem dX5_power_12 : decode cX5_power 12 = .ok (.iload_n 0, 1) := by decide +kernel
theorem dX5_power_13 : decode cX5_power 13 = .ok (.i2l, 1) := by decide +kernel
theorem dX5_power_14 : decode cX5_power 14 = .ok (.lmul, 1) := by decide +kernel
theorem dX5_power_15 : decode cX5_power 15 = .ok (.lstore_n 2, 1) := by decide +kernel
theorem dX5_power_16 : decode cX5_power 16 = .ok (.iinc 4 1, 3) := by decide +kernel
theorem dX5_power_19 : decode cX5_power 19 = .ok (.goto (-14), 3) := by decide +kernel
theorem dX5_power_22 : decode cX5_power 22 = .ok (.lload_n 2, 1) := by decide +kernel
theorem dX5_power_23 : decode cX5_power 23 = .ok (.lreturn, 1) := by decide +kernel
set_option maxRecDepth 20000 in
theorem ggX5_fraction_X5_commonDivisor : GoodIn wsX5_fraction wsX5_commonDivisor := goodIn_r _ [11] (by decide +kernel) (by decide +kernel)
set_option maxRecDepth 20000 in
theorem gX5_fraction_X5_commonDivisor : GoodIn wsX5_fraction (va_wsS RX5 276 yX5_commonDivisor wsX5_commonDivisor) := goodIn_app (goodIn_of _ (by decide +kernel)) ggX5_fraction_X5_commonDivisor
theorem dX5_fraction_0 : decode cX5_fraction 0 = .ok (.lconst 1, 1) := by decide +kernel
theorem dX5_fraction_1 : decode cX5_fraction 1 = .ok (.lload_n 0, 1) := by decide +kernel
theorem dX5_fraction_2 : decode cX5_fraction 2 = .ok (.invokestatic 272, 3) := by decide +kernel
theorem dX5_fraction_5 : decode cX5_fraction 5 = .ok (.lload_n 2, 1) := by decide +kernel
theorem dX5_fraction_6 : decode cX5_fraction 6 = .ok (.invokestatic 276, 3) := by decide +kernel
theorem dX5_fraction_9 : decode cX5_fraction 9 = .ok (.invokestatic 191, 3) := by decide +kernel
theorem dX5_fraction_12 : decode cX5_fraction 12 = .ok (.lstore 5, 2) := by decide +kernel
theorem dX5_fraction_14 : decode cX5_fraction 14 = .ok (.iload 4, 2) := by decide +kernel
theorem dX5_fraction_16 : decode cX5_fraction 16 = .ok (.ifCond .eq 7, 3) := by decide +kernel
theorem dX5_fraction_19 : decode cX5_fraction 19 = .ok (.lload_n 0, 1) := by decide +kernel
theorem dX5_fraction_20 : decode cX5_fraction 20 = .ok (.goto 4, 3) := by decide +kernel
theorem dX5_fraction_23 : decode cX5_fraction 23 = .ok (.lload_n 2, 1) := by decide +kernel
theorem dX5_fraction_24 : decode cX5_fraction 24 = .ok (.lload 5, 2) := by decide +kernel
theorem dX5_fraction_26 : decode cX5_fraction 26 = .ok (.ldiv, 1) := by decide +kernel
theorem dX5_fraction_27 : decode cX5_fraction 27 = .ok (.l2i, 1) := by decide +kernel
theorem dX5_fraction_28 : decode cX5_fraction 28 = .ok (.ireturn, 1) := by decide +kernel
theorem dX5_commonDivisor_0 : decode cX5_commonDivisor 0 = .ok (.lload_n 0, 1) := by decide +kernel
theorem dX5_commonDivisor_1 : decode cX5_commonDivisor 1 = .ok (.lstore 4, 2) := by decide +kernel
theorem dX5_commonDivisor_3 : decode cX5_commonDivisor 3 = .ok (.lload_n 2, 1) := by decide +kernel
theorem dX5_commonDivisor_4 : decode cX5_commonDivisor 4 = .ok (.lstore 6, 2) := by decide +kernel
theorem dX5_commonDivisor_6 : decode cX5_commonDivisor 6 = .ok (.iconst 0, 1) := by decide +kernel
theorem dX5_commonDivisor_7 : decode cX5_commonDivisor 7 = .ok (.istore 8, 2) := by decide +kernel
theorem dX5_commonDivisor_9 : decode cX5_commonDivisor 9 = .ok (.iload 8, 2) := by decide +kernel
theorem dX5_commonDivisor_11 : decode cX5_commonDivisor 11 = .ok (.bipush 100, 2) := by decide +kernel
theorem dX5_commonDivisor_13 : decode cX5_commonDivisor 13 = .ok (.if_icmp .ge 31, 3) := by decide +kernel
theorem dX5_commonDivisor_16 : decode cX5_commonDivisor 16 = .ok (.lload 6, 2) := by decide +kernel
theorem dX5_commonDivisor_18 : decode cX5_commonDivisor 18 = .ok (.lconst 0, 1) := by decide +kernel
theorem dX5_commonDivisor_19 : decode cX5_commonDivisor 19 = .ok (.lcmp, 1) := by decide +kernel
theorem dX5_commonDivisor_20 : decode cX5_commonDivisor 20 = .ok (.ifCond .eq 24, 3) := by decide +kernel
theorem dX5_commonDivisor_23 : decode cX5_commonDivisor 23 = .ok (.lload 4, 2) := by decide +kernel
theorem dX5_commonDivisor_25 : decode cX5_commonDivisor 25 = .ok (.lload 6, 2) := by decide +kernel
theorem dX5_commonDivisor_27 : decode cX5_commonDivisor 27 = .ok (.lrem, 1) := by decide +kernel
theorem dX5_commonDivisor_28 : decode cX5_commonDivisor 28 = .ok (.lstore 9, 2) := by decide +kernel
theorem dX5_commonDivisor_30 : decode cX5_commonDivisor 30 = .ok (.lload 6, 2) := by decide +kernel
theorem dX5_commonDivisor_32 : decode cX5_commonDivisor 32 = .ok (.lstore 4, 2) := by decide +kernel
theorem dX5_commonDivisor_34 : decode cX5_commonDivisor 34 = .ok (.lload 9, 2) := by decide +kernel
theorem dX5_commonDivisor_36 : decode cX5_commonDivisor 36 = .ok (.lstore 6, 2) := by decide +kernel
theorem dX5_commonDivisor_38 : decode cX5_commonDivisor 38 = .ok (.iinc 8 1, 3) := by decide +kernel
theorem dX5_commonDivisor_41 : decode cX5_commonDivisor 41 = .ok (.goto (-32), 3) := by decide +kernel
theorem dX5_commonDivisor_44 : decode cX5_commonDivisor 44 = .ok (.lload 4, 2) := by decide +kernel
theorem dX5_commonDivisor_46 : decode cX5_commonDivisor 46 = .ok (.lreturn, 1) := by decide +kernel
theorem dX6_init_0 : decode cX6_init 0 = .ok (.aload_n 0, 1) := by decide +kernel
theorem dX6_init_1 : decode cX6_init 1 = .ok (.invokespecial 1, 3) := by decide +kernel
theorem dX6_init_4 : decode cX6_init 4 = .ok (.aload_n 0, 1) := by decide +kernel
theorem dX6_init_5 : decode cX6_init 5 = .ok (.iconst 5, 1) := by decide +kernel
theorem dX6_init_6 : decode cX6_init 6 = .ok (.newarray .int, 2) := by decide +kernel
theorem dX6_init_8 : decode cX6_init 8 = .ok (.putfield 7, 3) := by decide +kernel
theorem dX6_init_11 : decode cX6_init 11 = .ok (.aload_n 0, 1) := by decide +kernel
theorem dX6_init_12 : decode cX6_init 12 = .ok (.iconst 5, 1) := by decide +kernel
theorem dX6_init_13 : decode cX6_init 13 = .ok (.newarray .int, 2) := by decide +kernel
theorem dX6_init_15 : decode cX6_init 15 = .ok (.putfield 13, 3) := by decide +kernel
theorem dX6_init_18 : decode cX6_init 18 = .ok (.aload_n 0, 1) := by decide +kernel
theorem dX6_init_19 : decode cX6_init 19 = .ok (.iconst 5, 1) := by decide +kernel
theorem dX6_init_20 : decode cX6_init 20 = .ok (.newarray .int, 2) := by decide +kernel
theorem dX6_init_22 : decode cX6_init 22 = .ok (.putfield 16, 3) := by decide +kernel
theorem dX6_init_25 : decode cX6_init 25 = .ok (.aload_n 0, 1) := by decide +kernel
theorem dX6_init_26 : decode cX6_init 26 = .ok (.iconst 5, 1) := by decide +kernel
theorem dX6_init_27 : decode cX6_init 27 = .ok (.newarray .int, 2) := by decide +kernel
theorem dX6_init_29 : decode cX6_init 29 = .ok (.putfield 19, 3) := by decide +kernel
theorem dX6_init_32 : decode cX6_init 32 = .ok (.aload_n 0, 1) := by decide +kernel
theorem dX6_init_33 : decode cX6_init 33 = .ok (.bipush 32, 2) := by decide +kernel
theorem dX6_init_35 : decode cX6_init 35 = .ok (.newarray .int, 2) := by decide +kernel
theorem dX6_init_37 : decode cX6_init 37 = .ok (.putfield 22, 3) := by decide +kernel
theorem dX6_init_40 : decode cX6_init 40 = .ok (.aload_n 0, 1) := by decide +kernel
theorem dX6_init_41 : decode cX6_init 41 = .ok (.bipush 8, 2) := by decide +kernel
theorem dX6_init_43 : decode cX6_init 43 = .ok (.newarray .int, 2) := by decide +kernel
theorem dX6_init_45 : decode cX6_init 45 = .ok (.putfield 25, 3) := by decide +kernel
theorem dX6_init_48 : decode cX6_init 48 = .ok (.aload_n 0, 1) := by decide +kernel
theorem dX6_init_49 : decode cX6_init 49 = .ok (.bipush 15, 2) := by decide +kernel
theorem dX6_init_51 : decode cX6_init 51 = .ok (.newarray .int, 2) := by decide +kernel
theorem dX6_init_53 : decode cX6_init 53 = .ok (.putfield 28, 3) := by decide +kernel
theorem dX6_init_56 : decode cX6_init 56 = .ok (.aload_n 0, 1) := by decide +kernel
theorem dX6_init_57 : decode cX6_init 57 = .ok (.bipush 10, 2) := by decide +kernel
theorem dX6_init_59 : decode cX6_init 59 = .ok (.newarray .int, 2) := by decide +kernel
theorem dX6_init_61 : decode cX6_init 61 = .ok (.putfield 31, 3) := by decide +kernel
theorem dX6_init_64 : decode cX6_init 64 = .ok (.aload_n 0, 1) := by decide +kernel
theorem dX6_init_65 : decode cX6_init 65 = .ok (.bipush 48, 2) := by decide +kernel
theorem dX6_init_67 : decode cX6_init 67 = .ok (.newarray .int, 2) := by decide +kernel
theorem dX6_init_69 : decode cX6_init 69 = .ok (.putfield 34, 3) := by decide +kernel
theorem dX6_init_72 : decode cX6_init 72 = .ok (.aload_n 0, 1) := by decide +kernel
theorem dX6_init_73 : decode cX6_init 73 = .ok (.bipush 31, 2) := by decide +kernel
theorem dX6_init_75 : decode cX6_init 75 = .ok (.putfield 37, 3) := by decide +kernel
theorem dX6_init_78 : decode cX6_init 78 = .ok (.aload_n 0, 1) := by decide +kernel
theorem dX6_init_79 : decode cX6_init 79 = .ok (.sipush 224, 3) := by decide +kernel
theorem dX6_init_82 : decode cX6_init 82 = .ok (.newarray .int, 2) := by decide +kernel
theorem dX6_init_84 : decode cX6_init 84 = .ok (.putfield 41, 3) := by decide +kernel
theorem dX6_init_87 : decode cX6_init 87 = .ok (.aload_n 0, 1) := by decide +kernel
theorem dX6_init_88 : decode cX6_init 88 = .ok (.bipush 6, 2) := by decide +kernel
theorem dX6_init_90 : decode cX6_init 90 = .ok (.newarray .int, 2) := by decide +kernel
theorem dX6_init_92 : decode cX6_init 92 = .ok (.putfield 44, 3) := by decide +kernel
theorem dX6_init_95 : decode cX6_init 95 = .ok (.aload_n 0, 1) := by decide +kernel
theorem dX6_init_96 : decode cX6_init 96 = .ok (.bipush 6, 2) := by decide +kernel
theorem dX6_init_98 : decode cX6_init 98 = .ok (.newarray .int, 2) := by decide +kernel
theorem dX6_init_100 : decode cX6_init 100 = .ok (.putfield 47, 3) := by decide +kernel
theorem dX6_init_103 : decode cX6_init 103 = .ok (.aload_n 0, 1) := by decide +kernel
theorem dX6_init_104 : decode cX6_init 104 = .ok (.bipush 6, 2) := by decide +kernel
theorem dX6_init_106 : decode cX6_init 106 = .ok (.newarray .int, 2) := by decide +kernel
theorem dX6_init_108 : decode cX6_init 108 = .ok (.putfield 50, 3) := by decide +kernel
theorem dX6_init_111 : decode cX6_init 111 = .ok (.aload_n 0, 1) := by decide +kernel
theorem dX6_init_112 : decode cX6_init 112 = .ok (.iconst 2, 1) := by decide +kernel
theorem dX6_init_113 : decode cX6_init 113 = .ok (.newarray .boolean, 2) := by decide +kernel
theorem dX6_init_115 : decode cX6_init 115 = .ok (.putfield 53, 3) := by decide +kernel
theorem dX6_init_118 : decode cX6_init 118 = .ok (.aload_n 0, 1) := by decide +kernel
theorem dX6_init_119 : decode cX6_init 119 = .ok (.bipush 32, 2) := by decide +kernel
theorem dX6_init_121 : decode cX6_init 121 = .ok (.newarray .int, 2) := by decide +kernel
theorem dX6_init_123 : decode cX6_init 123 = .ok (.putfield 57, 3) := by decide +kernel
theorem dX6_init_126 : decode cX6_init 126 = .ok (.return_, 1) := by decide +kernel
theorem dX6_in_0 : decode cX6_in 0 = .ok (.lload_n 0, 1) := by decide +kernel
theorem dX6_in_1 : decode cX6_in 1 = .ok (.lload_n 2, 1) := by decide +kernel
theorem dX6_in_2 : decode cX6_in 2 = .ok (.lcmp, 1) := by decide +kernel
theorem dX6_in_3 : decode cX6_in 3 = .ok (.ifCond .lt 14, 3) := by decide +kernel
theorem dX6_in_6 : decode cX6_in 6 = .ok (.lload_n 0, 1) := by decide +kernel
theorem dX6_in_7 : decode cX6_in 7 = .ok (.lload 4, 2) := by decide +kernel
theorem dX6_in_9 : decode cX6_in 9 = .ok (.lcmp, 1) := by decide +kernel
theorem dX6_in_10 : decode cX6_in 10 = .ok (.ifCond .gt 7, 3) := by decide +kernel
theorem dX6_in_13 : decode cX6_in 13 = .ok (.iconst 1, 1) := by decide +kernel
theorem dX6_in_14 : decode cX6_in 14 = .ok (.goto 4, 3) := by decide +kernel
theorem dX6_in_17 : decode cX6_in 17 = .ok (.iconst 0, 1) := by decide +kernel
theorem dX6_in_18 : decode cX6_in 18 = .ok (.ireturn, 1) := by decide +kernel
theorem dX6_has_0 : decode cX6_has 0 = .ok (.iload_n 0, 1) := by decide +kernel
theorem dX6_has_1 : decode cX6_has 1 = .ok (.iload_n 1, 1) := by decide +kernel
theorem dX6_has_2 : decode cX6_has 2 = .ok (.ishr, 1) := by decide +kernel
theorem dX6_has_3 : decode cX6_has 3 = .ok (.iconst 1, 1) := by decide +kernel
theorem dX6_has_4 : decode cX6_has 4 = .ok (.iand, 1) := by decide +kernel
theorem dX6_has_5 : decode cX6_has 5 = .ok (.iconst 1, 1) := by decide +kernel
theorem dX6_has_6 : decode cX6_has 6 = .ok (.if_icmp .ne 7, 3) := by decide +kernel
theorem dX6_has_9 : decode cX6_has 9 = .ok (.iconst 1, 1) := by decide +kernel
theorem dX6_has_10 : decode cX6_has 10 = .ok (.goto 4, 3) := by decide +kernel
theorem dX6_has_13 : decode cX6_has 13 = .ok (.iconst 0, 1) := by decide +kernel
theorem dX6_has_14 : decode cX6_has 14 = .ok (.ireturn, 1) := by decide +kernel
theorem dX6_ones_0 : decode cX6_ones 0 = .ok (.iconst 0, 1) := by decide +kernel
theorem dX6_ones_1 : decode cX6_ones 1 = .ok (.istore_n 1, 1) := by decide +kernel
theorem dX6_ones_2 : decode cX6_ones 2 = .ok (.iconst 0, 1) := by decide +kernel
theorem dX6_ones_3 : decode cX6_ones 3 = .ok (.istore_n 2, 1) := by decide +kernel
theorem dX6_ones_4 : decode cX6_ones 4 = .ok (.iload_n 2, 1) := by decide +kernel
theorem dX6_ones_5 : decode cX6_ones 5 = .ok (.bipush 8, 2) := by decide +kernel
theorem dX6_ones_7 : decode cX6_ones 7 = .ok (.if_icmp .ge 17, 3) := by decide +kernel
theorem dX6_ones_10 : decode cX6_ones 10 = .ok (.iload_n 1, 1) := by decide +kernel
theorem dX6_ones_11 : decode cX6_ones 11 = .ok (.iload_n 0, 1) := by decide +kernel
theorem dX6_ones_12 : decode cX6_ones 12 = .ok (.iload_n 2, 1) := by decide +kernel
theorem dX6_ones_13 : decode cX6_ones 13 = .ok (.ishr, 1) := by decide +kernel
theorem dX6_ones_14 : decode cX6_ones 14 = .ok (.iconst 1, 1) := by decide +kernel
theorem dX6_ones_15 : decode cX6_ones 15 = .ok (.iand, 1) := by decide +kernel
theorem dX6_ones_16 : decode cX6_ones 16 = .ok (.iadd, 1) := by decide +kernel
theorem dX6_ones_17 : decode cX6_ones 17 = .ok (.istore_n 1, 1) := by decide +kernel
theorem dX6_ones_18 : decode cX6_ones 18 = .ok (.iinc 2 1, 3) := by decide +kernel
theorem dX6_ones_21 : decode cX6_ones 21 = .ok (.goto (-17), 3) := by decide +kernel
theorem dX6_ones_24 : decode cX6_ones 24 = .ok (.iload_n 1, 1) := by decide +kernel
theorem dX6_ones_25 : decode cX6_ones 25 = .ok (.ireturn, 1) := by decide +kernel
set_option maxRecDepth 20000 in
theorem ggX6_write_X6_in : GoodIn wsX6_write wsX6_in := goodIn_r _ [7] (by decide +kernel) (by decide +kernel)
set_option maxRecDepth 20000 in
theorem gX6_write_X6_in : GoodIn wsX6_write (va_wsS RX6 62 yX6_in wsX6_in) := goodIn_app (goodIn_of _ (by decide +kernel)) ggX6_write_X6_in
theorem dX6_write_0 : decode cX6_write 0 = .ok (.iload_n 1, 1) := by decide +kernel
theorem dX6_write_1 : decode cX6_write 1 = .ok (.i2l, 1) := by decide +kernel
theorem dX6_write_2 : decode cX6_write 2 = .ok (.lconst 0, 1) := by decide +kernel
theorem dX6_write_3 : decode cX6_write 3 = .ok (.ldc2_w 60, 3) := by decide +kernel
theorem dX6_write_6 : decode cX6_write 6 = .ok (.invokestatic 62, 3) := by decide +kernel
theorem dX6_write_9 : decode cX6_write 9 = .ok (.ifCond .ne 6, 3) := by decide +kernel
theorem dX6_write_12 : decode cX6_write 12 = .ok (.bipush (-2), 2) := by decide +kernel
theorem dX6_write_14 : decode cX6_write 14 = .ok (.ireturn, 1) := by decide +kernel
theorem dX6_write_15 : decode cX6_write 15 = .ok (.aload_n 0, 1) := by decide +kernel
theorem dX6_write_16 : decode cX6_write 16 = .ok (.getfield 66, 3) := by decide +kernel
theorem dX6_write_19 : decode cX6_write 19 = .ok (.bipush 48, 2) := by decide +kernel
theorem dX6_write_21 : decode cX6_write 21 = .ok (.if_icmp .ne 6, 3) := by decide +kernel
theorem dX6_write_24 : decode cX6_write 24 = .ok (.bipush (-4), 2) := by decide +kernel
theorem dX6_write_26 : decode cX6_write 26 = .ok (.ireturn, 1) := by decide +kernel
theorem dX6_write_27 : decode cX6_write 27 = .ok (.aload_n 0, 1) := by decide +kernel
theorem dX6_write_28 : decode cX6_write 28 = .ok (.getfield 34, 3) := by decide +kernel
theorem dX6_write_31 : decode cX6_write 31 = .ok (.aload_n 0, 1) := by decide +kernel
theorem dX6_write_32 : decode cX6_write 32 = .ok (.getfield 66, 3) := by decide +kernel
theorem dX6_write_35 : decode cX6_write 35 = .ok (.iload_n 1, 1) := by decide +kernel
theorem dX6_write_36 : decode cX6_write 36 = .ok (.iastore, 1) := by decide +kernel
theorem dX6_write_37 : decode cX6_write 37 = .ok (.aload_n 0, 1) := by decide +kernel
theorem dX6_write_38 : decode cX6_write 38 = .ok (.dup, 1) := by decide +kernel
theorem dX6_write_39 : decode cX6_write 39 = .ok (.getfield 66, 3) := by decide +kernel
theorem dX6_write_42 : decode cX6_write 42 = .ok (.iconst 1, 1) := by decide +kernel
theorem dX6_write_43 : decode cX6_write 43 = .ok (.iadd, 1) := by decide +kernel
theorem dX6_write_44 : decode cX6_write 44 = .ok (.putfield 66, 3) := by decide +kernel
theorem dX6_write_47 : decode cX6_write 47 = .ok (.aload_n 0, 1) := by decide +kernel
theorem dX6_write_48 : decode cX6_write 48 = .ok (.getfield 66, 3) := by decide +kernel
theorem dX6_write_51 : decode cX6_write 51 = .ok (.ireturn, 1) := by decide +kernel
theorem dX6_wipe_0 : decode cX6_wipe 0 = .ok (.aload_n 0, 1) := by decide +kernel
theorem dX6_wipe_1 : decode cX6_wipe 1 = .ok (.getfield 66, 3) := by decide +kernel
theorem dX6_wipe_4 : decode cX6_wipe 4 = .ok (.istore_n 1, 1) := by decide +kernel
theorem dX6_wipe_5 : decode cX6_wipe 5 = .ok (.aload_n 0, 1) := by decide +kernel
theorem dX6_wipe_6 : decode cX6_wipe 6 = .ok (.iconst 0, 1) := by decide +kernel
theorem dX6_wipe_7 : decode cX6_wipe 7 = .ok (.putfield 66, 3) := by decide +kernel
theorem dX6_wipe_10 : decode cX6_wipe 10 = .ok (.iload_n 1, 1) := by decide +kernel
theorem dX6_wipe_11 : decode cX6_wipe 11 = .ok (.ireturn, 1) := by decide +kernel
set_option maxRecDepth 20000 in
theorem ggX6_figureOf_X6_in : GoodIn wsX6_figureOf wsX6_in := goodIn_r _ [8] (by decide +kernel) (by decide +kernel)
set_option maxRecDepth 20000 in
theorem gX6_figureOf_X6_in : GoodIn wsX6_figureOf (va_wsS RX6 62 yX6_in wsX6_in) := goodIn_app (goodIn_of _ (by decide +kernel)) ggX6_figureOf_X6_in
theorem dX6_figureOf_0 : decode cX6_figureOf 0 = .ok (.aload_n 0, 1) := by decide +kernel
theorem dX6_figureOf_1 : decode cX6_figureOf 1 = .ok (.getfield 69, 3) := by decide +kernel
theorem dX6_figureOf_4 : decode cX6_figureOf 4 = .ok (.bipush (-9), 2) := by decide +kernel
theorem dX6_figureOf_6 : decode cX6_figureOf 6 = .ok (.if_icmp .ne 18, 3) := by decide +kernel
theorem dX6_figureOf_9 : decode cX6_figureOf 9 = .ok (.aload_n 0, 1) := by decide +kernel
theorem dX6_figureOf_10 : decode cX6_figureOf 10 = .ok (.getfield 72, 3) := by decide +kernel
theorem dX6_figureOf_13 : decode cX6_figureOf 13 = .ok (.aload_n 0, 1) := by decide +kernel
theorem dX6_figureOf_14 : decode cX6_figureOf 14 = .ok (.getfield 66, 3) := by decide +kernel
theorem dX6_figureOf_17 : decode cX6_figureOf 17 = .ok (.if_icmp .ge 7, 3) := by decide +kernel
theorem dX6_figureOf_20 : decode cX6_figureOf 20 = .ok (.iconst 1, 1) := by decide +kernel
theorem dX6_figureOf_21 : decode cX6_figureOf 21 = .ok (.goto 4, 3) := by decide +kernel
theorem dX6_figureOf_24 : decode cX6_figureOf 24 = .ok (.iconst 0, 1) := by decide +kernel
theorem dX6_figureOf_25 : decode cX6_figureOf 25 = .ok (.istore_n 3, 1) := by decide +kernel
theorem dX6_figureOf_26 : decode cX6_figureOf 26 = .ok (.iload_n 3, 1) := by decide +kernel
theorem dX6_figureOf_27 : decode cX6_figureOf 27 = .ok (.ifCond .eq 18, 3) := by decide +kernel
theorem dX6_figureOf_30 : decode cX6_figureOf 30 = .ok (.aload_n 0, 1) := by decide +kernel
theorem dX6_figureOf_31 : decode cX6_figureOf 31 = .ok (.getfield 34, 3) := by decide +kernel
theorem dX6_figureOf_34 : decode cX6_figureOf 34 = .ok (.aload_n 0, 1) := by decide +kernel
theorem dX6_figureOf_35 : decode cX6_figureOf 35 = .ok (.getfield 72, 3) := by decide +kernel
theorem dX6_figureOf_38 : decode cX6_figureOf 38 = .ok (.iaload, 1) := by decide +kernel
theorem dX6_figureOf_39 : decode cX6_figureOf 39 = .ok (.bipush 48, 2) := by decide +kernel
theorem dX6_figureOf_41 : decode cX6_figureOf 41 = .ok (.isub, 1) := by decide +kernel
theorem dX6_figureOf_42 : decode cX6_figureOf 42 = .ok (.goto 4, 3) := by decide +kernel
theorem dX6_figureOf_45 : decode cX6_figureOf 45 = .ok (.iconst 0, 1) := by decide +kernel
theorem dX6_figureOf_46 : decode cX6_figureOf 46 = .ok (.istore 4, 2) := by decide +kernel
theorem dX6_figureOf_48 : decode cX6_figureOf 48 = .ok (.iload_n 3, 1) := by decide +kernel
theorem dX6_figureOf_49 : decode cX6_figureOf 49 = .ok (.ifCond .eq 16, 3) := by decide +kernel
theorem dX6_figureOf_52 : decode cX6_figureOf 52 = .ok (.iload 4, 2) := by decide +kernel
theorem dX6_figureOf_54 : decode cX6_figureOf 54 = .ok (.i2l, 1) := by decide +kernel
theorem dX6_figureOf_55 : decode cX6_figureOf 55 = .ok (.iload_n 1, 1) := by decide +kernel
theorem dX6_figureOf_56 : decode cX6_figureOf 56 = .ok (.i2l, 1) := by decide +kernel
theorem dX6_figureOf_57 : decode cX6_figureOf 57 = .ok (.iload_n 2, 1) := by decide +kernel
theorem dX6_figureOf_58 : decode cX6_figureOf 58 = .ok (.i2l, 1) := by decide +kernel
theorem dX6_figureOf_59 : decode cX6_figureOf 59 = .ok (.invokestatic 62, 3) := by decide +kernel
theorem dX6_figureOf_62 : decode cX6_figureOf 62 = .ok (.ifCond .ne 29, 3) := by decide +kernel
theorem dX6_figureOf_65 : decode cX6_figureOf 65 = .ok (.aload_n 0, 1) := by decide +kernel
theorem dX6_figureOf_66 : decode cX6_figureOf 66 = .ok (.aload_n 0, 1) := by decide +kernel
theorem dX6_figureOf_67 : decode cX6_figureOf 67 = .ok (.getfield 69, 3) := by decide +kernel
theorem dX6_figureOf_70 : decode cX6_figureOf 70 = .ok (.bipush (-9), 2) := by decide +kernel
theorem dX6_figureOf_72 : decode cX6_figureOf 72 = .ok (.if_icmp .ne 10, 3) := by decide +kernel
theorem dX6_figureOf_75 : decode cX6_figureOf 75 = .ok (.aload_n 0, 1) := by decide +kernel
theorem dX6_figureOf_76 : decode cX6_figureOf 76 = .ok (.getfield 72, 3) := by decide +kernel
theorem dX6_figureOf_79 : decode cX6_figureOf 79 = .ok (.goto 7, 3) := by decide +kernel
theorem dX6_figureOf_82 : decode cX6_figureOf 82 = .ok (.aload_n 0, 1) := by decide +kernel
theorem dX6_figureOf_83 : decode cX6_figureOf 83 = .ok (.getfield 69, 3) := by decide +kernel
theorem dX6_figureOf_86 : decode cX6_figureOf 86 = .ok (.putfield 69, 3) := by decide +kernel
theorem dX6_figureOf_89 : decode cX6_figureOf 89 = .ok (.iconst 0, 1) := by decide +kernel
theorem dX6_figureOf_90 : decode cX6_figureOf 90 = .ok (.ireturn, 1) := by decide +kernel
theorem dX6_figureOf_91 : decode cX6_figureOf 91 = .ok (.aload_n 0, 1) := by decide +kernel
theorem dX6_figureOf_92 : decode cX6_figureOf 92 = .ok (.dup, 1) := by decide +kernel
theorem dX6_figureOf_93 : decode cX6_figureOf 93 = .ok (.getfield 72, 3) := by decide +kernel
theorem dX6_figureOf_96 : decode cX6_figureOf 96 = .ok (.iconst 1, 1) := by decide +kernel
theorem dX6_figureOf_97 : decode cX6_figureOf 97 = .ok (.iadd, 1) := by decide +kernel
theorem dX6_figureOf_98 : decode cX6_figureOf 98 = .ok (.putfield 72, 3) := by decide +kernel
theorem dX6_figureOf_101 : decode cX6_figureOf 101 = .ok (.iload 4, 2) := by decide +kernel
theorem dX6_figureOf_103 : decode cX6_figureOf 103 = .ok (.ireturn, 1) := by decide +kernel
set_option maxRecDepth 20000 in
theorem ggX6_readText_X6_figureOf : GoodIn wsX6_readText wsX6_figureOf := goodIn_r _ [12, 2, 1, 5, 6, 13, 14, 11, 15, 22, 23, 24, 25, 26, 27, 28, 29, 30, 31, 32, 33, 34, 35, 36, 37, 38, 39, 40, 41, 42, 43, 44, 45, 46, 47, 48] (by decide +kernel) (by decide +kernel)
set_option maxRecDepth 20000 in
theorem gX6_readText_X6_figureOf : GoodIn wsX6_readText (wsV RX6 81 RX6 yX6_figureOf wsX6_figureOf) := goodIn_app (goodIn_of _ (by decide +kernel)) ggX6_readText_X6_figureOf
set_option maxRecDepth 20000 in
theorem ggX6_readText_X6_readPart : GoodIn wsX6_readText wsX6_readPart := goodIn_r _ [19, 3, 1, 20, 4, 21, 2, 8, 9, 10, 11, 12, 5, 6, 13, 14, 15, 22, 23, 24, 25, 26, 27, 28, 29, 30, 31, 32, 33, 34, 35, 36, 37, 38, 39, 40, 41, 42, 43, 44, 45, 46, 47, 48] (by decide +kernel) (by decide +kernel)
set_option maxRecDepth 20000 in
theorem gX6_readText_X6_readPart : GoodIn wsX6_readText (wsV RX6 85 RX6 yX6_readPart wsX6_readPart) := goodIn_app (goodIn_of _ (by decide +kernel)) ggX6_readText_X6_readPart
theorem dX6_readText_0 : decode cX6_readText 0 = .ok (.aload_n 0, 1) := by decide +kernel
theorem dX6_readText_1 : decode cX6_readText 1 = .ok (.iconst 0, 1) := by decide +kernel
theorem dX6_readText_2 : decode cX6_readText 2 = .ok (.putfield 72, 3) := by decide +kernel
theorem dX6_readText_5 : decode cX6_readText 5 = .ok (.aload_n 0, 1) := by decide +kernel
theorem dX6_readText_6 : decode cX6_readText 6 = .ok (.bipush (-9), 2) := by decide +kernel
theorem dX6_readText_8 : decode cX6_readText 8 = .ok (.putfield 69, 3) := by decide +kernel
theorem dX6_readText_11 : decode cX6_readText 11 = .ok (.aload_n 0, 1) := by decide +kernel
theorem dX6_readText_12 : decode cX6_readText 12 = .ok (.iconst 0, 1) := by decide +kernel
theorem dX6_readText_13 : decode cX6_readText 13 = .ok (.putfield 75, 3) := by decide +kernel
theorem dX6_readText_16 : decode cX6_readText 16 = .ok (.aload_n 0, 1) := by decide +kernel
theorem dX6_readText_17 : decode cX6_readText 17 = .ok (.iconst 0, 1) := by decide +kernel
theorem dX6_readText_18 : decode cX6_readText 18 = .ok (.putfield 78, 3) := by decide +kernel
theorem dX6_readText_21 : decode cX6_readText 21 = .ok (.aload_n 0, 1) := by decide +kernel
theorem dX6_readText_22 : decode cX6_readText 22 = .ok (.getfield 66, 3) := by decide +kernel
theorem dX6_readText_25 : decode cX6_readText 25 = .ok (.ifCond .eq 14, 3) := by decide +kernel
theorem dX6_readText_28 : decode cX6_readText 28 = .ok (.aload_n 0, 1) := by decide +kernel
theorem dX6_readText_29 : decode cX6_readText 29 = .ok (.getfield 34, 3) := by decide +kernel
theorem dX6_readText_32 : decode cX6_readText 32 = .ok (.iconst 0, 1) := by decide +kernel
theorem dX6_readText_33 : decode cX6_readText 33 = .ok (.iaload, 1) := by decide +kernel
theorem dX6_readText_34 : decode cX6_readText 34 = .ok (.bipush 66, 2) := by decide +kernel
theorem dX6_readText_36 : decode cX6_readText 36 = .ok (.if_icmp .eq 5, 3) := by decide +kernel
theorem dX6_readText_39 : decode cX6_readText 39 = .ok (.iconst 0, 1) := by decide +kernel
theorem dX6_readText_40 : decode cX6_readText 40 = .ok (.ireturn, 1) := by decide +kernel
theorem dX6_readText_41 : decode cX6_readText 41 = .ok (.aload_n 0, 1) := by decide +kernel
theorem dX6_readText_42 : decode cX6_readText 42 = .ok (.iconst 1, 1) := by decide +kernel
