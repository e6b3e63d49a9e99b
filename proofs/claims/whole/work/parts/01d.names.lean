theorem dX6_readText_43 : decode cX6_readText 43 = .ok (.putfield 72, 3) := by decide +kernel
theorem dX6_readText_46 : decode cX6_readText 46 = .ok (.iconst 0, 1) := by decide +kernel
theorem dX6_readText_47 : decode cX6_readText 47 = .ok (.istore_n 1, 1) := by decide +kernel
theorem dX6_readText_48 : decode cX6_readText 48 = .ok (.iload_n 1, 1) := by decide +kernel
theorem dX6_readText_49 : decode cX6_readText 49 = .ok (.bipush 8, 2) := by decide +kernel
theorem dX6_readText_51 : decode cX6_readText 51 = .ok (.if_icmp .ge 22, 3) := by decide +kernel
theorem dX6_readText_54 : decode cX6_readText 54 = .ok (.aload_n 0, 1) := by decide +kernel
theorem dX6_readText_55 : decode cX6_readText 55 = .ok (.getfield 25, 3) := by decide +kernel
theorem dX6_readText_58 : decode cX6_readText 58 = .ok (.iload_n 1, 1) := by decide +kernel
theorem dX6_readText_59 : decode cX6_readText 59 = .ok (.aload_n 0, 1) := by decide +kernel
theorem dX6_readText_60 : decode cX6_readText 60 = .ok (.iconst 0, 1) := by decide +kernel
theorem dX6_readText_61 : decode cX6_readText 61 = .ok (.bipush 9, 2) := by decide +kernel
theorem dX6_readText_63 : decode cX6_readText 63 = .ok (.invokevirtual 81, 3) := by decide +kernel
theorem dX6_readText_66 : decode cX6_readText 66 = .ok (.iastore, 1) := by decide +kernel
theorem dX6_readText_67 : decode cX6_readText 67 = .ok (.iinc 1 1, 3) := by decide +kernel
theorem dX6_readText_70 : decode cX6_readText 70 = .ok (.goto (-22), 3) := by decide +kernel
theorem dX6_readText_73 : decode cX6_readText 73 = .ok (.aload_n 0, 1) := by decide +kernel
theorem dX6_readText_74 : decode cX6_readText 74 = .ok (.getfield 69, 3) := by decide +kernel
theorem dX6_readText_77 : decode cX6_readText 77 = .ok (.bipush (-9), 2) := by decide +kernel
theorem dX6_readText_79 : decode cX6_readText 79 = .ok (.if_icmp .ne 30, 3) := by decide +kernel
theorem dX6_readText_82 : decode cX6_readText 82 = .ok (.aload_n 0, 1) := by decide +kernel
theorem dX6_readText_83 : decode cX6_readText 83 = .ok (.getfield 72, 3) := by decide +kernel
theorem dX6_readText_86 : decode cX6_readText 86 = .ok (.aload_n 0, 1) := by decide +kernel
theorem dX6_readText_87 : decode cX6_readText 87 = .ok (.getfield 66, 3) := by decide +kernel
theorem dX6_readText_90 : decode cX6_readText 90 = .ok (.if_icmp .ge 19, 3) := by decide +kernel
theorem dX6_readText_93 : decode cX6_readText 93 = .ok (.aload_n 0, 1) := by decide +kernel
theorem dX6_readText_94 : decode cX6_readText 94 = .ok (.aload_n 0, 1) := by decide +kernel
theorem dX6_readText_95 : decode cX6_readText 95 = .ok (.getfield 34, 3) := by decide +kernel
theorem dX6_readText_98 : decode cX6_readText 98 = .ok (.aload_n 0, 1) := by decide +kernel
theorem dX6_readText_99 : decode cX6_readText 99 = .ok (.getfield 72, 3) := by decide +kernel
theorem dX6_readText_102 : decode cX6_readText 102 = .ok (.iaload, 1) := by decide +kernel
theorem dX6_readText_103 : decode cX6_readText 103 = .ok (.invokevirtual 85, 3) := by decide +kernel
theorem dX6_readText_106 : decode cX6_readText 106 = .ok (.goto (-33), 3) := by decide +kernel
theorem dX6_readText_109 : decode cX6_readText 109 = .ok (.aload_n 0, 1) := by decide +kernel
theorem dX6_readText_110 : decode cX6_readText 110 = .ok (.getfield 69, 3) := by decide +kernel
theorem dX6_readText_113 : decode cX6_readText 113 = .ok (.ireturn, 1) := by decide +kernel
set_option maxRecDepth 20000 in
theorem ggX6_readPart_X6_figureOf : GoodIn wsX6_readPart wsX6_figureOf := goodIn_r _ [11, 6, 2, 12, 13, 14, 15, 10, 16, 17, 18, 19, 20, 21, 22, 23, 24, 25, 26, 27, 28, 29, 30, 31, 32, 33, 34, 35, 36, 37, 38, 39, 40, 41, 42, 43] (by decide +kernel) (by decide +kernel)
set_option maxRecDepth 20000 in
theorem gX6_readPart_X6_figureOf : GoodIn wsX6_readPart (wsV RX6 81 RX6 yX6_figureOf wsX6_figureOf) := goodIn_app (goodIn_of _ (by decide +kernel)) ggX6_readPart_X6_figureOf
theorem dX6_readPart_0 : decode cX6_readPart 0 = .ok (.iload_n 1, 1) := by decide +kernel
theorem dX6_readPart_1 : decode cX6_readPart 1 = .ok (.bipush 78, 2) := by decide +kernel
theorem dX6_readPart_3 : decode cX6_readPart 3 = .ok (.if_icmp .ne 91, 3) := by decide +kernel
theorem dX6_readPart_6 : decode cX6_readPart 6 = .ok (.aload_n 0, 1) := by decide +kernel
theorem dX6_readPart_7 : decode cX6_readPart 7 = .ok (.getfield 75, 3) := by decide +kernel
theorem dX6_readPart_10 : decode cX6_readPart 10 = .ok (.iconst 5, 1) := by decide +kernel
theorem dX6_readPart_11 : decode cX6_readPart 11 = .ok (.if_icmp .ge 83, 3) := by decide +kernel
theorem dX6_readPart_14 : decode cX6_readPart 14 = .ok (.aload_n 0, 1) := by decide +kernel
theorem dX6_readPart_15 : decode cX6_readPart 15 = .ok (.dup, 1) := by decide +kernel
theorem dX6_readPart_16 : decode cX6_readPart 16 = .ok (.getfield 72, 3) := by decide +kernel
theorem dX6_readPart_19 : decode cX6_readPart 19 = .ok (.iconst 1, 1) := by decide +kernel
theorem dX6_readPart_20 : decode cX6_readPart 20 = .ok (.iadd, 1) := by decide +kernel
theorem dX6_readPart_21 : decode cX6_readPart 21 = .ok (.putfield 72, 3) := by decide +kernel
theorem dX6_readPart_24 : decode cX6_readPart 24 = .ok (.aload_n 0, 1) := by decide +kernel
theorem dX6_readPart_25 : decode cX6_readPart 25 = .ok (.getfield 28, 3) := by decide +kernel
theorem dX6_readPart_28 : decode cX6_readPart 28 = .ok (.iconst 3, 1) := by decide +kernel
theorem dX6_readPart_29 : decode cX6_readPart 29 = .ok (.aload_n 0, 1) := by decide +kernel
theorem dX6_readPart_30 : decode cX6_readPart 30 = .ok (.getfield 75, 3) := by decide +kernel
theorem dX6_readPart_33 : decode cX6_readPart 33 = .ok (.imul, 1) := by decide +kernel
theorem dX6_readPart_34 : decode cX6_readPart 34 = .ok (.aload_n 0, 1) := by decide +kernel
theorem dX6_readPart_35 : decode cX6_readPart 35 = .ok (.iconst 0, 1) := by decide +kernel
theorem dX6_readPart_36 : decode cX6_readPart 36 = .ok (.bipush 7, 2) := by decide +kernel
theorem dX6_readPart_38 : decode cX6_readPart 38 = .ok (.invokevirtual 81, 3) := by decide +kernel
theorem dX6_readPart_41 : decode cX6_readPart 41 = .ok (.iastore, 1) := by decide +kernel
theorem dX6_readPart_42 : decode cX6_readPart 42 = .ok (.aload_n 0, 1) := by decide +kernel
theorem dX6_readPart_43 : decode cX6_readPart 43 = .ok (.getfield 28, 3) := by decide +kernel
theorem dX6_readPart_46 : decode cX6_readPart 46 = .ok (.iconst 3, 1) := by decide +kernel
theorem dX6_readPart_47 : decode cX6_readPart 47 = .ok (.aload_n 0, 1) := by decide +kernel
theorem dX6_readPart_48 : decode cX6_readPart 48 = .ok (.getfield 75, 3) := by decide +kernel
theorem dX6_readPart_51 : decode cX6_readPart 51 = .ok (.imul, 1) := by decide +kernel
theorem dX6_readPart_52 : decode cX6_readPart 52 = .ok (.iconst 1, 1) := by decide +kernel
theorem dX6_readPart_53 : decode cX6_readPart 53 = .ok (.iadd, 1) := by decide +kernel
theorem dX6_readPart_54 : decode cX6_readPart 54 = .ok (.aload_n 0, 1) := by decide +kernel
theorem dX6_readPart_55 : decode cX6_readPart 55 = .ok (.iconst 1, 1) := by decide +kernel
theorem dX6_readPart_56 : decode cX6_readPart 56 = .ok (.bipush 9, 2) := by decide +kernel
theorem dX6_readPart_58 : decode cX6_readPart 58 = .ok (.invokevirtual 81, 3) := by decide +kernel
theorem dX6_readPart_61 : decode cX6_readPart 61 = .ok (.iastore, 1) := by decide +kernel
theorem dX6_readPart_62 : decode cX6_readPart 62 = .ok (.aload_n 0, 1) := by decide +kernel
theorem dX6_readPart_63 : decode cX6_readPart 63 = .ok (.getfield 28, 3) := by decide +kernel
theorem dX6_readPart_66 : decode cX6_readPart 66 = .ok (.iconst 3, 1) := by decide +kernel
theorem dX6_readPart_67 : decode cX6_readPart 67 = .ok (.aload_n 0, 1) := by decide +kernel
theorem dX6_readPart_68 : decode cX6_readPart 68 = .ok (.getfield 75, 3) := by decide +kernel
theorem dX6_readPart_71 : decode cX6_readPart 71 = .ok (.imul, 1) := by decide +kernel
theorem dX6_readPart_72 : decode cX6_readPart 72 = .ok (.iconst 2, 1) := by decide +kernel
theorem dX6_readPart_73 : decode cX6_readPart 73 = .ok (.iadd, 1) := by decide +kernel
theorem dX6_readPart_74 : decode cX6_readPart 74 = .ok (.aload_n 0, 1) := by decide +kernel
theorem dX6_readPart_75 : decode cX6_readPart 75 = .ok (.iconst 0, 1) := by decide +kernel
theorem dX6_readPart_76 : decode cX6_readPart 76 = .ok (.iconst 3, 1) := by decide +kernel
theorem dX6_readPart_77 : decode cX6_readPart 77 = .ok (.invokevirtual 81, 3) := by decide +kernel
theorem dX6_readPart_80 : decode cX6_readPart 80 = .ok (.iastore, 1) := by decide +kernel
theorem dX6_readPart_81 : decode cX6_readPart 81 = .ok (.aload_n 0, 1) := by decide +kernel
theorem dX6_readPart_82 : decode cX6_readPart 82 = .ok (.dup, 1) := by decide +kernel
theorem dX6_readPart_83 : decode cX6_readPart 83 = .ok (.getfield 75, 3) := by decide +kernel
theorem dX6_readPart_86 : decode cX6_readPart 86 = .ok (.iconst 1, 1) := by decide +kernel
theorem dX6_readPart_87 : decode cX6_readPart 87 = .ok (.iadd, 1) := by decide +kernel
theorem dX6_readPart_88 : decode cX6_readPart 88 = .ok (.putfield 75, 3) := by decide +kernel
theorem dX6_readPart_91 : decode cX6_readPart 91 = .ok (.goto 86, 3) := by decide +kernel
theorem dX6_readPart_94 : decode cX6_readPart 94 = .ok (.iload_n 1, 1) := by decide +kernel
theorem dX6_readPart_95 : decode cX6_readPart 95 = .ok (.bipush 70, 2) := by decide +kernel
theorem dX6_readPart_97 : decode cX6_readPart 97 = .ok (.if_icmp .ne 72, 3) := by decide +kernel
theorem dX6_readPart_100 : decode cX6_readPart 100 = .ok (.aload_n 0, 1) := by decide +kernel
theorem dX6_readPart_101 : decode cX6_readPart 101 = .ok (.getfield 78, 3) := by decide +kernel
theorem dX6_readPart_104 : decode cX6_readPart 104 = .ok (.iconst 5, 1) := by decide +kernel
theorem dX6_readPart_105 : decode cX6_readPart 105 = .ok (.if_icmp .ge 64, 3) := by decide +kernel
theorem dX6_readPart_108 : decode cX6_readPart 108 = .ok (.aload_n 0, 1) := by decide +kernel
theorem dX6_readPart_109 : decode cX6_readPart 109 = .ok (.dup, 1) := by decide +kernel
theorem dX6_readPart_110 : decode cX6_readPart 110 = .ok (.getfield 72, 3) := by decide +kernel
theorem dX6_readPart_113 : decode cX6_readPart 113 = .ok (.iconst 1, 1) := by decide +kernel
theorem dX6_readPart_114 : decode cX6_readPart 114 = .ok (.iadd, 1) := by decide +kernel
theorem dX6_readPart_115 : decode cX6_readPart 115 = .ok (.putfield 72, 3) := by decide +kernel
theorem dX6_readPart_118 : decode cX6_readPart 118 = .ok (.aload_n 0, 1) := by decide +kernel
theorem dX6_readPart_119 : decode cX6_readPart 119 = .ok (.getfield 31, 3) := by decide +kernel
theorem dX6_readPart_122 : decode cX6_readPart 122 = .ok (.iconst 2, 1) := by decide +kernel
theorem dX6_readPart_123 : decode cX6_readPart 123 = .ok (.aload_n 0, 1) := by decide +kernel
theorem dX6_readPart_124 : decode cX6_readPart 124 = .ok (.getfield 78, 3) := by decide +kernel
theorem dX6_readPart_127 : decode cX6_readPart 127 = .ok (.imul, 1) := by decide +kernel
theorem dX6_readPart_128 : decode cX6_readPart 128 = .ok (.aload_n 0, 1) := by decide +kernel
theorem dX6_readPart_129 : decode cX6_readPart 129 = .ok (.iconst 0, 1) := by decide +kernel
theorem dX6_readPart_130 : decode cX6_readPart 130 = .ok (.bipush 7, 2) := by decide +kernel
theorem dX6_readPart_132 : decode cX6_readPart 132 = .ok (.invokevirtual 81, 3) := by decide +kernel
theorem dX6_readPart_135 : decode cX6_readPart 135 = .ok (.iastore, 1) := by decide +kernel
theorem dX6_readPart_136 : decode cX6_readPart 136 = .ok (.aload_n 0, 1) := by decide +kernel
theorem dX6_readPart_137 : decode cX6_readPart 137 = .ok (.getfield 31, 3) := by decide +kernel
theorem dX6_readPart_140 : decode cX6_readPart 140 = .ok (.iconst 2, 1) := by decide +kernel
theorem dX6_readPart_141 : decode cX6_readPart 141 = .ok (.aload_n 0, 1) := by decide +kernel
theorem dX6_readPart_142 : decode cX6_readPart 142 = .ok (.getfield 78, 3) := by decide +kernel
theorem dX6_readPart_145 : decode cX6_readPart 145 = .ok (.imul, 1) := by decide +kernel
theorem dX6_readPart_146 : decode cX6_readPart 146 = .ok (.iconst 1, 1) := by decide +kernel
theorem dX6_readPart_147 : decode cX6_readPart 147 = .ok (.iadd, 1) := by decide +kernel
theorem dX6_readPart_148 : decode cX6_readPart 148 = .ok (.aload_n 0, 1) := by decide +kernel
theorem dX6_readPart_149 : decode cX6_readPart 149 = .ok (.iconst 0, 1) := by decide +kernel
theorem dX6_readPart_150 : decode cX6_readPart 150 = .ok (.bipush 9, 2) := by decide +kernel
theorem dX6_readPart_152 : decode cX6_readPart 152 = .ok (.invokevirtual 81, 3) := by decide +kernel
theorem dX6_readPart_155 : decode cX6_readPart 155 = .ok (.iastore, 1) := by decide +kernel
theorem dX6_readPart_156 : decode cX6_readPart 156 = .ok (.aload_n 0, 1) := by decide +kernel
theorem dX6_readPart_157 : decode cX6_readPart 157 = .ok (.dup, 1) := by decide +kernel
theorem dX6_readPart_158 : decode cX6_readPart 158 = .ok (.getfield 78, 3) := by decide +kernel
theorem dX6_readPart_161 : decode cX6_readPart 161 = .ok (.iconst 1, 1) := by decide +kernel
theorem dX6_readPart_162 : decode cX6_readPart 162 = .ok (.iadd, 1) := by decide +kernel
theorem dX6_readPart_163 : decode cX6_readPart 163 = .ok (.putfield 78, 3) := by decide +kernel
theorem dX6_readPart_166 : decode cX6_readPart 166 = .ok (.goto 11, 3) := by decide +kernel
theorem dX6_readPart_169 : decode cX6_readPart 169 = .ok (.aload_n 0, 1) := by decide +kernel
theorem dX6_readPart_170 : decode cX6_readPart 170 = .ok (.aload_n 0, 1) := by decide +kernel
theorem dX6_readPart_171 : decode cX6_readPart 171 = .ok (.getfield 72, 3) := by decide +kernel
theorem dX6_readPart_174 : decode cX6_readPart 174 = .ok (.putfield 69, 3) := by decide +kernel
theorem dX6_readPart_177 : decode cX6_readPart 177 = .ok (.return_, 1) := by decide +kernel
set_option maxRecDepth 20000 in
theorem ggX6_fault_X6_readText : GoodIn wsX6_fault wsX6_readText := goodIn_r _ [5, 6, 7, 8, 9, 10, 11, 12, 13, 14, 15, 4, 16, 17, 18, 19, 20, 21, 22, 23, 24, 25, 26, 27, 28, 29, 30, 31, 32, 33, 34, 35, 36, 37, 38, 39, 40, 41, 42, 43, 44, 45, 46, 47, 48, 49, 50, 51, 52] (by decide +kernel) (by decide +kernel)
set_option maxRecDepth 20000 in
theorem gX6_fault_X6_readText : GoodIn wsX6_fault (wsV RX6 89 RX6 yX6_readText wsX6_readText) := goodIn_app (goodIn_of _ (by decide +kernel)) ggX6_fault_X6_readText
theorem dX6_fault_0 : decode cX6_fault 0 = .ok (.aload_n 0, 1) := by decide +kernel
theorem dX6_fault_1 : decode cX6_fault 1 = .ok (.invokevirtual 89, 3) := by decide +kernel
theorem dX6_fault_4 : decode cX6_fault 4 = .ok (.ireturn, 1) := by decide +kernel
set_option maxRecDepth 20000 in
theorem ggX6_city_X6_readText : GoodIn wsX6_city wsX6_readText := goodIn_r _ [19, 20, 21, 1, 3, 22, 23, 6, 24, 25, 26, 18, 27, 28, 29, 30, 31, 32, 33, 34, 7, 11, 35, 36, 37, 38, 39, 40, 41, 42, 43, 44, 45, 46, 47, 48, 49, 50, 51, 52, 53, 54, 55, 56, 57, 58, 59, 60, 61] (by decide +kernel) (by decide +kernel)
set_option maxRecDepth 20000 in
theorem gX6_city_X6_readText : GoodIn wsX6_city (wsV RX6 89 RX6 yX6_readText wsX6_readText) := goodIn_app (goodIn_of _ (by decide +kernel)) ggX6_city_X6_readText
theorem dX6_city_0 : decode cX6_city 0 = .ok (.aload_n 0, 1) := by decide +kernel
theorem dX6_city_1 : decode cX6_city 1 = .ok (.invokevirtual 89, 3) := by decide +kernel
theorem dX6_city_4 : decode cX6_city 4 = .ok (.bipush (-9), 2) := by decide +kernel
theorem dX6_city_6 : decode cX6_city 6 = .ok (.if_icmp .eq 6, 3) := by decide +kernel
theorem dX6_city_9 : decode cX6_city 9 = .ok (.bipush (-3), 2) := by decide +kernel
theorem dX6_city_11 : decode cX6_city 11 = .ok (.ireturn, 1) := by decide +kernel
theorem dX6_city_12 : decode cX6_city 12 = .ok (.aload_n 0, 1) := by decide +kernel
theorem dX6_city_13 : decode cX6_city 13 = .ok (.aload_n 0, 1) := by decide +kernel
theorem dX6_city_14 : decode cX6_city 14 = .ok (.getfield 75, 3) := by decide +kernel
theorem dX6_city_17 : decode cX6_city 17 = .ok (.putfield 93, 3) := by decide +kernel
theorem dX6_city_20 : decode cX6_city 20 = .ok (.aload_n 0, 1) := by decide +kernel
theorem dX6_city_21 : decode cX6_city 21 = .ok (.aload_n 0, 1) := by decide +kernel
theorem dX6_city_22 : decode cX6_city 22 = .ok (.getfield 78, 3) := by decide +kernel
theorem dX6_city_25 : decode cX6_city 25 = .ok (.putfield 96, 3) := by decide +kernel
theorem dX6_city_28 : decode cX6_city 28 = .ok (.iconst 0, 1) := by decide +kernel
theorem dX6_city_29 : decode cX6_city 29 = .ok (.istore_n 1, 1) := by decide +kernel
theorem dX6_city_30 : decode cX6_city 30 = .ok (.iload_n 1, 1) := by decide +kernel
theorem dX6_city_31 : decode cX6_city 31 = .ok (.bipush 16, 2) := by decide +kernel
theorem dX6_city_33 : decode cX6_city 33 = .ok (.if_icmp .ge 31, 3) := by decide +kernel
theorem dX6_city_36 : decode cX6_city 36 = .ok (.aload_n 0, 1) := by decide +kernel
theorem dX6_city_37 : decode cX6_city 37 = .ok (.getfield 22, 3) := by decide +kernel
theorem dX6_city_40 : decode cX6_city 40 = .ok (.iload_n 1, 1) := by decide +kernel
theorem dX6_city_41 : decode cX6_city 41 = .ok (.iload_n 1, 1) := by decide +kernel
theorem dX6_city_42 : decode cX6_city 42 = .ok (.bipush 8, 2) := by decide +kernel
theorem dX6_city_44 : decode cX6_city 44 = .ok (.if_icmp .ge 12, 3) := by decide +kernel
theorem dX6_city_47 : decode cX6_city 47 = .ok (.aload_n 0, 1) := by decide +kernel
theorem dX6_city_48 : decode cX6_city 48 = .ok (.getfield 25, 3) := by decide +kernel
theorem dX6_city_51 : decode cX6_city 51 = .ok (.iload_n 1, 1) := by decide +kernel
theorem dX6_city_52 : decode cX6_city 52 = .ok (.iaload, 1) := by decide +kernel
theorem dX6_city_53 : decode cX6_city 53 = .ok (.goto 4, 3) := by decide +kernel
theorem dX6_city_56 : decode cX6_city 56 = .ok (.iconst 0, 1) := by decide +kernel
theorem dX6_city_57 : decode cX6_city 57 = .ok (.iastore, 1) := by decide +kernel
theorem dX6_city_58 : decode cX6_city 58 = .ok (.iinc 1 1, 3) := by decide +kernel
theorem dX6_city_61 : decode cX6_city 61 = .ok (.goto (-31), 3) := by decide +kernel
theorem dX6_city_64 : decode cX6_city 64 = .ok (.iconst 0, 1) := by decide +kernel
theorem dX6_city_65 : decode cX6_city 65 = .ok (.istore_n 1, 1) := by decide +kernel
theorem dX6_city_66 : decode cX6_city 66 = .ok (.iload_n 1, 1) := by decide +kernel
theorem dX6_city_67 : decode cX6_city 67 = .ok (.aload_n 0, 1) := by decide +kernel
theorem dX6_city_68 : decode cX6_city 68 = .ok (.getfield 93, 3) := by decide +kernel
theorem dX6_city_71 : decode cX6_city 71 = .ok (.if_icmp .ge 58, 3) := by decide +kernel
theorem dX6_city_74 : decode cX6_city 74 = .ok (.aload_n 0, 1) := by decide +kernel
theorem dX6_city_75 : decode cX6_city 75 = .ok (.getfield 22, 3) := by decide +kernel
theorem dX6_city_78 : decode cX6_city 78 = .ok (.bipush 8, 2) := by decide +kernel
theorem dX6_city_80 : decode cX6_city 80 = .ok (.iload_n 1, 1) := by decide +kernel
theorem dX6_city_81 : decode cX6_city 81 = .ok (.iadd, 1) := by decide +kernel
theorem dX6_city_82 : decode cX6_city 82 = .ok (.aload_n 0, 1) := by decide +kernel
theorem dX6_city_83 : decode cX6_city 83 = .ok (.getfield 28, 3) := by decide +kernel
theorem dX6_city_86 : decode cX6_city 86 = .ok (.iconst 3, 1) := by decide +kernel
theorem dX6_city_87 : decode cX6_city 87 = .ok (.iload_n 1, 1) := by decide +kernel
theorem dX6_city_88 : decode cX6_city 88 = .ok (.imul, 1) := by decide +kernel
theorem dX6_city_89 : decode cX6_city 89 = .ok (.iaload, 1) := by decide +kernel
theorem dX6_city_90 : decode cX6_city 90 = .ok (.iastore, 1) := by decide +kernel
theorem dX6_city_91 : decode cX6_city 91 = .ok (.aload_n 0, 1) := by decide +kernel
theorem dX6_city_92 : decode cX6_city 92 = .ok (.getfield 7, 3) := by decide +kernel
theorem dX6_city_95 : decode cX6_city 95 = .ok (.iload_n 1, 1) := by decide +kernel
theorem dX6_city_96 : decode cX6_city 96 = .ok (.aload_n 0, 1) := by decide +kernel
theorem dX6_city_97 : decode cX6_city 97 = .ok (.getfield 28, 3) := by decide +kernel
theorem dX6_city_100 : decode cX6_city 100 = .ok (.iconst 3, 1) := by decide +kernel
theorem dX6_city_101 : decode cX6_city 101 = .ok (.iload_n 1, 1) := by decide +kernel
theorem dX6_city_102 : decode cX6_city 102 = .ok (.imul, 1) := by decide +kernel
theorem dX6_city_103 : decode cX6_city 103 = .ok (.iconst 1, 1) := by decide +kernel
theorem dX6_city_104 : decode cX6_city 104 = .ok (.iadd, 1) := by decide +kernel
theorem dX6_city_105 : decode cX6_city 105 = .ok (.iaload, 1) := by decide +kernel
theorem dX6_city_106 : decode cX6_city 106 = .ok (.iastore, 1) := by decide +kernel
theorem dX6_city_107 : decode cX6_city 107 = .ok (.aload_n 0, 1) := by decide +kernel
theorem dX6_city_108 : decode cX6_city 108 = .ok (.getfield 13, 3) := by decide +kernel
theorem dX6_city_111 : decode cX6_city 111 = .ok (.iload_n 1, 1) := by decide +kernel
theorem dX6_city_112 : decode cX6_city 112 = .ok (.aload_n 0, 1) := by decide +kernel
theorem dX6_city_113 : decode cX6_city 113 = .ok (.getfield 28, 3) := by decide +kernel
theorem dX6_city_116 : decode cX6_city 116 = .ok (.iconst 3, 1) := by decide +kernel
theorem dX6_city_117 : decode cX6_city 117 = .ok (.iload_n 1, 1) := by decide +kernel
theorem dX6_city_118 : decode cX6_city 118 = .ok (.imul, 1) := by decide +kernel
theorem dX6_city_119 : decode cX6_city 119 = .ok (.iconst 2, 1) := by decide +kernel
theorem dX6_city_120 : decode cX6_city 120 = .ok (.iadd, 1) := by decide +kernel
theorem dX6_city_121 : decode cX6_city 121 = .ok (.iaload, 1) := by decide +kernel
theorem dX6_city_122 : decode cX6_city 122 = .ok (.iastore, 1) := by decide +kernel
theorem dX6_city_123 : decode cX6_city 123 = .ok (.iinc 1 1, 3) := by decide +kernel
theorem dX6_city_126 : decode cX6_city 126 = .ok (.goto (-60), 3) := by decide +kernel
theorem dX6_city_129 : decode cX6_city 129 = .ok (.iconst 0, 1) := by decide +kernel
theorem dX6_city_130 : decode cX6_city 130 = .ok (.istore_n 1, 1) := by decide +kernel
theorem dX6_city_131 : decode cX6_city 131 = .ok (.iload_n 1, 1) := by decide +kernel
theorem dX6_city_132 : decode cX6_city 132 = .ok (.aload_n 0, 1) := by decide +kernel
theorem dX6_city_133 : decode cX6_city 133 = .ok (.getfield 96, 3) := by decide +kernel
theorem dX6_city_136 : decode cX6_city 136 = .ok (.if_icmp .ge 39, 3) := by decide +kernel
theorem dX6_city_139 : decode cX6_city 139 = .ok (.aload_n 0, 1) := by decide +kernel
theorem dX6_city_140 : decode cX6_city 140 = .ok (.getfield 16, 3) := by decide +kernel
theorem dX6_city_143 : decode cX6_city 143 = .ok (.iload_n 1, 1) := by decide +kernel
theorem dX6_city_144 : decode cX6_city 144 = .ok (.aload_n 0, 1) := by decide +kernel
theorem dX6_city_145 : decode cX6_city 145 = .ok (.getfield 31, 3) := by decide +kernel
theorem dX6_city_148 : decode cX6_city 148 = .ok (.iconst 2, 1) := by decide +kernel
theorem dX6_city_149 : decode cX6_city 149 = .ok (.iload_n 1, 1) := by decide +kernel
theorem dX6_city_150 : decode cX6_city 150 = .ok (.imul, 1) := by decide +kernel
theorem dX6_city_151 : decode cX6_city 151 = .ok (.iaload, 1) := by decide +kernel
theorem dX6_city_152 : decode cX6_city 152 = .ok (.iastore, 1) := by decide +kernel
theorem dX6_city_153 : decode cX6_city 153 = .ok (.aload_n 0, 1) := by decide +kernel
theorem dX6_city_154 : decode cX6_city 154 = .ok (.getfield 19, 3) := by decide +kernel
theorem dX6_city_157 : decode cX6_city 157 = .ok (.iload_n 1, 1) := by decide +kernel
theorem dX6_city_158 : decode cX6_city 158 = .ok (.aload_n 0, 1) := by decide +kernel
theorem dX6_city_159 : decode cX6_city 159 = .ok (.getfield 31, 3) := by decide +kernel
theorem dX6_city_162 : decode cX6_city 162 = .ok (.iconst 2, 1) := by decide +kernel
theorem dX6_city_163 : decode cX6_city 163 = .ok (.iload_n 1, 1) := by decide +kernel
theorem dX6_city_164 : decode cX6_city 164 = .ok (.imul, 1) := by decide +kernel
theorem dX6_city_165 : decode cX6_city 165 = .ok (.iconst 1, 1) := by decide +kernel
theorem dX6_city_166 : decode cX6_city 166 = .ok (.iadd, 1) := by decide +kernel
theorem dX6_city_167 : decode cX6_city 167 = .ok (.iaload, 1) := by decide +kernel
theorem dX6_city_168 : decode cX6_city 168 = .ok (.iastore, 1) := by decide +kernel
theorem dX6_city_169 : decode cX6_city 169 = .ok (.iinc 1 1, 3) := by decide +kernel
theorem dX6_city_172 : decode cX6_city 172 = .ok (.goto (-41), 3) := by decide +kernel
theorem dX6_city_175 : decode cX6_city 175 = .ok (.aload_n 0, 1) := by decide +kernel
theorem dX6_city_176 : decode cX6_city 176 = .ok (.iconst 0, 1) := by decide +kernel
theorem dX6_city_177 : decode cX6_city 177 = .ok (.putfield 99, 3) := by decide +kernel
theorem dX6_city_180 : decode cX6_city 180 = .ok (.aload_n 0, 1) := by decide +kernel
theorem dX6_city_181 : decode cX6_city 181 = .ok (.getfield 53, 3) := by decide +kernel
theorem dX6_city_184 : decode cX6_city 184 = .ok (.iconst 0, 1) := by decide +kernel
theorem dX6_city_185 : decode cX6_city 185 = .ok (.iconst 0, 1) := by decide +kernel
theorem dX6_city_186 : decode cX6_city 186 = .ok (.bastore, 1) := by decide +kernel
theorem dX6_city_187 : decode cX6_city 187 = .ok (.aload_n 0, 1) := by decide +kernel
theorem dX6_city_188 : decode cX6_city 188 = .ok (.getfield 53, 3) := by decide +kernel
theorem dX6_city_191 : decode cX6_city 191 = .ok (.iconst 1, 1) := by decide +kernel
theorem dX6_city_192 : decode cX6_city 192 = .ok (.iconst 0, 1) := by decide +kernel
theorem dX6_city_193 : decode cX6_city 193 = .ok (.bastore, 1) := by decide +kernel
theorem dX6_city_194 : decode cX6_city 194 = .ok (.bipush 10, 2) := by decide +kernel
theorem dX6_city_196 : decode cX6_city 196 = .ok (.aload_n 0, 1) := by decide +kernel
theorem dX6_city_197 : decode cX6_city 197 = .ok (.getfield 93, 3) := by decide +kernel
theorem dX6_city_200 : decode cX6_city 200 = .ok (.imul, 1) := by decide +kernel
theorem dX6_city_201 : decode cX6_city 201 = .ok (.aload_n 0, 1) := by decide +kernel
theorem dX6_city_202 : decode cX6_city 202 = .ok (.getfield 96, 3) := by decide +kernel
theorem dX6_city_205 : decode cX6_city 205 = .ok (.iadd, 1) := by decide +kernel
theorem dX6_city_206 : decode cX6_city 206 = .ok (.ireturn, 1) := by decide +kernel
set_option maxRecDepth 20000 in
theorem ggX6_isBroom_X6_in : GoodIn wsX6_isBroom wsX6_in := goodIn_r _ [5] (by decide +kernel) (by decide +kernel)
set_option maxRecDepth 20000 in
theorem gX6_isBroom_X6_in : GoodIn wsX6_isBroom (va_wsS RX6 62 yX6_in wsX6_in) := goodIn_app (goodIn_of _ (by decide +kernel)) ggX6_isBroom_X6_in
theorem dX6_isBroom_0 : decode cX6_isBroom 0 = .ok (.iload_n 1, 1) := by decide +kernel
theorem dX6_isBroom_1 : decode cX6_isBroom 1 = .ok (.i2l, 1) := by decide +kernel
theorem dX6_isBroom_2 : decode cX6_isBroom 2 = .ok (.lconst 0, 1) := by decide +kernel
theorem dX6_isBroom_3 : decode cX6_isBroom 3 = .ok (.aload_n 0, 1) := by decide +kernel
theorem dX6_isBroom_4 : decode cX6_isBroom 4 = .ok (.getfield 93, 3) := by decide +kernel
theorem dX6_isBroom_7 : decode cX6_isBroom 7 = .ok (.iconst 1, 1) := by decide +kernel
theorem dX6_isBroom_8 : decode cX6_isBroom 8 = .ok (.isub, 1) := by decide +kernel
theorem dX6_isBroom_9 : decode cX6_isBroom 9 = .ok (.i2l, 1) := by decide +kernel
theorem dX6_isBroom_10 : decode cX6_isBroom 10 = .ok (.invokestatic 62, 3) := by decide +kernel
theorem dX6_isBroom_13 : decode cX6_isBroom 13 = .ok (.ireturn, 1) := by decide +kernel
set_option maxRecDepth 20000 in
theorem ggX6_isStreet_X6_in : GoodIn wsX6_isStreet wsX6_in := goodIn_r _ [5] (by decide +kernel) (by decide +kernel)
set_option maxRecDepth 20000 in
theorem gX6_isStreet_X6_in : GoodIn wsX6_isStreet (va_wsS RX6 62 yX6_in wsX6_in) := goodIn_app (goodIn_of _ (by decide +kernel)) ggX6_isStreet_X6_in
theorem dX6_isStreet_0 : decode cX6_isStreet 0 = .ok (.iload_n 0, 1) := by decide +kernel
theorem dX6_isStreet_1 : decode cX6_isStreet 1 = .ok (.i2l, 1) := by decide +kernel
theorem dX6_isStreet_2 : decode cX6_isStreet 2 = .ok (.lconst 0, 1) := by decide +kernel
theorem dX6_isStreet_3 : decode cX6_isStreet 3 = .ok (.ldc2_w 102, 3) := by decide +kernel
theorem dX6_isStreet_6 : decode cX6_isStreet 6 = .ok (.invokestatic 62, 3) := by decide +kernel
theorem dX6_isStreet_9 : decode cX6_isStreet 9 = .ok (.ireturn, 1) := by decide +kernel
set_option maxRecDepth 20000 in
theorem ggX6_worksAs_X6_has : GoodIn wsX6_worksAs wsX6_has := goodIn_r _ [6] (by decide +kernel) (by decide +kernel)
set_option maxRecDepth 20000 in
theorem gX6_worksAs_X6_has : GoodIn wsX6_worksAs (va_wsS RX6 104 yX6_has wsX6_has) := goodIn_app (goodIn_of _ (by decide +kernel)) ggX6_worksAs_X6_has
theorem dX6_worksAs_0 : decode cX6_worksAs 0 = .ok (.aload_n 0, 1) := by decide +kernel
theorem dX6_worksAs_1 : decode cX6_worksAs 1 = .ok (.getfield 22, 3) := by decide +kernel
theorem dX6_worksAs_4 : decode cX6_worksAs 4 = .ok (.bipush 16, 2) := by decide +kernel
theorem dX6_worksAs_6 : decode cX6_worksAs 6 = .ok (.iload_n 1, 1) := by decide +kernel
theorem dX6_worksAs_7 : decode cX6_worksAs 7 = .ok (.imul, 1) := by decide +kernel
theorem dX6_worksAs_8 : decode cX6_worksAs 8 = .ok (.bipush 13, 2) := by decide +kernel
theorem dX6_worksAs_10 : decode cX6_worksAs 10 = .ok (.iadd, 1) := by decide +kernel
theorem dX6_worksAs_11 : decode cX6_worksAs 11 = .ok (.iaload, 1) := by decide +kernel
theorem dX6_worksAs_12 : decode cX6_worksAs 12 = .ok (.iconst 1, 1) := by decide +kernel
theorem dX6_worksAs_13 : decode cX6_worksAs 13 = .ok (.if_icmp .eq 22, 3) := by decide +kernel
theorem dX6_worksAs_16 : decode cX6_worksAs 16 = .ok (.aload_n 0, 1) := by decide +kernel
theorem dX6_worksAs_17 : decode cX6_worksAs 17 = .ok (.getfield 22, 3) := by decide +kernel
theorem dX6_worksAs_20 : decode cX6_worksAs 20 = .ok (.bipush 16, 2) := by decide +kernel
theorem dX6_worksAs_22 : decode cX6_worksAs 22 = .ok (.iload_n 1, 1) := by decide +kernel
theorem dX6_worksAs_23 : decode cX6_worksAs 23 = .ok (.imul, 1) := by decide +kernel
theorem dX6_worksAs_24 : decode cX6_worksAs 24 = .ok (.bipush 14, 2) := by decide +kernel
theorem dX6_worksAs_26 : decode cX6_worksAs 26 = .ok (.iadd, 1) := by decide +kernel
theorem dX6_worksAs_27 : decode cX6_worksAs 27 = .ok (.iaload, 1) := by decide +kernel
theorem dX6_worksAs_28 : decode cX6_worksAs 28 = .ok (.iload_n 2, 1) := by decide +kernel
theorem dX6_worksAs_29 : decode cX6_worksAs 29 = .ok (.invokestatic 104, 3) := by decide +kernel
theorem dX6_worksAs_32 : decode cX6_worksAs 32 = .ok (.ifCond .eq 7, 3) := by decide +kernel
theorem dX6_worksAs_35 : decode cX6_worksAs 35 = .ok (.iconst 1, 1) := by decide +kernel
theorem dX6_worksAs_36 : decode cX6_worksAs 36 = .ok (.goto 4, 3) := by decide +kernel
theorem dX6_worksAs_39 : decode cX6_worksAs 39 = .ok (.iconst 0, 1) := by decide +kernel
theorem dX6_worksAs_40 : decode cX6_worksAs 40 = .ok (.istore_n 3, 1) := by decide +kernel
theorem dX6_worksAs_41 : decode cX6_worksAs 41 = .ok (.aload_n 0, 1) := by decide +kernel
theorem dX6_worksAs_42 : decode cX6_worksAs 42 = .ok (.getfield 13, 3) := by decide +kernel
theorem dX6_worksAs_45 : decode cX6_worksAs 45 = .ok (.iload_n 2, 1) := by decide +kernel
theorem dX6_worksAs_46 : decode cX6_worksAs 46 = .ok (.iaload, 1) := by decide +kernel
theorem dX6_worksAs_47 : decode cX6_worksAs 47 = .ok (.iconst 2, 1) := by decide +kernel
theorem dX6_worksAs_48 : decode cX6_worksAs 48 = .ok (.if_icmp .ne 7, 3) := by decide +kernel
theorem dX6_worksAs_51 : decode cX6_worksAs 51 = .ok (.iconst 2, 1) := by decide +kernel
theorem dX6_worksAs_52 : decode cX6_worksAs 52 = .ok (.goto 26, 3) := by decide +kernel
theorem dX6_worksAs_55 : decode cX6_worksAs 55 = .ok (.iload_n 3, 1) := by decide +kernel
theorem dX6_worksAs_56 : decode cX6_worksAs 56 = .ok (.ifCond .ne 12, 3) := by decide +kernel
theorem dX6_worksAs_59 : decode cX6_worksAs 59 = .ok (.aload_n 0, 1) := by decide +kernel
theorem dX6_worksAs_60 : decode cX6_worksAs 60 = .ok (.getfield 13, 3) := by decide +kernel
theorem dX6_worksAs_63 : decode cX6_worksAs 63 = .ok (.iload_n 2, 1) := by decide +kernel
theorem dX6_worksAs_64 : decode cX6_worksAs 64 = .ok (.iaload, 1) := by decide +kernel
theorem dX6_worksAs_65 : decode cX6_worksAs 65 = .ok (.ifCond .ne 7, 3) := by decide +kernel
theorem dX6_worksAs_68 : decode cX6_worksAs 68 = .ok (.iconst 0, 1) := by decide +kernel
theorem dX6_worksAs_69 : decode cX6_worksAs 69 = .ok (.goto 9, 3) := by decide +kernel
theorem dX6_worksAs_72 : decode cX6_worksAs 72 = .ok (.aload_n 0, 1) := by decide +kernel
theorem dX6_worksAs_73 : decode cX6_worksAs 73 = .ok (.getfield 13, 3) := by decide +kernel
theorem dX6_worksAs_76 : decode cX6_worksAs 76 = .ok (.iload_n 2, 1) := by decide +kernel
theorem dX6_worksAs_77 : decode cX6_worksAs 77 = .ok (.iaload, 1) := by decide +kernel
theorem dX6_worksAs_78 : decode cX6_worksAs 78 = .ok (.ireturn, 1) := by decide +kernel
theorem dX6_add_0 : decode cX6_add 0 = .ok (.bipush 16, 2) := by decide +kernel
theorem dX6_add_2 : decode cX6_add 2 = .ok (.iload_n 1, 1) := by decide +kernel
theorem dX6_add_3 : decode cX6_add 3 = .ok (.imul, 1) := by decide +kernel
theorem dX6_add_4 : decode cX6_add 4 = .ok (.iload_n 2, 1) := by decide +kernel
theorem dX6_add_5 : decode cX6_add 5 = .ok (.bipush 8, 2) := by decide +kernel
theorem dX6_add_7 : decode cX6_add 7 = .ok (.iadd, 1) := by decide +kernel
theorem dX6_add_8 : decode cX6_add 8 = .ok (.bipush 8, 2) := by decide +kernel
theorem dX6_add_10 : decode cX6_add 10 = .ok (.irem, 1) := by decide +kernel
theorem dX6_add_11 : decode cX6_add 11 = .ok (.iadd, 1) := by decide +kernel
theorem dX6_add_12 : decode cX6_add 12 = .ok (.istore 4, 2) := by decide +kernel
theorem dX6_add_14 : decode cX6_add 14 = .ok (.aload_n 0, 1) := by decide +kernel
theorem dX6_add_15 : decode cX6_add 15 = .ok (.getfield 22, 3) := by decide +kernel
theorem dX6_add_18 : decode cX6_add 18 = .ok (.iload 4, 2) := by decide +kernel
theorem dX6_add_20 : decode cX6_add 20 = .ok (.aload_n 0, 1) := by decide +kernel
theorem dX6_add_21 : decode cX6_add 21 = .ok (.getfield 22, 3) := by decide +kernel
theorem dX6_add_24 : decode cX6_add 24 = .ok (.iload 4, 2) := by decide +kernel
theorem dX6_add_26 : decode cX6_add 26 = .ok (.iaload, 1) := by decide +kernel
theorem dX6_add_27 : decode cX6_add 27 = .ok (.iload_n 3, 1) := by decide +kernel
theorem dX6_add_28 : decode cX6_add 28 = .ok (.iadd, 1) := by decide +kernel
theorem dX6_add_29 : decode cX6_add 29 = .ok (.bipush 99, 2) := by decide +kernel
theorem dX6_add_31 : decode cX6_add 31 = .ok (.if_icmp .le 8, 3) := by decide +kernel
theorem dX6_add_34 : decode cX6_add 34 = .ok (.bipush 99, 2) := by decide +kernel
theorem dX6_add_36 : decode cX6_add 36 = .ok (.goto 12, 3) := by decide +kernel
theorem dX6_add_39 : decode cX6_add 39 = .ok (.aload_n 0, 1) := by decide +kernel
theorem dX6_add_40 : decode cX6_add 40 = .ok (.getfield 22, 3) := by decide +kernel
theorem dX6_add_43 : decode cX6_add 43 = .ok (.iload 4, 2) := by decide +kernel
theorem dX6_add_45 : decode cX6_add 45 = .ok (.iaload, 1) := by decide +kernel
theorem dX6_add_46 : decode cX6_add 46 = .ok (.iload_n 3, 1) := by decide +kernel
theorem dX6_add_47 : decode cX6_add 47 = .ok (.iadd, 1) := by decide +kernel
theorem dX6_add_48 : decode cX6_add 48 = .ok (.iastore, 1) := by decide +kernel
theorem dX6_add_49 : decode cX6_add 49 = .ok (.return_, 1) := by decide +kernel
theorem dX6_takeOff_0 : decode cX6_takeOff 0 = .ok (.bipush 16, 2) := by decide +kernel
theorem dX6_takeOff_2 : decode cX6_takeOff 2 = .ok (.iload_n 1, 1) := by decide +kernel
theorem dX6_takeOff_3 : decode cX6_takeOff 3 = .ok (.imul, 1) := by decide +kernel
theorem dX6_takeOff_4 : decode cX6_takeOff 4 = .ok (.iload_n 2, 1) := by decide +kernel
theorem dX6_takeOff_5 : decode cX6_takeOff 5 = .ok (.bipush 8, 2) := by decide +kernel
theorem dX6_takeOff_7 : decode cX6_takeOff 7 = .ok (.iadd, 1) := by decide +kernel
theorem dX6_takeOff_8 : decode cX6_takeOff 8 = .ok (.bipush 8, 2) := by decide +kernel
theorem dX6_takeOff_10 : decode cX6_takeOff 10 = .ok (.irem, 1) := by decide +kernel
theorem dX6_takeOff_11 : decode cX6_takeOff 11 = .ok (.iadd, 1) := by decide +kernel
theorem dX6_takeOff_12 : decode cX6_takeOff 12 = .ok (.istore 4, 2) := by decide +kernel
theorem dX6_takeOff_14 : decode cX6_takeOff 14 = .ok (.aload_n 0, 1) := by decide +kernel
theorem dX6_takeOff_15 : decode cX6_takeOff 15 = .ok (.getfield 22, 3) := by decide +kernel
theorem dX6_takeOff_18 : decode cX6_takeOff 18 = .ok (.iload 4, 2) := by decide +kernel
theorem dX6_takeOff_20 : decode cX6_takeOff 20 = .ok (.iaload, 1) := by decide +kernel
theorem dX6_takeOff_21 : decode cX6_takeOff 21 = .ok (.iload_n 3, 1) := by decide +kernel
theorem dX6_takeOff_22 : decode cX6_takeOff 22 = .ok (.if_icmp .ge 13, 3) := by decide +kernel
theorem dX6_takeOff_25 : decode cX6_takeOff 25 = .ok (.aload_n 0, 1) := by decide +kernel
theorem dX6_takeOff_26 : decode cX6_takeOff 26 = .ok (.getfield 22, 3) := by decide +kernel
theorem dX6_takeOff_29 : decode cX6_takeOff 29 = .ok (.iload 4, 2) := by decide +kernel
theorem dX6_takeOff_31 : decode cX6_takeOff 31 = .ok (.iaload, 1) := by decide +kernel
theorem dX6_takeOff_32 : decode cX6_takeOff 32 = .ok (.goto 4, 3) := by decide +kernel
theorem dX6_takeOff_35 : decode cX6_takeOff 35 = .ok (.iload_n 3, 1) := by decide +kernel
theorem dX6_takeOff_36 : decode cX6_takeOff 36 = .ok (.istore 5, 2) := by decide +kernel
theorem dX6_takeOff_38 : decode cX6_takeOff 38 = .ok (.aload_n 0, 1) := by decide +kernel
theorem dX6_takeOff_39 : decode cX6_takeOff 39 = .ok (.getfield 22, 3) := by decide +kernel
theorem dX6_takeOff_42 : decode cX6_takeOff 42 = .ok (.iload 4, 2) := by decide +kernel
theorem dX6_takeOff_44 : decode cX6_takeOff 44 = .ok (.dup2, 1) := by decide +kernel
theorem dX6_takeOff_45 : decode cX6_takeOff 45 = .ok (.iaload, 1) := by decide +kernel
theorem dX6_takeOff_46 : decode cX6_takeOff 46 = .ok (.iload 5, 2) := by decide +kernel
theorem dX6_takeOff_48 : decode cX6_takeOff 48 = .ok (.isub, 1) := by decide +kernel
theorem dX6_takeOff_49 : decode cX6_takeOff 49 = .ok (.iastore, 1) := by decide +kernel
theorem dX6_takeOff_50 : decode cX6_takeOff 50 = .ok (.iload 5, 2) := by decide +kernel
theorem dX6_takeOff_52 : decode cX6_takeOff 52 = .ok (.ireturn, 1) := by decide +kernel
set_option maxRecDepth 20000 in
theorem ggX6_sweep_X6_worksAs : GoodIn wsX6_sweep wsX6_worksAs := goodIn_r _ [8, 1, 9, 10, 11, 7, 12, 21, 22, 23, 24, 25, 26, 27, 28, 29, 30, 31, 32, 33, 34, 35, 36, 37, 38, 39, 40, 41, 42, 43, 44, 45, 46, 47] (by decide +kernel) (by decide +kernel)
set_option maxRecDepth 20000 in
theorem gX6_sweep_X6_worksAs : GoodIn wsX6_sweep (wsV RX6 108 RX6 yX6_worksAs wsX6_worksAs) := goodIn_app (goodIn_of _ (by decide +kernel)) ggX6_sweep_X6_worksAs
set_option maxRecDepth 20000 in
theorem ggX6_sweep_X6_has : GoodIn wsX6_sweep wsX6_has := goodIn_r _ [12] (by decide +kernel) (by decide +kernel)
set_option maxRecDepth 20000 in
theorem gX6_sweep_X6_has : GoodIn wsX6_sweep (va_wsS RX6 104 yX6_has wsX6_has) := goodIn_app (goodIn_of _ (by decide +kernel)) ggX6_sweep_X6_has
set_option maxRecDepth 20000 in
theorem ggX6_sweep_X6_takeOff : GoodIn wsX6_sweep wsX6_takeOff := goodIn_r _ [16, 1, 21, 22, 23, 24, 25, 26, 27, 28, 29, 30, 31, 32, 33, 34, 35, 36, 37, 38, 39, 40, 41, 42, 43, 44, 45, 46, 47] (by decide +kernel) (by decide +kernel)
set_option maxRecDepth 20000 in
theorem gX6_sweep_X6_takeOff : GoodIn wsX6_sweep (wsV RX6 111 RX6 yX6_takeOff wsX6_takeOff) := goodIn_app (goodIn_of _ (by decide +kernel)) ggX6_sweep_X6_takeOff
set_option maxRecDepth 20000 in
theorem ggX6_sweep_X6_add : GoodIn wsX6_sweep wsX6_add := goodIn_r _ [20, 1, 21, 22, 23, 24, 25, 26, 27, 28, 29, 30, 31, 32, 33, 34, 35, 36, 37, 38, 39, 40, 41, 42, 43, 44, 45, 46, 47] (by decide +kernel) (by decide +kernel)
set_option maxRecDepth 20000 in
theorem gX6_sweep_X6_add : GoodIn wsX6_sweep (wsV RX6 115 RX6 yX6_add wsX6_add) := goodIn_app (goodIn_of _ (by decide +kernel)) ggX6_sweep_X6_add
theorem dX6_sweep_0 : decode cX6_sweep 0 = .ok (.aload_n 0, 1) := by decide +kernel
theorem dX6_sweep_1 : decode cX6_sweep 1 = .ok (.getfield 22, 3) := by decide +kernel
theorem dX6_sweep_4 : decode cX6_sweep 4 = .ok (.bipush 16, 2) := by decide +kernel
theorem dX6_sweep_6 : decode cX6_sweep 6 = .ok (.iload_n 1, 1) := by decide +kernel
theorem dX6_sweep_7 : decode cX6_sweep 7 = .ok (.imul, 1) := by decide +kernel
theorem dX6_sweep_8 : decode cX6_sweep 8 = .ok (.bipush 8, 2) := by decide +kernel
theorem dX6_sweep_10 : decode cX6_sweep 10 = .ok (.iadd, 1) := by decide +kernel
theorem dX6_sweep_11 : decode cX6_sweep 11 = .ok (.iload_n 2, 1) := by decide +kernel
theorem dX6_sweep_12 : decode cX6_sweep 12 = .ok (.iadd, 1) := by decide +kernel
theorem dX6_sweep_13 : decode cX6_sweep 13 = .ok (.iaload, 1) := by decide +kernel
theorem dX6_sweep_14 : decode cX6_sweep 14 = .ok (.istore_n 3, 1) := by decide +kernel
theorem dX6_sweep_15 : decode cX6_sweep 15 = .ok (.aload_n 0, 1) := by decide +kernel
theorem dX6_sweep_16 : decode cX6_sweep 16 = .ok (.iload_n 1, 1) := by decide +kernel
theorem dX6_sweep_17 : decode cX6_sweep 17 = .ok (.iload_n 2, 1) := by decide +kernel
theorem dX6_sweep_18 : decode cX6_sweep 18 = .ok (.invokevirtual 108, 3) := by decide +kernel
theorem dX6_sweep_21 : decode cX6_sweep 21 = .ok (.istore 4, 2) := by decide +kernel
theorem dX6_sweep_23 : decode cX6_sweep 23 = .ok (.aload_n 0, 1) := by decide +kernel
theorem dX6_sweep_24 : decode cX6_sweep 24 = .ok (.getfield 37, 3) := by decide +kernel
theorem dX6_sweep_27 : decode cX6_sweep 27 = .ok (.iload_n 2, 1) := by decide +kernel
theorem dX6_sweep_28 : decode cX6_sweep 28 = .ok (.invokestatic 104, 3) := by decide +kernel
theorem dX6_sweep_31 : decode cX6_sweep 31 = .ok (.ifCond .eq 9, 3) := by decide +kernel
theorem dX6_sweep_34 : decode cX6_sweep 34 = .ok (.iload 4, 2) := by decide +kernel
theorem dX6_sweep_36 : decode cX6_sweep 36 = .ok (.iconst 3, 1) := by decide +kernel
theorem dX6_sweep_37 : decode cX6_sweep 37 = .ok (.if_icmp .ne 4, 3) := by decide +kernel
theorem dX6_sweep_40 : decode cX6_sweep 40 = .ok (.return_, 1) := by decide +kernel
theorem dX6_sweep_41 : decode cX6_sweep 41 = .ok (.aload_n 0, 1) := by decide +kernel
theorem dX6_sweep_42 : decode cX6_sweep 42 = .ok (.iload_n 1, 1) := by decide +kernel
theorem dX6_sweep_43 : decode cX6_sweep 43 = .ok (.iload_n 3, 1) := by decide +kernel
theorem dX6_sweep_44 : decode cX6_sweep 44 = .ok (.aload_n 0, 1) := by decide +kernel
theorem dX6_sweep_45 : decode cX6_sweep 45 = .ok (.getfield 7, 3) := by decide +kernel
theorem dX6_sweep_48 : decode cX6_sweep 48 = .ok (.iload_n 2, 1) := by decide +kernel
theorem dX6_sweep_49 : decode cX6_sweep 49 = .ok (.iaload, 1) := by decide +kernel
theorem dX6_sweep_50 : decode cX6_sweep 50 = .ok (.invokevirtual 111, 3) := by decide +kernel
theorem dX6_sweep_53 : decode cX6_sweep 53 = .ok (.istore 5, 2) := by decide +kernel
theorem dX6_sweep_55 : decode cX6_sweep 55 = .ok (.iload 4, 2) := by decide +kernel
theorem dX6_sweep_57 : decode cX6_sweep 57 = .ok (.iconst 1, 1) := by decide +kernel
theorem dX6_sweep_58 : decode cX6_sweep 58 = .ok (.if_icmp .ne 13, 3) := by decide +kernel
theorem dX6_sweep_61 : decode cX6_sweep 61 = .ok (.aload_n 0, 1) := by decide +kernel
theorem dX6_sweep_62 : decode cX6_sweep 62 = .ok (.iload_n 1, 1) := by decide +kernel
theorem dX6_sweep_63 : decode cX6_sweep 63 = .ok (.iload_n 3, 1) := by decide +kernel
theorem dX6_sweep_64 : decode cX6_sweep 64 = .ok (.iconst 1, 1) := by decide +kernel
theorem dX6_sweep_65 : decode cX6_sweep 65 = .ok (.iadd, 1) := by decide +kernel
theorem dX6_sweep_66 : decode cX6_sweep 66 = .ok (.iload 5, 2) := by decide +kernel
theorem dX6_sweep_68 : decode cX6_sweep 68 = .ok (.invokevirtual 115, 3) := by decide +kernel
theorem dX6_sweep_71 : decode cX6_sweep 71 = .ok (.iload 4, 2) := by decide +kernel
theorem dX6_sweep_73 : decode cX6_sweep 73 = .ok (.iconst 2, 1) := by decide +kernel
theorem dX6_sweep_74 : decode cX6_sweep 74 = .ok (.if_icmp .ne 37, 3) := by decide +kernel
theorem dX6_sweep_77 : decode cX6_sweep 77 = .ok (.aload_n 0, 1) := by decide +kernel
theorem dX6_sweep_78 : decode cX6_sweep 78 = .ok (.iload_n 1, 1) := by decide +kernel
theorem dX6_sweep_79 : decode cX6_sweep 79 = .ok (.iload_n 3, 1) := by decide +kernel
theorem dX6_sweep_80 : decode cX6_sweep 80 = .ok (.iconst 1, 1) := by decide +kernel
theorem dX6_sweep_81 : decode cX6_sweep 81 = .ok (.isub, 1) := by decide +kernel
theorem dX6_sweep_82 : decode cX6_sweep 82 = .ok (.aload_n 0, 1) := by decide +kernel
theorem dX6_sweep_83 : decode cX6_sweep 83 = .ok (.getfield 7, 3) := by decide +kernel
theorem dX6_sweep_86 : decode cX6_sweep 86 = .ok (.iload_n 2, 1) := by decide +kernel
theorem dX6_sweep_87 : decode cX6_sweep 87 = .ok (.iaload, 1) := by decide +kernel
theorem dX6_sweep_88 : decode cX6_sweep 88 = .ok (.iconst 2, 1) := by decide +kernel
theorem dX6_sweep_89 : decode cX6_sweep 89 = .ok (.idiv, 1) := by decide +kernel
theorem dX6_sweep_90 : decode cX6_sweep 90 = .ok (.invokevirtual 111, 3) := by decide +kernel
theorem dX6_sweep_93 : decode cX6_sweep 93 = .ok (.pop, 1) := by decide +kernel
theorem dX6_sweep_94 : decode cX6_sweep 94 = .ok (.aload_n 0, 1) := by decide +kernel
theorem dX6_sweep_95 : decode cX6_sweep 95 = .ok (.iload_n 1, 1) := by decide +kernel
theorem dX6_sweep_96 : decode cX6_sweep 96 = .ok (.iload_n 3, 1) := by decide +kernel
theorem dX6_sweep_97 : decode cX6_sweep 97 = .ok (.iconst 1, 1) := by decide +kernel
theorem dX6_sweep_98 : decode cX6_sweep 98 = .ok (.iadd, 1) := by decide +kernel
theorem dX6_sweep_99 : decode cX6_sweep 99 = .ok (.aload_n 0, 1) := by decide +kernel
theorem dX6_sweep_100 : decode cX6_sweep 100 = .ok (.getfield 7, 3) := by decide +kernel
theorem dX6_sweep_103 : decode cX6_sweep 103 = .ok (.iload_n 2, 1) := by decide +kernel
theorem dX6_sweep_104 : decode cX6_sweep 104 = .ok (.iaload, 1) := by decide +kernel
theorem dX6_sweep_105 : decode cX6_sweep 105 = .ok (.iconst 2, 1) := by decide +kernel
theorem dX6_sweep_106 : decode cX6_sweep 106 = .ok (.idiv, 1) := by decide +kernel
theorem dX6_sweep_107 : decode cX6_sweep 107 = .ok (.invokevirtual 111, 3) := by decide +kernel
theorem dX6_sweep_110 : decode cX6_sweep 110 = .ok (.pop, 1) := by decide +kernel
theorem dX6_sweep_111 : decode cX6_sweep 111 = .ok (.return_, 1) := by decide +kernel
theorem dX6_kneesOn_0 : decode cX6_kneesOn 0 = .ok (.iconst 0, 1) := by decide +kernel
theorem dX6_kneesOn_1 : decode cX6_kneesOn 1 = .ok (.istore_n 2, 1) := by decide +kernel
theorem dX6_kneesOn_2 : decode cX6_kneesOn 2 = .ok (.iconst 0, 1) := by decide +kernel
theorem dX6_kneesOn_3 : decode cX6_kneesOn 3 = .ok (.istore_n 3, 1) := by decide +kernel
theorem dX6_kneesOn_4 : decode cX6_kneesOn 4 = .ok (.iload_n 3, 1) := by decide +kernel
theorem dX6_kneesOn_5 : decode cX6_kneesOn 5 = .ok (.bipush 8, 2) := by decide +kernel
theorem dX6_kneesOn_7 : decode cX6_kneesOn 7 = .ok (.if_icmp .ge 35, 3) := by decide +kernel
theorem dX6_kneesOn_10 : decode cX6_kneesOn 10 = .ok (.iload_n 2, 1) := by decide +kernel
theorem dX6_kneesOn_11 : decode cX6_kneesOn 11 = .ok (.aload_n 0, 1) := by decide +kernel
theorem dX6_kneesOn_12 : decode cX6_kneesOn 12 = .ok (.getfield 22, 3) := by decide +kernel
theorem dX6_kneesOn_15 : decode cX6_kneesOn 15 = .ok (.bipush 16, 2) := by decide +kernel
theorem dX6_kneesOn_17 : decode cX6_kneesOn 17 = .ok (.iload_n 1, 1) := by decide +kernel
theorem dX6_kneesOn_18 : decode cX6_kneesOn 18 = .ok (.imul, 1) := by decide +kernel
theorem dX6_kneesOn_19 : decode cX6_kneesOn 19 = .ok (.iload_n 3, 1) := by decide +kernel
theorem dX6_kneesOn_20 : decode cX6_kneesOn 20 = .ok (.iadd, 1) := by decide +kernel
theorem dX6_kneesOn_21 : decode cX6_kneesOn 21 = .ok (.iaload, 1) := by decide +kernel
theorem dX6_kneesOn_22 : decode cX6_kneesOn 22 = .ok (.bipush 10, 2) := by decide +kernel
theorem dX6_kneesOn_24 : decode cX6_kneesOn 24 = .ok (.if_icmp .lt 9, 3) := by decide +kernel
theorem dX6_kneesOn_27 : decode cX6_kneesOn 27 = .ok (.iconst 1, 1) := by decide +kernel
theorem dX6_kneesOn_28 : decode cX6_kneesOn 28 = .ok (.iload_n 3, 1) := by decide +kernel
theorem dX6_kneesOn_29 : decode cX6_kneesOn 29 = .ok (.ishl, 1) := by decide +kernel
theorem dX6_kneesOn_30 : decode cX6_kneesOn 30 = .ok (.goto 4, 3) := by decide +kernel
theorem dX6_kneesOn_33 : decode cX6_kneesOn 33 = .ok (.iconst 0, 1) := by decide +kernel
theorem dX6_kneesOn_34 : decode cX6_kneesOn 34 = .ok (.ior, 1) := by decide +kernel
theorem dX6_kneesOn_35 : decode cX6_kneesOn 35 = .ok (.istore_n 2, 1) := by decide +kernel
theorem dX6_kneesOn_36 : decode cX6_kneesOn 36 = .ok (.iinc 3 1, 3) := by decide +kernel
theorem dX6_kneesOn_39 : decode cX6_kneesOn 39 = .ok (.goto (-35), 3) := by decide +kernel
theorem dX6_kneesOn_42 : decode cX6_kneesOn 42 = .ok (.iload_n 2, 1) := by decide +kernel
theorem dX6_kneesOn_43 : decode cX6_kneesOn 43 = .ok (.ireturn, 1) := by decide +kernel
set_option maxRecDepth 20000 in
theorem ggX6_passOn_X6_add : GoodIn wsX6_passOn wsX6_add := goodIn_r _ [10, 2, 33, 34, 35, 36, 37, 38, 39, 40, 41, 42, 43, 44, 45, 46, 47, 48, 49, 50, 51, 52, 53, 54, 55, 56, 57, 58, 59] (by decide +kernel) (by decide +kernel)
set_option maxRecDepth 20000 in
theorem gX6_passOn_X6_add : GoodIn wsX6_passOn (wsV RX6 115 RX6 yX6_add wsX6_add) := goodIn_app (goodIn_of _ (by decide +kernel)) ggX6_passOn_X6_add
set_option maxRecDepth 20000 in
theorem ggX6_passOn_X6_sweep : GoodIn wsX6_passOn wsX6_sweep := goodIn_r _ [14, 2, 15, 16, 17, 18, 19, 9, 20, 21, 22, 23, 24, 25, 26, 27, 28, 6, 7, 8, 10, 33, 34, 35, 36, 37, 38, 39, 40, 41, 42, 43, 44, 45, 46, 47, 48, 49, 50, 51, 52, 53, 54, 55, 56, 57, 58, 59] (by decide +kernel) (by decide +kernel)
set_option maxRecDepth 20000 in
theorem gX6_passOn_X6_sweep : GoodIn wsX6_passOn (wsV RX6 119 RX6 yX6_sweep wsX6_sweep) := goodIn_app (goodIn_of _ (by decide +kernel)) ggX6_passOn_X6_sweep
set_option maxRecDepth 20000 in
theorem ggX6_passOn_X6_kneesOn : GoodIn wsX6_passOn wsX6_kneesOn := goodIn_r _ [32, 2, 33, 34, 35, 36, 37, 38, 39, 40, 41, 42, 43, 44, 45, 46, 47, 48, 49, 50, 51, 52, 53, 54, 55, 56, 57, 58, 59] (by decide +kernel) (by decide +kernel)
set_option maxRecDepth 20000 in
theorem gX6_passOn_X6_kneesOn : GoodIn wsX6_passOn (wsV RX6 123 RX6 yX6_kneesOn wsX6_kneesOn) := goodIn_app (goodIn_of _ (by decide +kernel)) ggX6_passOn_X6_kneesOn
set_option maxRecDepth 20000 in
theorem ggX6_passOn_X6_has : GoodIn wsX6_passOn wsX6_has := goodIn_r _ [24] (by decide +kernel) (by decide +kernel)
set_option maxRecDepth 20000 in
theorem gX6_passOn_X6_has : GoodIn wsX6_passOn (va_wsS RX6 104 yX6_has wsX6_has) := goodIn_app (goodIn_of _ (by decide +kernel)) ggX6_passOn_X6_has
theorem dX6_passOn_0 : decode cX6_passOn 0 = .ok (.bipush 16, 2) := by decide +kernel
theorem dX6_passOn_2 : decode cX6_passOn 2 = .ok (.iload_n 1, 1) := by decide +kernel
theorem dX6_passOn_3 : decode cX6_passOn 3 = .ok (.imul, 1) := by decide +kernel
theorem dX6_passOn_4 : decode cX6_passOn 4 = .ok (.istore_n 3, 1) := by decide +kernel
theorem dX6_passOn_5 : decode cX6_passOn 5 = .ok (.aload_n 0, 1) := by decide +kernel
theorem dX6_passOn_6 : decode cX6_passOn 6 = .ok (.getfield 96, 3) := by decide +kernel
theorem dX6_passOn_9 : decode cX6_passOn 9 = .ok (.ifCond .le 40, 3) := by decide +kernel
theorem dX6_passOn_12 : decode cX6_passOn 12 = .ok (.aload_n 0, 1) := by decide +kernel
theorem dX6_passOn_13 : decode cX6_passOn 13 = .ok (.getfield 22, 3) := by decide +kernel
theorem dX6_passOn_16 : decode cX6_passOn 16 = .ok (.iload_n 3, 1) := by decide +kernel
theorem dX6_passOn_17 : decode cX6_passOn 17 = .ok (.bipush 15, 2) := by decide +kernel
theorem dX6_passOn_19 : decode cX6_passOn 19 = .ok (.iadd, 1) := by decide +kernel
theorem dX6_passOn_20 : decode cX6_passOn 20 = .ok (.iaload, 1) := by decide +kernel
theorem dX6_passOn_21 : decode cX6_passOn 21 = .ok (.aload_n 0, 1) := by decide +kernel
theorem dX6_passOn_22 : decode cX6_passOn 22 = .ok (.getfield 96, 3) := by decide +kernel
theorem dX6_passOn_25 : decode cX6_passOn 25 = .ok (.irem, 1) := by decide +kernel
theorem dX6_passOn_26 : decode cX6_passOn 26 = .ok (.istore 4, 2) := by decide +kernel
theorem dX6_passOn_28 : decode cX6_passOn 28 = .ok (.aload_n 0, 1) := by decide +kernel
theorem dX6_passOn_29 : decode cX6_passOn 29 = .ok (.iload_n 1, 1) := by decide +kernel
theorem dX6_passOn_30 : decode cX6_passOn 30 = .ok (.aload_n 0, 1) := by decide +kernel
theorem dX6_passOn_31 : decode cX6_passOn 31 = .ok (.getfield 16, 3) := by decide +kernel
theorem dX6_passOn_34 : decode cX6_passOn 34 = .ok (.iload 4, 2) := by decide +kernel
theorem dX6_passOn_36 : decode cX6_passOn 36 = .ok (.iaload, 1) := by decide +kernel
theorem dX6_passOn_37 : decode cX6_passOn 37 = .ok (.iload_n 2, 1) := by decide +kernel
theorem dX6_passOn_38 : decode cX6_passOn 38 = .ok (.aload_n 0, 1) := by decide +kernel
theorem dX6_passOn_39 : decode cX6_passOn 39 = .ok (.getfield 19, 3) := by decide +kernel
theorem dX6_passOn_42 : decode cX6_passOn 42 = .ok (.iload 4, 2) := by decide +kernel
theorem dX6_passOn_44 : decode cX6_passOn 44 = .ok (.iaload, 1) := by decide +kernel
theorem dX6_passOn_45 : decode cX6_passOn 45 = .ok (.imul, 1) := by decide +kernel
theorem dX6_passOn_46 : decode cX6_passOn 46 = .ok (.invokevirtual 115, 3) := by decide +kernel
theorem dX6_passOn_49 : decode cX6_passOn 49 = .ok (.iconst 0, 1) := by decide +kernel
theorem dX6_passOn_50 : decode cX6_passOn 50 = .ok (.istore 4, 2) := by decide +kernel
theorem dX6_passOn_52 : decode cX6_passOn 52 = .ok (.iload 4, 2) := by decide +kernel
theorem dX6_passOn_54 : decode cX6_passOn 54 = .ok (.aload_n 0, 1) := by decide +kernel
theorem dX6_passOn_55 : decode cX6_passOn 55 = .ok (.getfield 93, 3) := by decide +kernel
theorem dX6_passOn_58 : decode cX6_passOn 58 = .ok (.if_icmp .ge 16, 3) := by decide +kernel
theorem dX6_passOn_61 : decode cX6_passOn 61 = .ok (.aload_n 0, 1) := by decide +kernel
theorem dX6_passOn_62 : decode cX6_passOn 62 = .ok (.iload_n 1, 1) := by decide +kernel
theorem dX6_passOn_63 : decode cX6_passOn 63 = .ok (.iload 4, 2) := by decide +kernel
theorem dX6_passOn_65 : decode cX6_passOn 65 = .ok (.invokevirtual 119, 3) := by decide +kernel
theorem dX6_passOn_68 : decode cX6_passOn 68 = .ok (.iinc 4 1, 3) := by decide +kernel
theorem dX6_passOn_71 : decode cX6_passOn 71 = .ok (.goto (-19), 3) := by decide +kernel
theorem dX6_passOn_74 : decode cX6_passOn 74 = .ok (.aload_n 0, 1) := by decide +kernel
theorem dX6_passOn_75 : decode cX6_passOn 75 = .ok (.iload_n 1, 1) := by decide +kernel
theorem dX6_passOn_76 : decode cX6_passOn 76 = .ok (.invokevirtual 123, 3) := by decide +kernel
theorem dX6_passOn_79 : decode cX6_passOn 79 = .ok (.istore 4, 2) := by decide +kernel
theorem dX6_passOn_81 : decode cX6_passOn 81 = .ok (.iconst 0, 1) := by decide +kernel
theorem dX6_passOn_82 : decode cX6_passOn 82 = .ok (.istore 5, 2) := by decide +kernel
theorem dX6_passOn_84 : decode cX6_passOn 84 = .ok (.iload 5, 2) := by decide +kernel
theorem dX6_passOn_86 : decode cX6_passOn 86 = .ok (.bipush 8, 2) := by decide +kernel
theorem dX6_passOn_88 : decode cX6_passOn 88 = .ok (.if_icmp .ge 36, 3) := by decide +kernel
theorem dX6_passOn_91 : decode cX6_passOn 91 = .ok (.aload_n 0, 1) := by decide +kernel
theorem dX6_passOn_92 : decode cX6_passOn 92 = .ok (.getfield 22, 3) := by decide +kernel
theorem dX6_passOn_95 : decode cX6_passOn 95 = .ok (.iload_n 3, 1) := by decide +kernel
theorem dX6_passOn_96 : decode cX6_passOn 96 = .ok (.iload 5, 2) := by decide +kernel
theorem dX6_passOn_98 : decode cX6_passOn 98 = .ok (.iadd, 1) := by decide +kernel
theorem dX6_passOn_99 : decode cX6_passOn 99 = .ok (.dup2, 1) := by decide +kernel
theorem dX6_passOn_100 : decode cX6_passOn 100 = .ok (.iaload, 1) := by decide +kernel
theorem dX6_passOn_101 : decode cX6_passOn 101 = .ok (.iload 4, 2) := by decide +kernel
theorem dX6_passOn_103 : decode cX6_passOn 103 = .ok (.iload 5, 2) := by decide +kernel
theorem dX6_passOn_105 : decode cX6_passOn 105 = .ok (.invokestatic 104, 3) := by decide +kernel
theorem dX6_passOn_108 : decode cX6_passOn 108 = .ok (.ifCond .eq 7, 3) := by decide +kernel
theorem dX6_passOn_111 : decode cX6_passOn 111 = .ok (.iconst 2, 1) := by decide +kernel
theorem dX6_passOn_112 : decode cX6_passOn 112 = .ok (.goto 4, 3) := by decide +kernel
theorem dX6_passOn_115 : decode cX6_passOn 115 = .ok (.iconst 0, 1) := by decide +kernel
theorem dX6_passOn_116 : decode cX6_passOn 116 = .ok (.isub, 1) := by decide +kernel
theorem dX6_passOn_117 : decode cX6_passOn 117 = .ok (.iastore, 1) := by decide +kernel
theorem dX6_passOn_118 : decode cX6_passOn 118 = .ok (.iinc 5 1, 3) := by decide +kernel
theorem dX6_passOn_121 : decode cX6_passOn 121 = .ok (.goto (-37), 3) := by decide +kernel
theorem dX6_passOn_124 : decode cX6_passOn 124 = .ok (.iconst 0, 1) := by decide +kernel
theorem dX6_passOn_125 : decode cX6_passOn 125 = .ok (.istore 5, 2) := by decide +kernel
theorem dX6_passOn_127 : decode cX6_passOn 127 = .ok (.iload 5, 2) := by decide +kernel
theorem dX6_passOn_129 : decode cX6_passOn 129 = .ok (.bipush 8, 2) := by decide +kernel
theorem dX6_passOn_131 : decode cX6_passOn 131 = .ok (.if_icmp .ge 39, 3) := by decide +kernel
theorem dX6_passOn_134 : decode cX6_passOn 134 = .ok (.iload 4, 2) := by decide +kernel
theorem dX6_passOn_136 : decode cX6_passOn 136 = .ok (.iload 5, 2) := by decide +kernel
theorem dX6_passOn_138 : decode cX6_passOn 138 = .ok (.invokestatic 104, 3) := by decide +kernel
theorem dX6_passOn_141 : decode cX6_passOn 141 = .ok (.ifCond .eq 23, 3) := by decide +kernel
theorem dX6_passOn_144 : decode cX6_passOn 144 = .ok (.aload_n 0, 1) := by decide +kernel
theorem dX6_passOn_145 : decode cX6_passOn 145 = .ok (.iload_n 1, 1) := by decide +kernel
theorem dX6_passOn_146 : decode cX6_passOn 146 = .ok (.iload 5, 2) := by decide +kernel
theorem dX6_passOn_148 : decode cX6_passOn 148 = .ok (.iconst 1, 1) := by decide +kernel
theorem dX6_passOn_149 : decode cX6_passOn 149 = .ok (.isub, 1) := by decide +kernel
theorem dX6_passOn_150 : decode cX6_passOn 150 = .ok (.iconst 1, 1) := by decide +kernel
theorem dX6_passOn_151 : decode cX6_passOn 151 = .ok (.invokevirtual 115, 3) := by decide +kernel
theorem dX6_passOn_154 : decode cX6_passOn 154 = .ok (.aload_n 0, 1) := by decide +kernel
theorem dX6_passOn_155 : decode cX6_passOn 155 = .ok (.iload_n 1, 1) := by decide +kernel
theorem dX6_passOn_156 : decode cX6_passOn 156 = .ok (.iload 5, 2) := by decide +kernel
theorem dX6_passOn_158 : decode cX6_passOn 158 = .ok (.iconst 1, 1) := by decide +kernel
theorem dX6_passOn_159 : decode cX6_passOn 159 = .ok (.iadd, 1) := by decide +kernel
theorem dX6_passOn_160 : decode cX6_passOn 160 = .ok (.iconst 1, 1) := by decide +kernel
theorem dX6_passOn_161 : decode cX6_passOn 161 = .ok (.invokevirtual 115, 3) := by decide +kernel
theorem dX6_passOn_164 : decode cX6_passOn 164 = .ok (.iinc 5 1, 3) := by decide +kernel
theorem dX6_passOn_167 : decode cX6_passOn 167 = .ok (.goto (-40), 3) := by decide +kernel
theorem dX6_passOn_170 : decode cX6_passOn 170 = .ok (.aload_n 0, 1) := by decide +kernel
theorem dX6_passOn_171 : decode cX6_passOn 171 = .ok (.getfield 22, 3) := by decide +kernel
theorem dX6_passOn_174 : decode cX6_passOn 174 = .ok (.iload_n 3, 1) := by decide +kernel
theorem dX6_passOn_175 : decode cX6_passOn 175 = .ok (.bipush 15, 2) := by decide +kernel
theorem dX6_passOn_177 : decode cX6_passOn 177 = .ok (.iadd, 1) := by decide +kernel
theorem dX6_passOn_178 : decode cX6_passOn 178 = .ok (.dup2, 1) := by decide +kernel
theorem dX6_passOn_179 : decode cX6_passOn 179 = .ok (.iaload, 1) := by decide +kernel
theorem dX6_passOn_180 : decode cX6_passOn 180 = .ok (.iconst 1, 1) := by decide +kernel
theorem dX6_passOn_181 : decode cX6_passOn 181 = .ok (.iadd, 1) := by decide +kernel
theorem dX6_passOn_182 : decode cX6_passOn 182 = .ok (.iastore, 1) := by decide +kernel
theorem dX6_passOn_183 : decode cX6_passOn 183 = .ok (.return_, 1) := by decide +kernel
theorem dX6_dustOn_0 : decode cX6_dustOn 0 = .ok (.iconst 0, 1) := by decide +kernel
theorem dX6_dustOn_1 : decode cX6_dustOn 1 = .ok (.istore_n 2, 1) := by decide +kernel
theorem dX6_dustOn_2 : decode cX6_dustOn 2 = .ok (.iconst 0, 1) := by decide +kernel
theorem dX6_dustOn_3 : decode cX6_dustOn 3 = .ok (.istore_n 3, 1) := by decide +kernel
theorem dX6_dustOn_4 : decode cX6_dustOn 4 = .ok (.iload_n 3, 1) := by decide +kernel
theorem dX6_dustOn_5 : decode cX6_dustOn 5 = .ok (.bipush 8, 2) := by decide +kernel
theorem dX6_dustOn_7 : decode cX6_dustOn 7 = .ok (.if_icmp .ge 23, 3) := by decide +kernel
theorem dX6_dustOn_10 : decode cX6_dustOn 10 = .ok (.iload_n 2, 1) := by decide +kernel
theorem dX6_dustOn_11 : decode cX6_dustOn 11 = .ok (.aload_n 0, 1) := by decide +kernel
theorem dX6_dustOn_12 : decode cX6_dustOn 12 = .ok (.getfield 22, 3) := by decide +kernel
theorem dX6_dustOn_15 : decode cX6_dustOn 15 = .ok (.bipush 16, 2) := by decide +kernel
theorem dX6_dustOn_17 : decode cX6_dustOn 17 = .ok (.iload_n 1, 1) := by decide +kernel
theorem dX6_dustOn_18 : decode cX6_dustOn 18 = .ok (.imul, 1) := by decide +kernel
theorem dX6_dustOn_19 : decode cX6_dustOn 19 = .ok (.iload_n 3, 1) := by decide +kernel
theorem dX6_dustOn_20 : decode cX6_dustOn 20 = .ok (.iadd, 1) := by decide +kernel
theorem dX6_dustOn_21 : decode cX6_dustOn 21 = .ok (.iaload, 1) := by decide +kernel
theorem dX6_dustOn_22 : decode cX6_dustOn 22 = .ok (.iadd, 1) := by decide +kernel
theorem dX6_dustOn_23 : decode cX6_dustOn 23 = .ok (.istore_n 2, 1) := by decide +kernel
theorem dX6_dustOn_24 : decode cX6_dustOn 24 = .ok (.iinc 3 1, 3) := by decide +kernel
theorem dX6_dustOn_27 : decode cX6_dustOn 27 = .ok (.goto (-23), 3) := by decide +kernel
theorem dX6_dustOn_30 : decode cX6_dustOn 30 = .ok (.iload_n 2, 1) := by decide +kernel
theorem dX6_dustOn_31 : decode cX6_dustOn 31 = .ok (.ireturn, 1) := by decide +kernel
theorem dX6_broomsIn_0 : decode cX6_broomsIn 0 = .ok (.iconst 0, 1) := by decide +kernel
theorem dX6_broomsIn_1 : decode cX6_broomsIn 1 = .ok (.istore_n 2, 1) := by decide +kernel
theorem dX6_broomsIn_2 : decode cX6_broomsIn 2 = .ok (.iconst 0, 1) := by decide +kernel
theorem dX6_broomsIn_3 : decode cX6_broomsIn 3 = .ok (.istore_n 3, 1) := by decide +kernel
theorem dX6_broomsIn_4 : decode cX6_broomsIn 4 = .ok (.iload_n 3, 1) := by decide +kernel
theorem dX6_broomsIn_5 : decode cX6_broomsIn 5 = .ok (.aload_n 0, 1) := by decide +kernel
theorem dX6_broomsIn_6 : decode cX6_broomsIn 6 = .ok (.getfield 93, 3) := by decide +kernel
theorem dX6_broomsIn_9 : decode cX6_broomsIn 9 = .ok (.if_icmp .ge 32, 3) := by decide +kernel
theorem dX6_broomsIn_12 : decode cX6_broomsIn 12 = .ok (.iload_n 2, 1) := by decide +kernel
theorem dX6_broomsIn_13 : decode cX6_broomsIn 13 = .ok (.aload_n 0, 1) := by decide +kernel
theorem dX6_broomsIn_14 : decode cX6_broomsIn 14 = .ok (.getfield 22, 3) := by decide +kernel
theorem dX6_broomsIn_17 : decode cX6_broomsIn 17 = .ok (.bipush 8, 2) := by decide +kernel
theorem dX6_broomsIn_19 : decode cX6_broomsIn 19 = .ok (.iload_n 3, 1) := by decide +kernel
theorem dX6_broomsIn_20 : decode cX6_broomsIn 20 = .ok (.iadd, 1) := by decide +kernel
theorem dX6_broomsIn_21 : decode cX6_broomsIn 21 = .ok (.iaload, 1) := by decide +kernel
theorem dX6_broomsIn_22 : decode cX6_broomsIn 22 = .ok (.iload_n 1, 1) := by decide +kernel
theorem dX6_broomsIn_23 : decode cX6_broomsIn 23 = .ok (.if_icmp .ne 9, 3) := by decide +kernel
theorem dX6_broomsIn_26 : decode cX6_broomsIn 26 = .ok (.iconst 1, 1) := by decide +kernel
theorem dX6_broomsIn_27 : decode cX6_broomsIn 27 = .ok (.iload_n 3, 1) := by decide +kernel
theorem dX6_broomsIn_28 : decode cX6_broomsIn 28 = .ok (.ishl, 1) := by decide +kernel
theorem dX6_broomsIn_29 : decode cX6_broomsIn 29 = .ok (.goto 4, 3) := by decide +kernel
theorem dX6_broomsIn_32 : decode cX6_broomsIn 32 = .ok (.iconst 0, 1) := by decide +kernel
theorem dX6_broomsIn_33 : decode cX6_broomsIn 33 = .ok (.ior, 1) := by decide +kernel
theorem dX6_broomsIn_34 : decode cX6_broomsIn 34 = .ok (.istore_n 2, 1) := by decide +kernel
theorem dX6_broomsIn_35 : decode cX6_broomsIn 35 = .ok (.iinc 3 1, 3) := by decide +kernel
theorem dX6_broomsIn_38 : decode cX6_broomsIn 38 = .ok (.goto (-34), 3) := by decide +kernel
theorem dX6_broomsIn_41 : decode cX6_broomsIn 41 = .ok (.iload_n 2, 1) := by decide +kernel
theorem dX6_broomsIn_42 : decode cX6_broomsIn 42 = .ok (.ireturn, 1) := by decide +kernel
set_option maxRecDepth 20000 in
theorem ggX6_street_X6_isStreet : GoodIn wsX6_street wsX6_isStreet := goodIn_r _ [5, 6, 7, 8, 4, 9] (by decide +kernel) (by decide +kernel)
set_option maxRecDepth 20000 in
theorem gX6_street_X6_isStreet : GoodIn wsX6_street (va_wsS RX6 127 yX6_isStreet wsX6_isStreet) := goodIn_app (goodIn_of _ (by decide +kernel)) ggX6_street_X6_isStreet
set_option maxRecDepth 20000 in
theorem ggX6_street_X6_broomsIn : GoodIn wsX6_street wsX6_broomsIn := goodIn_r _ [13, 14, 1, 15, 16, 17, 18, 19, 20, 21, 22, 23, 24, 25, 26, 27, 28, 29, 30, 31, 32, 33, 34, 35, 36, 37, 38, 39, 40, 41] (by decide +kernel) (by decide +kernel)
set_option maxRecDepth 20000 in
theorem gX6_street_X6_broomsIn : GoodIn wsX6_street (wsV RX6 131 RX6 yX6_broomsIn wsX6_broomsIn) := goodIn_app (goodIn_of _ (by decide +kernel)) ggX6_street_X6_broomsIn
theorem dX6_street_0 : decode cX6_street 0 = .ok (.iload_n 1, 1) := by decide +kernel
theorem dX6_street_1 : decode cX6_street 1 = .ok (.invokestatic 127, 3) := by decide +kernel
theorem dX6_street_4 : decode cX6_street 4 = .ok (.ifCond .ne 5, 3) := by decide +kernel
theorem dX6_street_7 : decode cX6_street 7 = .ok (.iconst (-1), 1) := by decide +kernel
theorem dX6_street_8 : decode cX6_street 8 = .ok (.ireturn, 1) := by decide +kernel
theorem dX6_street_9 : decode cX6_street 9 = .ok (.iload_n 2, 1) := by decide +kernel
theorem dX6_street_10 : decode cX6_street 10 = .ok (.tableswitch 56 0 2 #[26, 33, 50], 26) := by decide +kernel
theorem dX6_street_36 : decode cX6_street 36 = .ok (.aload_n 0, 1) := by decide +kernel
theorem dX6_street_37 : decode cX6_street 37 = .ok (.getfield 22, 3) := by decide +kernel
theorem dX6_street_40 : decode cX6_street 40 = .ok (.iload_n 1, 1) := by decide +kernel
theorem dX6_street_41 : decode cX6_street 41 = .ok (.iaload, 1) := by decide +kernel
theorem dX6_street_42 : decode cX6_street 42 = .ok (.ireturn, 1) := by decide +kernel
theorem dX6_street_43 : decode cX6_street 43 = .ok (.aload_n 0, 1) := by decide +kernel
theorem dX6_street_44 : decode cX6_street 44 = .ok (.getfield 22, 3) := by decide +kernel
theorem dX6_street_47 : decode cX6_street 47 = .ok (.iload_n 1, 1) := by decide +kernel
theorem dX6_street_48 : decode cX6_street 48 = .ok (.iaload, 1) := by decide +kernel
theorem dX6_street_49 : decode cX6_street 49 = .ok (.bipush 10, 2) := by decide +kernel
theorem dX6_street_51 : decode cX6_street 51 = .ok (.if_icmp .lt 7, 3) := by decide +kernel
theorem dX6_street_54 : decode cX6_street 54 = .ok (.iconst 1, 1) := by decide +kernel
theorem dX6_street_55 : decode cX6_street 55 = .ok (.goto 4, 3) := by decide +kernel
theorem dX6_street_58 : decode cX6_street 58 = .ok (.iconst 0, 1) := by decide +kernel
theorem dX6_street_59 : decode cX6_street 59 = .ok (.ireturn, 1) := by decide +kernel
theorem dX6_street_60 : decode cX6_street 60 = .ok (.aload_n 0, 1) := by decide +kernel
theorem dX6_street_61 : decode cX6_street 61 = .ok (.iload_n 1, 1) := by decide +kernel
theorem dX6_street_62 : decode cX6_street 62 = .ok (.invokevirtual 131, 3) := by decide +kernel
theorem dX6_street_65 : decode cX6_street 65 = .ok (.ireturn, 1) := by decide +kernel
theorem dX6_street_66 : decode cX6_street 66 = .ok (.bipush (-2), 2) := by decide +kernel
theorem dX6_street_68 : decode cX6_street 68 = .ok (.ireturn, 1) := by decide +kernel
set_option maxRecDepth 20000 in
theorem ggX6_broom_X6_isBroom : GoodIn wsX6_broom wsX6_isBroom := goodIn_r _ [8, 9, 10, 11, 7, 12, 20, 21, 22, 23, 24, 25, 26, 27, 28, 29, 30, 31, 32, 33, 34, 35, 36, 37, 38, 39, 40, 41, 42, 43, 44, 45, 46] (by decide +kernel) (by decide +kernel)
set_option maxRecDepth 20000 in
theorem gX6_broom_X6_isBroom : GoodIn wsX6_broom (wsV RX6 134 RX6 yX6_isBroom wsX6_isBroom) := goodIn_app (goodIn_of _ (by decide +kernel)) ggX6_broom_X6_isBroom
set_option maxRecDepth 20000 in
theorem ggX6_broom_X6_worksAs : GoodIn wsX6_broom wsX6_worksAs := goodIn_r _ [16, 1, 3, 17, 18, 7, 19, 20, 21, 22, 23, 24, 25, 26, 27, 28, 29, 30, 31, 32, 33, 34, 35, 36, 37, 38, 39, 40, 41, 42, 43, 44, 45, 46] (by decide +kernel) (by decide +kernel)
set_option maxRecDepth 20000 in
theorem gX6_broom_X6_worksAs : GoodIn wsX6_broom (wsV RX6 108 RX6 yX6_worksAs wsX6_worksAs) := goodIn_app (goodIn_of _ (by decide +kernel)) ggX6_broom_X6_worksAs
theorem dX6_broom_0 : decode cX6_broom 0 = .ok (.aload_n 0, 1) := by decide +kernel
theorem dX6_broom_1 : decode cX6_broom 1 = .ok (.iload_n 1, 1) := by decide +kernel
theorem dX6_broom_2 : decode cX6_broom 2 = .ok (.invokevirtual 134, 3) := by decide +kernel
theorem dX6_broom_5 : decode cX6_broom 5 = .ok (.ifCond .ne 5, 3) := by decide +kernel
theorem dX6_broom_8 : decode cX6_broom 8 = .ok (.iconst (-1), 1) := by decide +kernel
theorem dX6_broom_9 : decode cX6_broom 9 = .ok (.ireturn, 1) := by decide +kernel
theorem dX6_broom_10 : decode cX6_broom 10 = .ok (.iload_n 2, 1) := by decide +kernel
theorem dX6_broom_11 : decode cX6_broom 11 = .ok (.tableswitch 76 0 4 #[33, 43, 50, 57, 69], 33) := by decide +kernel
theorem dX6_broom_44 : decode cX6_broom 44 = .ok (.aload_n 0, 1) := by decide +kernel
theorem dX6_broom_45 : decode cX6_broom 45 = .ok (.getfield 22, 3) := by decide +kernel
theorem dX6_broom_48 : decode cX6_broom 48 = .ok (.bipush 8, 2) := by decide +kernel
theorem dX6_broom_50 : decode cX6_broom 50 = .ok (.iload_n 1, 1) := by decide +kernel
theorem dX6_broom_51 : decode cX6_broom 51 = .ok (.iadd, 1) := by decide +kernel
theorem dX6_broom_52 : decode cX6_broom 52 = .ok (.iaload, 1) := by decide +kernel
theorem dX6_broom_53 : decode cX6_broom 53 = .ok (.ireturn, 1) := by decide +kernel
theorem dX6_broom_54 : decode cX6_broom 54 = .ok (.aload_n 0, 1) := by decide +kernel
theorem dX6_broom_55 : decode cX6_broom 55 = .ok (.getfield 7, 3) := by decide +kernel
theorem dX6_broom_58 : decode cX6_broom 58 = .ok (.iload_n 1, 1) := by decide +kernel
theorem dX6_broom_59 : decode cX6_broom 59 = .ok (.iaload, 1) := by decide +kernel
theorem dX6_broom_60 : decode cX6_broom 60 = .ok (.ireturn, 1) := by decide +kernel
theorem dX6_broom_61 : decode cX6_broom 61 = .ok (.aload_n 0, 1) := by decide +kernel
theorem dX6_broom_62 : decode cX6_broom 62 = .ok (.getfield 13, 3) := by decide +kernel
theorem dX6_broom_65 : decode cX6_broom 65 = .ok (.iload_n 1, 1) := by decide +kernel
theorem dX6_broom_66 : decode cX6_broom 66 = .ok (.iaload, 1) := by decide +kernel
theorem dX6_broom_67 : decode cX6_broom 67 = .ok (.ireturn, 1) := by decide +kernel
theorem dX6_broom_68 : decode cX6_broom 68 = .ok (.aload_n 0, 1) := by decide +kernel
theorem dX6_broom_69 : decode cX6_broom 69 = .ok (.getfield 22, 3) := by decide +kernel
theorem dX6_broom_72 : decode cX6_broom 72 = .ok (.bipush 14, 2) := by decide +kernel
theorem dX6_broom_74 : decode cX6_broom 74 = .ok (.iaload, 1) := by decide +kernel
theorem dX6_broom_75 : decode cX6_broom 75 = .ok (.iload_n 1, 1) := by decide +kernel
theorem dX6_broom_76 : decode cX6_broom 76 = .ok (.ishr, 1) := by decide +kernel
theorem dX6_broom_77 : decode cX6_broom 77 = .ok (.iconst 1, 1) := by decide +kernel
theorem dX6_broom_78 : decode cX6_broom 78 = .ok (.iand, 1) := by decide +kernel
theorem dX6_broom_79 : decode cX6_broom 79 = .ok (.ireturn, 1) := by decide +kernel
theorem dX6_broom_80 : decode cX6_broom 80 = .ok (.aload_n 0, 1) := by decide +kernel
theorem dX6_broom_81 : decode cX6_broom 81 = .ok (.iconst 0, 1) := by decide +kernel
theorem dX6_broom_82 : decode cX6_broom 82 = .ok (.iload_n 1, 1) := by decide +kernel
theorem dX6_broom_83 : decode cX6_broom 83 = .ok (.invokevirtual 108, 3) := by decide +kernel
theorem dX6_broom_86 : decode cX6_broom 86 = .ok (.ireturn, 1) := by decide +kernel
theorem dX6_broom_87 : decode cX6_broom 87 = .ok (.bipush (-2), 2) := by decide +kernel
theorem dX6_broom_89 : decode cX6_broom 89 = .ok (.ireturn, 1) := by decide +kernel
theorem dX6_keepAct_0 : decode cX6_keepAct 0 = .ok (.iconst 0, 1) := by decide +kernel
theorem dX6_keepAct_1 : decode cX6_keepAct 1 = .ok (.istore_n 1, 1) := by decide +kernel
theorem dX6_keepAct_2 : decode cX6_keepAct 2 = .ok (.iload_n 1, 1) := by decide +kernel
theorem dX6_keepAct_3 : decode cX6_keepAct 3 = .ok (.bipush 16, 2) := by decide +kernel
theorem dX6_keepAct_5 : decode cX6_keepAct 5 = .ok (.if_icmp .ge 29, 3) := by decide +kernel
theorem dX6_keepAct_8 : decode cX6_keepAct 8 = .ok (.aload_n 0, 1) := by decide +kernel
theorem dX6_keepAct_9 : decode cX6_keepAct 9 = .ok (.getfield 41, 3) := by decide +kernel
theorem dX6_keepAct_12 : decode cX6_keepAct 12 = .ok (.bipush 16, 2) := by decide +kernel
theorem dX6_keepAct_14 : decode cX6_keepAct 14 = .ok (.aload_n 0, 1) := by decide +kernel
theorem dX6_keepAct_15 : decode cX6_keepAct 15 = .ok (.getfield 137, 3) := by decide +kernel
theorem dX6_keepAct_18 : decode cX6_keepAct 18 = .ok (.imul, 1) := by decide +kernel
theorem dX6_keepAct_19 : decode cX6_keepAct 19 = .ok (.iload_n 1, 1) := by decide +kernel
theorem dX6_keepAct_20 : decode cX6_keepAct 20 = .ok (.iadd, 1) := by decide +kernel
theorem dX6_keepAct_21 : decode cX6_keepAct 21 = .ok (.aload_n 0, 1) := by decide +kernel
theorem dX6_keepAct_22 : decode cX6_keepAct 22 = .ok (.getfield 22, 3) := by decide +kernel
theorem dX6_keepAct_25 : decode cX6_keepAct 25 = .ok (.iload_n 1, 1) := by decide +kernel
theorem dX6_keepAct_26 : decode cX6_keepAct 26 = .ok (.iaload, 1) := by decide +kernel
theorem dX6_keepAct_27 : decode cX6_keepAct 27 = .ok (.iastore, 1) := by decide +kernel
theorem dX6_keepAct_28 : decode cX6_keepAct 28 = .ok (.iinc 1 1, 3) := by decide +kernel
theorem dX6_keepAct_31 : decode cX6_keepAct 31 = .ok (.goto (-29), 3) := by decide +kernel
theorem dX6_keepAct_34 : decode cX6_keepAct 34 = .ok (.aload_n 0, 1) := by decide +kernel
theorem dX6_keepAct_35 : decode cX6_keepAct 35 = .ok (.aload_n 0, 1) := by decide +kernel
theorem dX6_keepAct_36 : decode cX6_keepAct 36 = .ok (.getfield 137, 3) := by decide +kernel
theorem dX6_keepAct_39 : decode cX6_keepAct 39 = .ok (.iconst 1, 1) := by decide +kernel
theorem dX6_keepAct_40 : decode cX6_keepAct 40 = .ok (.iadd, 1) := by decide +kernel
theorem dX6_keepAct_41 : decode cX6_keepAct 41 = .ok (.bipush 14, 2) := by decide +kernel
theorem dX6_keepAct_43 : decode cX6_keepAct 43 = .ok (.irem, 1) := by decide +kernel
theorem dX6_keepAct_44 : decode cX6_keepAct 44 = .ok (.putfield 137, 3) := by decide +kernel
theorem dX6_keepAct_47 : decode cX6_keepAct 47 = .ok (.aload_n 0, 1) := by decide +kernel
theorem dX6_keepAct_48 : decode cX6_keepAct 48 = .ok (.aload_n 0, 1) := by decide +kernel
theorem dX6_keepAct_49 : decode cX6_keepAct 49 = .ok (.getfield 99, 3) := by decide +kernel
theorem dX6_keepAct_52 : decode cX6_keepAct 52 = .ok (.bipush 14, 2) := by decide +kernel
theorem dX6_keepAct_54 : decode cX6_keepAct 54 = .ok (.if_icmp .ge 12, 3) := by decide +kernel
theorem dX6_keepAct_57 : decode cX6_keepAct 57 = .ok (.aload_n 0, 1) := by decide +kernel
theorem dX6_keepAct_58 : decode cX6_keepAct 58 = .ok (.getfield 99, 3) := by decide +kernel
theorem dX6_keepAct_61 : decode cX6_keepAct 61 = .ok (.iconst 1, 1) := by decide +kernel
theorem dX6_keepAct_62 : decode cX6_keepAct 62 = .ok (.iadd, 1) := by decide +kernel
theorem dX6_keepAct_63 : decode cX6_keepAct 63 = .ok (.goto 5, 3) := by decide +kernel
theorem dX6_keepAct_66 : decode cX6_keepAct 66 = .ok (.bipush 14, 2) := by decide +kernel
theorem dX6_keepAct_68 : decode cX6_keepAct 68 = .ok (.putfield 99, 3) := by decide +kernel
theorem dX6_keepAct_71 : decode cX6_keepAct 71 = .ok (.return_, 1) := by decide +kernel
set_option maxRecDepth 20000 in
theorem ggX6_dawn_X6_keepAct : GoodIn wsX6_dawn wsX6_keepAct := goodIn_r _ [5, 6, 7, 8, 9, 48, 49, 50, 51, 52, 53, 54, 55, 56, 57, 58, 59, 60, 61, 62, 63, 64, 65, 66, 67, 68, 69, 70, 71, 72, 73, 74] (by decide +kernel) (by decide +kernel)
set_option maxRecDepth 20000 in
theorem gX6_dawn_X6_keepAct : GoodIn wsX6_dawn (wsV RX6 140 RX6 yX6_keepAct wsX6_keepAct) := goodIn_app (goodIn_of _ (by decide +kernel)) ggX6_dawn_X6_keepAct
set_option maxRecDepth 20000 in
theorem ggX6_dawn_X6_passOn : GoodIn wsX6_dawn wsX6_passOn := goodIn_r _ [13, 14, 8, 15, 16, 17, 18, 19, 20, 4, 21, 22, 23, 24, 25, 26, 27, 28, 29, 30, 31, 32, 33, 34, 35, 36, 37, 38, 39, 40, 41, 42, 43, 48, 49, 50, 51, 52, 53, 54, 55, 56, 57, 58, 59, 60, 61, 62, 63, 64, 65, 66, 67, 68, 69, 70, 71, 72, 73, 74] (by decide +kernel) (by decide +kernel)
set_option maxRecDepth 20000 in
theorem gX6_dawn_X6_passOn : GoodIn wsX6_dawn (wsV RX6 143 RX6 yX6_passOn wsX6_passOn) := goodIn_app (goodIn_of _ (by decide +kernel)) ggX6_dawn_X6_passOn
set_option maxRecDepth 20000 in
theorem ggX6_dawn_X6_dustOn : GoodIn wsX6_dawn wsX6_dustOn := goodIn_r _ [47, 8, 48, 49, 50, 51, 52, 53, 54, 55, 56, 57, 58, 59, 60, 61, 62, 63, 64, 65, 66, 67, 68, 69, 70, 71, 72, 73, 74] (by decide +kernel) (by decide +kernel)
set_option maxRecDepth 20000 in
theorem gX6_dawn_X6_dustOn : GoodIn wsX6_dawn (wsV RX6 146 RX6 yX6_dustOn wsX6_dustOn) := goodIn_app (goodIn_of _ (by decide +kernel)) ggX6_dawn_X6_dustOn
theorem dX6_dawn_0 : decode cX6_dawn 0 = .ok (.aload_n 0, 1) := by decide +kernel
theorem dX6_dawn_1 : decode cX6_dawn 1 = .ok (.invokevirtual 140, 3) := by decide +kernel
theorem dX6_dawn_4 : decode cX6_dawn 4 = .ok (.aload_n 0, 1) := by decide +kernel
theorem dX6_dawn_5 : decode cX6_dawn 5 = .ok (.iconst 0, 1) := by decide +kernel
theorem dX6_dawn_6 : decode cX6_dawn 6 = .ok (.iconst 1, 1) := by decide +kernel
theorem dX6_dawn_7 : decode cX6_dawn 7 = .ok (.invokevirtual 143, 3) := by decide +kernel
theorem dX6_dawn_10 : decode cX6_dawn 10 = .ok (.aload_n 0, 1) := by decide +kernel
theorem dX6_dawn_11 : decode cX6_dawn 11 = .ok (.iconst 0, 1) := by decide +kernel
theorem dX6_dawn_12 : decode cX6_dawn 12 = .ok (.invokevirtual 146, 3) := by decide +kernel
theorem dX6_dawn_15 : decode cX6_dawn 15 = .ok (.ireturn, 1) := by decide +kernel
theorem dX6_walkOn_0 : decode cX6_walkOn 0 = .ok (.bipush 16, 2) := by decide +kernel
theorem dX6_walkOn_2 : decode cX6_walkOn 2 = .ok (.iload_n 1, 1) := by decide +kernel
theorem dX6_walkOn_3 : decode cX6_walkOn 3 = .ok (.imul, 1) := by decide +kernel
theorem dX6_walkOn_4 : decode cX6_walkOn 4 = .ok (.bipush 8, 2) := by decide +kernel
theorem dX6_walkOn_6 : decode cX6_walkOn 6 = .ok (.iadd, 1) := by decide +kernel
theorem dX6_walkOn_7 : decode cX6_walkOn 7 = .ok (.iload_n 2, 1) := by decide +kernel
theorem dX6_walkOn_8 : decode cX6_walkOn 8 = .ok (.iadd, 1) := by decide +kernel
theorem dX6_walkOn_9 : decode cX6_walkOn 9 = .ok (.istore 4, 2) := by decide +kernel
theorem dX6_walkOn_11 : decode cX6_walkOn 11 = .ok (.aload_n 0, 1) := by decide +kernel
theorem dX6_walkOn_12 : decode cX6_walkOn 12 = .ok (.getfield 22, 3) := by decide +kernel
theorem dX6_walkOn_15 : decode cX6_walkOn 15 = .ok (.iload 4, 2) := by decide +kernel
theorem dX6_walkOn_17 : decode cX6_walkOn 17 = .ok (.aload_n 0, 1) := by decide +kernel
theorem dX6_walkOn_18 : decode cX6_walkOn 18 = .ok (.getfield 22, 3) := by decide +kernel
theorem dX6_walkOn_21 : decode cX6_walkOn 21 = .ok (.iload 4, 2) := by decide +kernel
theorem dX6_walkOn_23 : decode cX6_walkOn 23 = .ok (.iaload, 1) := by decide +kernel
theorem dX6_walkOn_24 : decode cX6_walkOn 24 = .ok (.iload_n 3, 1) := by decide +kernel
theorem dX6_walkOn_25 : decode cX6_walkOn 25 = .ok (.ifCond .ne 8, 3) := by decide +kernel
theorem dX6_walkOn_28 : decode cX6_walkOn 28 = .ok (.bipush 7, 2) := by decide +kernel
theorem dX6_walkOn_30 : decode cX6_walkOn 30 = .ok (.goto 4, 3) := by decide +kernel
theorem dX6_walkOn_33 : decode cX6_walkOn 33 = .ok (.iconst 1, 1) := by decide +kernel
theorem dX6_walkOn_34 : decode cX6_walkOn 34 = .ok (.iadd, 1) := by decide +kernel
theorem dX6_walkOn_35 : decode cX6_walkOn 35 = .ok (.bipush 8, 2) := by decide +kernel
theorem dX6_walkOn_37 : decode cX6_walkOn 37 = .ok (.irem, 1) := by decide +kernel
theorem dX6_walkOn_38 : decode cX6_walkOn 38 = .ok (.iastore, 1) := by decide +kernel
theorem dX6_walkOn_39 : decode cX6_walkOn 39 = .ok (.return_, 1) := by decide +kernel
set_option maxRecDepth 20000 in
theorem ggX6_walk_X6_isBroom : GoodIn wsX6_walk wsX6_isBroom := goodIn_r _ [6, 7, 8, 9, 5, 10, 22, 23, 24, 25, 26, 27, 28, 29, 30, 31, 32, 33, 34, 35, 36, 37, 38, 39, 40, 41, 42, 43, 44, 45, 46, 47, 48] (by decide +kernel) (by decide +kernel)
set_option maxRecDepth 20000 in
theorem gX6_walk_X6_isBroom : GoodIn wsX6_walk (wsV RX6 134 RX6 yX6_isBroom wsX6_isBroom) := goodIn_app (goodIn_of _ (by decide +kernel)) ggX6_walk_X6_isBroom
set_option maxRecDepth 20000 in
theorem ggX6_walk_X6_in : GoodIn wsX6_walk wsX6_in := goodIn_r _ [10] (by decide +kernel) (by decide +kernel)
set_option maxRecDepth 20000 in
theorem gX6_walk_X6_in : GoodIn wsX6_walk (va_wsS RX6 62 yX6_in wsX6_in) := goodIn_app (goodIn_of _ (by decide +kernel)) ggX6_walk_X6_in
set_option maxRecDepth 20000 in
theorem ggX6_walk_X6_keepAct : GoodIn wsX6_walk wsX6_keepAct := goodIn_r _ [14, 15, 16, 1, 17, 22, 23, 24, 25, 26, 27, 28, 29, 30, 31, 32, 33, 34, 35, 36, 37, 38, 39, 40, 41, 42, 43, 44, 45, 46, 47, 48] (by decide +kernel) (by decide +kernel)
set_option maxRecDepth 20000 in
theorem gX6_walk_X6_keepAct : GoodIn wsX6_walk (wsV RX6 140 RX6 yX6_keepAct wsX6_keepAct) := goodIn_app (goodIn_of _ (by decide +kernel)) ggX6_walk_X6_keepAct
set_option maxRecDepth 20000 in
theorem ggX6_walk_X6_walkOn : GoodIn wsX6_walk wsX6_walkOn := goodIn_r _ [21, 1, 22, 23, 24, 25, 26, 27, 28, 29, 30, 31, 32, 33, 34, 35, 36, 37, 38, 39, 40, 41, 42, 43, 44, 45, 46, 47, 48] (by decide +kernel) (by decide +kernel)
set_option maxRecDepth 20000 in
theorem gX6_walk_X6_walkOn : GoodIn wsX6_walk (wsV RX6 149 RX6 yX6_walkOn wsX6_walkOn) := goodIn_app (goodIn_of _ (by decide +kernel)) ggX6_walk_X6_walkOn
theorem dX6_walk_0 : decode cX6_walk 0 = .ok (.aload_n 0, 1) := by decide +kernel
theorem dX6_walk_1 : decode cX6_walk 1 = .ok (.iload_n 1, 1) := by decide +kernel
theorem dX6_walk_2 : decode cX6_walk 2 = .ok (.invokevirtual 134, 3) := by decide +kernel
theorem dX6_walk_5 : decode cX6_walk 5 = .ok (.ifCond .ne 5, 3) := by decide +kernel
theorem dX6_walk_8 : decode cX6_walk 8 = .ok (.iconst (-1), 1) := by decide +kernel
theorem dX6_walk_9 : decode cX6_walk 9 = .ok (.ireturn, 1) := by decide +kernel
theorem dX6_walk_10 : decode cX6_walk 10 = .ok (.iload_n 2, 1) := by decide +kernel
theorem dX6_walk_11 : decode cX6_walk 11 = .ok (.i2l, 1) := by decide +kernel
theorem dX6_walk_12 : decode cX6_walk 12 = .ok (.lconst 0, 1) := by decide +kernel
theorem dX6_walk_13 : decode cX6_walk 13 = .ok (.lconst 1, 1) := by decide +kernel
theorem dX6_walk_14 : decode cX6_walk 14 = .ok (.invokestatic 62, 3) := by decide +kernel
theorem dX6_walk_17 : decode cX6_walk 17 = .ok (.ifCond .ne 6, 3) := by decide +kernel
theorem dX6_walk_20 : decode cX6_walk 20 = .ok (.bipush (-2), 2) := by decide +kernel
theorem dX6_walk_22 : decode cX6_walk 22 = .ok (.ireturn, 1) := by decide +kernel
theorem dX6_walk_23 : decode cX6_walk 23 = .ok (.aload_n 0, 1) := by decide +kernel
theorem dX6_walk_24 : decode cX6_walk 24 = .ok (.invokevirtual 140, 3) := by decide +kernel
theorem dX6_walk_27 : decode cX6_walk 27 = .ok (.aload_n 0, 1) := by decide +kernel
theorem dX6_walk_28 : decode cX6_walk 28 = .ok (.iconst 0, 1) := by decide +kernel
theorem dX6_walk_29 : decode cX6_walk 29 = .ok (.iload_n 1, 1) := by decide +kernel
theorem dX6_walk_30 : decode cX6_walk 30 = .ok (.iload_n 2, 1) := by decide +kernel
theorem dX6_walk_31 : decode cX6_walk 31 = .ok (.invokevirtual 149, 3) := by decide +kernel
theorem dX6_walk_34 : decode cX6_walk 34 = .ok (.aload_n 0, 1) := by decide +kernel
theorem dX6_walk_35 : decode cX6_walk 35 = .ok (.getfield 22, 3) := by decide +kernel
theorem dX6_walk_38 : decode cX6_walk 38 = .ok (.bipush 8, 2) := by decide +kernel
theorem dX6_walk_40 : decode cX6_walk 40 = .ok (.iload_n 1, 1) := by decide +kernel
theorem dX6_walk_41 : decode cX6_walk 41 = .ok (.iadd, 1) := by decide +kernel
theorem dX6_walk_42 : decode cX6_walk 42 = .ok (.iaload, 1) := by decide +kernel
theorem dX6_walk_43 : decode cX6_walk 43 = .ok (.ireturn, 1) := by decide +kernel
set_option maxRecDepth 20000 in
theorem ggX6_vote_X6_keepAct : GoodIn wsX6_vote wsX6_keepAct := goodIn_r _ [6, 7, 8, 1, 9, 10, 11, 12, 13, 14, 15, 16, 17, 18, 19, 20, 21, 22, 23, 24, 25, 26, 27, 28, 29, 30, 31, 32, 33, 34, 35, 36] (by decide +kernel) (by decide +kernel)
set_option maxRecDepth 20000 in
theorem gX6_vote_X6_keepAct : GoodIn wsX6_vote (wsV RX6 140 RX6 yX6_keepAct wsX6_keepAct) := goodIn_app (goodIn_of _ (by decide +kernel)) ggX6_vote_X6_keepAct
theorem dX6_vote_0 : decode cX6_vote 0 = .ok (.aload_n 0, 1) := by decide +kernel
theorem dX6_vote_1 : decode cX6_vote 1 = .ok (.invokevirtual 140, 3) := by decide +kernel
theorem dX6_vote_4 : decode cX6_vote 4 = .ok (.aload_n 0, 1) := by decide +kernel
theorem dX6_vote_5 : decode cX6_vote 5 = .ok (.getfield 22, 3) := by decide +kernel
theorem dX6_vote_8 : decode cX6_vote 8 = .ok (.bipush 13, 2) := by decide +kernel
theorem dX6_vote_10 : decode cX6_vote 10 = .ok (.iconst 1, 1) := by decide +kernel
theorem dX6_vote_11 : decode cX6_vote 11 = .ok (.aload_n 0, 1) := by decide +kernel
theorem dX6_vote_12 : decode cX6_vote 12 = .ok (.getfield 22, 3) := by decide +kernel
theorem dX6_vote_15 : decode cX6_vote 15 = .ok (.bipush 13, 2) := by decide +kernel
theorem dX6_vote_17 : decode cX6_vote 17 = .ok (.iaload, 1) := by decide +kernel
theorem dX6_vote_18 : decode cX6_vote 18 = .ok (.isub, 1) := by decide +kernel
theorem dX6_vote_19 : decode cX6_vote 19 = .ok (.iastore, 1) := by decide +kernel
theorem dX6_vote_20 : decode cX6_vote 20 = .ok (.aload_n 0, 1) := by decide +kernel
theorem dX6_vote_21 : decode cX6_vote 21 = .ok (.getfield 22, 3) := by decide +kernel
theorem dX6_vote_24 : decode cX6_vote 24 = .ok (.bipush 13, 2) := by decide +kernel
theorem dX6_vote_26 : decode cX6_vote 26 = .ok (.iaload, 1) := by decide +kernel
theorem dX6_vote_27 : decode cX6_vote 27 = .ok (.ireturn, 1) := by decide +kernel
set_option maxRecDepth 20000 in
theorem ggX6_bend_X6_isBroom : GoodIn wsX6_bend wsX6_isBroom := goodIn_r _ [6, 7, 8, 9, 5, 10, 24, 25, 26, 27, 28, 29, 30, 31, 32, 33, 34, 35, 36, 37, 38, 39, 40, 41, 42, 43, 44, 45, 46, 47, 48, 49, 50] (by decide +kernel) (by decide +kernel)
set_option maxRecDepth 20000 in
theorem gX6_bend_X6_isBroom : GoodIn wsX6_bend (wsV RX6 134 RX6 yX6_isBroom wsX6_isBroom) := goodIn_app (goodIn_of _ (by decide +kernel)) ggX6_bend_X6_isBroom
set_option maxRecDepth 20000 in
theorem ggX6_bend_X6_has : GoodIn wsX6_bend wsX6_has := goodIn_r _ [13] (by decide +kernel) (by decide +kernel)
set_option maxRecDepth 20000 in
theorem gX6_bend_X6_has : GoodIn wsX6_bend (va_wsS RX6 104 yX6_has wsX6_has) := goodIn_app (goodIn_of _ (by decide +kernel)) ggX6_bend_X6_has
set_option maxRecDepth 20000 in
theorem ggX6_bend_X6_keepAct : GoodIn wsX6_bend wsX6_keepAct := goodIn_r _ [17, 18, 19, 1, 20, 24, 25, 26, 27, 28, 29, 30, 31, 32, 33, 34, 35, 36, 37, 38, 39, 40, 41, 42, 43, 44, 45, 46, 47, 48, 49, 50] (by decide +kernel) (by decide +kernel)
set_option maxRecDepth 20000 in
theorem gX6_bend_X6_keepAct : GoodIn wsX6_bend (wsV RX6 140 RX6 yX6_keepAct wsX6_keepAct) := goodIn_app (goodIn_of _ (by decide +kernel)) ggX6_bend_X6_keepAct
set_option maxRecDepth 20000 in
theorem ggX6_bend_X6_ones : GoodIn wsX6_bend wsX6_ones := goodIn_r _ [23] (by decide +kernel) (by decide +kernel)
set_option maxRecDepth 20000 in
theorem gX6_bend_X6_ones : GoodIn wsX6_bend (va_wsS RX6 152 yX6_ones wsX6_ones) := goodIn_app (goodIn_of _ (by decide +kernel)) ggX6_bend_X6_ones
theorem dX6_bend_0 : decode cX6_bend 0 = .ok (.aload_n 0, 1) := by decide +kernel
theorem dX6_bend_1 : decode cX6_bend 1 = .ok (.iload_n 1, 1) := by decide +kernel
theorem dX6_bend_2 : decode cX6_bend 2 = .ok (.invokevirtual 134, 3) := by decide +kernel
theorem dX6_bend_5 : decode cX6_bend 5 = .ok (.ifCond .ne 5, 3) := by decide +kernel
theorem dX6_bend_8 : decode cX6_bend 8 = .ok (.iconst (-1), 1) := by decide +kernel
theorem dX6_bend_9 : decode cX6_bend 9 = .ok (.ireturn, 1) := by decide +kernel
theorem dX6_bend_10 : decode cX6_bend 10 = .ok (.aload_n 0, 1) := by decide +kernel
theorem dX6_bend_11 : decode cX6_bend 11 = .ok (.getfield 22, 3) := by decide +kernel
theorem dX6_bend_14 : decode cX6_bend 14 = .ok (.bipush 14, 2) := by decide +kernel
theorem dX6_bend_16 : decode cX6_bend 16 = .ok (.iaload, 1) := by decide +kernel
theorem dX6_bend_17 : decode cX6_bend 17 = .ok (.iload_n 1, 1) := by decide +kernel
theorem dX6_bend_18 : decode cX6_bend 18 = .ok (.invokestatic 104, 3) := by decide +kernel
theorem dX6_bend_21 : decode cX6_bend 21 = .ok (.ifCond .eq 6, 3) := by decide +kernel
theorem dX6_bend_24 : decode cX6_bend 24 = .ok (.bipush (-3), 2) := by decide +kernel
theorem dX6_bend_26 : decode cX6_bend 26 = .ok (.ireturn, 1) := by decide +kernel
theorem dX6_bend_27 : decode cX6_bend 27 = .ok (.aload_n 0, 1) := by decide +kernel
theorem dX6_bend_28 : decode cX6_bend 28 = .ok (.invokevirtual 140, 3) := by decide +kernel
theorem dX6_bend_31 : decode cX6_bend 31 = .ok (.aload_n 0, 1) := by decide +kernel
theorem dX6_bend_32 : decode cX6_bend 32 = .ok (.getfield 22, 3) := by decide +kernel
theorem dX6_bend_35 : decode cX6_bend 35 = .ok (.bipush 14, 2) := by decide +kernel
theorem dX6_bend_37 : decode cX6_bend 37 = .ok (.dup2, 1) := by decide +kernel
theorem dX6_bend_38 : decode cX6_bend 38 = .ok (.iaload, 1) := by decide +kernel
theorem dX6_bend_39 : decode cX6_bend 39 = .ok (.iconst 1, 1) := by decide +kernel
theorem dX6_bend_40 : decode cX6_bend 40 = .ok (.iload_n 1, 1) := by decide +kernel
theorem dX6_bend_41 : decode cX6_bend 41 = .ok (.ishl, 1) := by decide +kernel
theorem dX6_bend_42 : decode cX6_bend 42 = .ok (.ior, 1) := by decide +kernel
theorem dX6_bend_43 : decode cX6_bend 43 = .ok (.iastore, 1) := by decide +kernel
theorem dX6_bend_44 : decode cX6_bend 44 = .ok (.aload_n 0, 1) := by decide +kernel
theorem dX6_bend_45 : decode cX6_bend 45 = .ok (.getfield 22, 3) := by decide +kernel
theorem dX6_bend_48 : decode cX6_bend 48 = .ok (.bipush 14, 2) := by decide +kernel
theorem dX6_bend_50 : decode cX6_bend 50 = .ok (.iaload, 1) := by decide +kernel
theorem dX6_bend_51 : decode cX6_bend 51 = .ok (.invokestatic 152, 3) := by decide +kernel
theorem dX6_bend_54 : decode cX6_bend 54 = .ok (.ireturn, 1) := by decide +kernel
set_option maxRecDepth 20000 in
theorem ggX6_hand_X6_isStreet : GoodIn wsX6_hand wsX6_isStreet := goodIn_r _ [5, 6, 7, 8, 4, 9] (by decide +kernel) (by decide +kernel)
set_option maxRecDepth 20000 in
theorem gX6_hand_X6_isStreet : GoodIn wsX6_hand (va_wsS RX6 127 yX6_isStreet wsX6_isStreet) := goodIn_app (goodIn_of _ (by decide +kernel)) ggX6_hand_X6_isStreet
set_option maxRecDepth 20000 in
theorem ggX6_hand_X6_keepAct : GoodIn wsX6_hand wsX6_keepAct := goodIn_r _ [13, 14, 15, 1, 16, 17, 18, 19, 20, 21, 22, 23, 24, 25, 26, 27, 28, 29, 30, 31, 32, 33, 34, 35, 36, 37, 38, 39, 40, 41, 42, 43] (by decide +kernel) (by decide +kernel)
set_option maxRecDepth 20000 in
theorem gX6_hand_X6_keepAct : GoodIn wsX6_hand (wsV RX6 140 RX6 yX6_keepAct wsX6_keepAct) := goodIn_app (goodIn_of _ (by decide +kernel)) ggX6_hand_X6_keepAct
theorem dX6_hand_0 : decode cX6_hand 0 = .ok (.iload_n 1, 1) := by decide +kernel
theorem dX6_hand_1 : decode cX6_hand 1 = .ok (.invokestatic 127, 3) := by decide +kernel
theorem dX6_hand_4 : decode cX6_hand 4 = .ok (.ifCond .ne 5, 3) := by decide +kernel
theorem dX6_hand_7 : decode cX6_hand 7 = .ok (.iconst (-1), 1) := by decide +kernel
theorem dX6_hand_8 : decode cX6_hand 8 = .ok (.ireturn, 1) := by decide +kernel
theorem dX6_hand_9 : decode cX6_hand 9 = .ok (.aload_n 0, 1) := by decide +kernel
theorem dX6_hand_10 : decode cX6_hand 10 = .ok (.getfield 22, 3) := by decide +kernel
theorem dX6_hand_13 : decode cX6_hand 13 = .ok (.iload_n 1, 1) := by decide +kernel
theorem dX6_hand_14 : decode cX6_hand 14 = .ok (.iaload, 1) := by decide +kernel
theorem dX6_hand_15 : decode cX6_hand 15 = .ok (.ifCond .ne 6, 3) := by decide +kernel
theorem dX6_hand_18 : decode cX6_hand 18 = .ok (.bipush (-3), 2) := by decide +kernel
theorem dX6_hand_20 : decode cX6_hand 20 = .ok (.ireturn, 1) := by decide +kernel
theorem dX6_hand_21 : decode cX6_hand 21 = .ok (.aload_n 0, 1) := by decide +kernel
theorem dX6_hand_22 : decode cX6_hand 22 = .ok (.invokevirtual 140, 3) := by decide +kernel
theorem dX6_hand_25 : decode cX6_hand 25 = .ok (.aload_n 0, 1) := by decide +kernel
theorem dX6_hand_26 : decode cX6_hand 26 = .ok (.getfield 22, 3) := by decide +kernel
theorem dX6_hand_29 : decode cX6_hand 29 = .ok (.iload_n 1, 1) := by decide +kernel
theorem dX6_hand_30 : decode cX6_hand 30 = .ok (.iaload, 1) := by decide +kernel
theorem dX6_hand_31 : decode cX6_hand 31 = .ok (.istore_n 2, 1) := by decide +kernel
theorem dX6_hand_32 : decode cX6_hand 32 = .ok (.aload_n 0, 1) := by decide +kernel
theorem dX6_hand_33 : decode cX6_hand 33 = .ok (.getfield 22, 3) := by decide +kernel
theorem dX6_hand_36 : decode cX6_hand 36 = .ok (.iload_n 1, 1) := by decide +kernel
theorem dX6_hand_37 : decode cX6_hand 37 = .ok (.iconst 0, 1) := by decide +kernel
theorem dX6_hand_38 : decode cX6_hand 38 = .ok (.iastore, 1) := by decide +kernel
theorem dX6_hand_39 : decode cX6_hand 39 = .ok (.iload_n 2, 1) := by decide +kernel
theorem dX6_hand_40 : decode cX6_hand 40 = .ok (.ireturn, 1) := by decide +kernel
theorem dX6_undo_0 : decode cX6_undo 0 = .ok (.aload_n 0, 1) := by decide +kernel
theorem dX6_undo_1 : decode cX6_undo 1 = .ok (.getfield 99, 3) := by decide +kernel
theorem dX6_undo_4 : decode cX6_undo 4 = .ok (.ifCond .ne 6, 3) := by decide +kernel
theorem dX6_undo_7 : decode cX6_undo 7 = .ok (.bipush (-3), 2) := by decide +kernel
theorem dX6_undo_9 : decode cX6_undo 9 = .ok (.ireturn, 1) := by decide +kernel
theorem dX6_undo_10 : decode cX6_undo 10 = .ok (.aload_n 0, 1) := by decide +kernel
theorem dX6_undo_11 : decode cX6_undo 11 = .ok (.dup, 1) := by decide +kernel
theorem dX6_undo_12 : decode cX6_undo 12 = .ok (.getfield 99, 3) := by decide +kernel
theorem dX6_undo_15 : decode cX6_undo 15 = .ok (.iconst 1, 1) := by decide +kernel
theorem dX6_undo_16 : decode cX6_undo 16 = .ok (.isub, 1) := by decide +kernel
theorem dX6_undo_17 : decode cX6_undo 17 = .ok (.putfield 99, 3) := by decide +kernel
theorem dX6_undo_20 : decode cX6_undo 20 = .ok (.aload_n 0, 1) := by decide +kernel
theorem dX6_undo_21 : decode cX6_undo 21 = .ok (.aload_n 0, 1) := by decide +kernel
theorem dX6_undo_22 : decode cX6_undo 22 = .ok (.getfield 137, 3) := by decide +kernel
theorem dX6_undo_25 : decode cX6_undo 25 = .ok (.bipush 13, 2) := by decide +kernel
theorem dX6_undo_27 : decode cX6_undo 27 = .ok (.iadd, 1) := by decide +kernel
theorem dX6_undo_28 : decode cX6_undo 28 = .ok (.bipush 14, 2) := by decide +kernel
theorem dX6_undo_30 : decode cX6_undo 30 = .ok (.irem, 1) := by decide +kernel
theorem dX6_undo_31 : decode cX6_undo 31 = .ok (.putfield 137, 3) := by decide +kernel
theorem dX6_undo_34 : decode cX6_undo 34 = .ok (.iconst 0, 1) := by decide +kernel
theorem dX6_undo_35 : decode cX6_undo 35 = .ok (.istore_n 1, 1) := by decide +kernel
theorem dX6_undo_36 : decode cX6_undo 36 = .ok (.iload_n 1, 1) := by decide +kernel
theorem dX6_undo_37 : decode cX6_undo 37 = .ok (.bipush 16, 2) := by decide +kernel
theorem dX6_undo_39 : decode cX6_undo 39 = .ok (.if_icmp .ge 29, 3) := by decide +kernel
theorem dX6_undo_42 : decode cX6_undo 42 = .ok (.aload_n 0, 1) := by decide +kernel
theorem dX6_undo_43 : decode cX6_undo 43 = .ok (.getfield 22, 3) := by decide +kernel
theorem dX6_undo_46 : decode cX6_undo 46 = .ok (.iload_n 1, 1) := by decide +kernel
theorem dX6_undo_47 : decode cX6_undo 47 = .ok (.aload_n 0, 1) := by decide +kernel
theorem dX6_undo_48 : decode cX6_undo 48 = .ok (.getfield 41, 3) := by decide +kernel
theorem dX6_undo_51 : decode cX6_undo 51 = .ok (.bipush 16, 2) := by decide +kernel
theorem dX6_undo_53 : decode cX6_undo 53 = .ok (.aload_n 0, 1) := by decide +kernel
theorem dX6_undo_54 : decode cX6_undo 54 = .ok (.getfield 137, 3) := by decide +kernel
theorem dX6_undo_57 : decode cX6_undo 57 = .ok (.imul, 1) := by decide +kernel
theorem dX6_undo_58 : decode cX6_undo 58 = .ok (.iload_n 1, 1) := by decide +kernel
theorem dX6_undo_59 : decode cX6_undo 59 = .ok (.iadd, 1) := by decide +kernel
theorem dX6_undo_60 : decode cX6_undo 60 = .ok (.iaload, 1) := by decide +kernel
theorem dX6_undo_61 : decode cX6_undo 61 = .ok (.iastore, 1) := by decide +kernel
theorem dX6_undo_62 : decode cX6_undo 62 = .ok (.iinc 1 1, 3) := by decide +kernel
theorem dX6_undo_65 : decode cX6_undo 65 = .ok (.goto (-29), 3) := by decide +kernel
theorem dX6_undo_68 : decode cX6_undo 68 = .ok (.aload_n 0, 1) := by decide +kernel
theorem dX6_undo_69 : decode cX6_undo 69 = .ok (.getfield 99, 3) := by decide +kernel
theorem dX6_undo_72 : decode cX6_undo 72 = .ok (.ireturn, 1) := by decide +kernel
theorem dX6_layTrial_0 : decode cX6_layTrial 0 = .ok (.iconst 0, 1) := by decide +kernel
theorem dX6_layTrial_1 : decode cX6_layTrial 1 = .ok (.istore_n 1, 1) := by decide +kernel
theorem dX6_layTrial_2 : decode cX6_layTrial 2 = .ok (.iload_n 1, 1) := by decide +kernel
theorem dX6_layTrial_3 : decode cX6_layTrial 3 = .ok (.bipush 16, 2) := by decide +kernel
theorem dX6_layTrial_5 : decode cX6_layTrial 5 = .ok (.if_icmp .ge 24, 3) := by decide +kernel
theorem dX6_layTrial_8 : decode cX6_layTrial 8 = .ok (.aload_n 0, 1) := by decide +kernel
theorem dX6_layTrial_9 : decode cX6_layTrial 9 = .ok (.getfield 22, 3) := by decide +kernel
theorem dX6_layTrial_12 : decode cX6_layTrial 12 = .ok (.bipush 16, 2) := by decide +kernel
theorem dX6_layTrial_14 : decode cX6_layTrial 14 = .ok (.iload_n 1, 1) := by decide +kernel
theorem dX6_layTrial_15 : decode cX6_layTrial 15 = .ok (.iadd, 1) := by decide +kernel
theorem dX6_layTrial_16 : decode cX6_layTrial 16 = .ok (.aload_n 0, 1) := by decide +kernel
theorem dX6_layTrial_17 : decode cX6_layTrial 17 = .ok (.getfield 22, 3) := by decide +kernel
theorem dX6_layTrial_20 : decode cX6_layTrial 20 = .ok (.iload_n 1, 1) := by decide +kernel
theorem dX6_layTrial_21 : decode cX6_layTrial 21 = .ok (.iaload, 1) := by decide +kernel
theorem dX6_layTrial_22 : decode cX6_layTrial 22 = .ok (.iastore, 1) := by decide +kernel
theorem dX6_layTrial_23 : decode cX6_layTrial 23 = .ok (.iinc 1 1, 3) := by decide +kernel
theorem dX6_layTrial_26 : decode cX6_layTrial 26 = .ok (.goto (-24), 3) := by decide +kernel
theorem dX6_layTrial_29 : decode cX6_layTrial 29 = .ok (.return_, 1) := by decide +kernel
set_option maxRecDepth 20000 in
theorem ggX6_goOn_X6_passOn : GoodIn wsX6_goOn wsX6_passOn := goodIn_r _ [5, 6, 7, 8, 9, 10, 11, 12, 13, 4, 14, 15, 16, 17, 18, 19, 20, 21, 22, 23, 24, 25, 26, 27, 28, 29, 30, 31, 32, 33, 34, 35, 36, 37, 38, 39, 40, 41, 42, 43, 44, 45, 46, 47, 48, 49, 50, 51, 52, 53, 54, 55, 56, 57, 58, 59, 60, 61, 62, 63] (by decide +kernel) (by decide +kernel)
set_option maxRecDepth 20000 in
theorem gX6_goOn_X6_passOn : GoodIn wsX6_goOn (wsV RX6 143 RX6 yX6_passOn wsX6_passOn) := goodIn_app (goodIn_of _ (by decide +kernel)) ggX6_goOn_X6_passOn
theorem dX6_goOn_0 : decode cX6_goOn 0 = .ok (.iconst 0, 1) := by decide +kernel
theorem dX6_goOn_1 : decode cX6_goOn 1 = .ok (.istore_n 2, 1) := by decide +kernel
theorem dX6_goOn_2 : decode cX6_goOn 2 = .ok (.iload_n 2, 1) := by decide +kernel
theorem dX6_goOn_3 : decode cX6_goOn 3 = .ok (.iload_n 1, 1) := by decide +kernel
theorem dX6_goOn_4 : decode cX6_goOn 4 = .ok (.if_icmp .ge 15, 3) := by decide +kernel
theorem dX6_goOn_7 : decode cX6_goOn 7 = .ok (.aload_n 0, 1) := by decide +kernel
theorem dX6_goOn_8 : decode cX6_goOn 8 = .ok (.iconst 1, 1) := by decide +kernel
theorem dX6_goOn_9 : decode cX6_goOn 9 = .ok (.iconst 1, 1) := by decide +kernel
theorem dX6_goOn_10 : decode cX6_goOn 10 = .ok (.invokevirtual 143, 3) := by decide +kernel
theorem dX6_goOn_13 : decode cX6_goOn 13 = .ok (.iinc 2 1, 3) := by decide +kernel
theorem dX6_goOn_16 : decode cX6_goOn 16 = .ok (.goto (-14), 3) := by decide +kernel
theorem dX6_goOn_19 : decode cX6_goOn 19 = .ok (.return_, 1) := by decide +kernel
set_option maxRecDepth 20000 in
theorem ggX6_dust_X6_isStreet : GoodIn wsX6_dust wsX6_isStreet := goodIn_r _ [6, 7, 8, 9, 5, 10] (by decide +kernel) (by decide +kernel)
set_option maxRecDepth 20000 in
theorem gX6_dust_X6_isStreet : GoodIn wsX6_dust (va_wsS RX6 127 yX6_isStreet wsX6_isStreet) := goodIn_app (goodIn_of _ (by decide +kernel)) ggX6_dust_X6_isStreet
set_option maxRecDepth 20000 in
theorem ggX6_dust_X6_in : GoodIn wsX6_dust wsX6_in := goodIn_r _ [10] (by decide +kernel) (by decide +kernel)
set_option maxRecDepth 20000 in
theorem gX6_dust_X6_in : GoodIn wsX6_dust (va_wsS RX6 62 yX6_in wsX6_in) := goodIn_app (goodIn_of _ (by decide +kernel)) ggX6_dust_X6_in
set_option maxRecDepth 20000 in
theorem ggX6_dust_X6_layTrial : GoodIn wsX6_dust wsX6_layTrial := goodIn_r _ [14, 2, 53, 54, 55, 56, 57, 58, 59, 60, 61, 62, 63, 64, 65, 66, 67, 68, 69, 70, 71, 72, 73, 74, 75, 76, 77, 78, 79] (by decide +kernel) (by decide +kernel)
set_option maxRecDepth 20000 in
theorem gX6_dust_X6_layTrial : GoodIn wsX6_dust (wsV RX6 157 RX6 yX6_layTrial wsX6_layTrial) := goodIn_app (goodIn_of _ (by decide +kernel)) ggX6_dust_X6_layTrial
set_option maxRecDepth 20000 in
theorem ggX6_dust_X6_goOn : GoodIn wsX6_dust wsX6_goOn := goodIn_r _ [18, 19, 20, 21, 5, 22, 23, 2, 24, 25, 26, 27, 28, 29, 30, 31, 32, 33, 34, 35, 36, 37, 38, 39, 40, 41, 42, 43, 44, 45, 46, 47, 48, 49, 50, 51, 52, 53, 54, 55, 56, 57, 58, 59, 60, 61, 62, 63, 64, 65, 66, 67, 68, 69, 70, 71, 72, 73, 74, 75, 76, 77, 78, 79] (by decide +kernel) (by decide +kernel)
set_option maxRecDepth 20000 in
theorem gX6_dust_X6_goOn : GoodIn wsX6_dust (wsV RX6 160 RX6 yX6_goOn wsX6_goOn) := goodIn_app (goodIn_of _ (by decide +kernel)) ggX6_dust_X6_goOn
theorem dX6_dust_0 : decode cX6_dust 0 = .ok (.iload_n 1, 1) := by decide +kernel
theorem dX6_dust_1 : decode cX6_dust 1 = .ok (.invokestatic 127, 3) := by decide +kernel
theorem dX6_dust_4 : decode cX6_dust 4 = .ok (.ifCond .ne 5, 3) := by decide +kernel
theorem dX6_dust_7 : decode cX6_dust 7 = .ok (.iconst (-1), 1) := by decide +kernel
theorem dX6_dust_8 : decode cX6_dust 8 = .ok (.ireturn, 1) := by decide +kernel
theorem dX6_dust_9 : decode cX6_dust 9 = .ok (.iload_n 2, 1) := by decide +kernel
theorem dX6_dust_10 : decode cX6_dust 10 = .ok (.i2l, 1) := by decide +kernel
theorem dX6_dust_11 : decode cX6_dust 11 = .ok (.lconst 0, 1) := by decide +kernel
theorem dX6_dust_12 : decode cX6_dust 12 = .ok (.ldc2_w 155, 3) := by decide +kernel
theorem dX6_dust_15 : decode cX6_dust 15 = .ok (.invokestatic 62, 3) := by decide +kernel
theorem dX6_dust_18 : decode cX6_dust 18 = .ok (.ifCond .ne 6, 3) := by decide +kernel
theorem dX6_dust_21 : decode cX6_dust 21 = .ok (.bipush (-2), 2) := by decide +kernel
theorem dX6_dust_23 : decode cX6_dust 23 = .ok (.ireturn, 1) := by decide +kernel
theorem dX6_dust_24 : decode cX6_dust 24 = .ok (.aload_n 0, 1) := by decide +kernel
theorem dX6_dust_25 : decode cX6_dust 25 = .ok (.invokevirtual 157, 3) := by decide +kernel
theorem dX6_dust_28 : decode cX6_dust 28 = .ok (.aload_n 0, 1) := by decide +kernel
theorem dX6_dust_29 : decode cX6_dust 29 = .ok (.iload_n 2, 1) := by decide +kernel
theorem dX6_dust_30 : decode cX6_dust 30 = .ok (.invokevirtual 160, 3) := by decide +kernel
theorem dX6_dust_33 : decode cX6_dust 33 = .ok (.aload_n 0, 1) := by decide +kernel
theorem dX6_dust_34 : decode cX6_dust 34 = .ok (.getfield 22, 3) := by decide +kernel
theorem dX6_dust_37 : decode cX6_dust 37 = .ok (.bipush 16, 2) := by decide +kernel
theorem dX6_dust_39 : decode cX6_dust 39 = .ok (.iload_n 1, 1) := by decide +kernel
theorem dX6_dust_40 : decode cX6_dust 40 = .ok (.iadd, 1) := by decide +kernel
theorem dX6_dust_41 : decode cX6_dust 41 = .ok (.iaload, 1) := by decide +kernel
theorem dX6_dust_42 : decode cX6_dust 42 = .ok (.ireturn, 1) := by decide +kernel
set_option maxRecDepth 20000 in
theorem ggX6_knees_X6_in : GoodIn wsX6_knees wsX6_in := goodIn_r _ [5] (by decide +kernel) (by decide +kernel)
set_option maxRecDepth 20000 in
theorem gX6_knees_X6_in : GoodIn wsX6_knees (va_wsS RX6 62 yX6_in wsX6_in) := goodIn_app (goodIn_of _ (by decide +kernel)) ggX6_knees_X6_in
set_option maxRecDepth 20000 in
theorem ggX6_knees_X6_layTrial : GoodIn wsX6_knees wsX6_layTrial := goodIn_r _ [9, 10, 49, 50, 51, 52, 53, 54, 55, 56, 57, 58, 59, 60, 61, 62, 63, 64, 65, 66, 67, 68, 69, 70, 71, 72, 73, 74, 75] (by decide +kernel) (by decide +kernel)
set_option maxRecDepth 20000 in
theorem gX6_knees_X6_layTrial : GoodIn wsX6_knees (wsV RX6 157 RX6 yX6_layTrial wsX6_layTrial) := goodIn_app (goodIn_of _ (by decide +kernel)) ggX6_knees_X6_layTrial
set_option maxRecDepth 20000 in
theorem ggX6_knees_X6_goOn : GoodIn wsX6_knees wsX6_goOn := goodIn_r _ [14, 15, 16, 17, 4, 18, 19, 10, 20, 21, 22, 23, 24, 25, 26, 27, 28, 29, 30, 31, 32, 33, 34, 35, 36, 37, 38, 39, 40, 41, 42, 43, 44, 45, 46, 47, 48, 49, 50, 51, 52, 53, 54, 55, 56, 57, 58, 59, 60, 61, 62, 63, 64, 65, 66, 67, 68, 69, 70, 71, 72, 73, 74, 75] (by decide +kernel) (by decide +kernel)
set_option maxRecDepth 20000 in
theorem gX6_knees_X6_goOn : GoodIn wsX6_knees (wsV RX6 160 RX6 yX6_goOn wsX6_goOn) := goodIn_app (goodIn_of _ (by decide +kernel)) ggX6_knees_X6_goOn
set_option maxRecDepth 20000 in
theorem ggX6_knees_X6_kneesOn : GoodIn wsX6_knees wsX6_kneesOn := goodIn_r _ [48, 10, 49, 50, 51, 52, 53, 54, 55, 56, 57, 58, 59, 60, 61, 62, 63, 64, 65, 66, 67, 68, 69, 70, 71, 72, 73, 74, 75] (by decide +kernel) (by decide +kernel)
set_option maxRecDepth 20000 in
theorem gX6_knees_X6_kneesOn : GoodIn wsX6_knees (wsV RX6 123 RX6 yX6_kneesOn wsX6_kneesOn) := goodIn_app (goodIn_of _ (by decide +kernel)) ggX6_knees_X6_kneesOn
theorem dX6_knees_0 : decode cX6_knees 0 = .ok (.iload_n 1, 1) := by decide +kernel
theorem dX6_knees_1 : decode cX6_knees 1 = .ok (.i2l, 1) := by decide +kernel
theorem dX6_knees_2 : decode cX6_knees 2 = .ok (.lconst 0, 1) := by decide +kernel
theorem dX6_knees_3 : decode cX6_knees 3 = .ok (.ldc2_w 155, 3) := by decide +kernel
theorem dX6_knees_6 : decode cX6_knees 6 = .ok (.invokestatic 62, 3) := by decide +kernel
theorem dX6_knees_9 : decode cX6_knees 9 = .ok (.ifCond .ne 6, 3) := by decide +kernel
theorem dX6_knees_12 : decode cX6_knees 12 = .ok (.bipush (-2), 2) := by decide +kernel
theorem dX6_knees_14 : decode cX6_knees 14 = .ok (.ireturn, 1) := by decide +kernel
theorem dX6_knees_15 : decode cX6_knees 15 = .ok (.aload_n 0, 1) := by decide +kernel
theorem dX6_knees_16 : decode cX6_knees 16 = .ok (.invokevirtual 157, 3) := by decide +kernel
theorem dX6_knees_19 : decode cX6_knees 19 = .ok (.aload_n 0, 1) := by decide +kernel
theorem dX6_knees_20 : decode cX6_knees 20 = .ok (.iload_n 1, 1) := by decide +kernel
theorem dX6_knees_21 : decode cX6_knees 21 = .ok (.invokevirtual 160, 3) := by decide +kernel
theorem dX6_knees_24 : decode cX6_knees 24 = .ok (.aload_n 0, 1) := by decide +kernel
theorem dX6_knees_25 : decode cX6_knees 25 = .ok (.iconst 1, 1) := by decide +kernel
theorem dX6_knees_26 : decode cX6_knees 26 = .ok (.invokevirtual 123, 3) := by decide +kernel
theorem dX6_knees_29 : decode cX6_knees 29 = .ok (.ireturn, 1) := by decide +kernel
set_option maxRecDepth 20000 in
theorem ggX6_leastOf_X6_has : GoodIn wsX6_leastOf wsX6_has := goodIn_r _ [4] (by decide +kernel) (by decide +kernel)
set_option maxRecDepth 20000 in
theorem gX6_leastOf_X6_has : GoodIn wsX6_leastOf (va_wsS RX6 104 yX6_has wsX6_has) := goodIn_app (goodIn_of _ (by decide +kernel)) ggX6_leastOf_X6_has
theorem dX6_leastOf_0 : decode cX6_leastOf 0 = .ok (.iconst 0, 1) := by decide +kernel
theorem dX6_leastOf_1 : decode cX6_leastOf 1 = .ok (.istore_n 1, 1) := by decide +kernel
theorem dX6_leastOf_2 : decode cX6_leastOf 2 = .ok (.iload_n 1, 1) := by decide +kernel
theorem dX6_leastOf_3 : decode cX6_leastOf 3 = .ok (.bipush 8, 2) := by decide +kernel
theorem dX6_leastOf_5 : decode cX6_leastOf 5 = .ok (.if_icmp .ge 19, 3) := by decide +kernel
theorem dX6_leastOf_8 : decode cX6_leastOf 8 = .ok (.iload_n 0, 1) := by decide +kernel
theorem dX6_leastOf_9 : decode cX6_leastOf 9 = .ok (.iload_n 1, 1) := by decide +kernel
theorem dX6_leastOf_10 : decode cX6_leastOf 10 = .ok (.invokestatic 104, 3) := by decide +kernel
theorem dX6_leastOf_13 : decode cX6_leastOf 13 = .ok (.ifCond .eq 5, 3) := by decide +kernel
theorem dX6_leastOf_16 : decode cX6_leastOf 16 = .ok (.iload_n 1, 1) := by decide +kernel
theorem dX6_leastOf_17 : decode cX6_leastOf 17 = .ok (.ireturn, 1) := by decide +kernel
theorem dX6_leastOf_18 : decode cX6_leastOf 18 = .ok (.iinc 1 1, 3) := by decide +kernel
theorem dX6_leastOf_21 : decode cX6_leastOf 21 = .ok (.goto (-19), 3) := by decide +kernel
theorem dX6_leastOf_24 : decode cX6_leastOf 24 = .ok (.bipush (-9), 2) := by decide +kernel
theorem dX6_leastOf_26 : decode cX6_leastOf 26 = .ok (.ireturn, 1) := by decide +kernel
set_option maxRecDepth 20000 in
theorem ggX6_knee_X6_in : GoodIn wsX6_knee wsX6_in := goodIn_r _ [4] (by decide +kernel) (by decide +kernel)
set_option maxRecDepth 20000 in
theorem gX6_knee_X6_in : GoodIn wsX6_knee (va_wsS RX6 62 yX6_in wsX6_in) := goodIn_app (goodIn_of _ (by decide +kernel)) ggX6_knee_X6_in
set_option maxRecDepth 20000 in
theorem ggX6_knee_X6_layTrial : GoodIn wsX6_knee wsX6_layTrial := goodIn_r _ [8, 9, 47, 48, 49, 50, 51, 52, 53, 54, 55, 56, 57, 58, 59, 60, 61, 62, 63, 64, 65, 66, 67, 68, 69, 70, 71, 72, 73] (by decide +kernel) (by decide +kernel)
set_option maxRecDepth 20000 in
theorem gX6_knee_X6_layTrial : GoodIn wsX6_knee (wsV RX6 157 RX6 yX6_layTrial wsX6_layTrial) := goodIn_app (goodIn_of _ (by decide +kernel)) ggX6_knee_X6_layTrial
set_option maxRecDepth 20000 in
theorem ggX6_knee_X6_kneesOn : GoodIn wsX6_knee wsX6_kneesOn := goodIn_r _ [13, 9, 47, 48, 49, 50, 51, 52, 53, 54, 55, 56, 57, 58, 59, 60, 61, 62, 63, 64, 65, 66, 67, 68, 69, 70, 71, 72, 73] (by decide +kernel) (by decide +kernel)
set_option maxRecDepth 20000 in
theorem gX6_knee_X6_kneesOn : GoodIn wsX6_knee (wsV RX6 123 RX6 yX6_kneesOn wsX6_kneesOn) := goodIn_app (goodIn_of _ (by decide +kernel)) ggX6_knee_X6_kneesOn
set_option maxRecDepth 20000 in
theorem ggX6_knee_X6_leastOf : GoodIn wsX6_knee wsX6_leastOf := goodIn_r _ [16, 17, 18, 3, 19] (by decide +kernel) (by decide +kernel)
set_option maxRecDepth 20000 in
theorem gX6_knee_X6_leastOf : GoodIn wsX6_knee (va_wsS RX6 163 yX6_leastOf wsX6_leastOf) := goodIn_app (goodIn_of _ (by decide +kernel)) ggX6_knee_X6_leastOf
set_option maxRecDepth 20000 in
theorem ggX6_knee_X6_passOn : GoodIn wsX6_knee wsX6_passOn := goodIn_r _ [23, 24, 9, 25, 26, 27, 28, 29, 30, 3, 31, 32, 33, 34, 35, 36, 37, 38, 39, 40, 41, 42, 17, 18, 19, 43, 44, 45, 46, 10, 11, 12, 13, 47, 48, 49, 50, 51, 52, 53, 54, 55, 56, 57, 58, 59, 60, 61, 62, 63, 64, 65, 66, 67, 68, 69, 70, 71, 72, 73] (by decide +kernel) (by decide +kernel)
set_option maxRecDepth 20000 in
theorem gX6_knee_X6_passOn : GoodIn wsX6_knee (wsV RX6 143 RX6 yX6_passOn wsX6_passOn) := goodIn_app (goodIn_of _ (by decide +kernel)) ggX6_knee_X6_passOn
theorem dX6_knee_0 : decode cX6_knee 0 = .ok (.iload_n 1, 1) := by decide +kernel
theorem dX6_knee_1 : decode cX6_knee 1 = .ok (.i2l, 1) := by decide +kernel
theorem dX6_knee_2 : decode cX6_knee 2 = .ok (.lconst 0, 1) := by decide +kernel
theorem dX6_knee_3 : decode cX6_knee 3 = .ok (.lconst 1, 1) := by decide +kernel
theorem dX6_knee_4 : decode cX6_knee 4 = .ok (.invokestatic 62, 3) := by decide +kernel
theorem dX6_knee_7 : decode cX6_knee 7 = .ok (.ifCond .ne 6, 3) := by decide +kernel
theorem dX6_knee_10 : decode cX6_knee 10 = .ok (.bipush (-2), 2) := by decide +kernel
theorem dX6_knee_12 : decode cX6_knee 12 = .ok (.ireturn, 1) := by decide +kernel
theorem dX6_knee_13 : decode cX6_knee 13 = .ok (.aload_n 0, 1) := by decide +kernel
theorem dX6_knee_14 : decode cX6_knee 14 = .ok (.invokevirtual 157, 3) := by decide +kernel
theorem dX6_knee_17 : decode cX6_knee 17 = .ok (.iconst 0, 1) := by decide +kernel
theorem dX6_knee_18 : decode cX6_knee 18 = .ok (.istore_n 2, 1) := by decide +kernel
theorem dX6_knee_19 : decode cX6_knee 19 = .ok (.iload_n 2, 1) := by decide +kernel
theorem dX6_knee_20 : decode cX6_knee 20 = .ok (.bipush 31, 2) := by decide +kernel
theorem dX6_knee_22 : decode cX6_knee 22 = .ok (.if_icmp .ge 38, 3) := by decide +kernel
theorem dX6_knee_25 : decode cX6_knee 25 = .ok (.aload_n 0, 1) := by decide +kernel
theorem dX6_knee_26 : decode cX6_knee 26 = .ok (.iconst 1, 1) := by decide +kernel
theorem dX6_knee_27 : decode cX6_knee 27 = .ok (.invokevirtual 123, 3) := by decide +kernel
theorem dX6_knee_30 : decode cX6_knee 30 = .ok (.istore_n 3, 1) := by decide +kernel
theorem dX6_knee_31 : decode cX6_knee 31 = .ok (.iload_n 3, 1) := by decide +kernel
theorem dX6_knee_32 : decode cX6_knee 32 = .ok (.ifCond .eq 16, 3) := by decide +kernel
theorem dX6_knee_35 : decode cX6_knee 35 = .ok (.iload_n 1, 1) := by decide +kernel
theorem dX6_knee_36 : decode cX6_knee 36 = .ok (.ifCond .ne 7, 3) := by decide +kernel
theorem dX6_knee_39 : decode cX6_knee 39 = .ok (.iload_n 2, 1) := by decide +kernel
theorem dX6_knee_40 : decode cX6_knee 40 = .ok (.goto 7, 3) := by decide +kernel
theorem dX6_knee_43 : decode cX6_knee 43 = .ok (.iload_n 3, 1) := by decide +kernel
theorem dX6_knee_44 : decode cX6_knee 44 = .ok (.invokestatic 163, 3) := by decide +kernel
theorem dX6_knee_47 : decode cX6_knee 47 = .ok (.ireturn, 1) := by decide +kernel
theorem dX6_knee_48 : decode cX6_knee 48 = .ok (.aload_n 0, 1) := by decide +kernel
theorem dX6_knee_49 : decode cX6_knee 49 = .ok (.iconst 1, 1) := by decide +kernel
theorem dX6_knee_50 : decode cX6_knee 50 = .ok (.iconst 1, 1) := by decide +kernel
theorem dX6_knee_51 : decode cX6_knee 51 = .ok (.invokevirtual 143, 3) := by decide +kernel
theorem dX6_knee_54 : decode cX6_knee 54 = .ok (.iinc 2 1, 3) := by decide +kernel
theorem dX6_knee_57 : decode cX6_knee 57 = .ok (.goto (-38), 3) := by decide +kernel
theorem dX6_knee_60 : decode cX6_knee 60 = .ok (.bipush (-9), 2) := by decide +kernel
theorem dX6_knee_62 : decode cX6_knee 62 = .ok (.ireturn, 1) := by decide +kernel
set_option maxRecDepth 20000 in
theorem ggX6_best_X6_isBroom : GoodIn wsX6_best wsX6_isBroom := goodIn_r _ [7, 8, 9, 10, 6, 11, 57, 58, 59, 60, 61, 62, 63, 64, 65, 66, 67, 68, 69, 70, 71, 72, 73, 74, 75, 76, 77, 78, 79, 80, 81, 82, 83] (by decide +kernel) (by decide +kernel)
set_option maxRecDepth 20000 in
theorem gX6_best_X6_isBroom : GoodIn wsX6_best (wsV RX6 134 RX6 yX6_isBroom wsX6_isBroom) := goodIn_app (goodIn_of _ (by decide +kernel)) ggX6_best_X6_isBroom
set_option maxRecDepth 20000 in
theorem ggX6_best_X6_in : GoodIn wsX6_best wsX6_in := goodIn_r _ [11] (by decide +kernel) (by decide +kernel)
set_option maxRecDepth 20000 in
theorem gX6_best_X6_in : GoodIn wsX6_best (va_wsS RX6 62 yX6_in wsX6_in) := goodIn_app (goodIn_of _ (by decide +kernel)) ggX6_best_X6_in
set_option maxRecDepth 20000 in
theorem ggX6_best_X6_layTrial : GoodIn wsX6_best wsX6_layTrial := goodIn_r _ [15, 2, 57, 58, 59, 60, 61, 62, 63, 64, 65, 66, 67, 68, 69, 70, 71, 72, 73, 74, 75, 76, 77, 78, 79, 80, 81, 82, 83] (by decide +kernel) (by decide +kernel)
set_option maxRecDepth 20000 in
theorem gX6_best_X6_layTrial : GoodIn wsX6_best (wsV RX6 157 RX6 yX6_layTrial wsX6_layTrial) := goodIn_app (goodIn_of _ (by decide +kernel)) ggX6_best_X6_layTrial
set_option maxRecDepth 20000 in
theorem ggX6_best_X6_goOn : GoodIn wsX6_best wsX6_goOn := goodIn_r _ [19, 20, 21, 22, 6, 23, 24, 2, 25, 26, 8, 27, 28, 29, 30, 31, 32, 33, 34, 35, 36, 37, 38, 39, 40, 41, 42, 43, 44, 45, 46, 47, 48, 49, 50, 51, 52, 57, 58, 59, 60, 61, 62, 63, 64, 65, 66, 67, 68, 69, 70, 71, 72, 73, 74, 75, 76, 77, 78, 79, 80, 81, 82, 83] (by decide +kernel) (by decide +kernel)
set_option maxRecDepth 20000 in
theorem gX6_best_X6_goOn : GoodIn wsX6_best (wsV RX6 160 RX6 yX6_goOn wsX6_goOn) := goodIn_app (goodIn_of _ (by decide +kernel)) ggX6_best_X6_goOn
set_option maxRecDepth 20000 in
theorem ggX6_best_X6_dustOn : GoodIn wsX6_best wsX6_dustOn := goodIn_r _ [56, 2, 57, 58, 59, 60, 61, 62, 63, 64, 65, 66, 67, 68, 69, 70, 71, 72, 73, 74, 75, 76, 77, 78, 79, 80, 81, 82, 83] (by decide +kernel) (by decide +kernel)
set_option maxRecDepth 20000 in
theorem gX6_best_X6_dustOn : GoodIn wsX6_best (wsV RX6 146 RX6 yX6_dustOn wsX6_dustOn) := goodIn_app (goodIn_of _ (by decide +kernel)) ggX6_best_X6_dustOn
theorem dX6_best_0 : decode cX6_best 0 = .ok (.aload_n 0, 1) := by decide +kernel
theorem dX6_best_1 : decode cX6_best 1 = .ok (.iload_n 1, 1) := by decide +kernel
theorem dX6_best_2 : decode cX6_best 2 = .ok (.invokevirtual 134, 3) := by decide +kernel
theorem dX6_best_5 : decode cX6_best 5 = .ok (.ifCond .ne 5, 3) := by decide +kernel
theorem dX6_best_8 : decode cX6_best 8 = .ok (.iconst (-1), 1) := by decide +kernel
theorem dX6_best_9 : decode cX6_best 9 = .ok (.ireturn, 1) := by decide +kernel
theorem dX6_best_10 : decode cX6_best 10 = .ok (.iload_n 2, 1) := by decide +kernel
theorem dX6_best_11 : decode cX6_best 11 = .ok (.i2l, 1) := by decide +kernel
theorem dX6_best_12 : decode cX6_best 12 = .ok (.lconst 1, 1) := by decide +kernel
theorem dX6_best_13 : decode cX6_best 13 = .ok (.ldc2_w 166, 3) := by decide +kernel
theorem dX6_best_16 : decode cX6_best 16 = .ok (.invokestatic 62, 3) := by decide +kernel
theorem dX6_best_19 : decode cX6_best 19 = .ok (.ifCond .eq 13, 3) := by decide +kernel
theorem dX6_best_22 : decode cX6_best 22 = .ok (.iload_n 3, 1) := by decide +kernel
theorem dX6_best_23 : decode cX6_best 23 = .ok (.i2l, 1) := by decide +kernel
theorem dX6_best_24 : decode cX6_best 24 = .ok (.lconst 0, 1) := by decide +kernel
theorem dX6_best_25 : decode cX6_best 25 = .ok (.lconst 1, 1) := by decide +kernel
theorem dX6_best_26 : decode cX6_best 26 = .ok (.invokestatic 62, 3) := by decide +kernel
theorem dX6_best_29 : decode cX6_best 29 = .ok (.ifCond .ne 6, 3) := by decide +kernel
theorem dX6_best_32 : decode cX6_best 32 = .ok (.bipush (-2), 2) := by decide +kernel
theorem dX6_best_34 : decode cX6_best 34 = .ok (.ireturn, 1) := by decide +kernel
theorem dX6_best_35 : decode cX6_best 35 = .ok (.bipush (-9), 2) := by decide +kernel
theorem dX6_best_37 : decode cX6_best 37 = .ok (.istore 4, 2) := by decide +kernel
theorem dX6_best_39 : decode cX6_best 39 = .ok (.sipush 9999, 3) := by decide +kernel
theorem dX6_best_42 : decode cX6_best 42 = .ok (.istore 5, 2) := by decide +kernel
theorem dX6_best_44 : decode cX6_best 44 = .ok (.iconst 0, 1) := by decide +kernel
theorem dX6_best_45 : decode cX6_best 45 = .ok (.istore 6, 2) := by decide +kernel
theorem dX6_best_47 : decode cX6_best 47 = .ok (.iload 6, 2) := by decide +kernel
theorem dX6_best_49 : decode cX6_best 49 = .ok (.bipush 8, 2) := by decide +kernel
theorem dX6_best_51 : decode cX6_best 51 = .ok (.if_icmp .ge 68, 3) := by decide +kernel
theorem dX6_best_54 : decode cX6_best 54 = .ok (.aload_n 0, 1) := by decide +kernel
theorem dX6_best_55 : decode cX6_best 55 = .ok (.invokevirtual 157, 3) := by decide +kernel
theorem dX6_best_58 : decode cX6_best 58 = .ok (.aload_n 0, 1) := by decide +kernel
theorem dX6_best_59 : decode cX6_best 59 = .ok (.getfield 22, 3) := by decide +kernel
theorem dX6_best_62 : decode cX6_best 62 = .ok (.bipush 24, 2) := by decide +kernel
theorem dX6_best_64 : decode cX6_best 64 = .ok (.iload_n 1, 1) := by decide +kernel
theorem dX6_best_65 : decode cX6_best 65 = .ok (.iadd, 1) := by decide +kernel
theorem dX6_best_66 : decode cX6_best 66 = .ok (.iload 6, 2) := by decide +kernel
theorem dX6_best_68 : decode cX6_best 68 = .ok (.iastore, 1) := by decide +kernel
theorem dX6_best_69 : decode cX6_best 69 = .ok (.aload_n 0, 1) := by decide +kernel
theorem dX6_best_70 : decode cX6_best 70 = .ok (.iload_n 2, 1) := by decide +kernel
theorem dX6_best_71 : decode cX6_best 71 = .ok (.invokevirtual 160, 3) := by decide +kernel
theorem dX6_best_74 : decode cX6_best 74 = .ok (.aload_n 0, 1) := by decide +kernel
theorem dX6_best_75 : decode cX6_best 75 = .ok (.iconst 1, 1) := by decide +kernel
theorem dX6_best_76 : decode cX6_best 76 = .ok (.invokevirtual 146, 3) := by decide +kernel
theorem dX6_best_79 : decode cX6_best 79 = .ok (.istore 7, 2) := by decide +kernel
theorem dX6_best_81 : decode cX6_best 81 = .ok (.iload 7, 2) := by decide +kernel
theorem dX6_best_83 : decode cX6_best 83 = .ok (.iload 5, 2) := by decide +kernel
theorem dX6_best_85 : decode cX6_best 85 = .ok (.if_icmp .ge 8, 3) := by decide +kernel
theorem dX6_best_88 : decode cX6_best 88 = .ok (.iload 6, 2) := by decide +kernel
theorem dX6_best_90 : decode cX6_best 90 = .ok (.goto 5, 3) := by decide +kernel
theorem dX6_best_93 : decode cX6_best 93 = .ok (.iload 4, 2) := by decide +kernel
theorem dX6_best_95 : decode cX6_best 95 = .ok (.istore 4, 2) := by decide +kernel
theorem dX6_best_97 : decode cX6_best 97 = .ok (.iload 7, 2) := by decide +kernel
theorem dX6_best_99 : decode cX6_best 99 = .ok (.iload 5, 2) := by decide +kernel
theorem dX6_best_101 : decode cX6_best 101 = .ok (.if_icmp .ge 8, 3) := by decide +kernel
theorem dX6_best_104 : decode cX6_best 104 = .ok (.iload 7, 2) := by decide +kernel
theorem dX6_best_106 : decode cX6_best 106 = .ok (.goto 5, 3) := by decide +kernel
theorem dX6_best_109 : decode cX6_best 109 = .ok (.iload 5, 2) := by decide +kernel
theorem dX6_best_111 : decode cX6_best 111 = .ok (.istore 5, 2) := by decide +kernel
theorem dX6_best_113 : decode cX6_best 113 = .ok (.iinc 6 1, 3) := by decide +kernel
theorem dX6_best_116 : decode cX6_best 116 = .ok (.goto (-69), 3) := by decide +kernel
theorem dX6_best_119 : decode cX6_best 119 = .ok (.iload_n 3, 1) := by decide +kernel
theorem dX6_best_120 : decode cX6_best 120 = .ok (.ifCond .ne 8, 3) := by decide +kernel
theorem dX6_best_123 : decode cX6_best 123 = .ok (.iload 4, 2) := by decide +kernel
theorem dX6_best_125 : decode cX6_best 125 = .ok (.goto 5, 3) := by decide +kernel
theorem dX6_best_128 : decode cX6_best 128 = .ok (.iload 5, 2) := by decide +kernel
theorem dX6_best_130 : decode cX6_best 130 = .ok (.ireturn, 1) := by decide +kernel
set_option maxRecDepth 20000 in
theorem ggX6_keepsBelow_X6_layTrial : GoodIn wsX6_keepsBelow wsX6_layTrial := goodIn_r _ [6, 1, 41, 42, 43, 44, 45, 46, 47, 48, 49, 50, 51, 52, 53, 54, 55, 56, 57, 58, 59, 60, 61, 62, 63, 64, 65, 66, 67] (by decide +kernel) (by decide +kernel)
set_option maxRecDepth 20000 in
theorem gX6_keepsBelow_X6_layTrial : GoodIn wsX6_keepsBelow (wsV RX6 157 RX6 yX6_layTrial wsX6_layTrial) := goodIn_app (goodIn_of _ (by decide +kernel)) ggX6_keepsBelow_X6_layTrial
set_option maxRecDepth 20000 in
theorem ggX6_keepsBelow_X6_passOn : GoodIn wsX6_keepsBelow wsX6_passOn := goodIn_r _ [10, 11, 1, 12, 13, 14, 15, 16, 17, 5, 18, 19, 20, 21, 22, 23, 24, 25, 26, 27, 28, 29, 30, 31, 32, 33, 34, 35, 36, 37, 38, 39, 40, 41, 42, 43, 44, 45, 46, 47, 48, 49, 50, 51, 52, 53, 54, 55, 56, 57, 58, 59, 60, 61, 62, 63, 64, 65, 66, 67] (by decide +kernel) (by decide +kernel)
set_option maxRecDepth 20000 in
theorem gX6_keepsBelow_X6_passOn : GoodIn wsX6_keepsBelow (wsV RX6 143 RX6 yX6_passOn wsX6_passOn) := goodIn_app (goodIn_of _ (by decide +kernel)) ggX6_keepsBelow_X6_passOn
set_option maxRecDepth 20000 in
theorem ggX6_keepsBelow_X6_kneesOn : GoodIn wsX6_keepsBelow wsX6_kneesOn := goodIn_r _ [40, 1, 41, 42, 43, 44, 45, 46, 47, 48, 49, 50, 51, 52, 53, 54, 55, 56, 57, 58, 59, 60, 61, 62, 63, 64, 65, 66, 67] (by decide +kernel) (by decide +kernel)
set_option maxRecDepth 20000 in
theorem gX6_keepsBelow_X6_kneesOn : GoodIn wsX6_keepsBelow (wsV RX6 123 RX6 yX6_kneesOn wsX6_kneesOn) := goodIn_app (goodIn_of _ (by decide +kernel)) ggX6_keepsBelow_X6_kneesOn
theorem dX6_keepsBelow_0 : decode cX6_keepsBelow 0 = .ok (.aload_n 0, 1) := by decide +kernel
theorem dX6_keepsBelow_1 : decode cX6_keepsBelow 1 = .ok (.invokevirtual 157, 3) := by decide +kernel
theorem dX6_keepsBelow_4 : decode cX6_keepsBelow 4 = .ok (.aload_n 0, 1) := by decide +kernel
theorem dX6_keepsBelow_5 : decode cX6_keepsBelow 5 = .ok (.getfield 22, 3) := by decide +kernel
theorem dX6_keepsBelow_8 : decode cX6_keepsBelow 8 = .ok (.bipush 30, 2) := by decide +kernel
theorem dX6_keepsBelow_10 : decode cX6_keepsBelow 10 = .ok (.dup2, 1) := by decide +kernel
theorem dX6_keepsBelow_11 : decode cX6_keepsBelow 11 = .ok (.iaload, 1) := by decide +kernel
theorem dX6_keepsBelow_12 : decode cX6_keepsBelow 12 = .ok (.iload_n 1, 1) := by decide +kernel
theorem dX6_keepsBelow_13 : decode cX6_keepsBelow 13 = .ok (.ior, 1) := by decide +kernel
theorem dX6_keepsBelow_14 : decode cX6_keepsBelow 14 = .ok (.iastore, 1) := by decide +kernel
theorem dX6_keepsBelow_15 : decode cX6_keepsBelow 15 = .ok (.iconst 0, 1) := by decide +kernel
theorem dX6_keepsBelow_16 : decode cX6_keepsBelow 16 = .ok (.istore_n 3, 1) := by decide +kernel
theorem dX6_keepsBelow_17 : decode cX6_keepsBelow 17 = .ok (.iload_n 3, 1) := by decide +kernel
theorem dX6_keepsBelow_18 : decode cX6_keepsBelow 18 = .ok (.iload_n 2, 1) := by decide +kernel
theorem dX6_keepsBelow_19 : decode cX6_keepsBelow 19 = .ok (.if_icmp .ge 25, 3) := by decide +kernel
theorem dX6_keepsBelow_22 : decode cX6_keepsBelow 22 = .ok (.aload_n 0, 1) := by decide +kernel
theorem dX6_keepsBelow_23 : decode cX6_keepsBelow 23 = .ok (.iconst 1, 1) := by decide +kernel
theorem dX6_keepsBelow_24 : decode cX6_keepsBelow 24 = .ok (.iconst 1, 1) := by decide +kernel
theorem dX6_keepsBelow_25 : decode cX6_keepsBelow 25 = .ok (.invokevirtual 143, 3) := by decide +kernel
theorem dX6_keepsBelow_28 : decode cX6_keepsBelow 28 = .ok (.aload_n 0, 1) := by decide +kernel
theorem dX6_keepsBelow_29 : decode cX6_keepsBelow 29 = .ok (.iconst 1, 1) := by decide +kernel
theorem dX6_keepsBelow_30 : decode cX6_keepsBelow 30 = .ok (.invokevirtual 123, 3) := by decide +kernel
theorem dX6_keepsBelow_33 : decode cX6_keepsBelow 33 = .ok (.ifCond .eq 5, 3) := by decide +kernel
theorem dX6_keepsBelow_36 : decode cX6_keepsBelow 36 = .ok (.iconst 0, 1) := by decide +kernel
theorem dX6_keepsBelow_37 : decode cX6_keepsBelow 37 = .ok (.ireturn, 1) := by decide +kernel
theorem dX6_keepsBelow_38 : decode cX6_keepsBelow 38 = .ok (.iinc 3 1, 3) := by decide +kernel
theorem dX6_keepsBelow_41 : decode cX6_keepsBelow 41 = .ok (.goto (-24), 3) := by decide +kernel
theorem dX6_keepsBelow_44 : decode cX6_keepsBelow 44 = .ok (.iconst 1, 1) := by decide +kernel
theorem dX6_keepsBelow_45 : decode cX6_keepsBelow 45 = .ok (.ireturn, 1) := by decide +kernel
set_option maxRecDepth 20000 in
theorem ggX6_bends_X6_in : GoodIn wsX6_bends wsX6_in := goodIn_r _ [7] (by decide +kernel) (by decide +kernel)
set_option maxRecDepth 20000 in
theorem gX6_bends_X6_in : GoodIn wsX6_bends (va_wsS RX6 62 yX6_in wsX6_in) := goodIn_app (goodIn_of _ (by decide +kernel)) ggX6_bends_X6_in
set_option maxRecDepth 20000 in
theorem ggX6_bends_X6_ones : GoodIn wsX6_bends wsX6_ones := goodIn_r _ [10] (by decide +kernel) (by decide +kernel)
set_option maxRecDepth 20000 in
theorem gX6_bends_X6_ones : GoodIn wsX6_bends (va_wsS RX6 152 yX6_ones wsX6_ones) := goodIn_app (goodIn_of _ (by decide +kernel)) ggX6_bends_X6_ones
set_option maxRecDepth 20000 in
theorem ggX6_bends_X6_keepsBelow : GoodIn wsX6_bends wsX6_keepsBelow := goodIn_r _ [14, 3, 15, 16, 17, 6, 18, 19, 20, 21, 22, 23, 24, 25, 2, 26, 27, 28, 29, 30, 31, 32, 33, 34, 35, 36, 37, 38, 39, 40, 41, 42, 43, 44, 45, 46, 47, 48, 49, 50, 51, 52, 53, 54, 55, 56, 57, 58, 59, 60, 61, 62, 63, 64, 65, 66, 67, 68, 69, 70, 71, 72, 73, 74, 75, 76, 77, 78] (by decide +kernel) (by decide +kernel)
set_option maxRecDepth 20000 in
theorem gX6_bends_X6_keepsBelow : GoodIn wsX6_bends (wsV RX6 168 RX6 yX6_keepsBelow wsX6_keepsBelow) := goodIn_app (goodIn_of _ (by decide +kernel)) ggX6_bends_X6_keepsBelow
theorem dX6_bends_0 : decode cX6_bends 0 = .ok (.iload_n 1, 1) := by decide +kernel
theorem dX6_bends_1 : decode cX6_bends 1 = .ok (.i2l, 1) := by decide +kernel
theorem dX6_bends_2 : decode cX6_bends 2 = .ok (.lconst 1, 1) := by decide +kernel
theorem dX6_bends_3 : decode cX6_bends 3 = .ok (.ldc2_w 166, 3) := by decide +kernel
theorem dX6_bends_6 : decode cX6_bends 6 = .ok (.invokestatic 62, 3) := by decide +kernel
theorem dX6_bends_9 : decode cX6_bends 9 = .ok (.ifCond .ne 6, 3) := by decide +kernel
theorem dX6_bends_12 : decode cX6_bends 12 = .ok (.bipush (-2), 2) := by decide +kernel
theorem dX6_bends_14 : decode cX6_bends 14 = .ok (.ireturn, 1) := by decide +kernel
theorem dX6_bends_15 : decode cX6_bends 15 = .ok (.bipush (-9), 2) := by decide +kernel
theorem dX6_bends_17 : decode cX6_bends 17 = .ok (.istore_n 2, 1) := by decide +kernel
theorem dX6_bends_18 : decode cX6_bends 18 = .ok (.iconst 0, 1) := by decide +kernel
theorem dX6_bends_19 : decode cX6_bends 19 = .ok (.istore_n 3, 1) := by decide +kernel
theorem dX6_bends_20 : decode cX6_bends 20 = .ok (.iload_n 3, 1) := by decide +kernel
theorem dX6_bends_21 : decode cX6_bends 21 = .ok (.iconst 1, 1) := by decide +kernel
theorem dX6_bends_22 : decode cX6_bends 22 = .ok (.aload_n 0, 1) := by decide +kernel
theorem dX6_bends_23 : decode cX6_bends 23 = .ok (.getfield 93, 3) := by decide +kernel
theorem dX6_bends_26 : decode cX6_bends 26 = .ok (.ishl, 1) := by decide +kernel
theorem dX6_bends_27 : decode cX6_bends 27 = .ok (.if_icmp .ge 65, 3) := by decide +kernel
theorem dX6_bends_30 : decode cX6_bends 30 = .ok (.iload_n 2, 1) := by decide +kernel
theorem dX6_bends_31 : decode cX6_bends 31 = .ok (.bipush (-9), 2) := by decide +kernel
theorem dX6_bends_33 : decode cX6_bends 33 = .ok (.if_icmp .eq 14, 3) := by decide +kernel
theorem dX6_bends_36 : decode cX6_bends 36 = .ok (.iload_n 3, 1) := by decide +kernel
theorem dX6_bends_37 : decode cX6_bends 37 = .ok (.invokestatic 152, 3) := by decide +kernel
theorem dX6_bends_40 : decode cX6_bends 40 = .ok (.iload_n 2, 1) := by decide +kernel
theorem dX6_bends_41 : decode cX6_bends 41 = .ok (.invokestatic 152, 3) := by decide +kernel
theorem dX6_bends_44 : decode cX6_bends 44 = .ok (.if_icmp .ge 7, 3) := by decide +kernel
theorem dX6_bends_47 : decode cX6_bends 47 = .ok (.iconst 1, 1) := by decide +kernel
theorem dX6_bends_48 : decode cX6_bends 48 = .ok (.goto 4, 3) := by decide +kernel
theorem dX6_bends_51 : decode cX6_bends 51 = .ok (.iconst 0, 1) := by decide +kernel
theorem dX6_bends_52 : decode cX6_bends 52 = .ok (.istore 4, 2) := by decide +kernel
theorem dX6_bends_54 : decode cX6_bends 54 = .ok (.iload 4, 2) := by decide +kernel
theorem dX6_bends_56 : decode cX6_bends 56 = .ok (.ifCond .eq 28, 3) := by decide +kernel
theorem dX6_bends_59 : decode cX6_bends 59 = .ok (.iload_n 3, 1) := by decide +kernel
theorem dX6_bends_60 : decode cX6_bends 60 = .ok (.aload_n 0, 1) := by decide +kernel
theorem dX6_bends_61 : decode cX6_bends 61 = .ok (.getfield 22, 3) := by decide +kernel
theorem dX6_bends_64 : decode cX6_bends 64 = .ok (.bipush 14, 2) := by decide +kernel
theorem dX6_bends_66 : decode cX6_bends 66 = .ok (.iaload, 1) := by decide +kernel
theorem dX6_bends_67 : decode cX6_bends 67 = .ok (.iand, 1) := by decide +kernel
theorem dX6_bends_68 : decode cX6_bends 68 = .ok (.ifCond .ne 16, 3) := by decide +kernel
theorem dX6_bends_71 : decode cX6_bends 71 = .ok (.aload_n 0, 1) := by decide +kernel
theorem dX6_bends_72 : decode cX6_bends 72 = .ok (.iload_n 3, 1) := by decide +kernel
theorem dX6_bends_73 : decode cX6_bends 73 = .ok (.iload_n 1, 1) := by decide +kernel
theorem dX6_bends_74 : decode cX6_bends 74 = .ok (.invokevirtual 168, 3) := by decide +kernel
theorem dX6_bends_77 : decode cX6_bends 77 = .ok (.ifCond .eq 7, 3) := by decide +kernel
theorem dX6_bends_80 : decode cX6_bends 80 = .ok (.iload_n 3, 1) := by decide +kernel
theorem dX6_bends_81 : decode cX6_bends 81 = .ok (.goto 4, 3) := by decide +kernel
theorem dX6_bends_84 : decode cX6_bends 84 = .ok (.iload_n 2, 1) := by decide +kernel
theorem dX6_bends_85 : decode cX6_bends 85 = .ok (.istore_n 2, 1) := by decide +kernel
theorem dX6_bends_86 : decode cX6_bends 86 = .ok (.iinc 3 1, 3) := by decide +kernel
theorem dX6_bends_89 : decode cX6_bends 89 = .ok (.goto (-69), 3) := by decide +kernel
theorem dX6_bends_92 : decode cX6_bends 92 = .ok (.iload_n 2, 1) := by decide +kernel
theorem dX6_bends_93 : decode cX6_bends 93 = .ok (.ireturn, 1) := by decide +kernel
set_option maxRecDepth 20000 in
theorem ggX6_tryThing_X6_passOn : GoodIn wsX6_tryThing wsX6_passOn := goodIn_r _ [6, 7, 1, 8, 9, 10, 11, 12, 13, 5, 14, 15, 16, 17, 18, 19, 20, 21, 22, 23, 24, 25, 26, 27, 28, 29, 30, 31, 32, 33, 34, 35, 36, 52, 53, 54, 55, 56, 57, 58, 59, 60, 61, 62, 63, 64, 65, 66, 67, 68, 69, 70, 71, 72, 73, 74, 75, 76, 77, 78] (by decide +kernel) (by decide +kernel)
set_option maxRecDepth 20000 in
theorem gX6_tryThing_X6_passOn : GoodIn wsX6_tryThing (wsV RX6 143 RX6 yX6_passOn wsX6_passOn) := goodIn_app (goodIn_of _ (by decide +kernel)) ggX6_tryThing_X6_passOn
set_option maxRecDepth 20000 in
theorem ggX6_tryThing_X6_isBroom : GoodIn wsX6_tryThing wsX6_isBroom := goodIn_r _ [40, 10, 41, 42, 5, 43, 52, 53, 54, 55, 56, 57, 58, 59, 60, 61, 62, 63, 64, 65, 66, 67, 68, 69, 70, 71, 72, 73, 74, 75, 76, 77, 78] (by decide +kernel) (by decide +kernel)
set_option maxRecDepth 20000 in
theorem gX6_tryThing_X6_isBroom : GoodIn wsX6_tryThing (wsV RX6 134 RX6 yX6_isBroom wsX6_isBroom) := goodIn_app (goodIn_of _ (by decide +kernel)) ggX6_tryThing_X6_isBroom
set_option maxRecDepth 20000 in
theorem ggX6_tryThing_X6_in : GoodIn wsX6_tryThing wsX6_in := goodIn_r _ [43] (by decide +kernel) (by decide +kernel)
set_option maxRecDepth 20000 in
theorem gX6_tryThing_X6_in : GoodIn wsX6_tryThing (va_wsS RX6 62 yX6_in wsX6_in) := goodIn_app (goodIn_of _ (by decide +kernel)) ggX6_tryThing_X6_in
set_option maxRecDepth 20000 in
theorem ggX6_tryThing_X6_walkOn : GoodIn wsX6_tryThing wsX6_walkOn := goodIn_r _ [47, 1, 52, 53, 54, 55, 56, 57, 58, 59, 60, 61, 62, 63, 64, 65, 66, 67, 68, 69, 70, 71, 72, 73, 74, 75, 76, 77, 78] (by decide +kernel) (by decide +kernel)
set_option maxRecDepth 20000 in
theorem gX6_tryThing_X6_walkOn : GoodIn wsX6_tryThing (wsV RX6 149 RX6 yX6_walkOn wsX6_walkOn) := goodIn_app (goodIn_of _ (by decide +kernel)) ggX6_tryThing_X6_walkOn
set_option maxRecDepth 20000 in
theorem ggX6_tryThing_X6_has : GoodIn wsX6_tryThing wsX6_has := goodIn_r _ [28] (by decide +kernel) (by decide +kernel)
set_option maxRecDepth 20000 in
theorem gX6_tryThing_X6_has : GoodIn wsX6_tryThing (va_wsS RX6 104 yX6_has wsX6_has) := goodIn_app (goodIn_of _ (by decide +kernel)) ggX6_tryThing_X6_has
set_option maxRecDepth 20000 in
theorem ggX6_tryThing_X6_isStreet : GoodIn wsX6_tryThing wsX6_isStreet := goodIn_r _ [50, 51, 41, 42, 5, 43] (by decide +kernel) (by decide +kernel)
set_option maxRecDepth 20000 in
theorem gX6_tryThing_X6_isStreet : GoodIn wsX6_tryThing (va_wsS RX6 127 yX6_isStreet wsX6_isStreet) := goodIn_app (goodIn_of _ (by decide +kernel)) ggX6_tryThing_X6_isStreet
theorem dX6_tryThing_0 : decode cX6_tryThing 0 = .ok (.iload_n 1, 1) := by decide +kernel
theorem dX6_tryThing_1 : decode cX6_tryThing 1 = .ok (.tableswitch 296 0 6 #[43, 63, 103, 133, 191, 239, 265], 43) := by decide +kernel
theorem dX6_tryThing_44 : decode cX6_tryThing 44 = .ok (.aload_n 0, 1) := by decide +kernel
theorem dX6_tryThing_45 : decode cX6_tryThing 45 = .ok (.iconst 1, 1) := by decide +kernel
theorem dX6_tryThing_46 : decode cX6_tryThing 46 = .ok (.iconst 1, 1) := by decide +kernel
theorem dX6_tryThing_47 : decode cX6_tryThing 47 = .ok (.invokevirtual 143, 3) := by decide +kernel
theorem dX6_tryThing_50 : decode cX6_tryThing 50 = .ok (.iload_n 2, 1) := by decide +kernel
theorem dX6_tryThing_51 : decode cX6_tryThing 51 = .ok (.ifCond .ne 11, 3) := by decide +kernel
theorem dX6_tryThing_54 : decode cX6_tryThing 54 = .ok (.iload_n 3, 1) := by decide +kernel
theorem dX6_tryThing_55 : decode cX6_tryThing 55 = .ok (.ifCond .ne 7, 3) := by decide +kernel
theorem dX6_tryThing_58 : decode cX6_tryThing 58 = .ok (.iconst 1, 1) := by decide +kernel
theorem dX6_tryThing_59 : decode cX6_tryThing 59 = .ok (.goto 4, 3) := by decide +kernel
theorem dX6_tryThing_62 : decode cX6_tryThing 62 = .ok (.iconst 0, 1) := by decide +kernel
theorem dX6_tryThing_63 : decode cX6_tryThing 63 = .ok (.ireturn, 1) := by decide +kernel
theorem dX6_tryThing_64 : decode cX6_tryThing 64 = .ok (.aload_n 0, 1) := by decide +kernel
theorem dX6_tryThing_65 : decode cX6_tryThing 65 = .ok (.iload_n 2, 1) := by decide +kernel
theorem dX6_tryThing_66 : decode cX6_tryThing 66 = .ok (.invokevirtual 134, 3) := by decide +kernel
theorem dX6_tryThing_69 : decode cX6_tryThing 69 = .ok (.ifCond .eq 17, 3) := by decide +kernel
theorem dX6_tryThing_72 : decode cX6_tryThing 72 = .ok (.iload_n 3, 1) := by decide +kernel
theorem dX6_tryThing_73 : decode cX6_tryThing 73 = .ok (.i2l, 1) := by decide +kernel
theorem dX6_tryThing_74 : decode cX6_tryThing 74 = .ok (.lconst 0, 1) := by decide +kernel
theorem dX6_tryThing_75 : decode cX6_tryThing 75 = .ok (.lconst 1, 1) := by decide +kernel
theorem dX6_tryThing_76 : decode cX6_tryThing 76 = .ok (.invokestatic 62, 3) := by decide +kernel
theorem dX6_tryThing_79 : decode cX6_tryThing 79 = .ok (.ifCond .eq 7, 3) := by decide +kernel
