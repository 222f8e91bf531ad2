theorem dX7_tellByMesh_81 : decode cX7_tellByMesh 81 = .ok (.invokevirtual 92, 3) := by decide +kernel
theorem dX7_tellByMesh_84 : decode cX7_tellByMesh 84 = .ok (.i2l, 1) := by decide +kernel
theorem dX7_tellByMesh_85 : decode cX7_tellByMesh 85 = .ok (.lmul, 1) := by decide +kernel
theorem dX7_tellByMesh_86 : decode cX7_tellByMesh 86 = .ok (.aload_n 0, 1) := by decide +kernel
theorem dX7_tellByMesh_87 : decode cX7_tellByMesh 87 = .ok (.getfield 43, 3) := by decide +kernel
theorem dX7_tellByMesh_90 : decode cX7_tellByMesh 90 = .ok (.aload_n 0, 1) := by decide +kernel
theorem dX7_tellByMesh_91 : decode cX7_tellByMesh 91 = .ok (.iload 4, 2) := by decide +kernel
theorem dX7_tellByMesh_93 : decode cX7_tellByMesh 93 = .ok (.invokevirtual 80, 3) := by decide +kernel
theorem dX7_tellByMesh_96 : decode cX7_tellByMesh 96 = .ok (.laload, 1) := by decide +kernel
theorem dX7_tellByMesh_97 : decode cX7_tellByMesh 97 = .ok (.aload_n 0, 1) := by decide +kernel
theorem dX7_tellByMesh_98 : decode cX7_tellByMesh 98 = .ok (.iload 5, 2) := by decide +kernel
theorem dX7_tellByMesh_100 : decode cX7_tellByMesh 100 = .ok (.invokevirtual 92, 3) := by decide +kernel
theorem dX7_tellByMesh_103 : decode cX7_tellByMesh 103 = .ok (.i2l, 1) := by decide +kernel
theorem dX7_tellByMesh_104 : decode cX7_tellByMesh 104 = .ok (.lmul, 1) := by decide +kernel
theorem dX7_tellByMesh_105 : decode cX7_tellByMesh 105 = .ok (.invokevirtual 134, 3) := by decide +kernel
theorem dX7_tellByMesh_108 : decode cX7_tellByMesh 108 = .ok (.aload_n 0, 1) := by decide +kernel
theorem dX7_tellByMesh_109 : decode cX7_tellByMesh 109 = .ok (.aload_n 0, 1) := by decide +kernel
theorem dX7_tellByMesh_110 : decode cX7_tellByMesh 110 = .ok (.iload 5, 2) := by decide +kernel
theorem dX7_tellByMesh_112 : decode cX7_tellByMesh 112 = .ok (.invokevirtual 80, 3) := by decide +kernel
theorem dX7_tellByMesh_115 : decode cX7_tellByMesh 115 = .ok (.aload_n 0, 1) := by decide +kernel
theorem dX7_tellByMesh_116 : decode cX7_tellByMesh 116 = .ok (.getfield 46, 3) := by decide +kernel
theorem dX7_tellByMesh_119 : decode cX7_tellByMesh 119 = .ok (.aload_n 0, 1) := by decide +kernel
theorem dX7_tellByMesh_120 : decode cX7_tellByMesh 120 = .ok (.iload 4, 2) := by decide +kernel
theorem dX7_tellByMesh_122 : decode cX7_tellByMesh 122 = .ok (.invokevirtual 80, 3) := by decide +kernel
theorem dX7_tellByMesh_125 : decode cX7_tellByMesh 125 = .ok (.iaload, 1) := by decide +kernel
theorem dX7_tellByMesh_126 : decode cX7_tellByMesh 126 = .ok (.iconst 1, 1) := by decide +kernel
theorem dX7_tellByMesh_127 : decode cX7_tellByMesh 127 = .ok (.iadd, 1) := by decide +kernel
theorem dX7_tellByMesh_128 : decode cX7_tellByMesh 128 = .ok (.invokevirtual 138, 3) := by decide +kernel
theorem dX7_tellByMesh_131 : decode cX7_tellByMesh 131 = .ok (.ireturn, 1) := by decide +kernel
set_option maxRecDepth 20000 in
theorem ggX7_sum_X7_make : GoodIn wsX7_sum wsX7_make := goodIn_r _ [7, 8, 9, 10, 11, 6, 12, 13, 14, 15, 16, 17, 18, 19, 20, 21, 22, 23, 24, 25, 26, 27, 28, 29, 30, 31, 32, 33, 34, 35, 36] (by decide +kernel) (by decide +kernel)
set_option maxRecDepth 20000 in
theorem gX7_sum_X7_make : GoodIn wsX7_sum (wsV RX7 134 RX7 yX7_make wsX7_make) := goodIn_app (goodIn_of _ (by decide +kernel)) ggX7_sum_X7_make
theorem dX7_sum_0 : decode cX7_sum 0 = .ok (.aload_n 0, 1) := by decide +kernel
theorem dX7_sum_1 : decode cX7_sum 1 = .ok (.aload_n 0, 1) := by decide +kernel
theorem dX7_sum_2 : decode cX7_sum 2 = .ok (.getfield 39, 3) := by decide +kernel
theorem dX7_sum_5 : decode cX7_sum 5 = .ok (.iload_n 1, 1) := by decide +kernel
theorem dX7_sum_6 : decode cX7_sum 6 = .ok (.laload, 1) := by decide +kernel
theorem dX7_sum_7 : decode cX7_sum 7 = .ok (.lload_n 2, 1) := by decide +kernel
theorem dX7_sum_8 : decode cX7_sum 8 = .ok (.lmul, 1) := by decide +kernel
theorem dX7_sum_9 : decode cX7_sum 9 = .ok (.aload_n 0, 1) := by decide +kernel
theorem dX7_sum_10 : decode cX7_sum 10 = .ok (.getfield 43, 3) := by decide +kernel
theorem dX7_sum_13 : decode cX7_sum 13 = .ok (.iload 4, 2) := by decide +kernel
theorem dX7_sum_15 : decode cX7_sum 15 = .ok (.laload, 1) := by decide +kernel
theorem dX7_sum_16 : decode cX7_sum 16 = .ok (.lmul, 1) := by decide +kernel
theorem dX7_sum_17 : decode cX7_sum 17 = .ok (.aload_n 0, 1) := by decide +kernel
theorem dX7_sum_18 : decode cX7_sum 18 = .ok (.getfield 39, 3) := by decide +kernel
theorem dX7_sum_21 : decode cX7_sum 21 = .ok (.iload 4, 2) := by decide +kernel
theorem dX7_sum_23 : decode cX7_sum 23 = .ok (.laload, 1) := by decide +kernel
theorem dX7_sum_24 : decode cX7_sum 24 = .ok (.lload 5, 2) := by decide +kernel
theorem dX7_sum_26 : decode cX7_sum 26 = .ok (.lmul, 1) := by decide +kernel
theorem dX7_sum_27 : decode cX7_sum 27 = .ok (.aload_n 0, 1) := by decide +kernel
theorem dX7_sum_28 : decode cX7_sum 28 = .ok (.getfield 43, 3) := by decide +kernel
theorem dX7_sum_31 : decode cX7_sum 31 = .ok (.iload_n 1, 1) := by decide +kernel
theorem dX7_sum_32 : decode cX7_sum 32 = .ok (.laload, 1) := by decide +kernel
theorem dX7_sum_33 : decode cX7_sum 33 = .ok (.lmul, 1) := by decide +kernel
theorem dX7_sum_34 : decode cX7_sum 34 = .ok (.ladd, 1) := by decide +kernel
theorem dX7_sum_35 : decode cX7_sum 35 = .ok (.aload_n 0, 1) := by decide +kernel
theorem dX7_sum_36 : decode cX7_sum 36 = .ok (.getfield 43, 3) := by decide +kernel
theorem dX7_sum_39 : decode cX7_sum 39 = .ok (.iload_n 1, 1) := by decide +kernel
theorem dX7_sum_40 : decode cX7_sum 40 = .ok (.laload, 1) := by decide +kernel
theorem dX7_sum_41 : decode cX7_sum 41 = .ok (.aload_n 0, 1) := by decide +kernel
theorem dX7_sum_42 : decode cX7_sum 42 = .ok (.getfield 43, 3) := by decide +kernel
theorem dX7_sum_45 : decode cX7_sum 45 = .ok (.iload 4, 2) := by decide +kernel
theorem dX7_sum_47 : decode cX7_sum 47 = .ok (.laload, 1) := by decide +kernel
theorem dX7_sum_48 : decode cX7_sum 48 = .ok (.lmul, 1) := by decide +kernel
theorem dX7_sum_49 : decode cX7_sum 49 = .ok (.invokevirtual 134, 3) := by decide +kernel
theorem dX7_sum_52 : decode cX7_sum 52 = .ok (.return_, 1) := by decide +kernel
set_option maxRecDepth 20000 in
theorem ggX7_tellBySet_X7_hasSpeed : GoodIn wsX7_tellBySet wsX7_hasSpeed := goodIn_r _ [13, 14, 35, 36, 37, 38, 39, 40, 41, 42, 43, 44, 45, 46, 47, 48, 49, 50, 51, 52, 53, 54] (by decide +kernel) (by decide +kernel)
set_option maxRecDepth 20000 in
theorem gX7_tellBySet_X7_hasSpeed : GoodIn wsX7_tellBySet (wsV RX7 126 RX7 yX7_hasSpeed wsX7_hasSpeed) := goodIn_app (goodIn_of _ (by decide +kernel)) ggX7_tellBySet_X7_hasSpeed
set_option maxRecDepth 20000 in
theorem ggX7_tellBySet_X7_sum : GoodIn wsX7_tellBySet wsX7_sum := goodIn_r _ [18, 19, 14, 20, 21, 22, 12, 23, 2, 3, 24, 25, 26, 27, 28, 7, 29, 35, 36, 37, 38, 39, 40, 41, 42, 43, 44, 45, 46, 47, 48, 49, 50, 51, 52, 53, 54] (by decide +kernel) (by decide +kernel)
set_option maxRecDepth 20000 in
theorem gX7_tellBySet_X7_sum : GoodIn wsX7_tellBySet (wsV RX7 141 RX7 yX7_sum wsX7_sum) := goodIn_app (goodIn_of _ (by decide +kernel)) ggX7_tellBySet_X7_sum
set_option maxRecDepth 20000 in
theorem ggX7_tellBySet_X7_make : GoodIn wsX7_tellBySet wsX7_make := goodIn_r _ [23, 2, 3, 24, 25, 12, 26, 27, 28, 7, 29, 35, 36, 37, 38, 39, 40, 41, 42, 43, 44, 45, 46, 47, 48, 49, 50, 51, 52, 53, 54] (by decide +kernel) (by decide +kernel)
set_option maxRecDepth 20000 in
theorem gX7_tellBySet_X7_make : GoodIn wsX7_tellBySet (wsV RX7 134 RX7 yX7_make wsX7_make) := goodIn_app (goodIn_of _ (by decide +kernel)) ggX7_tellBySet_X7_make
set_option maxRecDepth 20000 in
theorem ggX7_tellBySet_X7_tell : GoodIn wsX7_tellBySet wsX7_tell := goodIn_r _ [33, 2, 27, 28, 7, 29, 34, 3, 19, 14, 4, 35, 36, 37, 38, 39, 40, 41, 42, 43, 44, 45, 46, 47, 48, 49, 50, 51, 52, 53, 54] (by decide +kernel) (by decide +kernel)
set_option maxRecDepth 20000 in
theorem gX7_tellBySet_X7_tell : GoodIn wsX7_tellBySet (wsV RX7 138 RX7 yX7_tell wsX7_tell) := goodIn_app (goodIn_of _ (by decide +kernel)) ggX7_tellBySet_X7_tell
theorem dX7_tellBySet_0 : decode cX7_tellBySet 0 = .ok (.aload_n 0, 1) := by decide +kernel
theorem dX7_tellBySet_1 : decode cX7_tellBySet 1 = .ok (.getfield 36, 3) := by decide +kernel
theorem dX7_tellBySet_4 : decode cX7_tellBySet 4 = .ok (.iconst 5, 1) := by decide +kernel
theorem dX7_tellBySet_5 : decode cX7_tellBySet 5 = .ok (.iload_n 1, 1) := by decide +kernel
theorem dX7_tellBySet_6 : decode cX7_tellBySet 6 = .ok (.imul, 1) := by decide +kernel
theorem dX7_tellBySet_7 : decode cX7_tellBySet 7 = .ok (.iaload, 1) := by decide +kernel
theorem dX7_tellBySet_8 : decode cX7_tellBySet 8 = .ok (.istore_n 2, 1) := by decide +kernel
theorem dX7_tellBySet_9 : decode cX7_tellBySet 9 = .ok (.aload_n 0, 1) := by decide +kernel
theorem dX7_tellBySet_10 : decode cX7_tellBySet 10 = .ok (.getfield 36, 3) := by decide +kernel
theorem dX7_tellBySet_13 : decode cX7_tellBySet 13 = .ok (.iconst 5, 1) := by decide +kernel
theorem dX7_tellBySet_14 : decode cX7_tellBySet 14 = .ok (.iload_n 1, 1) := by decide +kernel
theorem dX7_tellBySet_15 : decode cX7_tellBySet 15 = .ok (.imul, 1) := by decide +kernel
theorem dX7_tellBySet_16 : decode cX7_tellBySet 16 = .ok (.iconst 1, 1) := by decide +kernel
theorem dX7_tellBySet_17 : decode cX7_tellBySet 17 = .ok (.iadd, 1) := by decide +kernel
theorem dX7_tellBySet_18 : decode cX7_tellBySet 18 = .ok (.iaload, 1) := by decide +kernel
theorem dX7_tellBySet_19 : decode cX7_tellBySet 19 = .ok (.istore_n 3, 1) := by decide +kernel
theorem dX7_tellBySet_20 : decode cX7_tellBySet 20 = .ok (.aload_n 0, 1) := by decide +kernel
theorem dX7_tellBySet_21 : decode cX7_tellBySet 21 = .ok (.getfield 36, 3) := by decide +kernel
theorem dX7_tellBySet_24 : decode cX7_tellBySet 24 = .ok (.iconst 5, 1) := by decide +kernel
theorem dX7_tellBySet_25 : decode cX7_tellBySet 25 = .ok (.iload_n 1, 1) := by decide +kernel
theorem dX7_tellBySet_26 : decode cX7_tellBySet 26 = .ok (.imul, 1) := by decide +kernel
theorem dX7_tellBySet_27 : decode cX7_tellBySet 27 = .ok (.iconst 2, 1) := by decide +kernel
theorem dX7_tellBySet_28 : decode cX7_tellBySet 28 = .ok (.iadd, 1) := by decide +kernel
theorem dX7_tellBySet_29 : decode cX7_tellBySet 29 = .ok (.iaload, 1) := by decide +kernel
theorem dX7_tellBySet_30 : decode cX7_tellBySet 30 = .ok (.istore 4, 2) := by decide +kernel
theorem dX7_tellBySet_32 : decode cX7_tellBySet 32 = .ok (.aload_n 0, 1) := by decide +kernel
theorem dX7_tellBySet_33 : decode cX7_tellBySet 33 = .ok (.getfield 36, 3) := by decide +kernel
theorem dX7_tellBySet_36 : decode cX7_tellBySet 36 = .ok (.iconst 5, 1) := by decide +kernel
theorem dX7_tellBySet_37 : decode cX7_tellBySet 37 = .ok (.iload_n 1, 1) := by decide +kernel
theorem dX7_tellBySet_38 : decode cX7_tellBySet 38 = .ok (.imul, 1) := by decide +kernel
theorem dX7_tellBySet_39 : decode cX7_tellBySet 39 = .ok (.iconst 3, 1) := by decide +kernel
theorem dX7_tellBySet_40 : decode cX7_tellBySet 40 = .ok (.iadd, 1) := by decide +kernel
theorem dX7_tellBySet_41 : decode cX7_tellBySet 41 = .ok (.iaload, 1) := by decide +kernel
theorem dX7_tellBySet_42 : decode cX7_tellBySet 42 = .ok (.i2l, 1) := by decide +kernel
theorem dX7_tellBySet_43 : decode cX7_tellBySet 43 = .ok (.lstore 5, 2) := by decide +kernel
theorem dX7_tellBySet_45 : decode cX7_tellBySet 45 = .ok (.aload_n 0, 1) := by decide +kernel
theorem dX7_tellBySet_46 : decode cX7_tellBySet 46 = .ok (.getfield 36, 3) := by decide +kernel
theorem dX7_tellBySet_49 : decode cX7_tellBySet 49 = .ok (.iconst 5, 1) := by decide +kernel
theorem dX7_tellBySet_50 : decode cX7_tellBySet 50 = .ok (.iload_n 1, 1) := by decide +kernel
theorem dX7_tellBySet_51 : decode cX7_tellBySet 51 = .ok (.imul, 1) := by decide +kernel
theorem dX7_tellBySet_52 : decode cX7_tellBySet 52 = .ok (.iconst 4, 1) := by decide +kernel
theorem dX7_tellBySet_53 : decode cX7_tellBySet 53 = .ok (.iadd, 1) := by decide +kernel
theorem dX7_tellBySet_54 : decode cX7_tellBySet 54 = .ok (.iaload, 1) := by decide +kernel
theorem dX7_tellBySet_55 : decode cX7_tellBySet 55 = .ok (.i2l, 1) := by decide +kernel
theorem dX7_tellBySet_56 : decode cX7_tellBySet 56 = .ok (.lstore 7, 2) := by decide +kernel
theorem dX7_tellBySet_58 : decode cX7_tellBySet 58 = .ok (.aload_n 0, 1) := by decide +kernel
theorem dX7_tellBySet_59 : decode cX7_tellBySet 59 = .ok (.iload_n 2, 1) := by decide +kernel
theorem dX7_tellBySet_60 : decode cX7_tellBySet 60 = .ok (.invokevirtual 126, 3) := by decide +kernel
theorem dX7_tellBySet_63 : decode cX7_tellBySet 63 = .ok (.ifCond .ne 7, 3) := by decide +kernel
theorem dX7_tellBySet_66 : decode cX7_tellBySet 66 = .ok (.iload_n 2, 1) := by decide +kernel
theorem dX7_tellBySet_67 : decode cX7_tellBySet 67 = .ok (.goto 17, 3) := by decide +kernel
theorem dX7_tellBySet_70 : decode cX7_tellBySet 70 = .ok (.aload_n 0, 1) := by decide +kernel
theorem dX7_tellBySet_71 : decode cX7_tellBySet 71 = .ok (.iload_n 3, 1) := by decide +kernel
theorem dX7_tellBySet_72 : decode cX7_tellBySet 72 = .ok (.invokevirtual 126, 3) := by decide +kernel
theorem dX7_tellBySet_75 : decode cX7_tellBySet 75 = .ok (.ifCond .ne 7, 3) := by decide +kernel
theorem dX7_tellBySet_78 : decode cX7_tellBySet 78 = .ok (.iload_n 3, 1) := by decide +kernel
theorem dX7_tellBySet_79 : decode cX7_tellBySet 79 = .ok (.goto 5, 3) := by decide +kernel
theorem dX7_tellBySet_82 : decode cX7_tellBySet 82 = .ok (.iload 4, 2) := by decide +kernel
theorem dX7_tellBySet_84 : decode cX7_tellBySet 84 = .ok (.istore 9, 2) := by decide +kernel
theorem dX7_tellBySet_86 : decode cX7_tellBySet 86 = .ok (.iload 9, 2) := by decide +kernel
theorem dX7_tellBySet_88 : decode cX7_tellBySet 88 = .ok (.iload 4, 2) := by decide +kernel
theorem dX7_tellBySet_90 : decode cX7_tellBySet 90 = .ok (.if_icmp .ne 16, 3) := by decide +kernel
theorem dX7_tellBySet_93 : decode cX7_tellBySet 93 = .ok (.aload_n 0, 1) := by decide +kernel
theorem dX7_tellBySet_94 : decode cX7_tellBySet 94 = .ok (.iload_n 2, 1) := by decide +kernel
theorem dX7_tellBySet_95 : decode cX7_tellBySet 95 = .ok (.lload 5, 2) := by decide +kernel
theorem dX7_tellBySet_97 : decode cX7_tellBySet 97 = .ok (.iload_n 3, 1) := by decide +kernel
theorem dX7_tellBySet_98 : decode cX7_tellBySet 98 = .ok (.lload 7, 2) := by decide +kernel
theorem dX7_tellBySet_100 : decode cX7_tellBySet 100 = .ok (.invokevirtual 141, 3) := by decide +kernel
theorem dX7_tellBySet_103 : decode cX7_tellBySet 103 = .ok (.goto 42, 3) := by decide +kernel
theorem dX7_tellBySet_106 : decode cX7_tellBySet 106 = .ok (.iload 9, 2) := by decide +kernel
theorem dX7_tellBySet_108 : decode cX7_tellBySet 108 = .ok (.iload_n 2, 1) := by decide +kernel
theorem dX7_tellBySet_109 : decode cX7_tellBySet 109 = .ok (.if_icmp .ne 21, 3) := by decide +kernel
theorem dX7_tellBySet_112 : decode cX7_tellBySet 112 = .ok (.aload_n 0, 1) := by decide +kernel
theorem dX7_tellBySet_113 : decode cX7_tellBySet 113 = .ok (.iload 4, 2) := by decide +kernel
theorem dX7_tellBySet_115 : decode cX7_tellBySet 115 = .ok (.lload 5, 2) := by decide +kernel
theorem dX7_tellBySet_117 : decode cX7_tellBySet 117 = .ok (.lload 7, 2) := by decide +kernel
theorem dX7_tellBySet_119 : decode cX7_tellBySet 119 = .ok (.ladd, 1) := by decide +kernel
theorem dX7_tellBySet_120 : decode cX7_tellBySet 120 = .ok (.iload_n 3, 1) := by decide +kernel
theorem dX7_tellBySet_121 : decode cX7_tellBySet 121 = .ok (.lload 7, 2) := by decide +kernel
theorem dX7_tellBySet_123 : decode cX7_tellBySet 123 = .ok (.lneg, 1) := by decide +kernel
theorem dX7_tellBySet_124 : decode cX7_tellBySet 124 = .ok (.invokevirtual 141, 3) := by decide +kernel
theorem dX7_tellBySet_127 : decode cX7_tellBySet 127 = .ok (.goto 18, 3) := by decide +kernel
theorem dX7_tellBySet_130 : decode cX7_tellBySet 130 = .ok (.aload_n 0, 1) := by decide +kernel
theorem dX7_tellBySet_131 : decode cX7_tellBySet 131 = .ok (.iload 4, 2) := by decide +kernel
theorem dX7_tellBySet_133 : decode cX7_tellBySet 133 = .ok (.lload 5, 2) := by decide +kernel
theorem dX7_tellBySet_135 : decode cX7_tellBySet 135 = .ok (.lload 7, 2) := by decide +kernel
theorem dX7_tellBySet_137 : decode cX7_tellBySet 137 = .ok (.ladd, 1) := by decide +kernel
theorem dX7_tellBySet_138 : decode cX7_tellBySet 138 = .ok (.iload_n 2, 1) := by decide +kernel
theorem dX7_tellBySet_139 : decode cX7_tellBySet 139 = .ok (.lload 5, 2) := by decide +kernel
theorem dX7_tellBySet_141 : decode cX7_tellBySet 141 = .ok (.lneg, 1) := by decide +kernel
theorem dX7_tellBySet_142 : decode cX7_tellBySet 142 = .ok (.invokevirtual 141, 3) := by decide +kernel
theorem dX7_tellBySet_145 : decode cX7_tellBySet 145 = .ok (.aload_n 0, 1) := by decide +kernel
theorem dX7_tellBySet_146 : decode cX7_tellBySet 146 = .ok (.aload_n 0, 1) := by decide +kernel
theorem dX7_tellBySet_147 : decode cX7_tellBySet 147 = .ok (.getfield 117, 3) := by decide +kernel
theorem dX7_tellBySet_150 : decode cX7_tellBySet 150 = .ok (.aload_n 0, 1) := by decide +kernel
theorem dX7_tellBySet_151 : decode cX7_tellBySet 151 = .ok (.getfield 121, 3) := by decide +kernel
theorem dX7_tellBySet_154 : decode cX7_tellBySet 154 = .ok (.iload 9, 2) := by decide +kernel
theorem dX7_tellBySet_156 : decode cX7_tellBySet 156 = .ok (.iload 4, 2) := by decide +kernel
theorem dX7_tellBySet_158 : decode cX7_tellBySet 158 = .ok (.if_icmp .ne 11, 3) := by decide +kernel
theorem dX7_tellBySet_161 : decode cX7_tellBySet 161 = .ok (.lload 5, 2) := by decide +kernel
theorem dX7_tellBySet_163 : decode cX7_tellBySet 163 = .ok (.lload 7, 2) := by decide +kernel
theorem dX7_tellBySet_165 : decode cX7_tellBySet 165 = .ok (.ladd, 1) := by decide +kernel
theorem dX7_tellBySet_166 : decode cX7_tellBySet 166 = .ok (.goto 16, 3) := by decide +kernel
theorem dX7_tellBySet_169 : decode cX7_tellBySet 169 = .ok (.iload 9, 2) := by decide +kernel
theorem dX7_tellBySet_171 : decode cX7_tellBySet 171 = .ok (.iload_n 2, 1) := by decide +kernel
theorem dX7_tellBySet_172 : decode cX7_tellBySet 172 = .ok (.if_icmp .ne 8, 3) := by decide +kernel
theorem dX7_tellBySet_175 : decode cX7_tellBySet 175 = .ok (.lload 5, 2) := by decide +kernel
theorem dX7_tellBySet_177 : decode cX7_tellBySet 177 = .ok (.goto 5, 3) := by decide +kernel
theorem dX7_tellBySet_180 : decode cX7_tellBySet 180 = .ok (.lload 7, 2) := by decide +kernel
theorem dX7_tellBySet_182 : decode cX7_tellBySet 182 = .ok (.lmul, 1) := by decide +kernel
theorem dX7_tellBySet_183 : decode cX7_tellBySet 183 = .ok (.invokevirtual 134, 3) := by decide +kernel
theorem dX7_tellBySet_186 : decode cX7_tellBySet 186 = .ok (.iconst 0, 1) := by decide +kernel
theorem dX7_tellBySet_187 : decode cX7_tellBySet 187 = .ok (.istore 10, 2) := by decide +kernel
theorem dX7_tellBySet_189 : decode cX7_tellBySet 189 = .ok (.iconst 0, 1) := by decide +kernel
theorem dX7_tellBySet_190 : decode cX7_tellBySet 190 = .ok (.istore 11, 2) := by decide +kernel
theorem dX7_tellBySet_192 : decode cX7_tellBySet 192 = .ok (.iload 11, 2) := by decide +kernel
theorem dX7_tellBySet_194 : decode cX7_tellBySet 194 = .ok (.iconst 3, 1) := by decide +kernel
theorem dX7_tellBySet_195 : decode cX7_tellBySet 195 = .ok (.if_icmp .ge 48, 3) := by decide +kernel
theorem dX7_tellBySet_198 : decode cX7_tellBySet 198 = .ok (.aload_n 0, 1) := by decide +kernel
theorem dX7_tellBySet_199 : decode cX7_tellBySet 199 = .ok (.getfield 36, 3) := by decide +kernel
theorem dX7_tellBySet_202 : decode cX7_tellBySet 202 = .ok (.iconst 5, 1) := by decide +kernel
theorem dX7_tellBySet_203 : decode cX7_tellBySet 203 = .ok (.iload_n 1, 1) := by decide +kernel
theorem dX7_tellBySet_204 : decode cX7_tellBySet 204 = .ok (.imul, 1) := by decide +kernel
theorem dX7_tellBySet_205 : decode cX7_tellBySet 205 = .ok (.iload 11, 2) := by decide +kernel
theorem dX7_tellBySet_207 : decode cX7_tellBySet 207 = .ok (.iadd, 1) := by decide +kernel
theorem dX7_tellBySet_208 : decode cX7_tellBySet 208 = .ok (.iaload, 1) := by decide +kernel
theorem dX7_tellBySet_209 : decode cX7_tellBySet 209 = .ok (.iload 9, 2) := by decide +kernel
theorem dX7_tellBySet_211 : decode cX7_tellBySet 211 = .ok (.if_icmp .eq 26, 3) := by decide +kernel
theorem dX7_tellBySet_214 : decode cX7_tellBySet 214 = .ok (.iload 10, 2) := by decide +kernel
theorem dX7_tellBySet_216 : decode cX7_tellBySet 216 = .ok (.aload_n 0, 1) := by decide +kernel
theorem dX7_tellBySet_217 : decode cX7_tellBySet 217 = .ok (.getfield 46, 3) := by decide +kernel
theorem dX7_tellBySet_220 : decode cX7_tellBySet 220 = .ok (.aload_n 0, 1) := by decide +kernel
theorem dX7_tellBySet_221 : decode cX7_tellBySet 221 = .ok (.getfield 36, 3) := by decide +kernel
theorem dX7_tellBySet_224 : decode cX7_tellBySet 224 = .ok (.iconst 5, 1) := by decide +kernel
theorem dX7_tellBySet_225 : decode cX7_tellBySet 225 = .ok (.iload_n 1, 1) := by decide +kernel
theorem dX7_tellBySet_226 : decode cX7_tellBySet 226 = .ok (.imul, 1) := by decide +kernel
theorem dX7_tellBySet_227 : decode cX7_tellBySet 227 = .ok (.iload 11, 2) := by decide +kernel
theorem dX7_tellBySet_229 : decode cX7_tellBySet 229 = .ok (.iadd, 1) := by decide +kernel
theorem dX7_tellBySet_230 : decode cX7_tellBySet 230 = .ok (.iaload, 1) := by decide +kernel
theorem dX7_tellBySet_231 : decode cX7_tellBySet 231 = .ok (.iaload, 1) := by decide +kernel
theorem dX7_tellBySet_232 : decode cX7_tellBySet 232 = .ok (.invokestatic 145, 3) := by decide +kernel
theorem dX7_tellBySet_235 : decode cX7_tellBySet 235 = .ok (.istore 10, 2) := by decide +kernel
theorem dX7_tellBySet_237 : decode cX7_tellBySet 237 = .ok (.iinc 11 1, 3) := by decide +kernel
theorem dX7_tellBySet_240 : decode cX7_tellBySet 240 = .ok (.goto (-48), 3) := by decide +kernel
theorem dX7_tellBySet_243 : decode cX7_tellBySet 243 = .ok (.aload_n 0, 1) := by decide +kernel
theorem dX7_tellBySet_244 : decode cX7_tellBySet 244 = .ok (.iload 9, 2) := by decide +kernel
theorem dX7_tellBySet_246 : decode cX7_tellBySet 246 = .ok (.iload 10, 2) := by decide +kernel
theorem dX7_tellBySet_248 : decode cX7_tellBySet 248 = .ok (.iconst 1, 1) := by decide +kernel
theorem dX7_tellBySet_249 : decode cX7_tellBySet 249 = .ok (.iadd, 1) := by decide +kernel
theorem dX7_tellBySet_250 : decode cX7_tellBySet 250 = .ok (.invokevirtual 138, 3) := by decide +kernel
theorem dX7_tellBySet_253 : decode cX7_tellBySet 253 = .ok (.ireturn, 1) := by decide +kernel
set_option maxRecDepth 20000 in
theorem ggX7_toldOf_X7_hasSpeed : GoodIn wsX7_toldOf wsX7_hasSpeed := goodIn_r _ [6, 7, 8, 9, 10, 11, 12, 13, 14, 15, 16, 17, 18, 19, 20, 21, 22, 23, 24, 25, 26, 27] (by decide +kernel) (by decide +kernel)
set_option maxRecDepth 20000 in
theorem gX7_toldOf_X7_hasSpeed : GoodIn wsX7_toldOf (wsV RX7 126 RX7 yX7_hasSpeed wsX7_hasSpeed) := goodIn_app (goodIn_of _ (by decide +kernel)) ggX7_toldOf_X7_hasSpeed
theorem dX7_toldOf_0 : decode cX7_toldOf 0 = .ok (.iconst 0, 1) := by decide +kernel
theorem dX7_toldOf_1 : decode cX7_toldOf 1 = .ok (.istore_n 2, 1) := by decide +kernel
theorem dX7_toldOf_2 : decode cX7_toldOf 2 = .ok (.iconst 0, 1) := by decide +kernel
theorem dX7_toldOf_3 : decode cX7_toldOf 3 = .ok (.istore_n 3, 1) := by decide +kernel
theorem dX7_toldOf_4 : decode cX7_toldOf 4 = .ok (.iload_n 3, 1) := by decide +kernel
theorem dX7_toldOf_5 : decode cX7_toldOf 5 = .ok (.iconst 3, 1) := by decide +kernel
theorem dX7_toldOf_6 : decode cX7_toldOf 6 = .ok (.if_icmp .ge 34, 3) := by decide +kernel
theorem dX7_toldOf_9 : decode cX7_toldOf 9 = .ok (.iload_n 2, 1) := by decide +kernel
theorem dX7_toldOf_10 : decode cX7_toldOf 10 = .ok (.aload_n 0, 1) := by decide +kernel
theorem dX7_toldOf_11 : decode cX7_toldOf 11 = .ok (.aload_n 0, 1) := by decide +kernel
theorem dX7_toldOf_12 : decode cX7_toldOf 12 = .ok (.getfield 36, 3) := by decide +kernel
theorem dX7_toldOf_15 : decode cX7_toldOf 15 = .ok (.iconst 5, 1) := by decide +kernel
theorem dX7_toldOf_16 : decode cX7_toldOf 16 = .ok (.iload_n 1, 1) := by decide +kernel
theorem dX7_toldOf_17 : decode cX7_toldOf 17 = .ok (.imul, 1) := by decide +kernel
theorem dX7_toldOf_18 : decode cX7_toldOf 18 = .ok (.iload_n 3, 1) := by decide +kernel
theorem dX7_toldOf_19 : decode cX7_toldOf 19 = .ok (.iadd, 1) := by decide +kernel
theorem dX7_toldOf_20 : decode cX7_toldOf 20 = .ok (.iaload, 1) := by decide +kernel
theorem dX7_toldOf_21 : decode cX7_toldOf 21 = .ok (.invokevirtual 126, 3) := by decide +kernel
theorem dX7_toldOf_24 : decode cX7_toldOf 24 = .ok (.ifCond .eq 7, 3) := by decide +kernel
theorem dX7_toldOf_27 : decode cX7_toldOf 27 = .ok (.iconst 1, 1) := by decide +kernel
theorem dX7_toldOf_28 : decode cX7_toldOf 28 = .ok (.goto 4, 3) := by decide +kernel
theorem dX7_toldOf_31 : decode cX7_toldOf 31 = .ok (.iconst 0, 1) := by decide +kernel
theorem dX7_toldOf_32 : decode cX7_toldOf 32 = .ok (.iadd, 1) := by decide +kernel
theorem dX7_toldOf_33 : decode cX7_toldOf 33 = .ok (.istore_n 2, 1) := by decide +kernel
theorem dX7_toldOf_34 : decode cX7_toldOf 34 = .ok (.iinc 3 1, 3) := by decide +kernel
theorem dX7_toldOf_37 : decode cX7_toldOf 37 = .ok (.goto (-33), 3) := by decide +kernel
theorem dX7_toldOf_40 : decode cX7_toldOf 40 = .ok (.iload_n 2, 1) := by decide +kernel
theorem dX7_toldOf_41 : decode cX7_toldOf 41 = .ok (.ireturn, 1) := by decide +kernel
set_option maxRecDepth 20000 in
theorem ggX7_solve_X7_shaftOf : GoodIn wsX7_solve wsX7_shaftOf := goodIn_r _ [17, 18, 71, 72, 73, 74, 75, 76, 77, 78, 79, 80, 81, 82, 83, 84, 85, 86, 87, 88, 89, 90] (by decide +kernel) (by decide +kernel)
set_option maxRecDepth 20000 in
theorem gX7_solve_X7_shaftOf : GoodIn wsX7_solve (wsV RX7 80 RX7 yX7_shaftOf wsX7_shaftOf) := goodIn_app (goodIn_of _ (by decide +kernel)) ggX7_solve_X7_shaftOf
set_option maxRecDepth 20000 in
theorem ggX7_solve_X7_hasSpeed : GoodIn wsX7_solve wsX7_hasSpeed := goodIn_r _ [22, 6, 71, 72, 73, 74, 75, 76, 77, 78, 79, 80, 81, 82, 83, 84, 85, 86, 87, 88, 89, 90] (by decide +kernel) (by decide +kernel)
set_option maxRecDepth 20000 in
theorem gX7_solve_X7_hasSpeed : GoodIn wsX7_solve (wsV RX7 126 RX7 yX7_hasSpeed wsX7_hasSpeed) := goodIn_app (goodIn_of _ (by decide +kernel)) ggX7_solve_X7_hasSpeed
set_option maxRecDepth 20000 in
theorem ggX7_solve_X7_tellByMesh : GoodIn wsX7_solve wsX7_tellByMesh := goodIn_r _ [26, 10, 11, 27, 4, 6, 7, 13, 14, 15, 16, 17, 18, 19, 20, 21, 22, 28, 29, 30, 31, 32, 33, 34, 35, 36, 37, 38, 39, 40, 41, 42, 43, 44, 45, 46, 47, 48, 49, 50, 51, 52, 53, 54, 71, 72, 73, 74, 75, 76, 77, 78, 79, 80, 81, 82, 83, 84, 85, 86, 87, 88, 89, 90] (by decide +kernel) (by decide +kernel)
set_option maxRecDepth 20000 in
theorem gX7_solve_X7_tellByMesh : GoodIn wsX7_solve (wsV RX7 149 RX7 yX7_tellByMesh wsX7_tellByMesh) := goodIn_app (goodIn_of _ (by decide +kernel)) ggX7_solve_X7_tellByMesh
set_option maxRecDepth 20000 in
theorem ggX7_solve_X7_toldOf : GoodIn wsX7_solve wsX7_toldOf := goodIn_r _ [58, 59, 19, 20, 21, 16, 22, 6, 71, 72, 73, 74, 75, 76, 77, 78, 79, 80, 81, 82, 83, 84, 85, 86, 87, 88, 89, 90] (by decide +kernel) (by decide +kernel)
set_option maxRecDepth 20000 in
theorem gX7_solve_X7_toldOf : GoodIn wsX7_solve (wsV RX7 152 RX7 yX7_toldOf wsX7_toldOf) := goodIn_app (goodIn_of _ (by decide +kernel)) ggX7_solve_X7_toldOf
set_option maxRecDepth 20000 in
theorem ggX7_solve_X7_tellBySet : GoodIn wsX7_solve wsX7_tellBySet := goodIn_r _ [63, 59, 41, 42, 7, 64, 65, 48, 66, 19, 20, 21, 16, 22, 6, 67, 68, 69, 70, 4, 37, 38, 39, 40, 43, 44, 45, 46, 47, 49, 50, 51, 52, 53, 54, 71, 72, 73, 74, 75, 76, 77, 78, 79, 80, 81, 82, 83, 84, 85, 86, 87, 88, 89, 90] (by decide +kernel) (by decide +kernel)
set_option maxRecDepth 20000 in
theorem gX7_solve_X7_tellBySet : GoodIn wsX7_solve (wsV RX7 155 RX7 yX7_tellBySet wsX7_tellBySet) := goodIn_app (goodIn_of _ (by decide +kernel)) ggX7_solve_X7_tellBySet
theorem dX7_solve_0 : decode cX7_solve 0 = .ok (.iconst 0, 1) := by decide +kernel
theorem dX7_solve_1 : decode cX7_solve 1 = .ok (.istore_n 1, 1) := by decide +kernel
theorem dX7_solve_2 : decode cX7_solve 2 = .ok (.iload_n 1, 1) := by decide +kernel
theorem dX7_solve_3 : decode cX7_solve 3 = .ok (.aload_n 0, 1) := by decide +kernel
theorem dX7_solve_4 : decode cX7_solve 4 = .ok (.getfield 52, 3) := by decide +kernel
theorem dX7_solve_7 : decode cX7_solve 7 = .ok (.if_icmp .ge 85, 3) := by decide +kernel
theorem dX7_solve_10 : decode cX7_solve 10 = .ok (.iload_n 1, 1) := by decide +kernel
theorem dX7_solve_11 : decode cX7_solve 11 = .ok (.aload_n 0, 1) := by decide +kernel
theorem dX7_solve_12 : decode cX7_solve 12 = .ok (.getfield 20, 3) := by decide +kernel
theorem dX7_solve_15 : decode cX7_solve 15 = .ok (.if_icmp .eq 12, 3) := by decide +kernel
theorem dX7_solve_18 : decode cX7_solve 18 = .ok (.aload_n 0, 1) := by decide +kernel
theorem dX7_solve_19 : decode cX7_solve 19 = .ok (.getfield 16, 3) := by decide +kernel
theorem dX7_solve_22 : decode cX7_solve 22 = .ok (.iload_n 1, 1) := by decide +kernel
theorem dX7_solve_23 : decode cX7_solve 23 = .ok (.baload, 1) := by decide +kernel
theorem dX7_solve_24 : decode cX7_solve 24 = .ok (.ifCond .eq 7, 3) := by decide +kernel
theorem dX7_solve_27 : decode cX7_solve 27 = .ok (.iconst 1, 1) := by decide +kernel
theorem dX7_solve_28 : decode cX7_solve 28 = .ok (.goto 4, 3) := by decide +kernel
theorem dX7_solve_31 : decode cX7_solve 31 = .ok (.iconst 0, 1) := by decide +kernel
theorem dX7_solve_32 : decode cX7_solve 32 = .ok (.istore_n 2, 1) := by decide +kernel
theorem dX7_solve_33 : decode cX7_solve 33 = .ok (.aload_n 0, 1) := by decide +kernel
theorem dX7_solve_34 : decode cX7_solve 34 = .ok (.getfield 39, 3) := by decide +kernel
theorem dX7_solve_37 : decode cX7_solve 37 = .ok (.iload_n 1, 1) := by decide +kernel
theorem dX7_solve_38 : decode cX7_solve 38 = .ok (.iload_n 1, 1) := by decide +kernel
theorem dX7_solve_39 : decode cX7_solve 39 = .ok (.aload_n 0, 1) := by decide +kernel
theorem dX7_solve_40 : decode cX7_solve 40 = .ok (.getfield 20, 3) := by decide +kernel
theorem dX7_solve_43 : decode cX7_solve 43 = .ok (.if_icmp .ne 11, 3) := by decide +kernel
theorem dX7_solve_46 : decode cX7_solve 46 = .ok (.aload_n 0, 1) := by decide +kernel
theorem dX7_solve_47 : decode cX7_solve 47 = .ok (.getfield 104, 3) := by decide +kernel
theorem dX7_solve_50 : decode cX7_solve 50 = .ok (.i2l, 1) := by decide +kernel
theorem dX7_solve_51 : decode cX7_solve 51 = .ok (.goto 4, 3) := by decide +kernel
theorem dX7_solve_54 : decode cX7_solve 54 = .ok (.lconst 0, 1) := by decide +kernel
theorem dX7_solve_55 : decode cX7_solve 55 = .ok (.lastore, 1) := by decide +kernel
theorem dX7_solve_56 : decode cX7_solve 56 = .ok (.aload_n 0, 1) := by decide +kernel
theorem dX7_solve_57 : decode cX7_solve 57 = .ok (.getfield 43, 3) := by decide +kernel
theorem dX7_solve_60 : decode cX7_solve 60 = .ok (.iload_n 1, 1) := by decide +kernel
theorem dX7_solve_61 : decode cX7_solve 61 = .ok (.iload_n 2, 1) := by decide +kernel
theorem dX7_solve_62 : decode cX7_solve 62 = .ok (.ifCond .eq 7, 3) := by decide +kernel
theorem dX7_solve_65 : decode cX7_solve 65 = .ok (.lconst 1, 1) := by decide +kernel
theorem dX7_solve_66 : decode cX7_solve 66 = .ok (.goto 4, 3) := by decide +kernel
theorem dX7_solve_69 : decode cX7_solve 69 = .ok (.lconst 0, 1) := by decide +kernel
theorem dX7_solve_70 : decode cX7_solve 70 = .ok (.lastore, 1) := by decide +kernel
theorem dX7_solve_71 : decode cX7_solve 71 = .ok (.aload_n 0, 1) := by decide +kernel
theorem dX7_solve_72 : decode cX7_solve 72 = .ok (.getfield 46, 3) := by decide +kernel
theorem dX7_solve_75 : decode cX7_solve 75 = .ok (.iload_n 1, 1) := by decide +kernel
theorem dX7_solve_76 : decode cX7_solve 76 = .ok (.iload_n 2, 1) := by decide +kernel
theorem dX7_solve_77 : decode cX7_solve 77 = .ok (.ifCond .eq 7, 3) := by decide +kernel
theorem dX7_solve_80 : decode cX7_solve 80 = .ok (.iconst 0, 1) := by decide +kernel
theorem dX7_solve_81 : decode cX7_solve 81 = .ok (.goto 4, 3) := by decide +kernel
theorem dX7_solve_84 : decode cX7_solve 84 = .ok (.iconst (-1), 1) := by decide +kernel
theorem dX7_solve_85 : decode cX7_solve 85 = .ok (.iastore, 1) := by decide +kernel
theorem dX7_solve_86 : decode cX7_solve 86 = .ok (.iinc 1 1, 3) := by decide +kernel
theorem dX7_solve_89 : decode cX7_solve 89 = .ok (.goto (-87), 3) := by decide +kernel
theorem dX7_solve_92 : decode cX7_solve 92 = .ok (.bipush 16, 2) := by decide +kernel
theorem dX7_solve_94 : decode cX7_solve 94 = .ok (.newarray .boolean, 2) := by decide +kernel
theorem dX7_solve_96 : decode cX7_solve 96 = .ok (.astore_n 1, 1) := by decide +kernel
theorem dX7_solve_97 : decode cX7_solve 97 = .ok (.iconst 4, 1) := by decide +kernel
theorem dX7_solve_98 : decode cX7_solve 98 = .ok (.newarray .boolean, 2) := by decide +kernel
theorem dX7_solve_100 : decode cX7_solve 100 = .ok (.astore_n 2, 1) := by decide +kernel
theorem dX7_solve_101 : decode cX7_solve 101 = .ok (.iconst 1, 1) := by decide +kernel
theorem dX7_solve_102 : decode cX7_solve 102 = .ok (.istore_n 3, 1) := by decide +kernel
theorem dX7_solve_103 : decode cX7_solve 103 = .ok (.iload_n 3, 1) := by decide +kernel
theorem dX7_solve_104 : decode cX7_solve 104 = .ok (.ifCond .eq 166, 3) := by decide +kernel
theorem dX7_solve_107 : decode cX7_solve 107 = .ok (.iconst 0, 1) := by decide +kernel
theorem dX7_solve_108 : decode cX7_solve 108 = .ok (.istore 4, 2) := by decide +kernel
theorem dX7_solve_110 : decode cX7_solve 110 = .ok (.iload 4, 2) := by decide +kernel
theorem dX7_solve_112 : decode cX7_solve 112 = .ok (.aload_n 0, 1) := by decide +kernel
theorem dX7_solve_113 : decode cX7_solve 113 = .ok (.getfield 77, 3) := by decide +kernel
theorem dX7_solve_116 : decode cX7_solve 116 = .ok (.if_icmp .ge 49, 3) := by decide +kernel
theorem dX7_solve_119 : decode cX7_solve 119 = .ok (.aload_n 1, 1) := by decide +kernel
theorem dX7_solve_120 : decode cX7_solve 120 = .ok (.iload 4, 2) := by decide +kernel
theorem dX7_solve_122 : decode cX7_solve 122 = .ok (.baload, 1) := by decide +kernel
theorem dX7_solve_123 : decode cX7_solve 123 = .ok (.ifCond .ne 36, 3) := by decide +kernel
theorem dX7_solve_126 : decode cX7_solve 126 = .ok (.aload_n 0, 1) := by decide +kernel
theorem dX7_solve_127 : decode cX7_solve 127 = .ok (.aload_n 0, 1) := by decide +kernel
theorem dX7_solve_128 : decode cX7_solve 128 = .ok (.aload_n 0, 1) := by decide +kernel
theorem dX7_solve_129 : decode cX7_solve 129 = .ok (.getfield 30, 3) := by decide +kernel
theorem dX7_solve_132 : decode cX7_solve 132 = .ok (.iload 4, 2) := by decide +kernel
theorem dX7_solve_134 : decode cX7_solve 134 = .ok (.iaload, 1) := by decide +kernel
theorem dX7_solve_135 : decode cX7_solve 135 = .ok (.invokevirtual 80, 3) := by decide +kernel
theorem dX7_solve_138 : decode cX7_solve 138 = .ok (.invokevirtual 126, 3) := by decide +kernel
theorem dX7_solve_141 : decode cX7_solve 141 = .ok (.aload_n 0, 1) := by decide +kernel
theorem dX7_solve_142 : decode cX7_solve 142 = .ok (.aload_n 0, 1) := by decide +kernel
theorem dX7_solve_143 : decode cX7_solve 143 = .ok (.aload_n 0, 1) := by decide +kernel
theorem dX7_solve_144 : decode cX7_solve 144 = .ok (.getfield 33, 3) := by decide +kernel
theorem dX7_solve_147 : decode cX7_solve 147 = .ok (.iload 4, 2) := by decide +kernel
theorem dX7_solve_149 : decode cX7_solve 149 = .ok (.iaload, 1) := by decide +kernel
theorem dX7_solve_150 : decode cX7_solve 150 = .ok (.invokevirtual 80, 3) := by decide +kernel
theorem dX7_solve_153 : decode cX7_solve 153 = .ok (.invokevirtual 126, 3) := by decide +kernel
theorem dX7_solve_156 : decode cX7_solve 156 = .ok (.if_icmp .ne 9, 3) := by decide +kernel
theorem dX7_solve_159 : decode cX7_solve 159 = .ok (.iinc 4 1, 3) := by decide +kernel
theorem dX7_solve_162 : decode cX7_solve 162 = .ok (.goto (-52), 3) := by decide +kernel
theorem dX7_solve_165 : decode cX7_solve 165 = .ok (.iload 4, 2) := by decide +kernel
theorem dX7_solve_167 : decode cX7_solve 167 = .ok (.aload_n 0, 1) := by decide +kernel
theorem dX7_solve_168 : decode cX7_solve 168 = .ok (.getfield 77, 3) := by decide +kernel
theorem dX7_solve_171 : decode cX7_solve 171 = .ok (.if_icmp .ge 24, 3) := by decide +kernel
theorem dX7_solve_174 : decode cX7_solve 174 = .ok (.aload_n 1, 1) := by decide +kernel
theorem dX7_solve_175 : decode cX7_solve 175 = .ok (.iload 4, 2) := by decide +kernel
theorem dX7_solve_177 : decode cX7_solve 177 = .ok (.aload_n 0, 1) := by decide +kernel
theorem dX7_solve_178 : decode cX7_solve 178 = .ok (.iload 4, 2) := by decide +kernel
theorem dX7_solve_180 : decode cX7_solve 180 = .ok (.invokevirtual 149, 3) := by decide +kernel
theorem dX7_solve_183 : decode cX7_solve 183 = .ok (.ifCond .ne 7, 3) := by decide +kernel
theorem dX7_solve_186 : decode cX7_solve 186 = .ok (.iconst 1, 1) := by decide +kernel
theorem dX7_solve_187 : decode cX7_solve 187 = .ok (.goto 4, 3) := by decide +kernel
theorem dX7_solve_190 : decode cX7_solve 190 = .ok (.iconst 0, 1) := by decide +kernel
theorem dX7_solve_191 : decode cX7_solve 191 = .ok (.bastore, 1) := by decide +kernel
theorem dX7_solve_192 : decode cX7_solve 192 = .ok (.goto (-89), 3) := by decide +kernel
theorem dX7_solve_195 : decode cX7_solve 195 = .ok (.iconst 0, 1) := by decide +kernel
theorem dX7_solve_196 : decode cX7_solve 196 = .ok (.istore 5, 2) := by decide +kernel
theorem dX7_solve_198 : decode cX7_solve 198 = .ok (.iload 5, 2) := by decide +kernel
theorem dX7_solve_200 : decode cX7_solve 200 = .ok (.aload_n 0, 1) := by decide +kernel
theorem dX7_solve_201 : decode cX7_solve 201 = .ok (.getfield 101, 3) := by decide +kernel
theorem dX7_solve_204 : decode cX7_solve 204 = .ok (.if_icmp .ge 26, 3) := by decide +kernel
theorem dX7_solve_207 : decode cX7_solve 207 = .ok (.aload_n 2, 1) := by decide +kernel
theorem dX7_solve_208 : decode cX7_solve 208 = .ok (.iload 5, 2) := by decide +kernel
theorem dX7_solve_210 : decode cX7_solve 210 = .ok (.baload, 1) := by decide +kernel
theorem dX7_solve_211 : decode cX7_solve 211 = .ok (.ifCond .ne 13, 3) := by decide +kernel
theorem dX7_solve_214 : decode cX7_solve 214 = .ok (.aload_n 0, 1) := by decide +kernel
theorem dX7_solve_215 : decode cX7_solve 215 = .ok (.iload 5, 2) := by decide +kernel
theorem dX7_solve_217 : decode cX7_solve 217 = .ok (.invokevirtual 152, 3) := by decide +kernel
theorem dX7_solve_220 : decode cX7_solve 220 = .ok (.iconst 2, 1) := by decide +kernel
theorem dX7_solve_221 : decode cX7_solve 221 = .ok (.if_icmp .eq 9, 3) := by decide +kernel
theorem dX7_solve_224 : decode cX7_solve 224 = .ok (.iinc 5 1, 3) := by decide +kernel
theorem dX7_solve_227 : decode cX7_solve 227 = .ok (.goto (-29), 3) := by decide +kernel
theorem dX7_solve_230 : decode cX7_solve 230 = .ok (.iload 5, 2) := by decide +kernel
theorem dX7_solve_232 : decode cX7_solve 232 = .ok (.aload_n 0, 1) := by decide +kernel
theorem dX7_solve_233 : decode cX7_solve 233 = .ok (.getfield 101, 3) := by decide +kernel
theorem dX7_solve_236 : decode cX7_solve 236 = .ok (.if_icmp .ge 7, 3) := by decide +kernel
theorem dX7_solve_239 : decode cX7_solve 239 = .ok (.iconst 1, 1) := by decide +kernel
theorem dX7_solve_240 : decode cX7_solve 240 = .ok (.goto 4, 3) := by decide +kernel
theorem dX7_solve_243 : decode cX7_solve 243 = .ok (.iconst 0, 1) := by decide +kernel
theorem dX7_solve_244 : decode cX7_solve 244 = .ok (.istore_n 3, 1) := by decide +kernel
theorem dX7_solve_245 : decode cX7_solve 245 = .ok (.iload_n 3, 1) := by decide +kernel
theorem dX7_solve_246 : decode cX7_solve 246 = .ok (.ifCond .eq 21, 3) := by decide +kernel
theorem dX7_solve_249 : decode cX7_solve 249 = .ok (.aload_n 2, 1) := by decide +kernel
theorem dX7_solve_250 : decode cX7_solve 250 = .ok (.iload 5, 2) := by decide +kernel
theorem dX7_solve_252 : decode cX7_solve 252 = .ok (.aload_n 0, 1) := by decide +kernel
theorem dX7_solve_253 : decode cX7_solve 253 = .ok (.iload 5, 2) := by decide +kernel
theorem dX7_solve_255 : decode cX7_solve 255 = .ok (.invokevirtual 155, 3) := by decide +kernel
theorem dX7_solve_258 : decode cX7_solve 258 = .ok (.ifCond .ne 7, 3) := by decide +kernel
theorem dX7_solve_261 : decode cX7_solve 261 = .ok (.iconst 1, 1) := by decide +kernel
theorem dX7_solve_262 : decode cX7_solve 262 = .ok (.goto 4, 3) := by decide +kernel
theorem dX7_solve_265 : decode cX7_solve 265 = .ok (.iconst 0, 1) := by decide +kernel
theorem dX7_solve_266 : decode cX7_solve 266 = .ok (.bastore, 1) := by decide +kernel
theorem dX7_solve_267 : decode cX7_solve 267 = .ok (.goto (-164), 3) := by decide +kernel
theorem dX7_solve_270 : decode cX7_solve 270 = .ok (.return_, 1) := by decide +kernel
set_option maxRecDepth 20000 in
theorem ggX7_isTold_X7_isShaft : GoodIn wsX7_isTold wsX7_isShaft := goodIn_r _ [6, 7, 8, 9, 5, 10, 83, 84, 85, 86, 87, 88, 89, 90, 91, 92, 93, 94, 95, 96, 97, 98, 99, 100, 101, 102] (by decide +kernel) (by decide +kernel)
set_option maxRecDepth 20000 in
theorem gX7_isTold_X7_isShaft : GoodIn wsX7_isTold (wsV RX7 70 RX7 yX7_isShaft wsX7_isShaft) := goodIn_app (goodIn_of _ (by decide +kernel)) ggX7_isTold_X7_isShaft
set_option maxRecDepth 20000 in
theorem ggX7_isTold_X7_solve : GoodIn wsX7_isTold wsX7_solve := goodIn_r _ [14, 7, 15, 16, 17, 18, 19, 20, 21, 22, 23, 24, 25, 26, 27, 28, 5, 29, 30, 31, 32, 33, 34, 35, 36, 37, 38, 39, 40, 41, 42, 43, 44, 45, 46, 47, 48, 49, 50, 51, 52, 53, 54, 55, 56, 57, 58, 59, 60, 61, 62, 63, 64, 65, 66, 67, 68, 69, 70, 71, 72, 73, 74, 75, 76, 77, 78, 79, 80, 81, 82, 83, 84, 85, 86, 87, 88, 89, 90, 91, 92, 93, 94, 95, 96, 97, 98, 99, 100, 101, 102] (by decide +kernel) (by decide +kernel)
set_option maxRecDepth 20000 in
theorem gX7_isTold_X7_solve : GoodIn wsX7_isTold (wsV RX7 158 RX7 yX7_solve wsX7_solve) := goodIn_app (goodIn_of _ (by decide +kernel)) ggX7_isTold_X7_solve
set_option maxRecDepth 20000 in
theorem ggX7_isTold_X7_hasSpeed : GoodIn wsX7_isTold wsX7_hasSpeed := goodIn_r _ [34, 19, 83, 84, 85, 86, 87, 88, 89, 90, 91, 92, 93, 94, 95, 96, 97, 98, 99, 100, 101, 102] (by decide +kernel) (by decide +kernel)
set_option maxRecDepth 20000 in
theorem gX7_isTold_X7_hasSpeed : GoodIn wsX7_isTold (wsV RX7 126 RX7 yX7_hasSpeed wsX7_hasSpeed) := goodIn_app (goodIn_of _ (by decide +kernel)) ggX7_isTold_X7_hasSpeed
theorem dX7_isTold_0 : decode cX7_isTold 0 = .ok (.aload_n 0, 1) := by decide +kernel
theorem dX7_isTold_1 : decode cX7_isTold 1 = .ok (.aload_n 0, 1) := by decide +kernel
theorem dX7_isTold_2 : decode cX7_isTold 2 = .ok (.iload_n 1, 1) := by decide +kernel
theorem dX7_isTold_3 : decode cX7_isTold 3 = .ok (.invokevirtual 70, 3) := by decide +kernel
theorem dX7_isTold_6 : decode cX7_isTold 6 = .ok (.ifCond .eq 7, 3) := by decide +kernel
theorem dX7_isTold_9 : decode cX7_isTold 9 = .ok (.iconst 0, 1) := by decide +kernel
theorem dX7_isTold_10 : decode cX7_isTold 10 = .ok (.goto 4, 3) := by decide +kernel
theorem dX7_isTold_13 : decode cX7_isTold 13 = .ok (.iconst 1, 1) := by decide +kernel
theorem dX7_isTold_14 : decode cX7_isTold 14 = .ok (.putfield 49, 3) := by decide +kernel
theorem dX7_isTold_17 : decode cX7_isTold 17 = .ok (.aload_n 0, 1) := by decide +kernel
theorem dX7_isTold_18 : decode cX7_isTold 18 = .ok (.getfield 49, 3) := by decide +kernel
theorem dX7_isTold_21 : decode cX7_isTold 21 = .ok (.ifCond .eq 5, 3) := by decide +kernel
theorem dX7_isTold_24 : decode cX7_isTold 24 = .ok (.iconst 0, 1) := by decide +kernel
theorem dX7_isTold_25 : decode cX7_isTold 25 = .ok (.ireturn, 1) := by decide +kernel
theorem dX7_isTold_26 : decode cX7_isTold 26 = .ok (.aload_n 0, 1) := by decide +kernel
theorem dX7_isTold_27 : decode cX7_isTold 27 = .ok (.invokevirtual 158, 3) := by decide +kernel
theorem dX7_isTold_30 : decode cX7_isTold 30 = .ok (.aload_n 0, 1) := by decide +kernel
theorem dX7_isTold_31 : decode cX7_isTold 31 = .ok (.iload_n 1, 1) := by decide +kernel
theorem dX7_isTold_32 : decode cX7_isTold 32 = .ok (.invokevirtual 126, 3) := by decide +kernel
theorem dX7_isTold_35 : decode cX7_isTold 35 = .ok (.ireturn, 1) := by decide +kernel
set_option maxRecDepth 20000 in
theorem ggX7_speed_X7_isShaft : GoodIn wsX7_speed wsX7_isShaft := goodIn_r _ [8, 9, 10, 11, 7, 12, 87, 88, 89, 90, 91, 92, 93, 94, 95, 96, 97, 98, 99, 100, 101, 102, 103, 104, 105, 106] (by decide +kernel) (by decide +kernel)
set_option maxRecDepth 20000 in
theorem gX7_speed_X7_isShaft : GoodIn wsX7_speed (wsV RX7 70 RX7 yX7_isShaft wsX7_isShaft) := goodIn_app (goodIn_of _ (by decide +kernel)) ggX7_speed_X7_isShaft
set_option maxRecDepth 20000 in
theorem ggX7_speed_X7_fail : GoodIn wsX7_speed wsX7_fail := goodIn_r _ [16, 1, 87, 88, 89, 90, 91, 92, 93, 94, 95, 96, 97, 98, 99, 100, 101, 102, 103, 104, 105, 106] (by decide +kernel) (by decide +kernel)
set_option maxRecDepth 20000 in
theorem gX7_speed_X7_fail : GoodIn wsX7_speed (wsV RX7 66 RX7 yX7_fail wsX7_fail) := goodIn_app (goodIn_of _ (by decide +kernel)) ggX7_speed_X7_fail
set_option maxRecDepth 20000 in
theorem ggX7_speed_X7_solve : GoodIn wsX7_speed wsX7_solve := goodIn_r _ [20, 9, 21, 22, 3, 23, 2, 24, 25, 26, 27, 28, 29, 30, 31, 32, 7, 33, 34, 35, 36, 37, 38, 39, 40, 41, 42, 43, 44, 45, 46, 47, 48, 49, 50, 51, 52, 53, 54, 55, 56, 57, 58, 59, 60, 61, 62, 63, 64, 65, 66, 67, 68, 69, 70, 71, 72, 73, 74, 75, 76, 77, 78, 79, 80, 81, 82, 83, 84, 85, 86, 87, 88, 89, 90, 91, 92, 93, 94, 95, 96, 97, 98, 99, 100, 101, 102, 103, 104, 105, 106] (by decide +kernel) (by decide +kernel)
set_option maxRecDepth 20000 in
theorem gX7_speed_X7_solve : GoodIn wsX7_speed (wsV RX7 158 RX7 yX7_solve wsX7_solve) := goodIn_app (goodIn_of _ (by decide +kernel)) ggX7_speed_X7_solve
set_option maxRecDepth 20000 in
theorem ggX7_speed_X7_hasSpeed : GoodIn wsX7_speed wsX7_hasSpeed := goodIn_r _ [38, 2, 87, 88, 89, 90, 91, 92, 93, 94, 95, 96, 97, 98, 99, 100, 101, 102, 103, 104, 105, 106] (by decide +kernel) (by decide +kernel)
set_option maxRecDepth 20000 in
theorem gX7_speed_X7_hasSpeed : GoodIn wsX7_speed (wsV RX7 126 RX7 yX7_hasSpeed wsX7_hasSpeed) := goodIn_app (goodIn_of _ (by decide +kernel)) ggX7_speed_X7_hasSpeed
theorem dX7_speed_0 : decode cX7_speed 0 = .ok (.aload_n 0, 1) := by decide +kernel
theorem dX7_speed_1 : decode cX7_speed 1 = .ok (.iconst 0, 1) := by decide +kernel
theorem dX7_speed_2 : decode cX7_speed 2 = .ok (.putfield 49, 3) := by decide +kernel
theorem dX7_speed_5 : decode cX7_speed 5 = .ok (.aload_n 0, 1) := by decide +kernel
theorem dX7_speed_6 : decode cX7_speed 6 = .ok (.iload_n 1, 1) := by decide +kernel
theorem dX7_speed_7 : decode cX7_speed 7 = .ok (.invokevirtual 70, 3) := by decide +kernel
theorem dX7_speed_10 : decode cX7_speed 10 = .ok (.ifCond .ne 9, 3) := by decide +kernel
theorem dX7_speed_13 : decode cX7_speed 13 = .ok (.aload_n 0, 1) := by decide +kernel
theorem dX7_speed_14 : decode cX7_speed 14 = .ok (.iconst 1, 1) := by decide +kernel
theorem dX7_speed_15 : decode cX7_speed 15 = .ok (.invokevirtual 66, 3) := by decide +kernel
theorem dX7_speed_18 : decode cX7_speed 18 = .ok (.ireturn, 1) := by decide +kernel
theorem dX7_speed_19 : decode cX7_speed 19 = .ok (.aload_n 0, 1) := by decide +kernel
theorem dX7_speed_20 : decode cX7_speed 20 = .ok (.invokevirtual 158, 3) := by decide +kernel
theorem dX7_speed_23 : decode cX7_speed 23 = .ok (.aload_n 0, 1) := by decide +kernel
theorem dX7_speed_24 : decode cX7_speed 24 = .ok (.iload_n 1, 1) := by decide +kernel
theorem dX7_speed_25 : decode cX7_speed 25 = .ok (.invokevirtual 126, 3) := by decide +kernel
theorem dX7_speed_28 : decode cX7_speed 28 = .ok (.ifCond .ne 9, 3) := by decide +kernel
theorem dX7_speed_31 : decode cX7_speed 31 = .ok (.aload_n 0, 1) := by decide +kernel
theorem dX7_speed_32 : decode cX7_speed 32 = .ok (.iconst 2, 1) := by decide +kernel
theorem dX7_speed_33 : decode cX7_speed 33 = .ok (.invokevirtual 66, 3) := by decide +kernel
theorem dX7_speed_36 : decode cX7_speed 36 = .ok (.ireturn, 1) := by decide +kernel
theorem dX7_speed_37 : decode cX7_speed 37 = .ok (.iload_n 2, 1) := by decide +kernel
theorem dX7_speed_38 : decode cX7_speed 38 = .ok (.ifCond .eq 12, 3) := by decide +kernel
theorem dX7_speed_41 : decode cX7_speed 41 = .ok (.aload_n 0, 1) := by decide +kernel
theorem dX7_speed_42 : decode cX7_speed 42 = .ok (.getfield 43, 3) := by decide +kernel
theorem dX7_speed_45 : decode cX7_speed 45 = .ok (.iload_n 1, 1) := by decide +kernel
theorem dX7_speed_46 : decode cX7_speed 46 = .ok (.laload, 1) := by decide +kernel
theorem dX7_speed_47 : decode cX7_speed 47 = .ok (.goto 9, 3) := by decide +kernel
theorem dX7_speed_50 : decode cX7_speed 50 = .ok (.aload_n 0, 1) := by decide +kernel
theorem dX7_speed_51 : decode cX7_speed 51 = .ok (.getfield 39, 3) := by decide +kernel
theorem dX7_speed_54 : decode cX7_speed 54 = .ok (.iload_n 1, 1) := by decide +kernel
theorem dX7_speed_55 : decode cX7_speed 55 = .ok (.laload, 1) := by decide +kernel
theorem dX7_speed_56 : decode cX7_speed 56 = .ok (.l2i, 1) := by decide +kernel
theorem dX7_speed_57 : decode cX7_speed 57 = .ok (.ireturn, 1) := by decide +kernel
set_option maxRecDepth 20000 in
theorem ggX7_stage_X7_isShaft : GoodIn wsX7_stage wsX7_isShaft := goodIn_r _ [7, 8, 9, 10, 6, 11, 87, 88, 89, 90, 91, 92, 93, 94, 95, 96, 97, 98, 99, 100, 101, 102, 103, 104, 105, 106] (by decide +kernel) (by decide +kernel)
set_option maxRecDepth 20000 in
theorem gX7_stage_X7_isShaft : GoodIn wsX7_stage (wsV RX7 70 RX7 yX7_isShaft wsX7_isShaft) := goodIn_app (goodIn_of _ (by decide +kernel)) ggX7_stage_X7_isShaft
set_option maxRecDepth 20000 in
theorem ggX7_stage_X7_fail : GoodIn wsX7_stage wsX7_fail := goodIn_r _ [15, 1, 87, 88, 89, 90, 91, 92, 93, 94, 95, 96, 97, 98, 99, 100, 101, 102, 103, 104, 105, 106] (by decide +kernel) (by decide +kernel)
set_option maxRecDepth 20000 in
theorem gX7_stage_X7_fail : GoodIn wsX7_stage (wsV RX7 66 RX7 yX7_fail wsX7_fail) := goodIn_app (goodIn_of _ (by decide +kernel)) ggX7_stage_X7_fail
set_option maxRecDepth 20000 in
theorem ggX7_stage_X7_solve : GoodIn wsX7_stage wsX7_solve := goodIn_r _ [19, 8, 20, 21, 22, 23, 24, 2, 25, 26, 27, 28, 29, 30, 31, 32, 6, 33, 34, 35, 36, 37, 38, 39, 40, 41, 42, 43, 44, 45, 46, 47, 48, 49, 50, 51, 52, 53, 54, 55, 56, 57, 58, 59, 60, 61, 62, 63, 64, 65, 66, 67, 68, 69, 70, 71, 72, 73, 74, 75, 76, 77, 78, 79, 80, 81, 82, 83, 84, 85, 86, 87, 88, 89, 90, 91, 92, 93, 94, 95, 96, 97, 98, 99, 100, 101, 102, 103, 104, 105, 106] (by decide +kernel) (by decide +kernel)
set_option maxRecDepth 20000 in
theorem gX7_stage_X7_solve : GoodIn wsX7_stage (wsV RX7 158 RX7 yX7_solve wsX7_solve) := goodIn_app (goodIn_of _ (by decide +kernel)) ggX7_stage_X7_solve
theorem dX7_stage_0 : decode cX7_stage 0 = .ok (.aload_n 0, 1) := by decide +kernel
theorem dX7_stage_1 : decode cX7_stage 1 = .ok (.iconst 0, 1) := by decide +kernel
theorem dX7_stage_2 : decode cX7_stage 2 = .ok (.putfield 49, 3) := by decide +kernel
theorem dX7_stage_5 : decode cX7_stage 5 = .ok (.aload_n 0, 1) := by decide +kernel
theorem dX7_stage_6 : decode cX7_stage 6 = .ok (.iload_n 1, 1) := by decide +kernel
theorem dX7_stage_7 : decode cX7_stage 7 = .ok (.invokevirtual 70, 3) := by decide +kernel
theorem dX7_stage_10 : decode cX7_stage 10 = .ok (.ifCond .ne 9, 3) := by decide +kernel
theorem dX7_stage_13 : decode cX7_stage 13 = .ok (.aload_n 0, 1) := by decide +kernel
theorem dX7_stage_14 : decode cX7_stage 14 = .ok (.iconst 1, 1) := by decide +kernel
theorem dX7_stage_15 : decode cX7_stage 15 = .ok (.invokevirtual 66, 3) := by decide +kernel
theorem dX7_stage_18 : decode cX7_stage 18 = .ok (.ireturn, 1) := by decide +kernel
theorem dX7_stage_19 : decode cX7_stage 19 = .ok (.aload_n 0, 1) := by decide +kernel
theorem dX7_stage_20 : decode cX7_stage 20 = .ok (.invokevirtual 158, 3) := by decide +kernel
theorem dX7_stage_23 : decode cX7_stage 23 = .ok (.aload_n 0, 1) := by decide +kernel
theorem dX7_stage_24 : decode cX7_stage 24 = .ok (.getfield 46, 3) := by decide +kernel
theorem dX7_stage_27 : decode cX7_stage 27 = .ok (.iload_n 1, 1) := by decide +kernel
theorem dX7_stage_28 : decode cX7_stage 28 = .ok (.iaload, 1) := by decide +kernel
theorem dX7_stage_29 : decode cX7_stage 29 = .ok (.ireturn, 1) := by decide +kernel
theorem dX7_worth_0 : decode cX7_worth 0 = .ok (.aload_n 0, 1) := by decide +kernel
theorem dX7_worth_1 : decode cX7_worth 1 = .ok (.getfield 39, 3) := by decide +kernel
theorem dX7_worth_4 : decode cX7_worth 4 = .ok (.iload_n 1, 1) := by decide +kernel
theorem dX7_worth_5 : decode cX7_worth 5 = .ok (.laload, 1) := by decide +kernel
theorem dX7_worth_6 : decode cX7_worth 6 = .ok (.l2d, 1) := by decide +kernel
theorem dX7_worth_7 : decode cX7_worth 7 = .ok (.aload_n 0, 1) := by decide +kernel
theorem dX7_worth_8 : decode cX7_worth 8 = .ok (.getfield 43, 3) := by decide +kernel
theorem dX7_worth_11 : decode cX7_worth 11 = .ok (.iload_n 1, 1) := by decide +kernel
theorem dX7_worth_12 : decode cX7_worth 12 = .ok (.laload, 1) := by decide +kernel
theorem dX7_worth_13 : decode cX7_worth 13 = .ok (.l2d, 1) := by decide +kernel
theorem dX7_worth_14 : decode cX7_worth 14 = .ok (.ddiv, 1) := by decide +kernel
theorem dX7_worth_15 : decode cX7_worth 15 = .ok (.dreturn, 1) := by decide +kernel
set_option maxRecDepth 20000 in
theorem ggX7_ratio_X7_isShaft : GoodIn wsX7_ratio wsX7_isShaft := goodIn_r _ [7, 8, 9, 10, 6, 11, 87, 88, 89, 90, 91, 92, 93, 94, 95, 96, 97, 98, 99, 100, 101, 102, 103, 104, 105, 106] (by decide +kernel) (by decide +kernel)
set_option maxRecDepth 20000 in
theorem gX7_ratio_X7_isShaft : GoodIn wsX7_ratio (wsV RX7 70 RX7 yX7_isShaft wsX7_isShaft) := goodIn_app (goodIn_of _ (by decide +kernel)) ggX7_ratio_X7_isShaft
set_option maxRecDepth 20000 in
theorem ggX7_ratio_X7_solve : GoodIn wsX7_ratio wsX7_solve := goodIn_r _ [15, 8, 16, 17, 2, 18, 19, 20, 21, 22, 23, 24, 25, 26, 27, 28, 6, 29, 30, 31, 32, 33, 34, 35, 36, 37, 38, 39, 40, 41, 42, 43, 44, 45, 46, 47, 48, 49, 50, 51, 52, 53, 54, 55, 56, 57, 58, 59, 60, 61, 62, 63, 64, 65, 66, 67, 68, 69, 70, 71, 72, 73, 74, 75, 76, 77, 78, 79, 80, 81, 82, 87, 88, 89, 90, 91, 92, 93, 94, 95, 96, 97, 98, 99, 100, 101, 102, 103, 104, 105, 106] (by decide +kernel) (by decide +kernel)
set_option maxRecDepth 20000 in
theorem gX7_ratio_X7_solve : GoodIn wsX7_ratio (wsV RX7 158 RX7 yX7_solve wsX7_solve) := goodIn_app (goodIn_of _ (by decide +kernel)) ggX7_ratio_X7_solve
set_option maxRecDepth 20000 in
theorem ggX7_ratio_X7_hasSpeed : GoodIn wsX7_ratio wsX7_hasSpeed := goodIn_r _ [34, 19, 87, 88, 89, 90, 91, 92, 93, 94, 95, 96, 97, 98, 99, 100, 101, 102, 103, 104, 105, 106] (by decide +kernel) (by decide +kernel)
set_option maxRecDepth 20000 in
theorem gX7_ratio_X7_hasSpeed : GoodIn wsX7_ratio (wsV RX7 126 RX7 yX7_hasSpeed wsX7_hasSpeed) := goodIn_app (goodIn_of _ (by decide +kernel)) ggX7_ratio_X7_hasSpeed
set_option maxRecDepth 20000 in
theorem ggX7_ratio_X7_worth : GoodIn wsX7_ratio wsX7_worth := goodIn_r _ [86, 2, 19, 87, 88, 89, 90, 91, 92, 93, 94, 95, 96, 97, 98, 99, 100, 101, 102, 103, 104, 105, 106] (by decide +kernel) (by decide +kernel)
set_option maxRecDepth 20000 in
theorem gX7_ratio_X7_worth : GoodIn wsX7_ratio (wsV RX7 161 RX7 yX7_worth wsX7_worth) := goodIn_app (goodIn_of _ (by decide +kernel)) ggX7_ratio_X7_worth
theorem dX7_ratio_0 : decode cX7_ratio 0 = .ok (.aload_n 0, 1) := by decide +kernel
theorem dX7_ratio_1 : decode cX7_ratio 1 = .ok (.aload_n 0, 1) := by decide +kernel
theorem dX7_ratio_2 : decode cX7_ratio 2 = .ok (.iload_n 1, 1) := by decide +kernel
theorem dX7_ratio_3 : decode cX7_ratio 3 = .ok (.invokevirtual 70, 3) := by decide +kernel
theorem dX7_ratio_6 : decode cX7_ratio 6 = .ok (.ifCond .eq 15, 3) := by decide +kernel
theorem dX7_ratio_9 : decode cX7_ratio 9 = .ok (.aload_n 0, 1) := by decide +kernel
theorem dX7_ratio_10 : decode cX7_ratio 10 = .ok (.iload_n 2, 1) := by decide +kernel
theorem dX7_ratio_11 : decode cX7_ratio 11 = .ok (.invokevirtual 70, 3) := by decide +kernel
theorem dX7_ratio_14 : decode cX7_ratio 14 = .ok (.ifCond .eq 7, 3) := by decide +kernel
theorem dX7_ratio_17 : decode cX7_ratio 17 = .ok (.iconst 0, 1) := by decide +kernel
theorem dX7_ratio_18 : decode cX7_ratio 18 = .ok (.goto 4, 3) := by decide +kernel
theorem dX7_ratio_21 : decode cX7_ratio 21 = .ok (.iconst 1, 1) := by decide +kernel
theorem dX7_ratio_22 : decode cX7_ratio 22 = .ok (.putfield 49, 3) := by decide +kernel
theorem dX7_ratio_25 : decode cX7_ratio 25 = .ok (.aload_n 0, 1) := by decide +kernel
theorem dX7_ratio_26 : decode cX7_ratio 26 = .ok (.getfield 49, 3) := by decide +kernel
theorem dX7_ratio_29 : decode cX7_ratio 29 = .ok (.ifCond .eq 5, 3) := by decide +kernel
theorem dX7_ratio_32 : decode cX7_ratio 32 = .ok (.dconst 0, 1) := by decide +kernel
theorem dX7_ratio_33 : decode cX7_ratio 33 = .ok (.dreturn, 1) := by decide +kernel
theorem dX7_ratio_34 : decode cX7_ratio 34 = .ok (.aload_n 0, 1) := by decide +kernel
theorem dX7_ratio_35 : decode cX7_ratio 35 = .ok (.invokevirtual 158, 3) := by decide +kernel
theorem dX7_ratio_38 : decode cX7_ratio 38 = .ok (.aload_n 0, 1) := by decide +kernel
theorem dX7_ratio_39 : decode cX7_ratio 39 = .ok (.aload_n 0, 1) := by decide +kernel
theorem dX7_ratio_40 : decode cX7_ratio 40 = .ok (.iload_n 1, 1) := by decide +kernel
theorem dX7_ratio_41 : decode cX7_ratio 41 = .ok (.invokevirtual 126, 3) := by decide +kernel
theorem dX7_ratio_44 : decode cX7_ratio 44 = .ok (.ifCond .eq 26, 3) := by decide +kernel
theorem dX7_ratio_47 : decode cX7_ratio 47 = .ok (.aload_n 0, 1) := by decide +kernel
theorem dX7_ratio_48 : decode cX7_ratio 48 = .ok (.iload_n 2, 1) := by decide +kernel
theorem dX7_ratio_49 : decode cX7_ratio 49 = .ok (.invokevirtual 126, 3) := by decide +kernel
theorem dX7_ratio_52 : decode cX7_ratio 52 = .ok (.ifCond .eq 18, 3) := by decide +kernel
theorem dX7_ratio_55 : decode cX7_ratio 55 = .ok (.aload_n 0, 1) := by decide +kernel
theorem dX7_ratio_56 : decode cX7_ratio 56 = .ok (.getfield 39, 3) := by decide +kernel
theorem dX7_ratio_59 : decode cX7_ratio 59 = .ok (.iload_n 2, 1) := by decide +kernel
theorem dX7_ratio_60 : decode cX7_ratio 60 = .ok (.laload, 1) := by decide +kernel
theorem dX7_ratio_61 : decode cX7_ratio 61 = .ok (.lconst 0, 1) := by decide +kernel
theorem dX7_ratio_62 : decode cX7_ratio 62 = .ok (.lcmp, 1) := by decide +kernel
theorem dX7_ratio_63 : decode cX7_ratio 63 = .ok (.ifCond .eq 7, 3) := by decide +kernel
theorem dX7_ratio_66 : decode cX7_ratio 66 = .ok (.iconst 0, 1) := by decide +kernel
theorem dX7_ratio_67 : decode cX7_ratio 67 = .ok (.goto 4, 3) := by decide +kernel
theorem dX7_ratio_70 : decode cX7_ratio 70 = .ok (.iconst 2, 1) := by decide +kernel
theorem dX7_ratio_71 : decode cX7_ratio 71 = .ok (.putfield 49, 3) := by decide +kernel
theorem dX7_ratio_74 : decode cX7_ratio 74 = .ok (.aload_n 0, 1) := by decide +kernel
theorem dX7_ratio_75 : decode cX7_ratio 75 = .ok (.getfield 49, 3) := by decide +kernel
theorem dX7_ratio_78 : decode cX7_ratio 78 = .ok (.ifCond .ne 17, 3) := by decide +kernel
theorem dX7_ratio_81 : decode cX7_ratio 81 = .ok (.aload_n 0, 1) := by decide +kernel
theorem dX7_ratio_82 : decode cX7_ratio 82 = .ok (.iload_n 1, 1) := by decide +kernel
theorem dX7_ratio_83 : decode cX7_ratio 83 = .ok (.invokevirtual 161, 3) := by decide +kernel
theorem dX7_ratio_86 : decode cX7_ratio 86 = .ok (.aload_n 0, 1) := by decide +kernel
theorem dX7_ratio_87 : decode cX7_ratio 87 = .ok (.iload_n 2, 1) := by decide +kernel
theorem dX7_ratio_88 : decode cX7_ratio 88 = .ok (.invokevirtual 161, 3) := by decide +kernel
theorem dX7_ratio_91 : decode cX7_ratio 91 = .ok (.ddiv, 1) := by decide +kernel
theorem dX7_ratio_92 : decode cX7_ratio 92 = .ok (.goto 4, 3) := by decide +kernel
theorem dX7_ratio_95 : decode cX7_ratio 95 = .ok (.dconst 0, 1) := by decide +kernel
theorem dX7_ratio_96 : decode cX7_ratio 96 = .ok (.dreturn, 1) := by decide +kernel
set_option maxRecDepth 20000 in
theorem ggX7_isBrokenMesh_X7_shaftOf : GoodIn wsX7_isBrokenMesh wsX7_shaftOf := goodIn_r _ [9, 10, 24, 25, 26, 27, 28, 29, 30, 31, 32, 33, 34, 35, 36, 37, 38, 39, 40, 41, 42, 43] (by decide +kernel) (by decide +kernel)
set_option maxRecDepth 20000 in
theorem gX7_isBrokenMesh_X7_shaftOf : GoodIn wsX7_isBrokenMesh (wsV RX7 80 RX7 yX7_shaftOf wsX7_shaftOf) := goodIn_app (goodIn_of _ (by decide +kernel)) ggX7_isBrokenMesh_X7_shaftOf
set_option maxRecDepth 20000 in
theorem ggX7_isBrokenMesh_X7_hasSpeed : GoodIn wsX7_isBrokenMesh wsX7_hasSpeed := goodIn_r _ [14, 4, 24, 25, 26, 27, 28, 29, 30, 31, 32, 33, 34, 35, 36, 37, 38, 39, 40, 41, 42, 43] (by decide +kernel) (by decide +kernel)
set_option maxRecDepth 20000 in
theorem gX7_isBrokenMesh_X7_hasSpeed : GoodIn wsX7_isBrokenMesh (wsV RX7 126 RX7 yX7_hasSpeed wsX7_hasSpeed) := goodIn_app (goodIn_of _ (by decide +kernel)) ggX7_isBrokenMesh_X7_hasSpeed
set_option maxRecDepth 20000 in
theorem ggX7_isBrokenMesh_X7_teeth : GoodIn wsX7_isBrokenMesh wsX7_teeth := goodIn_r _ [18, 10, 24, 25, 26, 27, 28, 29, 30, 31, 32, 33, 34, 35, 36, 37, 38, 39, 40, 41, 42, 43] (by decide +kernel) (by decide +kernel)
set_option maxRecDepth 20000 in
theorem gX7_isBrokenMesh_X7_teeth : GoodIn wsX7_isBrokenMesh (wsV RX7 92 RX7 yX7_teeth wsX7_teeth) := goodIn_app (goodIn_of _ (by decide +kernel)) ggX7_isBrokenMesh_X7_teeth
set_option maxRecDepth 20000 in
theorem ggX7_isBrokenMesh_X7_isInner : GoodIn wsX7_isBrokenMesh wsX7_isInner := goodIn_r _ [22, 23, 1, 2, 24, 25, 26, 27, 28, 29, 30, 31, 32, 33, 34, 35, 36, 37, 38, 39, 40, 41, 42, 43] (by decide +kernel) (by decide +kernel)
set_option maxRecDepth 20000 in
theorem gX7_isBrokenMesh_X7_isInner : GoodIn wsX7_isBrokenMesh (wsV RX7 129 RX7 yX7_isInner wsX7_isInner) := goodIn_app (goodIn_of _ (by decide +kernel)) ggX7_isBrokenMesh_X7_isInner
theorem dX7_isBrokenMesh_0 : decode cX7_isBrokenMesh 0 = .ok (.aload_n 0, 1) := by decide +kernel
theorem dX7_isBrokenMesh_1 : decode cX7_isBrokenMesh 1 = .ok (.aload_n 0, 1) := by decide +kernel
theorem dX7_isBrokenMesh_2 : decode cX7_isBrokenMesh 2 = .ok (.getfield 30, 3) := by decide +kernel
theorem dX7_isBrokenMesh_5 : decode cX7_isBrokenMesh 5 = .ok (.iload_n 1, 1) := by decide +kernel
theorem dX7_isBrokenMesh_6 : decode cX7_isBrokenMesh 6 = .ok (.iaload, 1) := by decide +kernel
theorem dX7_isBrokenMesh_7 : decode cX7_isBrokenMesh 7 = .ok (.invokevirtual 80, 3) := by decide +kernel
theorem dX7_isBrokenMesh_10 : decode cX7_isBrokenMesh 10 = .ok (.istore_n 2, 1) := by decide +kernel
theorem dX7_isBrokenMesh_11 : decode cX7_isBrokenMesh 11 = .ok (.aload_n 0, 1) := by decide +kernel
theorem dX7_isBrokenMesh_12 : decode cX7_isBrokenMesh 12 = .ok (.aload_n 0, 1) := by decide +kernel
theorem dX7_isBrokenMesh_13 : decode cX7_isBrokenMesh 13 = .ok (.getfield 33, 3) := by decide +kernel
theorem dX7_isBrokenMesh_16 : decode cX7_isBrokenMesh 16 = .ok (.iload_n 1, 1) := by decide +kernel
theorem dX7_isBrokenMesh_17 : decode cX7_isBrokenMesh 17 = .ok (.iaload, 1) := by decide +kernel
theorem dX7_isBrokenMesh_18 : decode cX7_isBrokenMesh 18 = .ok (.invokevirtual 80, 3) := by decide +kernel
theorem dX7_isBrokenMesh_21 : decode cX7_isBrokenMesh 21 = .ok (.istore_n 3, 1) := by decide +kernel
theorem dX7_isBrokenMesh_22 : decode cX7_isBrokenMesh 22 = .ok (.aload_n 0, 1) := by decide +kernel
theorem dX7_isBrokenMesh_23 : decode cX7_isBrokenMesh 23 = .ok (.iload_n 2, 1) := by decide +kernel
theorem dX7_isBrokenMesh_24 : decode cX7_isBrokenMesh 24 = .ok (.invokevirtual 126, 3) := by decide +kernel
theorem dX7_isBrokenMesh_27 : decode cX7_isBrokenMesh 27 = .ok (.ifCond .eq 11, 3) := by decide +kernel
theorem dX7_isBrokenMesh_30 : decode cX7_isBrokenMesh 30 = .ok (.aload_n 0, 1) := by decide +kernel
theorem dX7_isBrokenMesh_31 : decode cX7_isBrokenMesh 31 = .ok (.iload_n 3, 1) := by decide +kernel
theorem dX7_isBrokenMesh_32 : decode cX7_isBrokenMesh 32 = .ok (.invokevirtual 126, 3) := by decide +kernel
theorem dX7_isBrokenMesh_35 : decode cX7_isBrokenMesh 35 = .ok (.ifCond .ne 5, 3) := by decide +kernel
theorem dX7_isBrokenMesh_38 : decode cX7_isBrokenMesh 38 = .ok (.iconst 0, 1) := by decide +kernel
theorem dX7_isBrokenMesh_39 : decode cX7_isBrokenMesh 39 = .ok (.ireturn, 1) := by decide +kernel
theorem dX7_isBrokenMesh_40 : decode cX7_isBrokenMesh 40 = .ok (.aload_n 0, 1) := by decide +kernel
theorem dX7_isBrokenMesh_41 : decode cX7_isBrokenMesh 41 = .ok (.getfield 39, 3) := by decide +kernel
theorem dX7_isBrokenMesh_44 : decode cX7_isBrokenMesh 44 = .ok (.iload_n 2, 1) := by decide +kernel
theorem dX7_isBrokenMesh_45 : decode cX7_isBrokenMesh 45 = .ok (.laload, 1) := by decide +kernel
theorem dX7_isBrokenMesh_46 : decode cX7_isBrokenMesh 46 = .ok (.aload_n 0, 1) := by decide +kernel
theorem dX7_isBrokenMesh_47 : decode cX7_isBrokenMesh 47 = .ok (.getfield 43, 3) := by decide +kernel
theorem dX7_isBrokenMesh_50 : decode cX7_isBrokenMesh 50 = .ok (.iload_n 3, 1) := by decide +kernel
theorem dX7_isBrokenMesh_51 : decode cX7_isBrokenMesh 51 = .ok (.laload, 1) := by decide +kernel
theorem dX7_isBrokenMesh_52 : decode cX7_isBrokenMesh 52 = .ok (.lmul, 1) := by decide +kernel
theorem dX7_isBrokenMesh_53 : decode cX7_isBrokenMesh 53 = .ok (.aload_n 0, 1) := by decide +kernel
theorem dX7_isBrokenMesh_54 : decode cX7_isBrokenMesh 54 = .ok (.aload_n 0, 1) := by decide +kernel
theorem dX7_isBrokenMesh_55 : decode cX7_isBrokenMesh 55 = .ok (.getfield 30, 3) := by decide +kernel
theorem dX7_isBrokenMesh_58 : decode cX7_isBrokenMesh 58 = .ok (.iload_n 1, 1) := by decide +kernel
theorem dX7_isBrokenMesh_59 : decode cX7_isBrokenMesh 59 = .ok (.iaload, 1) := by decide +kernel
theorem dX7_isBrokenMesh_60 : decode cX7_isBrokenMesh 60 = .ok (.invokevirtual 92, 3) := by decide +kernel
theorem dX7_isBrokenMesh_63 : decode cX7_isBrokenMesh 63 = .ok (.i2l, 1) := by decide +kernel
theorem dX7_isBrokenMesh_64 : decode cX7_isBrokenMesh 64 = .ok (.lmul, 1) := by decide +kernel
theorem dX7_isBrokenMesh_65 : decode cX7_isBrokenMesh 65 = .ok (.lstore 4, 2) := by decide +kernel
theorem dX7_isBrokenMesh_67 : decode cX7_isBrokenMesh 67 = .ok (.aload_n 0, 1) := by decide +kernel
theorem dX7_isBrokenMesh_68 : decode cX7_isBrokenMesh 68 = .ok (.getfield 39, 3) := by decide +kernel
theorem dX7_isBrokenMesh_71 : decode cX7_isBrokenMesh 71 = .ok (.iload_n 3, 1) := by decide +kernel
theorem dX7_isBrokenMesh_72 : decode cX7_isBrokenMesh 72 = .ok (.laload, 1) := by decide +kernel
theorem dX7_isBrokenMesh_73 : decode cX7_isBrokenMesh 73 = .ok (.aload_n 0, 1) := by decide +kernel
theorem dX7_isBrokenMesh_74 : decode cX7_isBrokenMesh 74 = .ok (.getfield 43, 3) := by decide +kernel
theorem dX7_isBrokenMesh_77 : decode cX7_isBrokenMesh 77 = .ok (.iload_n 2, 1) := by decide +kernel
theorem dX7_isBrokenMesh_78 : decode cX7_isBrokenMesh 78 = .ok (.laload, 1) := by decide +kernel
theorem dX7_isBrokenMesh_79 : decode cX7_isBrokenMesh 79 = .ok (.lmul, 1) := by decide +kernel
theorem dX7_isBrokenMesh_80 : decode cX7_isBrokenMesh 80 = .ok (.aload_n 0, 1) := by decide +kernel
theorem dX7_isBrokenMesh_81 : decode cX7_isBrokenMesh 81 = .ok (.aload_n 0, 1) := by decide +kernel
theorem dX7_isBrokenMesh_82 : decode cX7_isBrokenMesh 82 = .ok (.getfield 33, 3) := by decide +kernel
theorem dX7_isBrokenMesh_85 : decode cX7_isBrokenMesh 85 = .ok (.iload_n 1, 1) := by decide +kernel
theorem dX7_isBrokenMesh_86 : decode cX7_isBrokenMesh 86 = .ok (.iaload, 1) := by decide +kernel
theorem dX7_isBrokenMesh_87 : decode cX7_isBrokenMesh 87 = .ok (.invokevirtual 92, 3) := by decide +kernel
theorem dX7_isBrokenMesh_90 : decode cX7_isBrokenMesh 90 = .ok (.i2l, 1) := by decide +kernel
theorem dX7_isBrokenMesh_91 : decode cX7_isBrokenMesh 91 = .ok (.lmul, 1) := by decide +kernel
theorem dX7_isBrokenMesh_92 : decode cX7_isBrokenMesh 92 = .ok (.lstore 6, 2) := by decide +kernel
theorem dX7_isBrokenMesh_94 : decode cX7_isBrokenMesh 94 = .ok (.aload_n 0, 1) := by decide +kernel
theorem dX7_isBrokenMesh_95 : decode cX7_isBrokenMesh 95 = .ok (.iload_n 1, 1) := by decide +kernel
theorem dX7_isBrokenMesh_96 : decode cX7_isBrokenMesh 96 = .ok (.invokevirtual 129, 3) := by decide +kernel
theorem dX7_isBrokenMesh_99 : decode cX7_isBrokenMesh 99 = .ok (.ifCond .eq 19, 3) := by decide +kernel
theorem dX7_isBrokenMesh_102 : decode cX7_isBrokenMesh 102 = .ok (.lload 4, 2) := by decide +kernel
theorem dX7_isBrokenMesh_104 : decode cX7_isBrokenMesh 104 = .ok (.lload 6, 2) := by decide +kernel
theorem dX7_isBrokenMesh_106 : decode cX7_isBrokenMesh 106 = .ok (.lcmp, 1) := by decide +kernel
theorem dX7_isBrokenMesh_107 : decode cX7_isBrokenMesh 107 = .ok (.ifCond .eq 7, 3) := by decide +kernel
theorem dX7_isBrokenMesh_110 : decode cX7_isBrokenMesh 110 = .ok (.iconst 1, 1) := by decide +kernel
theorem dX7_isBrokenMesh_111 : decode cX7_isBrokenMesh 111 = .ok (.goto 21, 3) := by decide +kernel
theorem dX7_isBrokenMesh_114 : decode cX7_isBrokenMesh 114 = .ok (.iconst 0, 1) := by decide +kernel
theorem dX7_isBrokenMesh_115 : decode cX7_isBrokenMesh 115 = .ok (.goto 17, 3) := by decide +kernel
theorem dX7_isBrokenMesh_118 : decode cX7_isBrokenMesh 118 = .ok (.lload 4, 2) := by decide +kernel
theorem dX7_isBrokenMesh_120 : decode cX7_isBrokenMesh 120 = .ok (.lload 6, 2) := by decide +kernel
theorem dX7_isBrokenMesh_122 : decode cX7_isBrokenMesh 122 = .ok (.lneg, 1) := by decide +kernel
theorem dX7_isBrokenMesh_123 : decode cX7_isBrokenMesh 123 = .ok (.lcmp, 1) := by decide +kernel
theorem dX7_isBrokenMesh_124 : decode cX7_isBrokenMesh 124 = .ok (.ifCond .eq 7, 3) := by decide +kernel
theorem dX7_isBrokenMesh_127 : decode cX7_isBrokenMesh 127 = .ok (.iconst 1, 1) := by decide +kernel
theorem dX7_isBrokenMesh_128 : decode cX7_isBrokenMesh 128 = .ok (.goto 4, 3) := by decide +kernel
theorem dX7_isBrokenMesh_131 : decode cX7_isBrokenMesh 131 = .ok (.iconst 0, 1) := by decide +kernel
theorem dX7_isBrokenMesh_132 : decode cX7_isBrokenMesh 132 = .ok (.ireturn, 1) := by decide +kernel
set_option maxRecDepth 20000 in
theorem ggX7_isBrokenSet_X7_toldOf : GoodIn wsX7_isBrokenSet wsX7_toldOf := goodIn_r _ [10, 1, 11, 12, 13, 9, 14, 5, 30, 31, 32, 33, 34, 35, 36, 37, 38, 39, 40, 41, 42, 43, 44, 45, 46, 47, 48, 49] (by decide +kernel) (by decide +kernel)
set_option maxRecDepth 20000 in
theorem gX7_isBrokenSet_X7_toldOf : GoodIn wsX7_isBrokenSet (wsV RX7 152 RX7 yX7_toldOf wsX7_toldOf) := goodIn_app (goodIn_of _ (by decide +kernel)) ggX7_isBrokenSet_X7_toldOf
set_option maxRecDepth 20000 in
theorem ggX7_isBrokenSet_X7_sum : GoodIn wsX7_isBrokenSet wsX7_sum := goodIn_r _ [18, 4, 5, 19, 20, 21, 9, 22, 2, 3, 23, 24, 25, 26, 27, 28, 29, 30, 31, 32, 33, 34, 35, 36, 37, 38, 39, 40, 41, 42, 43, 44, 45, 46, 47, 48, 49] (by decide +kernel) (by decide +kernel)
set_option maxRecDepth 20000 in
theorem gX7_isBrokenSet_X7_sum : GoodIn wsX7_isBrokenSet (wsV RX7 141 RX7 yX7_sum wsX7_sum) := goodIn_app (goodIn_of _ (by decide +kernel)) ggX7_isBrokenSet_X7_sum
set_option maxRecDepth 20000 in
theorem ggX7_isBrokenSet_X7_make : GoodIn wsX7_isBrokenSet wsX7_make := goodIn_r _ [22, 2, 3, 23, 24, 9, 25, 26, 27, 28, 29, 30, 31, 32, 33, 34, 35, 36, 37, 38, 39, 40, 41, 42, 43, 44, 45, 46, 47, 48, 49] (by decide +kernel) (by decide +kernel)
set_option maxRecDepth 20000 in
theorem gX7_isBrokenSet_X7_make : GoodIn wsX7_isBrokenSet (wsV RX7 134 RX7 yX7_make wsX7_make) := goodIn_app (goodIn_of _ (by decide +kernel)) ggX7_isBrokenSet_X7_make
theorem dX7_isBrokenSet_0 : decode cX7_isBrokenSet 0 = .ok (.aload_n 0, 1) := by decide +kernel
theorem dX7_isBrokenSet_1 : decode cX7_isBrokenSet 1 = .ok (.iload_n 1, 1) := by decide +kernel
theorem dX7_isBrokenSet_2 : decode cX7_isBrokenSet 2 = .ok (.invokevirtual 152, 3) := by decide +kernel
theorem dX7_isBrokenSet_5 : decode cX7_isBrokenSet 5 = .ok (.iconst 3, 1) := by decide +kernel
theorem dX7_isBrokenSet_6 : decode cX7_isBrokenSet 6 = .ok (.if_icmp .ge 5, 3) := by decide +kernel
theorem dX7_isBrokenSet_9 : decode cX7_isBrokenSet 9 = .ok (.iconst 0, 1) := by decide +kernel
theorem dX7_isBrokenSet_10 : decode cX7_isBrokenSet 10 = .ok (.ireturn, 1) := by decide +kernel
theorem dX7_isBrokenSet_11 : decode cX7_isBrokenSet 11 = .ok (.aload_n 0, 1) := by decide +kernel
theorem dX7_isBrokenSet_12 : decode cX7_isBrokenSet 12 = .ok (.getfield 36, 3) := by decide +kernel
theorem dX7_isBrokenSet_15 : decode cX7_isBrokenSet 15 = .ok (.iconst 5, 1) := by decide +kernel
theorem dX7_isBrokenSet_16 : decode cX7_isBrokenSet 16 = .ok (.iload_n 1, 1) := by decide +kernel
theorem dX7_isBrokenSet_17 : decode cX7_isBrokenSet 17 = .ok (.imul, 1) := by decide +kernel
theorem dX7_isBrokenSet_18 : decode cX7_isBrokenSet 18 = .ok (.iconst 3, 1) := by decide +kernel
theorem dX7_isBrokenSet_19 : decode cX7_isBrokenSet 19 = .ok (.iadd, 1) := by decide +kernel
theorem dX7_isBrokenSet_20 : decode cX7_isBrokenSet 20 = .ok (.iaload, 1) := by decide +kernel
theorem dX7_isBrokenSet_21 : decode cX7_isBrokenSet 21 = .ok (.i2l, 1) := by decide +kernel
theorem dX7_isBrokenSet_22 : decode cX7_isBrokenSet 22 = .ok (.lstore_n 2, 1) := by decide +kernel
theorem dX7_isBrokenSet_23 : decode cX7_isBrokenSet 23 = .ok (.aload_n 0, 1) := by decide +kernel
theorem dX7_isBrokenSet_24 : decode cX7_isBrokenSet 24 = .ok (.getfield 36, 3) := by decide +kernel
theorem dX7_isBrokenSet_27 : decode cX7_isBrokenSet 27 = .ok (.iconst 5, 1) := by decide +kernel
theorem dX7_isBrokenSet_28 : decode cX7_isBrokenSet 28 = .ok (.iload_n 1, 1) := by decide +kernel
theorem dX7_isBrokenSet_29 : decode cX7_isBrokenSet 29 = .ok (.imul, 1) := by decide +kernel
theorem dX7_isBrokenSet_30 : decode cX7_isBrokenSet 30 = .ok (.iconst 4, 1) := by decide +kernel
theorem dX7_isBrokenSet_31 : decode cX7_isBrokenSet 31 = .ok (.iadd, 1) := by decide +kernel
theorem dX7_isBrokenSet_32 : decode cX7_isBrokenSet 32 = .ok (.iaload, 1) := by decide +kernel
theorem dX7_isBrokenSet_33 : decode cX7_isBrokenSet 33 = .ok (.i2l, 1) := by decide +kernel
theorem dX7_isBrokenSet_34 : decode cX7_isBrokenSet 34 = .ok (.lstore 4, 2) := by decide +kernel
theorem dX7_isBrokenSet_36 : decode cX7_isBrokenSet 36 = .ok (.aload_n 0, 1) := by decide +kernel
theorem dX7_isBrokenSet_37 : decode cX7_isBrokenSet 37 = .ok (.aload_n 0, 1) := by decide +kernel
theorem dX7_isBrokenSet_38 : decode cX7_isBrokenSet 38 = .ok (.getfield 36, 3) := by decide +kernel
theorem dX7_isBrokenSet_41 : decode cX7_isBrokenSet 41 = .ok (.iconst 5, 1) := by decide +kernel
theorem dX7_isBrokenSet_42 : decode cX7_isBrokenSet 42 = .ok (.iload_n 1, 1) := by decide +kernel
theorem dX7_isBrokenSet_43 : decode cX7_isBrokenSet 43 = .ok (.imul, 1) := by decide +kernel
theorem dX7_isBrokenSet_44 : decode cX7_isBrokenSet 44 = .ok (.iaload, 1) := by decide +kernel
theorem dX7_isBrokenSet_45 : decode cX7_isBrokenSet 45 = .ok (.lload_n 2, 1) := by decide +kernel
theorem dX7_isBrokenSet_46 : decode cX7_isBrokenSet 46 = .ok (.aload_n 0, 1) := by decide +kernel
theorem dX7_isBrokenSet_47 : decode cX7_isBrokenSet 47 = .ok (.getfield 36, 3) := by decide +kernel
theorem dX7_isBrokenSet_50 : decode cX7_isBrokenSet 50 = .ok (.iconst 5, 1) := by decide +kernel
theorem dX7_isBrokenSet_51 : decode cX7_isBrokenSet 51 = .ok (.iload_n 1, 1) := by decide +kernel
theorem dX7_isBrokenSet_52 : decode cX7_isBrokenSet 52 = .ok (.imul, 1) := by decide +kernel
theorem dX7_isBrokenSet_53 : decode cX7_isBrokenSet 53 = .ok (.iconst 1, 1) := by decide +kernel
theorem dX7_isBrokenSet_54 : decode cX7_isBrokenSet 54 = .ok (.iadd, 1) := by decide +kernel
theorem dX7_isBrokenSet_55 : decode cX7_isBrokenSet 55 = .ok (.iaload, 1) := by decide +kernel
theorem dX7_isBrokenSet_56 : decode cX7_isBrokenSet 56 = .ok (.lload 4, 2) := by decide +kernel
theorem dX7_isBrokenSet_58 : decode cX7_isBrokenSet 58 = .ok (.invokevirtual 141, 3) := by decide +kernel
theorem dX7_isBrokenSet_61 : decode cX7_isBrokenSet 61 = .ok (.aload_n 0, 1) := by decide +kernel
theorem dX7_isBrokenSet_62 : decode cX7_isBrokenSet 62 = .ok (.getfield 117, 3) := by decide +kernel
theorem dX7_isBrokenSet_65 : decode cX7_isBrokenSet 65 = .ok (.lstore 6, 2) := by decide +kernel
theorem dX7_isBrokenSet_67 : decode cX7_isBrokenSet 67 = .ok (.aload_n 0, 1) := by decide +kernel
theorem dX7_isBrokenSet_68 : decode cX7_isBrokenSet 68 = .ok (.getfield 121, 3) := by decide +kernel
theorem dX7_isBrokenSet_71 : decode cX7_isBrokenSet 71 = .ok (.lstore 8, 2) := by decide +kernel
theorem dX7_isBrokenSet_73 : decode cX7_isBrokenSet 73 = .ok (.aload_n 0, 1) := by decide +kernel
theorem dX7_isBrokenSet_74 : decode cX7_isBrokenSet 74 = .ok (.getfield 36, 3) := by decide +kernel
theorem dX7_isBrokenSet_77 : decode cX7_isBrokenSet 77 = .ok (.iconst 5, 1) := by decide +kernel
theorem dX7_isBrokenSet_78 : decode cX7_isBrokenSet 78 = .ok (.iload_n 1, 1) := by decide +kernel
theorem dX7_isBrokenSet_79 : decode cX7_isBrokenSet 79 = .ok (.imul, 1) := by decide +kernel
theorem dX7_isBrokenSet_80 : decode cX7_isBrokenSet 80 = .ok (.iconst 2, 1) := by decide +kernel
theorem dX7_isBrokenSet_81 : decode cX7_isBrokenSet 81 = .ok (.iadd, 1) := by decide +kernel
theorem dX7_isBrokenSet_82 : decode cX7_isBrokenSet 82 = .ok (.iaload, 1) := by decide +kernel
theorem dX7_isBrokenSet_83 : decode cX7_isBrokenSet 83 = .ok (.istore 10, 2) := by decide +kernel
theorem dX7_isBrokenSet_85 : decode cX7_isBrokenSet 85 = .ok (.aload_n 0, 1) := by decide +kernel
theorem dX7_isBrokenSet_86 : decode cX7_isBrokenSet 86 = .ok (.aload_n 0, 1) := by decide +kernel
theorem dX7_isBrokenSet_87 : decode cX7_isBrokenSet 87 = .ok (.getfield 39, 3) := by decide +kernel
theorem dX7_isBrokenSet_90 : decode cX7_isBrokenSet 90 = .ok (.iload 10, 2) := by decide +kernel
theorem dX7_isBrokenSet_92 : decode cX7_isBrokenSet 92 = .ok (.laload, 1) := by decide +kernel
theorem dX7_isBrokenSet_93 : decode cX7_isBrokenSet 93 = .ok (.lload_n 2, 1) := by decide +kernel
theorem dX7_isBrokenSet_94 : decode cX7_isBrokenSet 94 = .ok (.lload 4, 2) := by decide +kernel
theorem dX7_isBrokenSet_96 : decode cX7_isBrokenSet 96 = .ok (.ladd, 1) := by decide +kernel
theorem dX7_isBrokenSet_97 : decode cX7_isBrokenSet 97 = .ok (.lmul, 1) := by decide +kernel
theorem dX7_isBrokenSet_98 : decode cX7_isBrokenSet 98 = .ok (.aload_n 0, 1) := by decide +kernel
theorem dX7_isBrokenSet_99 : decode cX7_isBrokenSet 99 = .ok (.getfield 43, 3) := by decide +kernel
theorem dX7_isBrokenSet_102 : decode cX7_isBrokenSet 102 = .ok (.iload 10, 2) := by decide +kernel
theorem dX7_isBrokenSet_104 : decode cX7_isBrokenSet 104 = .ok (.laload, 1) := by decide +kernel
theorem dX7_isBrokenSet_105 : decode cX7_isBrokenSet 105 = .ok (.invokevirtual 134, 3) := by decide +kernel
theorem dX7_isBrokenSet_108 : decode cX7_isBrokenSet 108 = .ok (.aload_n 0, 1) := by decide +kernel
theorem dX7_isBrokenSet_109 : decode cX7_isBrokenSet 109 = .ok (.getfield 117, 3) := by decide +kernel
theorem dX7_isBrokenSet_112 : decode cX7_isBrokenSet 112 = .ok (.lload 6, 2) := by decide +kernel
theorem dX7_isBrokenSet_114 : decode cX7_isBrokenSet 114 = .ok (.lcmp, 1) := by decide +kernel
theorem dX7_isBrokenSet_115 : decode cX7_isBrokenSet 115 = .ok (.ifCond .ne 13, 3) := by decide +kernel
theorem dX7_isBrokenSet_118 : decode cX7_isBrokenSet 118 = .ok (.aload_n 0, 1) := by decide +kernel
theorem dX7_isBrokenSet_119 : decode cX7_isBrokenSet 119 = .ok (.getfield 121, 3) := by decide +kernel
theorem dX7_isBrokenSet_122 : decode cX7_isBrokenSet 122 = .ok (.lload 8, 2) := by decide +kernel
theorem dX7_isBrokenSet_124 : decode cX7_isBrokenSet 124 = .ok (.lcmp, 1) := by decide +kernel
theorem dX7_isBrokenSet_125 : decode cX7_isBrokenSet 125 = .ok (.ifCond .eq 7, 3) := by decide +kernel
theorem dX7_isBrokenSet_128 : decode cX7_isBrokenSet 128 = .ok (.iconst 1, 1) := by decide +kernel
theorem dX7_isBrokenSet_129 : decode cX7_isBrokenSet 129 = .ok (.goto 4, 3) := by decide +kernel
theorem dX7_isBrokenSet_132 : decode cX7_isBrokenSet 132 = .ok (.iconst 0, 1) := by decide +kernel
theorem dX7_isBrokenSet_133 : decode cX7_isBrokenSet 133 = .ok (.ireturn, 1) := by decide +kernel
set_option maxRecDepth 20000 in
theorem ggX7_brokenOnes_X7_isBrokenSet : GoodIn wsX7_brokenOnes wsX7_isBrokenSet := goodIn_r _ [7, 8, 9, 10, 11, 12, 13, 14, 15, 6, 16, 17, 18, 19, 20, 21, 22, 23, 24, 25, 26, 27, 28, 29, 30, 31, 32, 33, 34, 35, 56, 57, 58, 59, 60, 61, 62, 63, 64, 65, 66, 67, 68, 69, 70, 71, 72, 73, 74, 75] (by decide +kernel) (by decide +kernel)
set_option maxRecDepth 20000 in
theorem gX7_brokenOnes_X7_isBrokenSet : GoodIn wsX7_brokenOnes (wsV RX7 165 RX7 yX7_isBrokenSet wsX7_isBrokenSet) := goodIn_app (goodIn_of _ (by decide +kernel)) ggX7_brokenOnes_X7_isBrokenSet
set_option maxRecDepth 20000 in
theorem ggX7_brokenOnes_X7_isBrokenMesh : GoodIn wsX7_brokenOnes wsX7_isBrokenMesh := goodIn_r _ [39, 40, 41, 11, 12, 42, 43, 44, 6, 45, 46, 17, 18, 19, 20, 47, 48, 49, 50, 51, 52, 53, 54, 55, 56, 57, 58, 59, 60, 61, 62, 63, 64, 65, 66, 67, 68, 69, 70, 71, 72, 73, 74, 75] (by decide +kernel) (by decide +kernel)
set_option maxRecDepth 20000 in
theorem gX7_brokenOnes_X7_isBrokenMesh : GoodIn wsX7_brokenOnes (wsV RX7 168 RX7 yX7_isBrokenMesh wsX7_isBrokenMesh) := goodIn_app (goodIn_of _ (by decide +kernel)) ggX7_brokenOnes_X7_isBrokenMesh
theorem dX7_brokenOnes_0 : decode cX7_brokenOnes 0 = .ok (.iconst 0, 1) := by decide +kernel
theorem dX7_brokenOnes_1 : decode cX7_brokenOnes 1 = .ok (.istore_n 2, 1) := by decide +kernel
theorem dX7_brokenOnes_2 : decode cX7_brokenOnes 2 = .ok (.iconst 0, 1) := by decide +kernel
theorem dX7_brokenOnes_3 : decode cX7_brokenOnes 3 = .ok (.istore_n 3, 1) := by decide +kernel
theorem dX7_brokenOnes_4 : decode cX7_brokenOnes 4 = .ok (.iload_n 3, 1) := by decide +kernel
theorem dX7_brokenOnes_5 : decode cX7_brokenOnes 5 = .ok (.iload_n 1, 1) := by decide +kernel
theorem dX7_brokenOnes_6 : decode cX7_brokenOnes 6 = .ok (.ifCond .eq 10, 3) := by decide +kernel
theorem dX7_brokenOnes_9 : decode cX7_brokenOnes 9 = .ok (.aload_n 0, 1) := by decide +kernel
theorem dX7_brokenOnes_10 : decode cX7_brokenOnes 10 = .ok (.getfield 101, 3) := by decide +kernel
theorem dX7_brokenOnes_13 : decode cX7_brokenOnes 13 = .ok (.goto 7, 3) := by decide +kernel
theorem dX7_brokenOnes_16 : decode cX7_brokenOnes 16 = .ok (.aload_n 0, 1) := by decide +kernel
theorem dX7_brokenOnes_17 : decode cX7_brokenOnes 17 = .ok (.getfield 77, 3) := by decide +kernel
theorem dX7_brokenOnes_20 : decode cX7_brokenOnes 20 = .ok (.if_icmp .ge 38, 3) := by decide +kernel
theorem dX7_brokenOnes_23 : decode cX7_brokenOnes 23 = .ok (.iload_n 1, 1) := by decide +kernel
theorem dX7_brokenOnes_24 : decode cX7_brokenOnes 24 = .ok (.ifCond .eq 14, 3) := by decide +kernel
theorem dX7_brokenOnes_27 : decode cX7_brokenOnes 27 = .ok (.aload_n 0, 1) := by decide +kernel
theorem dX7_brokenOnes_28 : decode cX7_brokenOnes 28 = .ok (.iload_n 3, 1) := by decide +kernel
theorem dX7_brokenOnes_29 : decode cX7_brokenOnes 29 = .ok (.invokevirtual 165, 3) := by decide +kernel
theorem dX7_brokenOnes_32 : decode cX7_brokenOnes 32 = .ok (.ifCond .eq 20, 3) := by decide +kernel
theorem dX7_brokenOnes_35 : decode cX7_brokenOnes 35 = .ok (.goto 11, 3) := by decide +kernel
theorem dX7_brokenOnes_38 : decode cX7_brokenOnes 38 = .ok (.aload_n 0, 1) := by decide +kernel
theorem dX7_brokenOnes_39 : decode cX7_brokenOnes 39 = .ok (.iload_n 3, 1) := by decide +kernel
theorem dX7_brokenOnes_40 : decode cX7_brokenOnes 40 = .ok (.invokevirtual 168, 3) := by decide +kernel
theorem dX7_brokenOnes_43 : decode cX7_brokenOnes 43 = .ok (.ifCond .eq 9, 3) := by decide +kernel
theorem dX7_brokenOnes_46 : decode cX7_brokenOnes 46 = .ok (.iload_n 2, 1) := by decide +kernel
theorem dX7_brokenOnes_47 : decode cX7_brokenOnes 47 = .ok (.iconst 1, 1) := by decide +kernel
theorem dX7_brokenOnes_48 : decode cX7_brokenOnes 48 = .ok (.iload_n 3, 1) := by decide +kernel
theorem dX7_brokenOnes_49 : decode cX7_brokenOnes 49 = .ok (.ishl, 1) := by decide +kernel
theorem dX7_brokenOnes_50 : decode cX7_brokenOnes 50 = .ok (.ior, 1) := by decide +kernel
theorem dX7_brokenOnes_51 : decode cX7_brokenOnes 51 = .ok (.istore_n 2, 1) := by decide +kernel
theorem dX7_brokenOnes_52 : decode cX7_brokenOnes 52 = .ok (.iinc 3 1, 3) := by decide +kernel
theorem dX7_brokenOnes_55 : decode cX7_brokenOnes 55 = .ok (.goto (-51), 3) := by decide +kernel
theorem dX7_brokenOnes_58 : decode cX7_brokenOnes 58 = .ok (.iload_n 2, 1) := by decide +kernel
theorem dX7_brokenOnes_59 : decode cX7_brokenOnes 59 = .ok (.ireturn, 1) := by decide +kernel
set_option maxRecDepth 20000 in
theorem ggX7_broken_X7_solve : GoodIn wsX7_broken wsX7_solve := goodIn_r _ [6, 7, 8, 9, 10, 11, 12, 13, 14, 15, 16, 17, 18, 19, 20, 21, 5, 22, 23, 24, 25, 26, 27, 28, 29, 30, 31, 32, 33, 34, 35, 36, 37, 38, 39, 40, 41, 42, 43, 44, 45, 46, 47, 48, 49, 50, 51, 52, 53, 54, 55, 56, 57, 58, 59, 60, 61, 62, 63, 64, 65, 66, 67, 68, 69, 70, 71, 72, 73, 74, 75, 88, 89, 90, 91, 92, 93, 94, 95, 96, 97, 98, 99, 100, 101, 102, 103, 104, 105, 106, 107] (by decide +kernel) (by decide +kernel)
set_option maxRecDepth 20000 in
theorem gX7_broken_X7_solve : GoodIn wsX7_broken (wsV RX7 158 RX7 yX7_solve wsX7_solve) := goodIn_app (goodIn_of _ (by decide +kernel)) ggX7_broken_X7_solve
set_option maxRecDepth 20000 in
theorem ggX7_broken_X7_brokenOnes : GoodIn wsX7_broken wsX7_brokenOnes := goodIn_r _ [79, 18, 15, 80, 81, 82, 5, 83, 64, 46, 47, 10, 12, 60, 61, 62, 63, 24, 25, 26, 27, 72, 73, 74, 75, 42, 43, 44, 45, 48, 49, 50, 51, 52, 53, 54, 84, 85, 86, 87, 16, 17, 19, 20, 21, 22, 23, 38, 39, 40, 41, 33, 34, 35, 36, 37, 88, 89, 90, 91, 92, 93, 94, 95, 96, 97, 98, 99, 100, 101, 102, 103, 104, 105, 106, 107] (by decide +kernel) (by decide +kernel)
set_option maxRecDepth 20000 in
theorem gX7_broken_X7_brokenOnes : GoodIn wsX7_broken (wsV RX7 171 RX7 yX7_brokenOnes wsX7_brokenOnes) := goodIn_app (goodIn_of _ (by decide +kernel)) ggX7_broken_X7_brokenOnes
theorem dX7_broken_0 : decode cX7_broken 0 = .ok (.aload_n 0, 1) := by decide +kernel
theorem dX7_broken_1 : decode cX7_broken 1 = .ok (.iconst 0, 1) := by decide +kernel
theorem dX7_broken_2 : decode cX7_broken 2 = .ok (.putfield 49, 3) := by decide +kernel
theorem dX7_broken_5 : decode cX7_broken 5 = .ok (.aload_n 0, 1) := by decide +kernel
theorem dX7_broken_6 : decode cX7_broken 6 = .ok (.invokevirtual 158, 3) := by decide +kernel
theorem dX7_broken_9 : decode cX7_broken 9 = .ok (.aload_n 0, 1) := by decide +kernel
theorem dX7_broken_10 : decode cX7_broken 10 = .ok (.iload_n 1, 1) := by decide +kernel
theorem dX7_broken_11 : decode cX7_broken 11 = .ok (.invokevirtual 171, 3) := by decide +kernel
theorem dX7_broken_14 : decode cX7_broken 14 = .ok (.ireturn, 1) := by decide +kernel
set_option maxRecDepth 20000 in
theorem ggX7_free_X7_solve : GoodIn wsX7_free wsX7_solve := goodIn_r _ [7, 2, 8, 9, 10, 11, 12, 13, 14, 15, 16, 17, 18, 19, 20, 21, 6, 22, 23, 24, 25, 26, 27, 28, 29, 30, 31, 32, 33, 34, 35, 36, 37, 38, 39, 40, 41, 42, 43, 44, 45, 46, 47, 48, 49, 50, 51, 52, 53, 54, 55, 56, 57, 58, 59, 60, 61, 62, 63, 64, 65, 66, 67, 68, 69, 70, 71, 72, 73, 74, 75, 76, 77, 78, 79, 80, 81, 82, 83, 84, 85, 86, 87, 88, 89, 90, 91, 92, 93, 94, 95] (by decide +kernel) (by decide +kernel)
set_option maxRecDepth 20000 in
theorem gX7_free_X7_solve : GoodIn wsX7_free (wsV RX7 158 RX7 yX7_solve wsX7_solve) := goodIn_app (goodIn_of _ (by decide +kernel)) ggX7_free_X7_solve
set_option maxRecDepth 20000 in
theorem ggX7_free_X7_hasSpeed : GoodIn wsX7_free wsX7_hasSpeed := goodIn_r _ [27, 12, 76, 77, 78, 79, 80, 81, 82, 83, 84, 85, 86, 87, 88, 89, 90, 91, 92, 93, 94, 95] (by decide +kernel) (by decide +kernel)
set_option maxRecDepth 20000 in
theorem gX7_free_X7_hasSpeed : GoodIn wsX7_free (wsV RX7 126 RX7 yX7_hasSpeed wsX7_hasSpeed) := goodIn_app (goodIn_of _ (by decide +kernel)) ggX7_free_X7_hasSpeed
theorem dX7_free_0 : decode cX7_free 0 = .ok (.aload_n 0, 1) := by decide +kernel
theorem dX7_free_1 : decode cX7_free 1 = .ok (.iconst 0, 1) := by decide +kernel
theorem dX7_free_2 : decode cX7_free 2 = .ok (.putfield 49, 3) := by decide +kernel
theorem dX7_free_5 : decode cX7_free 5 = .ok (.aload_n 0, 1) := by decide +kernel
theorem dX7_free_6 : decode cX7_free 6 = .ok (.invokevirtual 158, 3) := by decide +kernel
theorem dX7_free_9 : decode cX7_free 9 = .ok (.iconst 0, 1) := by decide +kernel
theorem dX7_free_10 : decode cX7_free 10 = .ok (.istore_n 1, 1) := by decide +kernel
theorem dX7_free_11 : decode cX7_free 11 = .ok (.iconst 0, 1) := by decide +kernel
theorem dX7_free_12 : decode cX7_free 12 = .ok (.istore_n 2, 1) := by decide +kernel
theorem dX7_free_13 : decode cX7_free 13 = .ok (.iload_n 2, 1) := by decide +kernel
theorem dX7_free_14 : decode cX7_free 14 = .ok (.aload_n 0, 1) := by decide +kernel
theorem dX7_free_15 : decode cX7_free 15 = .ok (.getfield 52, 3) := by decide +kernel
theorem dX7_free_18 : decode cX7_free 18 = .ok (.if_icmp .ge 25, 3) := by decide +kernel
theorem dX7_free_21 : decode cX7_free 21 = .ok (.iload_n 1, 1) := by decide +kernel
theorem dX7_free_22 : decode cX7_free 22 = .ok (.aload_n 0, 1) := by decide +kernel
theorem dX7_free_23 : decode cX7_free 23 = .ok (.iload_n 2, 1) := by decide +kernel
theorem dX7_free_24 : decode cX7_free 24 = .ok (.invokevirtual 126, 3) := by decide +kernel
theorem dX7_free_27 : decode cX7_free 27 = .ok (.ifCond .eq 7, 3) := by decide +kernel
theorem dX7_free_30 : decode cX7_free 30 = .ok (.iconst 0, 1) := by decide +kernel
theorem dX7_free_31 : decode cX7_free 31 = .ok (.goto 4, 3) := by decide +kernel
theorem dX7_free_34 : decode cX7_free 34 = .ok (.iconst 1, 1) := by decide +kernel
theorem dX7_free_35 : decode cX7_free 35 = .ok (.iadd, 1) := by decide +kernel
theorem dX7_free_36 : decode cX7_free 36 = .ok (.istore_n 1, 1) := by decide +kernel
theorem dX7_free_37 : decode cX7_free 37 = .ok (.iinc 2 1, 3) := by decide +kernel
theorem dX7_free_40 : decode cX7_free 40 = .ok (.goto (-27), 3) := by decide +kernel
theorem dX7_free_43 : decode cX7_free 43 = .ok (.iload_n 1, 1) := by decide +kernel
theorem dX7_free_44 : decode cX7_free 44 = .ok (.ireturn, 1) := by decide +kernel
set_option maxRecDepth 20000 in
theorem ggX7_torque_X7_isShaft : GoodIn wsX7_torque wsX7_isShaft := goodIn_r _ [13, 14, 15, 16, 12, 17, 85, 86, 87, 88, 89, 90, 91, 92, 93, 94, 95, 96, 97, 98, 99, 100, 101, 102, 103, 104] (by decide +kernel) (by decide +kernel)
set_option maxRecDepth 20000 in
theorem gX7_torque_X7_isShaft : GoodIn wsX7_torque (wsV RX7 70 RX7 yX7_isShaft wsX7_isShaft) := goodIn_app (goodIn_of _ (by decide +kernel)) ggX7_torque_X7_isShaft
set_option maxRecDepth 20000 in
theorem ggX7_torque_X7_isIn : GoodIn wsX7_torque wsX7_isIn := goodIn_r _ [17] (by decide +kernel) (by decide +kernel)
set_option maxRecDepth 20000 in
theorem gX7_torque_X7_isIn : GoodIn wsX7_torque (va_wsS RX7 55 yX7_isIn wsX7_isIn) := goodIn_app (goodIn_of _ (by decide +kernel)) ggX7_torque_X7_isIn
set_option maxRecDepth 20000 in
theorem ggX7_torque_X7_solve : GoodIn wsX7_torque wsX7_solve := goodIn_r _ [21, 14, 2, 22, 3, 7, 8, 4, 23, 24, 25, 26, 27, 28, 29, 30, 12, 31, 32, 33, 34, 35, 36, 37, 38, 39, 40, 41, 42, 43, 44, 45, 46, 47, 48, 49, 50, 51, 52, 53, 54, 55, 56, 57, 58, 59, 60, 61, 62, 63, 64, 65, 66, 67, 68, 69, 70, 71, 72, 73, 74, 75, 76, 77, 78, 79, 80, 81, 82, 83, 84, 85, 86, 87, 88, 89, 90, 91, 92, 93, 94, 95, 96, 97, 98, 99, 100, 101, 102, 103, 104] (by decide +kernel) (by decide +kernel)
set_option maxRecDepth 20000 in
theorem gX7_torque_X7_solve : GoodIn wsX7_torque (wsV RX7 158 RX7 yX7_solve wsX7_solve) := goodIn_app (goodIn_of _ (by decide +kernel)) ggX7_torque_X7_solve
set_option maxRecDepth 20000 in
theorem ggX7_torque_X7_hasSpeed : GoodIn wsX7_torque wsX7_hasSpeed := goodIn_r _ [36, 8, 85, 86, 87, 88, 89, 90, 91, 92, 93, 94, 95, 96, 97, 98, 99, 100, 101, 102, 103, 104] (by decide +kernel) (by decide +kernel)
set_option maxRecDepth 20000 in
theorem gX7_torque_X7_hasSpeed : GoodIn wsX7_torque (wsV RX7 126 RX7 yX7_hasSpeed wsX7_hasSpeed) := goodIn_app (goodIn_of _ (by decide +kernel)) ggX7_torque_X7_hasSpeed
theorem dX7_torque_0 : decode cX7_torque 0 = .ok (.aload_n 0, 1) := by decide +kernel
theorem dX7_torque_1 : decode cX7_torque 1 = .ok (.aload_n 0, 1) := by decide +kernel
theorem dX7_torque_2 : decode cX7_torque 2 = .ok (.iload_n 1, 1) := by decide +kernel
theorem dX7_torque_3 : decode cX7_torque 3 = .ok (.invokevirtual 70, 3) := by decide +kernel
theorem dX7_torque_6 : decode cX7_torque 6 = .ok (.ifCond .ne 7, 3) := by decide +kernel
theorem dX7_torque_9 : decode cX7_torque 9 = .ok (.iconst 1, 1) := by decide +kernel
theorem dX7_torque_10 : decode cX7_torque 10 = .ok (.goto 19, 3) := by decide +kernel
theorem dX7_torque_13 : decode cX7_torque 13 = .ok (.iload_n 2, 1) := by decide +kernel
theorem dX7_torque_14 : decode cX7_torque 14 = .ok (.iconst 1, 1) := by decide +kernel
theorem dX7_torque_15 : decode cX7_torque 15 = .ok (.sipush 10000, 3) := by decide +kernel
theorem dX7_torque_18 : decode cX7_torque 18 = .ok (.invokestatic 55, 3) := by decide +kernel
theorem dX7_torque_21 : decode cX7_torque 21 = .ok (.ifCond .ne 7, 3) := by decide +kernel
theorem dX7_torque_24 : decode cX7_torque 24 = .ok (.iconst 2, 1) := by decide +kernel
theorem dX7_torque_25 : decode cX7_torque 25 = .ok (.goto 4, 3) := by decide +kernel
theorem dX7_torque_28 : decode cX7_torque 28 = .ok (.iconst 0, 1) := by decide +kernel
theorem dX7_torque_29 : decode cX7_torque 29 = .ok (.putfield 49, 3) := by decide +kernel
theorem dX7_torque_32 : decode cX7_torque 32 = .ok (.aload_n 0, 1) := by decide +kernel
theorem dX7_torque_33 : decode cX7_torque 33 = .ok (.getfield 49, 3) := by decide +kernel
theorem dX7_torque_36 : decode cX7_torque 36 = .ok (.ifCond .eq 5, 3) := by decide +kernel
theorem dX7_torque_39 : decode cX7_torque 39 = .ok (.lconst 0, 1) := by decide +kernel
theorem dX7_torque_40 : decode cX7_torque 40 = .ok (.lreturn, 1) := by decide +kernel
theorem dX7_torque_41 : decode cX7_torque 41 = .ok (.aload_n 0, 1) := by decide +kernel
theorem dX7_torque_42 : decode cX7_torque 42 = .ok (.invokevirtual 158, 3) := by decide +kernel
theorem dX7_torque_45 : decode cX7_torque 45 = .ok (.aload_n 0, 1) := by decide +kernel
theorem dX7_torque_46 : decode cX7_torque 46 = .ok (.aload_n 0, 1) := by decide +kernel
theorem dX7_torque_47 : decode cX7_torque 47 = .ok (.getfield 20, 3) := by decide +kernel
theorem dX7_torque_50 : decode cX7_torque 50 = .ok (.iconst (-1), 1) := by decide +kernel
theorem dX7_torque_51 : decode cX7_torque 51 = .ok (.if_icmp .eq 26, 3) := by decide +kernel
theorem dX7_torque_54 : decode cX7_torque 54 = .ok (.aload_n 0, 1) := by decide +kernel
theorem dX7_torque_55 : decode cX7_torque 55 = .ok (.iload_n 1, 1) := by decide +kernel
theorem dX7_torque_56 : decode cX7_torque 56 = .ok (.invokevirtual 126, 3) := by decide +kernel
theorem dX7_torque_59 : decode cX7_torque 59 = .ok (.ifCond .eq 18, 3) := by decide +kernel
theorem dX7_torque_62 : decode cX7_torque 62 = .ok (.aload_n 0, 1) := by decide +kernel
theorem dX7_torque_63 : decode cX7_torque 63 = .ok (.getfield 39, 3) := by decide +kernel
theorem dX7_torque_66 : decode cX7_torque 66 = .ok (.iload_n 1, 1) := by decide +kernel
theorem dX7_torque_67 : decode cX7_torque 67 = .ok (.laload, 1) := by decide +kernel
theorem dX7_torque_68 : decode cX7_torque 68 = .ok (.lconst 0, 1) := by decide +kernel
theorem dX7_torque_69 : decode cX7_torque 69 = .ok (.lcmp, 1) := by decide +kernel
theorem dX7_torque_70 : decode cX7_torque 70 = .ok (.ifCond .eq 7, 3) := by decide +kernel
theorem dX7_torque_73 : decode cX7_torque 73 = .ok (.iconst 0, 1) := by decide +kernel
theorem dX7_torque_74 : decode cX7_torque 74 = .ok (.goto 4, 3) := by decide +kernel
theorem dX7_torque_77 : decode cX7_torque 77 = .ok (.iconst 3, 1) := by decide +kernel
theorem dX7_torque_78 : decode cX7_torque 78 = .ok (.putfield 49, 3) := by decide +kernel
theorem dX7_torque_81 : decode cX7_torque 81 = .ok (.aload_n 0, 1) := by decide +kernel
theorem dX7_torque_82 : decode cX7_torque 82 = .ok (.getfield 49, 3) := by decide +kernel
theorem dX7_torque_85 : decode cX7_torque 85 = .ok (.ifCond .eq 5, 3) := by decide +kernel
theorem dX7_torque_88 : decode cX7_torque 88 = .ok (.lconst 0, 1) := by decide +kernel
theorem dX7_torque_89 : decode cX7_torque 89 = .ok (.lreturn, 1) := by decide +kernel
theorem dX7_torque_90 : decode cX7_torque 90 = .ok (.iload_n 2, 1) := by decide +kernel
theorem dX7_torque_91 : decode cX7_torque 91 = .ok (.i2l, 1) := by decide +kernel
theorem dX7_torque_92 : decode cX7_torque 92 = .ok (.lstore_n 3, 1) := by decide +kernel
theorem dX7_torque_93 : decode cX7_torque 93 = .ok (.iconst 0, 1) := by decide +kernel
theorem dX7_torque_94 : decode cX7_torque 94 = .ok (.istore 5, 2) := by decide +kernel
theorem dX7_torque_96 : decode cX7_torque 96 = .ok (.iload 5, 2) := by decide +kernel
theorem dX7_torque_98 : decode cX7_torque 98 = .ok (.aload_n 0, 1) := by decide +kernel
theorem dX7_torque_99 : decode cX7_torque 99 = .ok (.getfield 46, 3) := by decide +kernel
theorem dX7_torque_102 : decode cX7_torque 102 = .ok (.iload_n 1, 1) := by decide +kernel
theorem dX7_torque_103 : decode cX7_torque 103 = .ok (.iaload, 1) := by decide +kernel
theorem dX7_torque_104 : decode cX7_torque 104 = .ok (.if_icmp .ge 19, 3) := by decide +kernel
theorem dX7_torque_107 : decode cX7_torque 107 = .ok (.lload_n 3, 1) := by decide +kernel
theorem dX7_torque_108 : decode cX7_torque 108 = .ok (.ldc2_w 175, 3) := by decide +kernel
theorem dX7_torque_111 : decode cX7_torque 111 = .ok (.lmul, 1) := by decide +kernel
theorem dX7_torque_112 : decode cX7_torque 112 = .ok (.ldc2_w 177, 3) := by decide +kernel
theorem dX7_torque_115 : decode cX7_torque 115 = .ok (.ldiv, 1) := by decide +kernel
theorem dX7_torque_116 : decode cX7_torque 116 = .ok (.lstore_n 3, 1) := by decide +kernel
theorem dX7_torque_117 : decode cX7_torque 117 = .ok (.iinc 5 1, 3) := by decide +kernel
theorem dX7_torque_120 : decode cX7_torque 120 = .ok (.goto (-24), 3) := by decide +kernel
theorem dX7_torque_123 : decode cX7_torque 123 = .ok (.lload_n 3, 1) := by decide +kernel
theorem dX7_torque_124 : decode cX7_torque 124 = .ok (.aload_n 0, 1) := by decide +kernel
theorem dX7_torque_125 : decode cX7_torque 125 = .ok (.getfield 104, 3) := by decide +kernel
theorem dX7_torque_128 : decode cX7_torque 128 = .ok (.i2l, 1) := by decide +kernel
theorem dX7_torque_129 : decode cX7_torque 129 = .ok (.lmul, 1) := by decide +kernel
theorem dX7_torque_130 : decode cX7_torque 130 = .ok (.aload_n 0, 1) := by decide +kernel
theorem dX7_torque_131 : decode cX7_torque 131 = .ok (.getfield 43, 3) := by decide +kernel
theorem dX7_torque_134 : decode cX7_torque 134 = .ok (.iload_n 1, 1) := by decide +kernel
theorem dX7_torque_135 : decode cX7_torque 135 = .ok (.laload, 1) := by decide +kernel
theorem dX7_torque_136 : decode cX7_torque 136 = .ok (.lmul, 1) := by decide +kernel
theorem dX7_torque_137 : decode cX7_torque 137 = .ok (.aload_n 0, 1) := by decide +kernel
theorem dX7_torque_138 : decode cX7_torque 138 = .ok (.getfield 39, 3) := by decide +kernel
theorem dX7_torque_141 : decode cX7_torque 141 = .ok (.iload_n 1, 1) := by decide +kernel
theorem dX7_torque_142 : decode cX7_torque 142 = .ok (.laload, 1) := by decide +kernel
theorem dX7_torque_143 : decode cX7_torque 143 = .ok (.ldiv, 1) := by decide +kernel
theorem dX7_torque_144 : decode cX7_torque 144 = .ok (.lreturn, 1) := by decide +kernel
set_option maxRecDepth 20000 in
theorem ggX7_apart_X7_square : GoodIn wsX7_apart wsX7_square := goodIn_r _ [6] (by decide +kernel) (by decide +kernel)
set_option maxRecDepth 20000 in
theorem gX7_apart_X7_square : GoodIn wsX7_apart (va_wsS RX7 74 yX7_square wsX7_square) := goodIn_app (goodIn_of _ (by decide +kernel)) ggX7_apart_X7_square
theorem dX7_apart_0 : decode cX7_apart 0 = .ok (.aload_n 0, 1) := by decide +kernel
theorem dX7_apart_1 : decode cX7_apart 1 = .ok (.getfield 9, 3) := by decide +kernel
theorem dX7_apart_4 : decode cX7_apart 4 = .ok (.iload_n 1, 1) := by decide +kernel
theorem dX7_apart_5 : decode cX7_apart 5 = .ok (.iaload, 1) := by decide +kernel
theorem dX7_apart_6 : decode cX7_apart 6 = .ok (.aload_n 0, 1) := by decide +kernel
theorem dX7_apart_7 : decode cX7_apart 7 = .ok (.getfield 9, 3) := by decide +kernel
theorem dX7_apart_10 : decode cX7_apart 10 = .ok (.iload_n 2, 1) := by decide +kernel
theorem dX7_apart_11 : decode cX7_apart 11 = .ok (.iaload, 1) := by decide +kernel
theorem dX7_apart_12 : decode cX7_apart 12 = .ok (.isub, 1) := by decide +kernel
theorem dX7_apart_13 : decode cX7_apart 13 = .ok (.invokestatic 74, 3) := by decide +kernel
theorem dX7_apart_16 : decode cX7_apart 16 = .ok (.aload_n 0, 1) := by decide +kernel
theorem dX7_apart_17 : decode cX7_apart 17 = .ok (.getfield 13, 3) := by decide +kernel
theorem dX7_apart_20 : decode cX7_apart 20 = .ok (.iload_n 1, 1) := by decide +kernel
theorem dX7_apart_21 : decode cX7_apart 21 = .ok (.iaload, 1) := by decide +kernel
theorem dX7_apart_22 : decode cX7_apart 22 = .ok (.aload_n 0, 1) := by decide +kernel
theorem dX7_apart_23 : decode cX7_apart 23 = .ok (.getfield 13, 3) := by decide +kernel
theorem dX7_apart_26 : decode cX7_apart 26 = .ok (.iload_n 2, 1) := by decide +kernel
theorem dX7_apart_27 : decode cX7_apart 27 = .ok (.iaload, 1) := by decide +kernel
theorem dX7_apart_28 : decode cX7_apart 28 = .ok (.isub, 1) := by decide +kernel
theorem dX7_apart_29 : decode cX7_apart 29 = .ok (.invokestatic 74, 3) := by decide +kernel
theorem dX7_apart_32 : decode cX7_apart 32 = .ok (.iadd, 1) := by decide +kernel
theorem dX7_apart_33 : decode cX7_apart 33 = .ok (.ireturn, 1) := by decide +kernel
set_option maxRecDepth 20000 in
theorem ggX7_distanceOf_X7_teeth : GoodIn wsX7_distanceOf wsX7_teeth := goodIn_r _ [11, 12, 22, 23, 24, 25, 26, 27, 28, 29, 30, 31, 32, 33, 34, 35, 36, 37, 38, 39, 40, 41] (by decide +kernel) (by decide +kernel)
set_option maxRecDepth 20000 in
theorem gX7_distanceOf_X7_teeth : GoodIn wsX7_distanceOf (wsV RX7 92 RX7 yX7_teeth wsX7_teeth) := goodIn_app (goodIn_of _ (by decide +kernel)) ggX7_distanceOf_X7_teeth
set_option maxRecDepth 20000 in
theorem ggX7_distanceOf_X7_module : GoodIn wsX7_distanceOf wsX7_module := goodIn_r _ [16, 12, 22, 23, 24, 25, 26, 27, 28, 29, 30, 31, 32, 33, 34, 35, 36, 37, 38, 39, 40, 41] (by decide +kernel) (by decide +kernel)
set_option maxRecDepth 20000 in
theorem gX7_distanceOf_X7_module : GoodIn wsX7_distanceOf (wsV RX7 86 RX7 yX7_module wsX7_module) := goodIn_app (goodIn_of _ (by decide +kernel)) ggX7_distanceOf_X7_module
set_option maxRecDepth 20000 in
theorem ggX7_distanceOf_X7_isInner : GoodIn wsX7_distanceOf wsX7_isInner := goodIn_r _ [20, 21, 1, 2, 22, 23, 24, 25, 26, 27, 28, 29, 30, 31, 32, 33, 34, 35, 36, 37, 38, 39, 40, 41] (by decide +kernel) (by decide +kernel)
set_option maxRecDepth 20000 in
theorem gX7_distanceOf_X7_isInner : GoodIn wsX7_distanceOf (wsV RX7 129 RX7 yX7_isInner wsX7_isInner) := goodIn_app (goodIn_of _ (by decide +kernel)) ggX7_distanceOf_X7_isInner
theorem dX7_distanceOf_0 : decode cX7_distanceOf 0 = .ok (.aload_n 0, 1) := by decide +kernel
theorem dX7_distanceOf_1 : decode cX7_distanceOf 1 = .ok (.aload_n 0, 1) := by decide +kernel
theorem dX7_distanceOf_2 : decode cX7_distanceOf 2 = .ok (.getfield 30, 3) := by decide +kernel
theorem dX7_distanceOf_5 : decode cX7_distanceOf 5 = .ok (.iload_n 1, 1) := by decide +kernel
theorem dX7_distanceOf_6 : decode cX7_distanceOf 6 = .ok (.iaload, 1) := by decide +kernel
theorem dX7_distanceOf_7 : decode cX7_distanceOf 7 = .ok (.invokevirtual 92, 3) := by decide +kernel
theorem dX7_distanceOf_10 : decode cX7_distanceOf 10 = .ok (.istore_n 2, 1) := by decide +kernel
theorem dX7_distanceOf_11 : decode cX7_distanceOf 11 = .ok (.aload_n 0, 1) := by decide +kernel
theorem dX7_distanceOf_12 : decode cX7_distanceOf 12 = .ok (.aload_n 0, 1) := by decide +kernel
theorem dX7_distanceOf_13 : decode cX7_distanceOf 13 = .ok (.getfield 33, 3) := by decide +kernel
theorem dX7_distanceOf_16 : decode cX7_distanceOf 16 = .ok (.iload_n 1, 1) := by decide +kernel
theorem dX7_distanceOf_17 : decode cX7_distanceOf 17 = .ok (.iaload, 1) := by decide +kernel
theorem dX7_distanceOf_18 : decode cX7_distanceOf 18 = .ok (.invokevirtual 92, 3) := by decide +kernel
theorem dX7_distanceOf_21 : decode cX7_distanceOf 21 = .ok (.istore_n 3, 1) := by decide +kernel
theorem dX7_distanceOf_22 : decode cX7_distanceOf 22 = .ok (.aload_n 0, 1) := by decide +kernel
theorem dX7_distanceOf_23 : decode cX7_distanceOf 23 = .ok (.aload_n 0, 1) := by decide +kernel
theorem dX7_distanceOf_24 : decode cX7_distanceOf 24 = .ok (.getfield 30, 3) := by decide +kernel
theorem dX7_distanceOf_27 : decode cX7_distanceOf 27 = .ok (.iload_n 1, 1) := by decide +kernel
theorem dX7_distanceOf_28 : decode cX7_distanceOf 28 = .ok (.iaload, 1) := by decide +kernel
theorem dX7_distanceOf_29 : decode cX7_distanceOf 29 = .ok (.invokevirtual 86, 3) := by decide +kernel
theorem dX7_distanceOf_32 : decode cX7_distanceOf 32 = .ok (.aload_n 0, 1) := by decide +kernel
theorem dX7_distanceOf_33 : decode cX7_distanceOf 33 = .ok (.iload_n 1, 1) := by decide +kernel
theorem dX7_distanceOf_34 : decode cX7_distanceOf 34 = .ok (.invokevirtual 129, 3) := by decide +kernel
theorem dX7_distanceOf_37 : decode cX7_distanceOf 37 = .ok (.ifCond .eq 12, 3) := by decide +kernel
theorem dX7_distanceOf_40 : decode cX7_distanceOf 40 = .ok (.iload_n 2, 1) := by decide +kernel
theorem dX7_distanceOf_41 : decode cX7_distanceOf 41 = .ok (.iload_n 3, 1) := by decide +kernel
theorem dX7_distanceOf_42 : decode cX7_distanceOf 42 = .ok (.isub, 1) := by decide +kernel
theorem dX7_distanceOf_43 : decode cX7_distanceOf 43 = .ok (.invokestatic 179, 3) := by decide +kernel
theorem dX7_distanceOf_46 : decode cX7_distanceOf 46 = .ok (.goto 6, 3) := by decide +kernel
theorem dX7_distanceOf_49 : decode cX7_distanceOf 49 = .ok (.iload_n 2, 1) := by decide +kernel
theorem dX7_distanceOf_50 : decode cX7_distanceOf 50 = .ok (.iload_n 3, 1) := by decide +kernel
theorem dX7_distanceOf_51 : decode cX7_distanceOf 51 = .ok (.iadd, 1) := by decide +kernel
theorem dX7_distanceOf_52 : decode cX7_distanceOf 52 = .ok (.imul, 1) := by decide +kernel
theorem dX7_distanceOf_53 : decode cX7_distanceOf 53 = .ok (.ireturn, 1) := by decide +kernel
set_option maxRecDepth 20000 in
theorem ggX7_distance_X7_isIn : GoodIn wsX7_distance wsX7_isIn := goodIn_r _ [6] (by decide +kernel) (by decide +kernel)
set_option maxRecDepth 20000 in
theorem gX7_distance_X7_isIn : GoodIn wsX7_distance (va_wsS RX7 55 yX7_isIn wsX7_isIn) := goodIn_app (goodIn_of _ (by decide +kernel)) ggX7_distance_X7_isIn
set_option maxRecDepth 20000 in
theorem ggX7_distance_X7_distanceOf : GoodIn wsX7_distance wsX7_distanceOf := goodIn_r _ [10, 11, 12, 13, 14, 15, 16, 17, 18, 19, 5, 20, 21, 22, 23, 24, 25, 26, 27, 28, 29, 30, 35, 36, 37, 38, 39, 40, 41, 42, 43, 44, 45, 46, 47, 48, 49, 50, 51, 52, 53, 54] (by decide +kernel) (by decide +kernel)
set_option maxRecDepth 20000 in
theorem gX7_distance_X7_distanceOf : GoodIn wsX7_distance (wsV RX7 181 RX7 yX7_distanceOf wsX7_distanceOf) := goodIn_app (goodIn_of _ (by decide +kernel)) ggX7_distance_X7_distanceOf
set_option maxRecDepth 20000 in
theorem ggX7_distance_X7_fail : GoodIn wsX7_distance wsX7_fail := goodIn_r _ [34, 1, 35, 36, 37, 38, 39, 40, 41, 42, 43, 44, 45, 46, 47, 48, 49, 50, 51, 52, 53, 54] (by decide +kernel) (by decide +kernel)
set_option maxRecDepth 20000 in
theorem gX7_distance_X7_fail : GoodIn wsX7_distance (wsV RX7 66 RX7 yX7_fail wsX7_fail) := goodIn_app (goodIn_of _ (by decide +kernel)) ggX7_distance_X7_fail
theorem dX7_distance_0 : decode cX7_distance 0 = .ok (.aload_n 0, 1) := by decide +kernel
