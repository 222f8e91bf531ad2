theorem dX6_mixedShaft_16 : decode cX6_mixedShaft 16 = .ok (.invokestatic 229, 3) := by decide +kernel
theorem dX6_mixedShaft_19 : decode cX6_mixedShaft 19 = .ok (.lstore_n 3, 1) := by decide +kernel
theorem dX6_mixedShaft_20 : decode cX6_mixedShaft 20 = .ok (.lload_n 3, 1) := by decide +kernel
theorem dX6_mixedShaft_21 : decode cX6_mixedShaft 21 = .ok (.aload_n 2, 1) := by decide +kernel
theorem dX6_mixedShaft_22 : decode cX6_mixedShaft 22 = .ok (.getfield 147, 3) := by decide +kernel
theorem dX6_mixedShaft_25 : decode cX6_mixedShaft 25 = .ok (.ifCond .eq 7, 3) := by decide +kernel
theorem dX6_mixedShaft_28 : decode cX6_mixedShaft 28 = .ok (.lconst 1, 1) := by decide +kernel
theorem dX6_mixedShaft_29 : decode cX6_mixedShaft 29 = .ok (.goto 4, 3) := by decide +kernel
theorem dX6_mixedShaft_32 : decode cX6_mixedShaft 32 = .ok (.lconst 0, 1) := by decide +kernel
theorem dX6_mixedShaft_33 : decode cX6_mixedShaft 33 = .ok (.invokestatic 229, 3) := by decide +kernel
theorem dX6_mixedShaft_36 : decode cX6_mixedShaft 36 = .ok (.lstore_n 3, 1) := by decide +kernel
theorem dX6_mixedShaft_37 : decode cX6_mixedShaft 37 = .ok (.lload_n 3, 1) := by decide +kernel
theorem dX6_mixedShaft_38 : decode cX6_mixedShaft 38 = .ok (.aload_n 2, 1) := by decide +kernel
theorem dX6_mixedShaft_39 : decode cX6_mixedShaft 39 = .ok (.getfield 172, 3) := by decide +kernel
theorem dX6_mixedShaft_42 : decode cX6_mixedShaft 42 = .ok (.i2l, 1) := by decide +kernel
theorem dX6_mixedShaft_43 : decode cX6_mixedShaft 43 = .ok (.invokestatic 229, 3) := by decide +kernel
theorem dX6_mixedShaft_46 : decode cX6_mixedShaft 46 = .ok (.lstore_n 3, 1) := by decide +kernel
theorem dX6_mixedShaft_47 : decode cX6_mixedShaft 47 = .ok (.aload_n 2, 1) := by decide +kernel
theorem dX6_mixedShaft_48 : decode cX6_mixedShaft 48 = .ok (.invokevirtual 153, 3) := by decide +kernel
theorem dX6_mixedShaft_51 : decode cX6_mixedShaft 51 = .ok (.ifCond .eq 27, 3) := by decide +kernel
theorem dX6_mixedShaft_54 : decode cX6_mixedShaft 54 = .ok (.lload_n 3, 1) := by decide +kernel
theorem dX6_mixedShaft_55 : decode cX6_mixedShaft 55 = .ok (.aload_n 2, 1) := by decide +kernel
theorem dX6_mixedShaft_56 : decode cX6_mixedShaft 56 = .ok (.getfield 159, 3) := by decide +kernel
theorem dX6_mixedShaft_59 : decode cX6_mixedShaft 59 = .ok (.getfield 169, 3) := by decide +kernel
theorem dX6_mixedShaft_62 : decode cX6_mixedShaft 62 = .ok (.invokestatic 229, 3) := by decide +kernel
theorem dX6_mixedShaft_65 : decode cX6_mixedShaft 65 = .ok (.lstore_n 3, 1) := by decide +kernel
theorem dX6_mixedShaft_66 : decode cX6_mixedShaft 66 = .ok (.lload_n 3, 1) := by decide +kernel
theorem dX6_mixedShaft_67 : decode cX6_mixedShaft 67 = .ok (.aload_n 2, 1) := by decide +kernel
theorem dX6_mixedShaft_68 : decode cX6_mixedShaft 68 = .ok (.getfield 159, 3) := by decide +kernel
theorem dX6_mixedShaft_71 : decode cX6_mixedShaft 71 = .ok (.getfield 163, 3) := by decide +kernel
theorem dX6_mixedShaft_74 : decode cX6_mixedShaft 74 = .ok (.invokestatic 229, 3) := by decide +kernel
theorem dX6_mixedShaft_77 : decode cX6_mixedShaft 77 = .ok (.lstore_n 3, 1) := by decide +kernel
theorem dX6_mixedShaft_78 : decode cX6_mixedShaft 78 = .ok (.lload_n 3, 1) := by decide +kernel
theorem dX6_mixedShaft_79 : decode cX6_mixedShaft 79 = .ok (.lreturn, 1) := by decide +kernel
theorem dX7_init_0 : decode cX7_init 0 = .ok (.aload_n 0, 1) := by decide +kernel
theorem dX7_init_1 : decode cX7_init 1 = .ok (.invokespecial 1, 3) := by decide +kernel
theorem dX7_init_4 : decode cX7_init 4 = .ok (.aload_n 0, 1) := by decide +kernel
theorem dX7_init_5 : decode cX7_init 5 = .ok (.bipush 10, 2) := by decide +kernel
theorem dX7_init_7 : decode cX7_init 7 = .ok (.newarray .int, 2) := by decide +kernel
theorem dX7_init_9 : decode cX7_init 9 = .ok (.putfield 9, 3) := by decide +kernel
theorem dX7_init_12 : decode cX7_init 12 = .ok (.aload_n 0, 1) := by decide +kernel
theorem dX7_init_13 : decode cX7_init 13 = .ok (.bipush 10, 2) := by decide +kernel
theorem dX7_init_15 : decode cX7_init 15 = .ok (.newarray .int, 2) := by decide +kernel
theorem dX7_init_17 : decode cX7_init 17 = .ok (.putfield 13, 3) := by decide +kernel
theorem dX7_init_20 : decode cX7_init 20 = .ok (.aload_n 0, 1) := by decide +kernel
theorem dX7_init_21 : decode cX7_init 21 = .ok (.bipush 10, 2) := by decide +kernel
theorem dX7_init_23 : decode cX7_init 23 = .ok (.newarray .boolean, 2) := by decide +kernel
theorem dX7_init_25 : decode cX7_init 25 = .ok (.putfield 16, 3) := by decide +kernel
theorem dX7_init_28 : decode cX7_init 28 = .ok (.aload_n 0, 1) := by decide +kernel
theorem dX7_init_29 : decode cX7_init 29 = .ok (.iconst (-1), 1) := by decide +kernel
theorem dX7_init_30 : decode cX7_init 30 = .ok (.putfield 20, 3) := by decide +kernel
theorem dX7_init_33 : decode cX7_init 33 = .ok (.aload_n 0, 1) := by decide +kernel
theorem dX7_init_34 : decode cX7_init 34 = .ok (.bipush 64, 2) := by decide +kernel
theorem dX7_init_36 : decode cX7_init 36 = .ok (.newarray .int, 2) := by decide +kernel
theorem dX7_init_38 : decode cX7_init 38 = .ok (.putfield 24, 3) := by decide +kernel
theorem dX7_init_41 : decode cX7_init 41 = .ok (.aload_n 0, 1) := by decide +kernel
theorem dX7_init_42 : decode cX7_init 42 = .ok (.bipush 16, 2) := by decide +kernel
theorem dX7_init_44 : decode cX7_init 44 = .ok (.newarray .boolean, 2) := by decide +kernel
theorem dX7_init_46 : decode cX7_init 46 = .ok (.putfield 27, 3) := by decide +kernel
theorem dX7_init_49 : decode cX7_init 49 = .ok (.aload_n 0, 1) := by decide +kernel
theorem dX7_init_50 : decode cX7_init 50 = .ok (.bipush 16, 2) := by decide +kernel
theorem dX7_init_52 : decode cX7_init 52 = .ok (.newarray .int, 2) := by decide +kernel
theorem dX7_init_54 : decode cX7_init 54 = .ok (.putfield 30, 3) := by decide +kernel
theorem dX7_init_57 : decode cX7_init 57 = .ok (.aload_n 0, 1) := by decide +kernel
theorem dX7_init_58 : decode cX7_init 58 = .ok (.bipush 16, 2) := by decide +kernel
theorem dX7_init_60 : decode cX7_init 60 = .ok (.newarray .int, 2) := by decide +kernel
theorem dX7_init_62 : decode cX7_init 62 = .ok (.putfield 33, 3) := by decide +kernel
theorem dX7_init_65 : decode cX7_init 65 = .ok (.aload_n 0, 1) := by decide +kernel
theorem dX7_init_66 : decode cX7_init 66 = .ok (.bipush 20, 2) := by decide +kernel
theorem dX7_init_68 : decode cX7_init 68 = .ok (.newarray .int, 2) := by decide +kernel
theorem dX7_init_70 : decode cX7_init 70 = .ok (.putfield 36, 3) := by decide +kernel
theorem dX7_init_73 : decode cX7_init 73 = .ok (.aload_n 0, 1) := by decide +kernel
theorem dX7_init_74 : decode cX7_init 74 = .ok (.bipush 10, 2) := by decide +kernel
theorem dX7_init_76 : decode cX7_init 76 = .ok (.newarray .long, 2) := by decide +kernel
theorem dX7_init_78 : decode cX7_init 78 = .ok (.putfield 39, 3) := by decide +kernel
theorem dX7_init_81 : decode cX7_init 81 = .ok (.aload_n 0, 1) := by decide +kernel
theorem dX7_init_82 : decode cX7_init 82 = .ok (.bipush 10, 2) := by decide +kernel
theorem dX7_init_84 : decode cX7_init 84 = .ok (.newarray .long, 2) := by decide +kernel
theorem dX7_init_86 : decode cX7_init 86 = .ok (.putfield 43, 3) := by decide +kernel
theorem dX7_init_89 : decode cX7_init 89 = .ok (.aload_n 0, 1) := by decide +kernel
theorem dX7_init_90 : decode cX7_init 90 = .ok (.bipush 10, 2) := by decide +kernel
theorem dX7_init_92 : decode cX7_init 92 = .ok (.newarray .int, 2) := by decide +kernel
theorem dX7_init_94 : decode cX7_init 94 = .ok (.putfield 46, 3) := by decide +kernel
theorem dX7_init_97 : decode cX7_init 97 = .ok (.return_, 1) := by decide +kernel
theorem dX7_thrown_0 : decode cX7_thrown 0 = .ok (.aload_n 0, 1) := by decide +kernel
theorem dX7_thrown_1 : decode cX7_thrown 1 = .ok (.getfield 49, 3) := by decide +kernel
theorem dX7_thrown_4 : decode cX7_thrown 4 = .ok (.ireturn, 1) := by decide +kernel
theorem dX7_fail_0 : decode cX7_fail 0 = .ok (.aload_n 0, 1) := by decide +kernel
theorem dX7_fail_1 : decode cX7_fail 1 = .ok (.iload_n 1, 1) := by decide +kernel
theorem dX7_fail_2 : decode cX7_fail 2 = .ok (.putfield 49, 3) := by decide +kernel
theorem dX7_fail_5 : decode cX7_fail 5 = .ok (.iconst 0, 1) := by decide +kernel
theorem dX7_fail_6 : decode cX7_fail 6 = .ok (.ireturn, 1) := by decide +kernel
theorem dX7_isIn_0 : decode cX7_isIn 0 = .ok (.iload_n 0, 1) := by decide +kernel
theorem dX7_isIn_1 : decode cX7_isIn 1 = .ok (.iload_n 1, 1) := by decide +kernel
theorem dX7_isIn_2 : decode cX7_isIn 2 = .ok (.if_icmp .lt 12, 3) := by decide +kernel
theorem dX7_isIn_5 : decode cX7_isIn 5 = .ok (.iload_n 0, 1) := by decide +kernel
theorem dX7_isIn_6 : decode cX7_isIn 6 = .ok (.iload_n 2, 1) := by decide +kernel
theorem dX7_isIn_7 : decode cX7_isIn 7 = .ok (.if_icmp .gt 7, 3) := by decide +kernel
theorem dX7_isIn_10 : decode cX7_isIn 10 = .ok (.iconst 1, 1) := by decide +kernel
theorem dX7_isIn_11 : decode cX7_isIn 11 = .ok (.goto 4, 3) := by decide +kernel
theorem dX7_isIn_14 : decode cX7_isIn 14 = .ok (.iconst 0, 1) := by decide +kernel
theorem dX7_isIn_15 : decode cX7_isIn 15 = .ok (.ireturn, 1) := by decide +kernel
set_option maxRecDepth 20000 in
theorem ggX7_isShaft_X7_isIn : GoodIn wsX7_isShaft wsX7_isIn := goodIn_r _ [5] (by decide +kernel) (by decide +kernel)
set_option maxRecDepth 20000 in
theorem gX7_isShaft_X7_isIn : GoodIn wsX7_isShaft (va_wsS RX7 55 yX7_isIn wsX7_isIn) := goodIn_app (goodIn_of _ (by decide +kernel)) ggX7_isShaft_X7_isIn
theorem dX7_isShaft_0 : decode cX7_isShaft 0 = .ok (.iload_n 1, 1) := by decide +kernel
theorem dX7_isShaft_1 : decode cX7_isShaft 1 = .ok (.iconst 0, 1) := by decide +kernel
theorem dX7_isShaft_2 : decode cX7_isShaft 2 = .ok (.aload_n 0, 1) := by decide +kernel
theorem dX7_isShaft_3 : decode cX7_isShaft 3 = .ok (.getfield 52, 3) := by decide +kernel
theorem dX7_isShaft_6 : decode cX7_isShaft 6 = .ok (.iconst 1, 1) := by decide +kernel
theorem dX7_isShaft_7 : decode cX7_isShaft 7 = .ok (.isub, 1) := by decide +kernel
theorem dX7_isShaft_8 : decode cX7_isShaft 8 = .ok (.invokestatic 55, 3) := by decide +kernel
theorem dX7_isShaft_11 : decode cX7_isShaft 11 = .ok (.ireturn, 1) := by decide +kernel
set_option maxRecDepth 20000 in
theorem ggX7_isGear_X7_isIn : GoodIn wsX7_isGear wsX7_isIn := goodIn_r _ [5] (by decide +kernel) (by decide +kernel)
set_option maxRecDepth 20000 in
theorem gX7_isGear_X7_isIn : GoodIn wsX7_isGear (va_wsS RX7 55 yX7_isIn wsX7_isIn) := goodIn_app (goodIn_of _ (by decide +kernel)) ggX7_isGear_X7_isIn
theorem dX7_isGear_0 : decode cX7_isGear 0 = .ok (.iload_n 1, 1) := by decide +kernel
theorem dX7_isGear_1 : decode cX7_isGear 1 = .ok (.iconst 0, 1) := by decide +kernel
theorem dX7_isGear_2 : decode cX7_isGear 2 = .ok (.aload_n 0, 1) := by decide +kernel
theorem dX7_isGear_3 : decode cX7_isGear 3 = .ok (.getfield 59, 3) := by decide +kernel
theorem dX7_isGear_6 : decode cX7_isGear 6 = .ok (.iconst 1, 1) := by decide +kernel
theorem dX7_isGear_7 : decode cX7_isGear 7 = .ok (.isub, 1) := by decide +kernel
theorem dX7_isGear_8 : decode cX7_isGear 8 = .ok (.invokestatic 55, 3) := by decide +kernel
theorem dX7_isGear_11 : decode cX7_isGear 11 = .ok (.ireturn, 1) := by decide +kernel
set_option maxRecDepth 20000 in
theorem ggX7_arePlace_X7_isIn : GoodIn wsX7_arePlace wsX7_isIn := goodIn_r _ [4] (by decide +kernel) (by decide +kernel)
set_option maxRecDepth 20000 in
theorem gX7_arePlace_X7_isIn : GoodIn wsX7_arePlace (va_wsS RX7 55 yX7_isIn wsX7_isIn) := goodIn_app (goodIn_of _ (by decide +kernel)) ggX7_arePlace_X7_isIn
theorem dX7_arePlace_0 : decode cX7_arePlace 0 = .ok (.iload_n 0, 1) := by decide +kernel
theorem dX7_arePlace_1 : decode cX7_arePlace 1 = .ok (.sipush (-1000), 3) := by decide +kernel
theorem dX7_arePlace_4 : decode cX7_arePlace 4 = .ok (.sipush 1000, 3) := by decide +kernel
theorem dX7_arePlace_7 : decode cX7_arePlace 7 = .ok (.invokestatic 55, 3) := by decide +kernel
theorem dX7_arePlace_10 : decode cX7_arePlace 10 = .ok (.ifCond .eq 20, 3) := by decide +kernel
theorem dX7_arePlace_13 : decode cX7_arePlace 13 = .ok (.iload_n 1, 1) := by decide +kernel
theorem dX7_arePlace_14 : decode cX7_arePlace 14 = .ok (.sipush (-1000), 3) := by decide +kernel
theorem dX7_arePlace_17 : decode cX7_arePlace 17 = .ok (.sipush 1000, 3) := by decide +kernel
theorem dX7_arePlace_20 : decode cX7_arePlace 20 = .ok (.invokestatic 55, 3) := by decide +kernel
theorem dX7_arePlace_23 : decode cX7_arePlace 23 = .ok (.ifCond .eq 7, 3) := by decide +kernel
theorem dX7_arePlace_26 : decode cX7_arePlace 26 = .ok (.iconst 1, 1) := by decide +kernel
theorem dX7_arePlace_27 : decode cX7_arePlace 27 = .ok (.goto 4, 3) := by decide +kernel
theorem dX7_arePlace_30 : decode cX7_arePlace 30 = .ok (.iconst 0, 1) := by decide +kernel
theorem dX7_arePlace_31 : decode cX7_arePlace 31 = .ok (.ireturn, 1) := by decide +kernel
set_option maxRecDepth 20000 in
theorem ggX7_addShaft_X7_arePlace : GoodIn wsX7_addShaft wsX7_arePlace := goodIn_r _ [8, 9, 10, 7, 11] (by decide +kernel) (by decide +kernel)
set_option maxRecDepth 20000 in
theorem gX7_addShaft_X7_arePlace : GoodIn wsX7_addShaft (va_wsS RX7 62 yX7_arePlace wsX7_arePlace) := goodIn_app (goodIn_of _ (by decide +kernel)) ggX7_addShaft_X7_arePlace
set_option maxRecDepth 20000 in
theorem ggX7_addShaft_X7_fail : GoodIn wsX7_addShaft wsX7_fail := goodIn_r _ [15, 1, 16, 17, 18, 19, 20, 21, 22, 23, 24, 25, 26, 27, 28, 29, 30, 31, 32, 33, 34, 35] (by decide +kernel) (by decide +kernel)
set_option maxRecDepth 20000 in
theorem gX7_addShaft_X7_fail : GoodIn wsX7_addShaft (wsV RX7 66 RX7 yX7_fail wsX7_fail) := goodIn_app (goodIn_of _ (by decide +kernel)) ggX7_addShaft_X7_fail
theorem dX7_addShaft_0 : decode cX7_addShaft 0 = .ok (.aload_n 0, 1) := by decide +kernel
theorem dX7_addShaft_1 : decode cX7_addShaft 1 = .ok (.iconst 0, 1) := by decide +kernel
theorem dX7_addShaft_2 : decode cX7_addShaft 2 = .ok (.putfield 49, 3) := by decide +kernel
theorem dX7_addShaft_5 : decode cX7_addShaft 5 = .ok (.iload_n 1, 1) := by decide +kernel
theorem dX7_addShaft_6 : decode cX7_addShaft 6 = .ok (.iload_n 2, 1) := by decide +kernel
theorem dX7_addShaft_7 : decode cX7_addShaft 7 = .ok (.invokestatic 62, 3) := by decide +kernel
theorem dX7_addShaft_10 : decode cX7_addShaft 10 = .ok (.ifCond .ne 9, 3) := by decide +kernel
theorem dX7_addShaft_13 : decode cX7_addShaft 13 = .ok (.aload_n 0, 1) := by decide +kernel
theorem dX7_addShaft_14 : decode cX7_addShaft 14 = .ok (.iconst 1, 1) := by decide +kernel
theorem dX7_addShaft_15 : decode cX7_addShaft 15 = .ok (.invokevirtual 66, 3) := by decide +kernel
theorem dX7_addShaft_18 : decode cX7_addShaft 18 = .ok (.ireturn, 1) := by decide +kernel
theorem dX7_addShaft_19 : decode cX7_addShaft 19 = .ok (.aload_n 0, 1) := by decide +kernel
theorem dX7_addShaft_20 : decode cX7_addShaft 20 = .ok (.getfield 52, 3) := by decide +kernel
theorem dX7_addShaft_23 : decode cX7_addShaft 23 = .ok (.bipush 10, 2) := by decide +kernel
theorem dX7_addShaft_25 : decode cX7_addShaft 25 = .ok (.if_icmp .ne 9, 3) := by decide +kernel
theorem dX7_addShaft_28 : decode cX7_addShaft 28 = .ok (.aload_n 0, 1) := by decide +kernel
theorem dX7_addShaft_29 : decode cX7_addShaft 29 = .ok (.iconst 2, 1) := by decide +kernel
theorem dX7_addShaft_30 : decode cX7_addShaft 30 = .ok (.invokevirtual 66, 3) := by decide +kernel
theorem dX7_addShaft_33 : decode cX7_addShaft 33 = .ok (.ireturn, 1) := by decide +kernel
theorem dX7_addShaft_34 : decode cX7_addShaft 34 = .ok (.aload_n 0, 1) := by decide +kernel
theorem dX7_addShaft_35 : decode cX7_addShaft 35 = .ok (.getfield 9, 3) := by decide +kernel
theorem dX7_addShaft_38 : decode cX7_addShaft 38 = .ok (.aload_n 0, 1) := by decide +kernel
theorem dX7_addShaft_39 : decode cX7_addShaft 39 = .ok (.getfield 52, 3) := by decide +kernel
theorem dX7_addShaft_42 : decode cX7_addShaft 42 = .ok (.iload_n 1, 1) := by decide +kernel
theorem dX7_addShaft_43 : decode cX7_addShaft 43 = .ok (.iastore, 1) := by decide +kernel
theorem dX7_addShaft_44 : decode cX7_addShaft 44 = .ok (.aload_n 0, 1) := by decide +kernel
theorem dX7_addShaft_45 : decode cX7_addShaft 45 = .ok (.getfield 13, 3) := by decide +kernel
theorem dX7_addShaft_48 : decode cX7_addShaft 48 = .ok (.aload_n 0, 1) := by decide +kernel
theorem dX7_addShaft_49 : decode cX7_addShaft 49 = .ok (.getfield 52, 3) := by decide +kernel
theorem dX7_addShaft_52 : decode cX7_addShaft 52 = .ok (.iload_n 2, 1) := by decide +kernel
theorem dX7_addShaft_53 : decode cX7_addShaft 53 = .ok (.iastore, 1) := by decide +kernel
theorem dX7_addShaft_54 : decode cX7_addShaft 54 = .ok (.aload_n 0, 1) := by decide +kernel
theorem dX7_addShaft_55 : decode cX7_addShaft 55 = .ok (.dup, 1) := by decide +kernel
theorem dX7_addShaft_56 : decode cX7_addShaft 56 = .ok (.getfield 52, 3) := by decide +kernel
theorem dX7_addShaft_59 : decode cX7_addShaft 59 = .ok (.iconst 1, 1) := by decide +kernel
theorem dX7_addShaft_60 : decode cX7_addShaft 60 = .ok (.iadd, 1) := by decide +kernel
theorem dX7_addShaft_61 : decode cX7_addShaft 61 = .ok (.putfield 52, 3) := by decide +kernel
theorem dX7_addShaft_64 : decode cX7_addShaft 64 = .ok (.aload_n 0, 1) := by decide +kernel
theorem dX7_addShaft_65 : decode cX7_addShaft 65 = .ok (.getfield 52, 3) := by decide +kernel
theorem dX7_addShaft_68 : decode cX7_addShaft 68 = .ok (.iconst 1, 1) := by decide +kernel
theorem dX7_addShaft_69 : decode cX7_addShaft 69 = .ok (.isub, 1) := by decide +kernel
theorem dX7_addShaft_70 : decode cX7_addShaft 70 = .ok (.ireturn, 1) := by decide +kernel
theorem dX7_square_0 : decode cX7_square 0 = .ok (.iload_n 0, 1) := by decide +kernel
theorem dX7_square_1 : decode cX7_square 1 = .ok (.iload_n 0, 1) := by decide +kernel
theorem dX7_square_2 : decode cX7_square 2 = .ok (.imul, 1) := by decide +kernel
theorem dX7_square_3 : decode cX7_square 3 = .ok (.ireturn, 1) := by decide +kernel
set_option maxRecDepth 20000 in
theorem ggX7_move_X7_isShaft : GoodIn wsX7_move wsX7_isShaft := goodIn_r _ [8, 9, 10, 11, 7, 12, 23, 24, 25, 26, 27, 28, 29, 30, 31, 32, 33, 34, 35, 36, 37, 38, 39, 40, 41, 42] (by decide +kernel) (by decide +kernel)
set_option maxRecDepth 20000 in
theorem gX7_move_X7_isShaft : GoodIn wsX7_move (wsV RX7 70 RX7 yX7_isShaft wsX7_isShaft) := goodIn_app (goodIn_of _ (by decide +kernel)) ggX7_move_X7_isShaft
set_option maxRecDepth 20000 in
theorem ggX7_move_X7_fail : GoodIn wsX7_move wsX7_fail := goodIn_r _ [16, 1, 23, 24, 25, 26, 27, 28, 29, 30, 31, 32, 33, 34, 35, 36, 37, 38, 39, 40, 41, 42] (by decide +kernel) (by decide +kernel)
set_option maxRecDepth 20000 in
theorem gX7_move_X7_fail : GoodIn wsX7_move (wsV RX7 66 RX7 yX7_fail wsX7_fail) := goodIn_app (goodIn_of _ (by decide +kernel)) ggX7_move_X7_fail
set_option maxRecDepth 20000 in
theorem ggX7_move_X7_arePlace : GoodIn wsX7_move wsX7_arePlace := goodIn_r _ [19, 10, 11, 7, 12] (by decide +kernel) (by decide +kernel)
set_option maxRecDepth 20000 in
theorem gX7_move_X7_arePlace : GoodIn wsX7_move (va_wsS RX7 62 yX7_arePlace wsX7_arePlace) := goodIn_app (goodIn_of _ (by decide +kernel)) ggX7_move_X7_arePlace
set_option maxRecDepth 20000 in
theorem ggX7_move_X7_square : GoodIn wsX7_move wsX7_square := goodIn_r _ [22] (by decide +kernel) (by decide +kernel)
set_option maxRecDepth 20000 in
theorem gX7_move_X7_square : GoodIn wsX7_move (va_wsS RX7 74 yX7_square wsX7_square) := goodIn_app (goodIn_of _ (by decide +kernel)) ggX7_move_X7_square
theorem dX7_move_0 : decode cX7_move 0 = .ok (.aload_n 0, 1) := by decide +kernel
theorem dX7_move_1 : decode cX7_move 1 = .ok (.iconst 0, 1) := by decide +kernel
theorem dX7_move_2 : decode cX7_move 2 = .ok (.putfield 49, 3) := by decide +kernel
theorem dX7_move_5 : decode cX7_move 5 = .ok (.aload_n 0, 1) := by decide +kernel
theorem dX7_move_6 : decode cX7_move 6 = .ok (.iload_n 1, 1) := by decide +kernel
theorem dX7_move_7 : decode cX7_move 7 = .ok (.invokevirtual 70, 3) := by decide +kernel
theorem dX7_move_10 : decode cX7_move 10 = .ok (.ifCond .ne 9, 3) := by decide +kernel
theorem dX7_move_13 : decode cX7_move 13 = .ok (.aload_n 0, 1) := by decide +kernel
theorem dX7_move_14 : decode cX7_move 14 = .ok (.iconst 1, 1) := by decide +kernel
theorem dX7_move_15 : decode cX7_move 15 = .ok (.invokevirtual 66, 3) := by decide +kernel
theorem dX7_move_18 : decode cX7_move 18 = .ok (.ireturn, 1) := by decide +kernel
theorem dX7_move_19 : decode cX7_move 19 = .ok (.iload_n 2, 1) := by decide +kernel
theorem dX7_move_20 : decode cX7_move 20 = .ok (.iload_n 3, 1) := by decide +kernel
theorem dX7_move_21 : decode cX7_move 21 = .ok (.invokestatic 62, 3) := by decide +kernel
theorem dX7_move_24 : decode cX7_move 24 = .ok (.ifCond .ne 9, 3) := by decide +kernel
theorem dX7_move_27 : decode cX7_move 27 = .ok (.aload_n 0, 1) := by decide +kernel
theorem dX7_move_28 : decode cX7_move 28 = .ok (.iconst 2, 1) := by decide +kernel
theorem dX7_move_29 : decode cX7_move 29 = .ok (.invokevirtual 66, 3) := by decide +kernel
theorem dX7_move_32 : decode cX7_move 32 = .ok (.ireturn, 1) := by decide +kernel
theorem dX7_move_33 : decode cX7_move 33 = .ok (.iload_n 2, 1) := by decide +kernel
theorem dX7_move_34 : decode cX7_move 34 = .ok (.aload_n 0, 1) := by decide +kernel
theorem dX7_move_35 : decode cX7_move 35 = .ok (.getfield 9, 3) := by decide +kernel
theorem dX7_move_38 : decode cX7_move 38 = .ok (.iload_n 1, 1) := by decide +kernel
theorem dX7_move_39 : decode cX7_move 39 = .ok (.iaload, 1) := by decide +kernel
theorem dX7_move_40 : decode cX7_move 40 = .ok (.isub, 1) := by decide +kernel
theorem dX7_move_41 : decode cX7_move 41 = .ok (.invokestatic 74, 3) := by decide +kernel
theorem dX7_move_44 : decode cX7_move 44 = .ok (.iload_n 3, 1) := by decide +kernel
theorem dX7_move_45 : decode cX7_move 45 = .ok (.aload_n 0, 1) := by decide +kernel
theorem dX7_move_46 : decode cX7_move 46 = .ok (.getfield 13, 3) := by decide +kernel
theorem dX7_move_49 : decode cX7_move 49 = .ok (.iload_n 1, 1) := by decide +kernel
theorem dX7_move_50 : decode cX7_move 50 = .ok (.iaload, 1) := by decide +kernel
theorem dX7_move_51 : decode cX7_move 51 = .ok (.isub, 1) := by decide +kernel
theorem dX7_move_52 : decode cX7_move 52 = .ok (.invokestatic 74, 3) := by decide +kernel
theorem dX7_move_55 : decode cX7_move 55 = .ok (.iadd, 1) := by decide +kernel
theorem dX7_move_56 : decode cX7_move 56 = .ok (.istore 4, 2) := by decide +kernel
theorem dX7_move_58 : decode cX7_move 58 = .ok (.aload_n 0, 1) := by decide +kernel
theorem dX7_move_59 : decode cX7_move 59 = .ok (.getfield 9, 3) := by decide +kernel
theorem dX7_move_62 : decode cX7_move 62 = .ok (.iload_n 1, 1) := by decide +kernel
theorem dX7_move_63 : decode cX7_move 63 = .ok (.iload_n 2, 1) := by decide +kernel
theorem dX7_move_64 : decode cX7_move 64 = .ok (.iastore, 1) := by decide +kernel
theorem dX7_move_65 : decode cX7_move 65 = .ok (.aload_n 0, 1) := by decide +kernel
theorem dX7_move_66 : decode cX7_move 66 = .ok (.getfield 13, 3) := by decide +kernel
theorem dX7_move_69 : decode cX7_move 69 = .ok (.iload_n 1, 1) := by decide +kernel
theorem dX7_move_70 : decode cX7_move 70 = .ok (.iload_n 3, 1) := by decide +kernel
theorem dX7_move_71 : decode cX7_move 71 = .ok (.iastore, 1) := by decide +kernel
theorem dX7_move_72 : decode cX7_move 72 = .ok (.iload 4, 2) := by decide +kernel
theorem dX7_move_74 : decode cX7_move 74 = .ok (.ireturn, 1) := by decide +kernel
set_option maxRecDepth 20000 in
theorem ggX7_addGear_X7_isShaft : GoodIn wsX7_addGear wsX7_isShaft := goodIn_r _ [9, 10, 11, 12, 8, 13, 18, 19, 20, 21, 22, 23, 24, 25, 26, 27, 28, 29, 30, 31, 32, 33, 34, 35, 36, 37] (by decide +kernel) (by decide +kernel)
set_option maxRecDepth 20000 in
theorem gX7_addGear_X7_isShaft : GoodIn wsX7_addGear (wsV RX7 70 RX7 yX7_isShaft wsX7_isShaft) := goodIn_app (goodIn_of _ (by decide +kernel)) ggX7_addGear_X7_isShaft
set_option maxRecDepth 20000 in
theorem ggX7_addGear_X7_fail : GoodIn wsX7_addGear wsX7_fail := goodIn_r _ [17, 1, 18, 19, 20, 21, 22, 23, 24, 25, 26, 27, 28, 29, 30, 31, 32, 33, 34, 35, 36, 37] (by decide +kernel) (by decide +kernel)
set_option maxRecDepth 20000 in
theorem gX7_addGear_X7_fail : GoodIn wsX7_addGear (wsV RX7 66 RX7 yX7_fail wsX7_fail) := goodIn_app (goodIn_of _ (by decide +kernel)) ggX7_addGear_X7_fail
set_option maxRecDepth 20000 in
theorem ggX7_addGear_X7_isIn : GoodIn wsX7_addGear wsX7_isIn := goodIn_r _ [13] (by decide +kernel) (by decide +kernel)
set_option maxRecDepth 20000 in
theorem gX7_addGear_X7_isIn : GoodIn wsX7_addGear (va_wsS RX7 55 yX7_isIn wsX7_isIn) := goodIn_app (goodIn_of _ (by decide +kernel)) ggX7_addGear_X7_isIn
theorem dX7_addGear_0 : decode cX7_addGear 0 = .ok (.aload_n 0, 1) := by decide +kernel
theorem dX7_addGear_1 : decode cX7_addGear 1 = .ok (.iconst 0, 1) := by decide +kernel
theorem dX7_addGear_2 : decode cX7_addGear 2 = .ok (.putfield 49, 3) := by decide +kernel
theorem dX7_addGear_5 : decode cX7_addGear 5 = .ok (.aload_n 0, 1) := by decide +kernel
theorem dX7_addGear_6 : decode cX7_addGear 6 = .ok (.iload_n 1, 1) := by decide +kernel
theorem dX7_addGear_7 : decode cX7_addGear 7 = .ok (.invokevirtual 70, 3) := by decide +kernel
theorem dX7_addGear_10 : decode cX7_addGear 10 = .ok (.ifCond .ne 9, 3) := by decide +kernel
theorem dX7_addGear_13 : decode cX7_addGear 13 = .ok (.aload_n 0, 1) := by decide +kernel
theorem dX7_addGear_14 : decode cX7_addGear 14 = .ok (.iconst 1, 1) := by decide +kernel
theorem dX7_addGear_15 : decode cX7_addGear 15 = .ok (.invokevirtual 66, 3) := by decide +kernel
theorem dX7_addGear_18 : decode cX7_addGear 18 = .ok (.ireturn, 1) := by decide +kernel
theorem dX7_addGear_19 : decode cX7_addGear 19 = .ok (.iload_n 2, 1) := by decide +kernel
theorem dX7_addGear_20 : decode cX7_addGear 20 = .ok (.bipush 8, 2) := by decide +kernel
theorem dX7_addGear_22 : decode cX7_addGear 22 = .ok (.sipush 200, 3) := by decide +kernel
theorem dX7_addGear_25 : decode cX7_addGear 25 = .ok (.invokestatic 55, 3) := by decide +kernel
theorem dX7_addGear_28 : decode cX7_addGear 28 = .ok (.ifCond .eq 23, 3) := by decide +kernel
theorem dX7_addGear_31 : decode cX7_addGear 31 = .ok (.iload_n 3, 1) := by decide +kernel
theorem dX7_addGear_32 : decode cX7_addGear 32 = .ok (.iconst 1, 1) := by decide +kernel
theorem dX7_addGear_33 : decode cX7_addGear 33 = .ok (.bipush 10, 2) := by decide +kernel
theorem dX7_addGear_35 : decode cX7_addGear 35 = .ok (.invokestatic 55, 3) := by decide +kernel
theorem dX7_addGear_38 : decode cX7_addGear 38 = .ok (.ifCond .eq 13, 3) := by decide +kernel
theorem dX7_addGear_41 : decode cX7_addGear 41 = .ok (.iload 4, 2) := by decide +kernel
theorem dX7_addGear_43 : decode cX7_addGear 43 = .ok (.iconst 0, 1) := by decide +kernel
theorem dX7_addGear_44 : decode cX7_addGear 44 = .ok (.iconst 5, 1) := by decide +kernel
theorem dX7_addGear_45 : decode cX7_addGear 45 = .ok (.invokestatic 55, 3) := by decide +kernel
theorem dX7_addGear_48 : decode cX7_addGear 48 = .ok (.ifCond .ne 9, 3) := by decide +kernel
theorem dX7_addGear_51 : decode cX7_addGear 51 = .ok (.aload_n 0, 1) := by decide +kernel
theorem dX7_addGear_52 : decode cX7_addGear 52 = .ok (.iconst 2, 1) := by decide +kernel
theorem dX7_addGear_53 : decode cX7_addGear 53 = .ok (.invokevirtual 66, 3) := by decide +kernel
theorem dX7_addGear_56 : decode cX7_addGear 56 = .ok (.ireturn, 1) := by decide +kernel
theorem dX7_addGear_57 : decode cX7_addGear 57 = .ok (.aload_n 0, 1) := by decide +kernel
theorem dX7_addGear_58 : decode cX7_addGear 58 = .ok (.getfield 59, 3) := by decide +kernel
theorem dX7_addGear_61 : decode cX7_addGear 61 = .ok (.bipush 16, 2) := by decide +kernel
theorem dX7_addGear_63 : decode cX7_addGear 63 = .ok (.if_icmp .ne 9, 3) := by decide +kernel
theorem dX7_addGear_66 : decode cX7_addGear 66 = .ok (.aload_n 0, 1) := by decide +kernel
theorem dX7_addGear_67 : decode cX7_addGear 67 = .ok (.iconst 3, 1) := by decide +kernel
theorem dX7_addGear_68 : decode cX7_addGear 68 = .ok (.invokevirtual 66, 3) := by decide +kernel
theorem dX7_addGear_71 : decode cX7_addGear 71 = .ok (.ireturn, 1) := by decide +kernel
theorem dX7_addGear_72 : decode cX7_addGear 72 = .ok (.aload_n 0, 1) := by decide +kernel
theorem dX7_addGear_73 : decode cX7_addGear 73 = .ok (.getfield 24, 3) := by decide +kernel
theorem dX7_addGear_76 : decode cX7_addGear 76 = .ok (.iconst 4, 1) := by decide +kernel
theorem dX7_addGear_77 : decode cX7_addGear 77 = .ok (.aload_n 0, 1) := by decide +kernel
theorem dX7_addGear_78 : decode cX7_addGear 78 = .ok (.getfield 59, 3) := by decide +kernel
theorem dX7_addGear_81 : decode cX7_addGear 81 = .ok (.imul, 1) := by decide +kernel
theorem dX7_addGear_82 : decode cX7_addGear 82 = .ok (.iload_n 1, 1) := by decide +kernel
theorem dX7_addGear_83 : decode cX7_addGear 83 = .ok (.iastore, 1) := by decide +kernel
theorem dX7_addGear_84 : decode cX7_addGear 84 = .ok (.aload_n 0, 1) := by decide +kernel
theorem dX7_addGear_85 : decode cX7_addGear 85 = .ok (.getfield 24, 3) := by decide +kernel
theorem dX7_addGear_88 : decode cX7_addGear 88 = .ok (.iconst 4, 1) := by decide +kernel
theorem dX7_addGear_89 : decode cX7_addGear 89 = .ok (.aload_n 0, 1) := by decide +kernel
theorem dX7_addGear_90 : decode cX7_addGear 90 = .ok (.getfield 59, 3) := by decide +kernel
theorem dX7_addGear_93 : decode cX7_addGear 93 = .ok (.imul, 1) := by decide +kernel
theorem dX7_addGear_94 : decode cX7_addGear 94 = .ok (.iconst 1, 1) := by decide +kernel
theorem dX7_addGear_95 : decode cX7_addGear 95 = .ok (.iadd, 1) := by decide +kernel
theorem dX7_addGear_96 : decode cX7_addGear 96 = .ok (.iload_n 2, 1) := by decide +kernel
theorem dX7_addGear_97 : decode cX7_addGear 97 = .ok (.iastore, 1) := by decide +kernel
theorem dX7_addGear_98 : decode cX7_addGear 98 = .ok (.aload_n 0, 1) := by decide +kernel
theorem dX7_addGear_99 : decode cX7_addGear 99 = .ok (.getfield 24, 3) := by decide +kernel
theorem dX7_addGear_102 : decode cX7_addGear 102 = .ok (.iconst 4, 1) := by decide +kernel
theorem dX7_addGear_103 : decode cX7_addGear 103 = .ok (.aload_n 0, 1) := by decide +kernel
theorem dX7_addGear_104 : decode cX7_addGear 104 = .ok (.getfield 59, 3) := by decide +kernel
theorem dX7_addGear_107 : decode cX7_addGear 107 = .ok (.imul, 1) := by decide +kernel
theorem dX7_addGear_108 : decode cX7_addGear 108 = .ok (.iconst 2, 1) := by decide +kernel
theorem dX7_addGear_109 : decode cX7_addGear 109 = .ok (.iadd, 1) := by decide +kernel
theorem dX7_addGear_110 : decode cX7_addGear 110 = .ok (.iload_n 3, 1) := by decide +kernel
theorem dX7_addGear_111 : decode cX7_addGear 111 = .ok (.iastore, 1) := by decide +kernel
theorem dX7_addGear_112 : decode cX7_addGear 112 = .ok (.aload_n 0, 1) := by decide +kernel
theorem dX7_addGear_113 : decode cX7_addGear 113 = .ok (.getfield 24, 3) := by decide +kernel
theorem dX7_addGear_116 : decode cX7_addGear 116 = .ok (.iconst 4, 1) := by decide +kernel
theorem dX7_addGear_117 : decode cX7_addGear 117 = .ok (.aload_n 0, 1) := by decide +kernel
theorem dX7_addGear_118 : decode cX7_addGear 118 = .ok (.getfield 59, 3) := by decide +kernel
theorem dX7_addGear_121 : decode cX7_addGear 121 = .ok (.imul, 1) := by decide +kernel
theorem dX7_addGear_122 : decode cX7_addGear 122 = .ok (.iconst 3, 1) := by decide +kernel
theorem dX7_addGear_123 : decode cX7_addGear 123 = .ok (.iadd, 1) := by decide +kernel
theorem dX7_addGear_124 : decode cX7_addGear 124 = .ok (.iload 4, 2) := by decide +kernel
theorem dX7_addGear_126 : decode cX7_addGear 126 = .ok (.iastore, 1) := by decide +kernel
theorem dX7_addGear_127 : decode cX7_addGear 127 = .ok (.aload_n 0, 1) := by decide +kernel
theorem dX7_addGear_128 : decode cX7_addGear 128 = .ok (.getfield 27, 3) := by decide +kernel
theorem dX7_addGear_131 : decode cX7_addGear 131 = .ok (.aload_n 0, 1) := by decide +kernel
theorem dX7_addGear_132 : decode cX7_addGear 132 = .ok (.getfield 59, 3) := by decide +kernel
theorem dX7_addGear_135 : decode cX7_addGear 135 = .ok (.iload 5, 2) := by decide +kernel
theorem dX7_addGear_137 : decode cX7_addGear 137 = .ok (.bastore, 1) := by decide +kernel
theorem dX7_addGear_138 : decode cX7_addGear 138 = .ok (.aload_n 0, 1) := by decide +kernel
theorem dX7_addGear_139 : decode cX7_addGear 139 = .ok (.dup, 1) := by decide +kernel
theorem dX7_addGear_140 : decode cX7_addGear 140 = .ok (.getfield 59, 3) := by decide +kernel
theorem dX7_addGear_143 : decode cX7_addGear 143 = .ok (.iconst 1, 1) := by decide +kernel
theorem dX7_addGear_144 : decode cX7_addGear 144 = .ok (.iadd, 1) := by decide +kernel
theorem dX7_addGear_145 : decode cX7_addGear 145 = .ok (.putfield 59, 3) := by decide +kernel
theorem dX7_addGear_148 : decode cX7_addGear 148 = .ok (.aload_n 0, 1) := by decide +kernel
theorem dX7_addGear_149 : decode cX7_addGear 149 = .ok (.getfield 59, 3) := by decide +kernel
theorem dX7_addGear_152 : decode cX7_addGear 152 = .ok (.iconst 1, 1) := by decide +kernel
theorem dX7_addGear_153 : decode cX7_addGear 153 = .ok (.isub, 1) := by decide +kernel
theorem dX7_addGear_154 : decode cX7_addGear 154 = .ok (.ireturn, 1) := by decide +kernel
theorem dX7_shaftOf_0 : decode cX7_shaftOf 0 = .ok (.aload_n 0, 1) := by decide +kernel
theorem dX7_shaftOf_1 : decode cX7_shaftOf 1 = .ok (.getfield 24, 3) := by decide +kernel
theorem dX7_shaftOf_4 : decode cX7_shaftOf 4 = .ok (.iconst 4, 1) := by decide +kernel
theorem dX7_shaftOf_5 : decode cX7_shaftOf 5 = .ok (.iload_n 1, 1) := by decide +kernel
theorem dX7_shaftOf_6 : decode cX7_shaftOf 6 = .ok (.imul, 1) := by decide +kernel
theorem dX7_shaftOf_7 : decode cX7_shaftOf 7 = .ok (.iaload, 1) := by decide +kernel
theorem dX7_shaftOf_8 : decode cX7_shaftOf 8 = .ok (.ireturn, 1) := by decide +kernel
theorem dX7_teeth_0 : decode cX7_teeth 0 = .ok (.aload_n 0, 1) := by decide +kernel
theorem dX7_teeth_1 : decode cX7_teeth 1 = .ok (.getfield 24, 3) := by decide +kernel
theorem dX7_teeth_4 : decode cX7_teeth 4 = .ok (.iconst 4, 1) := by decide +kernel
theorem dX7_teeth_5 : decode cX7_teeth 5 = .ok (.iload_n 1, 1) := by decide +kernel
theorem dX7_teeth_6 : decode cX7_teeth 6 = .ok (.imul, 1) := by decide +kernel
theorem dX7_teeth_7 : decode cX7_teeth 7 = .ok (.iconst 1, 1) := by decide +kernel
theorem dX7_teeth_8 : decode cX7_teeth 8 = .ok (.iadd, 1) := by decide +kernel
theorem dX7_teeth_9 : decode cX7_teeth 9 = .ok (.iaload, 1) := by decide +kernel
theorem dX7_teeth_10 : decode cX7_teeth 10 = .ok (.ireturn, 1) := by decide +kernel
theorem dX7_module_0 : decode cX7_module 0 = .ok (.aload_n 0, 1) := by decide +kernel
theorem dX7_module_1 : decode cX7_module 1 = .ok (.getfield 24, 3) := by decide +kernel
theorem dX7_module_4 : decode cX7_module 4 = .ok (.iconst 4, 1) := by decide +kernel
theorem dX7_module_5 : decode cX7_module 5 = .ok (.iload_n 1, 1) := by decide +kernel
theorem dX7_module_6 : decode cX7_module 6 = .ok (.imul, 1) := by decide +kernel
theorem dX7_module_7 : decode cX7_module 7 = .ok (.iconst 2, 1) := by decide +kernel
theorem dX7_module_8 : decode cX7_module 8 = .ok (.iadd, 1) := by decide +kernel
theorem dX7_module_9 : decode cX7_module 9 = .ok (.iaload, 1) := by decide +kernel
theorem dX7_module_10 : decode cX7_module 10 = .ok (.ireturn, 1) := by decide +kernel
theorem dX7_layer_0 : decode cX7_layer 0 = .ok (.aload_n 0, 1) := by decide +kernel
theorem dX7_layer_1 : decode cX7_layer 1 = .ok (.getfield 24, 3) := by decide +kernel
theorem dX7_layer_4 : decode cX7_layer 4 = .ok (.iconst 4, 1) := by decide +kernel
theorem dX7_layer_5 : decode cX7_layer 5 = .ok (.iload_n 1, 1) := by decide +kernel
theorem dX7_layer_6 : decode cX7_layer 6 = .ok (.imul, 1) := by decide +kernel
theorem dX7_layer_7 : decode cX7_layer 7 = .ok (.iconst 3, 1) := by decide +kernel
theorem dX7_layer_8 : decode cX7_layer 8 = .ok (.iadd, 1) := by decide +kernel
theorem dX7_layer_9 : decode cX7_layer 9 = .ok (.iaload, 1) := by decide +kernel
theorem dX7_layer_10 : decode cX7_layer 10 = .ok (.ireturn, 1) := by decide +kernel
theorem dX7_areMeshed_0 : decode cX7_areMeshed 0 = .ok (.iconst 0, 1) := by decide +kernel
theorem dX7_areMeshed_1 : decode cX7_areMeshed 1 = .ok (.istore_n 3, 1) := by decide +kernel
theorem dX7_areMeshed_2 : decode cX7_areMeshed 2 = .ok (.iconst 0, 1) := by decide +kernel
theorem dX7_areMeshed_3 : decode cX7_areMeshed 3 = .ok (.istore 4, 2) := by decide +kernel
theorem dX7_areMeshed_5 : decode cX7_areMeshed 5 = .ok (.iload 4, 2) := by decide +kernel
theorem dX7_areMeshed_7 : decode cX7_areMeshed 7 = .ok (.aload_n 0, 1) := by decide +kernel
theorem dX7_areMeshed_8 : decode cX7_areMeshed 8 = .ok (.getfield 77, 3) := by decide +kernel
theorem dX7_areMeshed_11 : decode cX7_areMeshed 11 = .ok (.if_icmp .ge 63, 3) := by decide +kernel
theorem dX7_areMeshed_14 : decode cX7_areMeshed 14 = .ok (.iload_n 3, 1) := by decide +kernel
theorem dX7_areMeshed_15 : decode cX7_areMeshed 15 = .ok (.ifCond .ne 47, 3) := by decide +kernel
theorem dX7_areMeshed_18 : decode cX7_areMeshed 18 = .ok (.aload_n 0, 1) := by decide +kernel
theorem dX7_areMeshed_19 : decode cX7_areMeshed 19 = .ok (.getfield 30, 3) := by decide +kernel
theorem dX7_areMeshed_22 : decode cX7_areMeshed 22 = .ok (.iload 4, 2) := by decide +kernel
theorem dX7_areMeshed_24 : decode cX7_areMeshed 24 = .ok (.iaload, 1) := by decide +kernel
theorem dX7_areMeshed_25 : decode cX7_areMeshed 25 = .ok (.iload_n 1, 1) := by decide +kernel
theorem dX7_areMeshed_26 : decode cX7_areMeshed 26 = .ok (.if_icmp .ne 14, 3) := by decide +kernel
theorem dX7_areMeshed_29 : decode cX7_areMeshed 29 = .ok (.aload_n 0, 1) := by decide +kernel
theorem dX7_areMeshed_30 : decode cX7_areMeshed 30 = .ok (.getfield 33, 3) := by decide +kernel
theorem dX7_areMeshed_33 : decode cX7_areMeshed 33 = .ok (.iload 4, 2) := by decide +kernel
theorem dX7_areMeshed_35 : decode cX7_areMeshed 35 = .ok (.iaload, 1) := by decide +kernel
theorem dX7_areMeshed_36 : decode cX7_areMeshed 36 = .ok (.iload_n 2, 1) := by decide +kernel
theorem dX7_areMeshed_37 : decode cX7_areMeshed 37 = .ok (.if_icmp .eq 25, 3) := by decide +kernel
theorem dX7_areMeshed_40 : decode cX7_areMeshed 40 = .ok (.aload_n 0, 1) := by decide +kernel
theorem dX7_areMeshed_41 : decode cX7_areMeshed 41 = .ok (.getfield 30, 3) := by decide +kernel
theorem dX7_areMeshed_44 : decode cX7_areMeshed 44 = .ok (.iload 4, 2) := by decide +kernel
theorem dX7_areMeshed_46 : decode cX7_areMeshed 46 = .ok (.iaload, 1) := by decide +kernel
theorem dX7_areMeshed_47 : decode cX7_areMeshed 47 = .ok (.iload_n 2, 1) := by decide +kernel
theorem dX7_areMeshed_48 : decode cX7_areMeshed 48 = .ok (.if_icmp .ne 18, 3) := by decide +kernel
theorem dX7_areMeshed_51 : decode cX7_areMeshed 51 = .ok (.aload_n 0, 1) := by decide +kernel
theorem dX7_areMeshed_52 : decode cX7_areMeshed 52 = .ok (.getfield 33, 3) := by decide +kernel
theorem dX7_areMeshed_55 : decode cX7_areMeshed 55 = .ok (.iload 4, 2) := by decide +kernel
theorem dX7_areMeshed_57 : decode cX7_areMeshed 57 = .ok (.iaload, 1) := by decide +kernel
theorem dX7_areMeshed_58 : decode cX7_areMeshed 58 = .ok (.iload_n 1, 1) := by decide +kernel
theorem dX7_areMeshed_59 : decode cX7_areMeshed 59 = .ok (.if_icmp .ne 7, 3) := by decide +kernel
theorem dX7_areMeshed_62 : decode cX7_areMeshed 62 = .ok (.iconst 1, 1) := by decide +kernel
theorem dX7_areMeshed_63 : decode cX7_areMeshed 63 = .ok (.goto 4, 3) := by decide +kernel
theorem dX7_areMeshed_66 : decode cX7_areMeshed 66 = .ok (.iconst 0, 1) := by decide +kernel
theorem dX7_areMeshed_67 : decode cX7_areMeshed 67 = .ok (.istore_n 3, 1) := by decide +kernel
theorem dX7_areMeshed_68 : decode cX7_areMeshed 68 = .ok (.iinc 4 1, 3) := by decide +kernel
theorem dX7_areMeshed_71 : decode cX7_areMeshed 71 = .ok (.goto (-66), 3) := by decide +kernel
theorem dX7_areMeshed_74 : decode cX7_areMeshed 74 = .ok (.iload_n 3, 1) := by decide +kernel
theorem dX7_areMeshed_75 : decode cX7_areMeshed 75 = .ok (.ireturn, 1) := by decide +kernel
set_option maxRecDepth 20000 in
theorem ggX7_canMesh_X7_shaftOf : GoodIn wsX7_canMesh wsX7_shaftOf := goodIn_r _ [6, 7, 27, 28, 29, 30, 31, 32, 33, 34, 35, 36, 37, 38, 39, 40, 41, 42, 43, 44, 45, 46] (by decide +kernel) (by decide +kernel)
set_option maxRecDepth 20000 in
theorem gX7_canMesh_X7_shaftOf : GoodIn wsX7_canMesh (wsV RX7 80 RX7 yX7_shaftOf wsX7_shaftOf) := goodIn_app (goodIn_of _ (by decide +kernel)) ggX7_canMesh_X7_shaftOf
set_option maxRecDepth 20000 in
theorem ggX7_canMesh_X7_layer : GoodIn wsX7_canMesh wsX7_layer := goodIn_r _ [11, 7, 27, 28, 29, 30, 31, 32, 33, 34, 35, 36, 37, 38, 39, 40, 41, 42, 43, 44, 45, 46] (by decide +kernel) (by decide +kernel)
set_option maxRecDepth 20000 in
theorem gX7_canMesh_X7_layer : GoodIn wsX7_canMesh (wsV RX7 83 RX7 yX7_layer wsX7_layer) := goodIn_app (goodIn_of _ (by decide +kernel)) ggX7_canMesh_X7_layer
set_option maxRecDepth 20000 in
theorem ggX7_canMesh_X7_module : GoodIn wsX7_canMesh wsX7_module := goodIn_r _ [15, 7, 27, 28, 29, 30, 31, 32, 33, 34, 35, 36, 37, 38, 39, 40, 41, 42, 43, 44, 45, 46] (by decide +kernel) (by decide +kernel)
set_option maxRecDepth 20000 in
theorem gX7_canMesh_X7_module : GoodIn wsX7_canMesh (wsV RX7 86 RX7 yX7_module wsX7_module) := goodIn_app (goodIn_of _ (by decide +kernel)) ggX7_canMesh_X7_module
set_option maxRecDepth 20000 in
theorem ggX7_canMesh_X7_areMeshed : GoodIn wsX7_canMesh wsX7_areMeshed := goodIn_r _ [19, 20, 21, 22, 27, 28, 29, 30, 31, 32, 33, 34, 35, 36, 37, 38, 39, 40, 41, 42, 43, 44, 45, 46] (by decide +kernel) (by decide +kernel)
set_option maxRecDepth 20000 in
theorem gX7_canMesh_X7_areMeshed : GoodIn wsX7_canMesh (wsV RX7 89 RX7 yX7_areMeshed wsX7_areMeshed) := goodIn_app (goodIn_of _ (by decide +kernel)) ggX7_canMesh_X7_areMeshed
set_option maxRecDepth 20000 in
theorem ggX7_canMesh_X7_teeth : GoodIn wsX7_canMesh wsX7_teeth := goodIn_r _ [26, 7, 27, 28, 29, 30, 31, 32, 33, 34, 35, 36, 37, 38, 39, 40, 41, 42, 43, 44, 45, 46] (by decide +kernel) (by decide +kernel)
set_option maxRecDepth 20000 in
theorem gX7_canMesh_X7_teeth : GoodIn wsX7_canMesh (wsV RX7 92 RX7 yX7_teeth wsX7_teeth) := goodIn_app (goodIn_of _ (by decide +kernel)) ggX7_canMesh_X7_teeth
theorem dX7_canMesh_0 : decode cX7_canMesh 0 = .ok (.aload_n 0, 1) := by decide +kernel
theorem dX7_canMesh_1 : decode cX7_canMesh 1 = .ok (.iload_n 1, 1) := by decide +kernel
theorem dX7_canMesh_2 : decode cX7_canMesh 2 = .ok (.invokevirtual 80, 3) := by decide +kernel
theorem dX7_canMesh_5 : decode cX7_canMesh 5 = .ok (.aload_n 0, 1) := by decide +kernel
theorem dX7_canMesh_6 : decode cX7_canMesh 6 = .ok (.iload_n 2, 1) := by decide +kernel
theorem dX7_canMesh_7 : decode cX7_canMesh 7 = .ok (.invokevirtual 80, 3) := by decide +kernel
theorem dX7_canMesh_10 : decode cX7_canMesh 10 = .ok (.if_icmp .eq 56, 3) := by decide +kernel
theorem dX7_canMesh_13 : decode cX7_canMesh 13 = .ok (.aload_n 0, 1) := by decide +kernel
theorem dX7_canMesh_14 : decode cX7_canMesh 14 = .ok (.iload_n 1, 1) := by decide +kernel
theorem dX7_canMesh_15 : decode cX7_canMesh 15 = .ok (.invokevirtual 83, 3) := by decide +kernel
theorem dX7_canMesh_18 : decode cX7_canMesh 18 = .ok (.aload_n 0, 1) := by decide +kernel
theorem dX7_canMesh_19 : decode cX7_canMesh 19 = .ok (.iload_n 2, 1) := by decide +kernel
theorem dX7_canMesh_20 : decode cX7_canMesh 20 = .ok (.invokevirtual 83, 3) := by decide +kernel
theorem dX7_canMesh_23 : decode cX7_canMesh 23 = .ok (.if_icmp .ne 43, 3) := by decide +kernel
theorem dX7_canMesh_26 : decode cX7_canMesh 26 = .ok (.aload_n 0, 1) := by decide +kernel
theorem dX7_canMesh_27 : decode cX7_canMesh 27 = .ok (.iload_n 1, 1) := by decide +kernel
theorem dX7_canMesh_28 : decode cX7_canMesh 28 = .ok (.invokevirtual 86, 3) := by decide +kernel
theorem dX7_canMesh_31 : decode cX7_canMesh 31 = .ok (.aload_n 0, 1) := by decide +kernel
theorem dX7_canMesh_32 : decode cX7_canMesh 32 = .ok (.iload_n 2, 1) := by decide +kernel
theorem dX7_canMesh_33 : decode cX7_canMesh 33 = .ok (.invokevirtual 86, 3) := by decide +kernel
theorem dX7_canMesh_36 : decode cX7_canMesh 36 = .ok (.if_icmp .ne 30, 3) := by decide +kernel
theorem dX7_canMesh_39 : decode cX7_canMesh 39 = .ok (.aload_n 0, 1) := by decide +kernel
theorem dX7_canMesh_40 : decode cX7_canMesh 40 = .ok (.getfield 27, 3) := by decide +kernel
theorem dX7_canMesh_43 : decode cX7_canMesh 43 = .ok (.iload_n 1, 1) := by decide +kernel
theorem dX7_canMesh_44 : decode cX7_canMesh 44 = .ok (.baload, 1) := by decide +kernel
theorem dX7_canMesh_45 : decode cX7_canMesh 45 = .ok (.ifCond .eq 12, 3) := by decide +kernel
theorem dX7_canMesh_48 : decode cX7_canMesh 48 = .ok (.aload_n 0, 1) := by decide +kernel
theorem dX7_canMesh_49 : decode cX7_canMesh 49 = .ok (.getfield 27, 3) := by decide +kernel
theorem dX7_canMesh_52 : decode cX7_canMesh 52 = .ok (.iload_n 2, 1) := by decide +kernel
theorem dX7_canMesh_53 : decode cX7_canMesh 53 = .ok (.baload, 1) := by decide +kernel
theorem dX7_canMesh_54 : decode cX7_canMesh 54 = .ok (.ifCond .ne 12, 3) := by decide +kernel
theorem dX7_canMesh_57 : decode cX7_canMesh 57 = .ok (.aload_n 0, 1) := by decide +kernel
theorem dX7_canMesh_58 : decode cX7_canMesh 58 = .ok (.iload_n 1, 1) := by decide +kernel
theorem dX7_canMesh_59 : decode cX7_canMesh 59 = .ok (.iload_n 2, 1) := by decide +kernel
theorem dX7_canMesh_60 : decode cX7_canMesh 60 = .ok (.invokevirtual 89, 3) := by decide +kernel
theorem dX7_canMesh_63 : decode cX7_canMesh 63 = .ok (.ifCond .eq 5, 3) := by decide +kernel
theorem dX7_canMesh_66 : decode cX7_canMesh 66 = .ok (.iconst 0, 1) := by decide +kernel
theorem dX7_canMesh_67 : decode cX7_canMesh 67 = .ok (.ireturn, 1) := by decide +kernel
theorem dX7_canMesh_68 : decode cX7_canMesh 68 = .ok (.aload_n 0, 1) := by decide +kernel
theorem dX7_canMesh_69 : decode cX7_canMesh 69 = .ok (.getfield 27, 3) := by decide +kernel
theorem dX7_canMesh_72 : decode cX7_canMesh 72 = .ok (.iload_n 1, 1) := by decide +kernel
theorem dX7_canMesh_73 : decode cX7_canMesh 73 = .ok (.baload, 1) := by decide +kernel
theorem dX7_canMesh_74 : decode cX7_canMesh 74 = .ok (.ifCond .ne 12, 3) := by decide +kernel
theorem dX7_canMesh_77 : decode cX7_canMesh 77 = .ok (.aload_n 0, 1) := by decide +kernel
theorem dX7_canMesh_78 : decode cX7_canMesh 78 = .ok (.getfield 27, 3) := by decide +kernel
theorem dX7_canMesh_81 : decode cX7_canMesh 81 = .ok (.iload_n 2, 1) := by decide +kernel
theorem dX7_canMesh_82 : decode cX7_canMesh 82 = .ok (.baload, 1) := by decide +kernel
theorem dX7_canMesh_83 : decode cX7_canMesh 83 = .ok (.ifCond .eq 41, 3) := by decide +kernel
theorem dX7_canMesh_86 : decode cX7_canMesh 86 = .ok (.aload_n 0, 1) := by decide +kernel
theorem dX7_canMesh_87 : decode cX7_canMesh 87 = .ok (.getfield 27, 3) := by decide +kernel
theorem dX7_canMesh_90 : decode cX7_canMesh 90 = .ok (.iload_n 1, 1) := by decide +kernel
theorem dX7_canMesh_91 : decode cX7_canMesh 91 = .ok (.baload, 1) := by decide +kernel
theorem dX7_canMesh_92 : decode cX7_canMesh 92 = .ok (.ifCond .eq 19, 3) := by decide +kernel
theorem dX7_canMesh_95 : decode cX7_canMesh 95 = .ok (.aload_n 0, 1) := by decide +kernel
theorem dX7_canMesh_96 : decode cX7_canMesh 96 = .ok (.iload_n 1, 1) := by decide +kernel
theorem dX7_canMesh_97 : decode cX7_canMesh 97 = .ok (.invokevirtual 92, 3) := by decide +kernel
theorem dX7_canMesh_100 : decode cX7_canMesh 100 = .ok (.aload_n 0, 1) := by decide +kernel
theorem dX7_canMesh_101 : decode cX7_canMesh 101 = .ok (.iload_n 2, 1) := by decide +kernel
theorem dX7_canMesh_102 : decode cX7_canMesh 102 = .ok (.invokevirtual 92, 3) := by decide +kernel
theorem dX7_canMesh_105 : decode cX7_canMesh 105 = .ok (.if_icmp .le 23, 3) := by decide +kernel
theorem dX7_canMesh_108 : decode cX7_canMesh 108 = .ok (.goto 16, 3) := by decide +kernel
theorem dX7_canMesh_111 : decode cX7_canMesh 111 = .ok (.aload_n 0, 1) := by decide +kernel
theorem dX7_canMesh_112 : decode cX7_canMesh 112 = .ok (.iload_n 2, 1) := by decide +kernel
theorem dX7_canMesh_113 : decode cX7_canMesh 113 = .ok (.invokevirtual 92, 3) := by decide +kernel
theorem dX7_canMesh_116 : decode cX7_canMesh 116 = .ok (.aload_n 0, 1) := by decide +kernel
theorem dX7_canMesh_117 : decode cX7_canMesh 117 = .ok (.iload_n 1, 1) := by decide +kernel
theorem dX7_canMesh_118 : decode cX7_canMesh 118 = .ok (.invokevirtual 92, 3) := by decide +kernel
theorem dX7_canMesh_121 : decode cX7_canMesh 121 = .ok (.if_icmp .le 7, 3) := by decide +kernel
theorem dX7_canMesh_124 : decode cX7_canMesh 124 = .ok (.iconst 1, 1) := by decide +kernel
theorem dX7_canMesh_125 : decode cX7_canMesh 125 = .ok (.goto 4, 3) := by decide +kernel
theorem dX7_canMesh_128 : decode cX7_canMesh 128 = .ok (.iconst 0, 1) := by decide +kernel
theorem dX7_canMesh_129 : decode cX7_canMesh 129 = .ok (.ireturn, 1) := by decide +kernel
set_option maxRecDepth 20000 in
theorem ggX7_mesh_X7_isGear : GoodIn wsX7_mesh wsX7_isGear := goodIn_r _ [9, 10, 11, 12, 8, 13, 44, 45, 46, 47, 48, 49, 50, 51, 52, 53, 54, 55, 56, 57, 58, 59, 60, 61, 62, 63] (by decide +kernel) (by decide +kernel)
set_option maxRecDepth 20000 in
theorem gX7_mesh_X7_isGear : GoodIn wsX7_mesh (wsV RX7 95 RX7 yX7_isGear wsX7_isGear) := goodIn_app (goodIn_of _ (by decide +kernel)) ggX7_mesh_X7_isGear
set_option maxRecDepth 20000 in
theorem ggX7_mesh_X7_fail : GoodIn wsX7_mesh wsX7_fail := goodIn_r _ [17, 1, 44, 45, 46, 47, 48, 49, 50, 51, 52, 53, 54, 55, 56, 57, 58, 59, 60, 61, 62, 63] (by decide +kernel) (by decide +kernel)
set_option maxRecDepth 20000 in
theorem gX7_mesh_X7_fail : GoodIn wsX7_mesh (wsV RX7 66 RX7 yX7_fail wsX7_fail) := goodIn_app (goodIn_of _ (by decide +kernel)) ggX7_mesh_X7_fail
set_option maxRecDepth 20000 in
theorem ggX7_mesh_X7_canMesh : GoodIn wsX7_mesh wsX7_canMesh := goodIn_r _ [21, 22, 23, 24, 25, 8, 26, 27, 28, 29, 30, 31, 32, 33, 34, 35, 36, 37, 38, 39, 2, 3, 4, 40, 41, 42, 43, 44, 45, 46, 47, 48, 49, 50, 51, 52, 53, 54, 55, 56, 57, 58, 59, 60, 61, 62, 63] (by decide +kernel) (by decide +kernel)
set_option maxRecDepth 20000 in
theorem gX7_mesh_X7_canMesh : GoodIn wsX7_mesh (wsV RX7 98 RX7 yX7_canMesh wsX7_canMesh) := goodIn_app (goodIn_of _ (by decide +kernel)) ggX7_mesh_X7_canMesh
theorem dX7_mesh_0 : decode cX7_mesh 0 = .ok (.aload_n 0, 1) := by decide +kernel
theorem dX7_mesh_1 : decode cX7_mesh 1 = .ok (.iconst 0, 1) := by decide +kernel
theorem dX7_mesh_2 : decode cX7_mesh 2 = .ok (.putfield 49, 3) := by decide +kernel
theorem dX7_mesh_5 : decode cX7_mesh 5 = .ok (.aload_n 0, 1) := by decide +kernel
theorem dX7_mesh_6 : decode cX7_mesh 6 = .ok (.iload_n 1, 1) := by decide +kernel
theorem dX7_mesh_7 : decode cX7_mesh 7 = .ok (.invokevirtual 95, 3) := by decide +kernel
theorem dX7_mesh_10 : decode cX7_mesh 10 = .ok (.ifCond .eq 11, 3) := by decide +kernel
theorem dX7_mesh_13 : decode cX7_mesh 13 = .ok (.aload_n 0, 1) := by decide +kernel
theorem dX7_mesh_14 : decode cX7_mesh 14 = .ok (.iload_n 2, 1) := by decide +kernel
theorem dX7_mesh_15 : decode cX7_mesh 15 = .ok (.invokevirtual 95, 3) := by decide +kernel
theorem dX7_mesh_18 : decode cX7_mesh 18 = .ok (.ifCond .ne 9, 3) := by decide +kernel
theorem dX7_mesh_21 : decode cX7_mesh 21 = .ok (.aload_n 0, 1) := by decide +kernel
theorem dX7_mesh_22 : decode cX7_mesh 22 = .ok (.iconst 1, 1) := by decide +kernel
theorem dX7_mesh_23 : decode cX7_mesh 23 = .ok (.invokevirtual 66, 3) := by decide +kernel
theorem dX7_mesh_26 : decode cX7_mesh 26 = .ok (.ireturn, 1) := by decide +kernel
theorem dX7_mesh_27 : decode cX7_mesh 27 = .ok (.aload_n 0, 1) := by decide +kernel
theorem dX7_mesh_28 : decode cX7_mesh 28 = .ok (.iload_n 1, 1) := by decide +kernel
theorem dX7_mesh_29 : decode cX7_mesh 29 = .ok (.iload_n 2, 1) := by decide +kernel
theorem dX7_mesh_30 : decode cX7_mesh 30 = .ok (.invokevirtual 98, 3) := by decide +kernel
theorem dX7_mesh_33 : decode cX7_mesh 33 = .ok (.ifCond .ne 9, 3) := by decide +kernel
theorem dX7_mesh_36 : decode cX7_mesh 36 = .ok (.aload_n 0, 1) := by decide +kernel
theorem dX7_mesh_37 : decode cX7_mesh 37 = .ok (.iconst 2, 1) := by decide +kernel
theorem dX7_mesh_38 : decode cX7_mesh 38 = .ok (.invokevirtual 66, 3) := by decide +kernel
theorem dX7_mesh_41 : decode cX7_mesh 41 = .ok (.ireturn, 1) := by decide +kernel
theorem dX7_mesh_42 : decode cX7_mesh 42 = .ok (.aload_n 0, 1) := by decide +kernel
theorem dX7_mesh_43 : decode cX7_mesh 43 = .ok (.getfield 77, 3) := by decide +kernel
theorem dX7_mesh_46 : decode cX7_mesh 46 = .ok (.bipush 16, 2) := by decide +kernel
theorem dX7_mesh_48 : decode cX7_mesh 48 = .ok (.if_icmp .ne 9, 3) := by decide +kernel
theorem dX7_mesh_51 : decode cX7_mesh 51 = .ok (.aload_n 0, 1) := by decide +kernel
theorem dX7_mesh_52 : decode cX7_mesh 52 = .ok (.iconst 3, 1) := by decide +kernel
theorem dX7_mesh_53 : decode cX7_mesh 53 = .ok (.invokevirtual 66, 3) := by decide +kernel
theorem dX7_mesh_56 : decode cX7_mesh 56 = .ok (.ireturn, 1) := by decide +kernel
theorem dX7_mesh_57 : decode cX7_mesh 57 = .ok (.aload_n 0, 1) := by decide +kernel
theorem dX7_mesh_58 : decode cX7_mesh 58 = .ok (.getfield 30, 3) := by decide +kernel
theorem dX7_mesh_61 : decode cX7_mesh 61 = .ok (.aload_n 0, 1) := by decide +kernel
theorem dX7_mesh_62 : decode cX7_mesh 62 = .ok (.getfield 77, 3) := by decide +kernel
theorem dX7_mesh_65 : decode cX7_mesh 65 = .ok (.iload_n 1, 1) := by decide +kernel
theorem dX7_mesh_66 : decode cX7_mesh 66 = .ok (.iastore, 1) := by decide +kernel
theorem dX7_mesh_67 : decode cX7_mesh 67 = .ok (.aload_n 0, 1) := by decide +kernel
theorem dX7_mesh_68 : decode cX7_mesh 68 = .ok (.getfield 33, 3) := by decide +kernel
theorem dX7_mesh_71 : decode cX7_mesh 71 = .ok (.aload_n 0, 1) := by decide +kernel
theorem dX7_mesh_72 : decode cX7_mesh 72 = .ok (.getfield 77, 3) := by decide +kernel
theorem dX7_mesh_75 : decode cX7_mesh 75 = .ok (.iload_n 2, 1) := by decide +kernel
theorem dX7_mesh_76 : decode cX7_mesh 76 = .ok (.iastore, 1) := by decide +kernel
theorem dX7_mesh_77 : decode cX7_mesh 77 = .ok (.aload_n 0, 1) := by decide +kernel
theorem dX7_mesh_78 : decode cX7_mesh 78 = .ok (.dup, 1) := by decide +kernel
theorem dX7_mesh_79 : decode cX7_mesh 79 = .ok (.getfield 77, 3) := by decide +kernel
theorem dX7_mesh_82 : decode cX7_mesh 82 = .ok (.iconst 1, 1) := by decide +kernel
theorem dX7_mesh_83 : decode cX7_mesh 83 = .ok (.iadd, 1) := by decide +kernel
theorem dX7_mesh_84 : decode cX7_mesh 84 = .ok (.putfield 77, 3) := by decide +kernel
theorem dX7_mesh_87 : decode cX7_mesh 87 = .ok (.aload_n 0, 1) := by decide +kernel
theorem dX7_mesh_88 : decode cX7_mesh 88 = .ok (.getfield 77, 3) := by decide +kernel
theorem dX7_mesh_91 : decode cX7_mesh 91 = .ok (.iconst 1, 1) := by decide +kernel
theorem dX7_mesh_92 : decode cX7_mesh 92 = .ok (.isub, 1) := by decide +kernel
theorem dX7_mesh_93 : decode cX7_mesh 93 = .ok (.ireturn, 1) := by decide +kernel
set_option maxRecDepth 20000 in
theorem ggX7_unmesh_X7_fail : GoodIn wsX7_unmesh wsX7_fail := goodIn_r _ [7, 1, 8, 9, 10, 11, 12, 13, 14, 15, 16, 17, 18, 19, 20, 21, 22, 23, 24, 25, 26, 27] (by decide +kernel) (by decide +kernel)
set_option maxRecDepth 20000 in
theorem gX7_unmesh_X7_fail : GoodIn wsX7_unmesh (wsV RX7 66 RX7 yX7_fail wsX7_fail) := goodIn_app (goodIn_of _ (by decide +kernel)) ggX7_unmesh_X7_fail
theorem dX7_unmesh_0 : decode cX7_unmesh 0 = .ok (.aload_n 0, 1) := by decide +kernel
theorem dX7_unmesh_1 : decode cX7_unmesh 1 = .ok (.iconst 0, 1) := by decide +kernel
theorem dX7_unmesh_2 : decode cX7_unmesh 2 = .ok (.putfield 49, 3) := by decide +kernel
theorem dX7_unmesh_5 : decode cX7_unmesh 5 = .ok (.aload_n 0, 1) := by decide +kernel
theorem dX7_unmesh_6 : decode cX7_unmesh 6 = .ok (.getfield 77, 3) := by decide +kernel
theorem dX7_unmesh_9 : decode cX7_unmesh 9 = .ok (.ifCond .ne 9, 3) := by decide +kernel
theorem dX7_unmesh_12 : decode cX7_unmesh 12 = .ok (.aload_n 0, 1) := by decide +kernel
theorem dX7_unmesh_13 : decode cX7_unmesh 13 = .ok (.iconst 1, 1) := by decide +kernel
theorem dX7_unmesh_14 : decode cX7_unmesh 14 = .ok (.invokevirtual 66, 3) := by decide +kernel
theorem dX7_unmesh_17 : decode cX7_unmesh 17 = .ok (.ireturn, 1) := by decide +kernel
theorem dX7_unmesh_18 : decode cX7_unmesh 18 = .ok (.aload_n 0, 1) := by decide +kernel
theorem dX7_unmesh_19 : decode cX7_unmesh 19 = .ok (.dup, 1) := by decide +kernel
theorem dX7_unmesh_20 : decode cX7_unmesh 20 = .ok (.getfield 77, 3) := by decide +kernel
theorem dX7_unmesh_23 : decode cX7_unmesh 23 = .ok (.iconst 1, 1) := by decide +kernel
theorem dX7_unmesh_24 : decode cX7_unmesh 24 = .ok (.isub, 1) := by decide +kernel
theorem dX7_unmesh_25 : decode cX7_unmesh 25 = .ok (.putfield 77, 3) := by decide +kernel
theorem dX7_unmesh_28 : decode cX7_unmesh 28 = .ok (.aload_n 0, 1) := by decide +kernel
theorem dX7_unmesh_29 : decode cX7_unmesh 29 = .ok (.getfield 77, 3) := by decide +kernel
theorem dX7_unmesh_32 : decode cX7_unmesh 32 = .ok (.ireturn, 1) := by decide +kernel
set_option maxRecDepth 20000 in
theorem ggX7_addPlanets_X7_isShaft : GoodIn wsX7_addPlanets wsX7_isShaft := goodIn_r _ [8, 9, 10, 11, 7, 12, 17, 18, 19, 20, 21, 22, 23, 24, 25, 26, 27, 28, 29, 30, 31, 32, 33, 34, 35, 36] (by decide +kernel) (by decide +kernel)
set_option maxRecDepth 20000 in
theorem gX7_addPlanets_X7_isShaft : GoodIn wsX7_addPlanets (wsV RX7 70 RX7 yX7_isShaft wsX7_isShaft) := goodIn_app (goodIn_of _ (by decide +kernel)) ggX7_addPlanets_X7_isShaft
set_option maxRecDepth 20000 in
theorem ggX7_addPlanets_X7_fail : GoodIn wsX7_addPlanets wsX7_fail := goodIn_r _ [16, 1, 17, 18, 19, 20, 21, 22, 23, 24, 25, 26, 27, 28, 29, 30, 31, 32, 33, 34, 35, 36] (by decide +kernel) (by decide +kernel)
set_option maxRecDepth 20000 in
theorem gX7_addPlanets_X7_fail : GoodIn wsX7_addPlanets (wsV RX7 66 RX7 yX7_fail wsX7_fail) := goodIn_app (goodIn_of _ (by decide +kernel)) ggX7_addPlanets_X7_fail
set_option maxRecDepth 20000 in
theorem ggX7_addPlanets_X7_isIn : GoodIn wsX7_addPlanets wsX7_isIn := goodIn_r _ [12] (by decide +kernel) (by decide +kernel)
set_option maxRecDepth 20000 in
theorem gX7_addPlanets_X7_isIn : GoodIn wsX7_addPlanets (va_wsS RX7 55 yX7_isIn wsX7_isIn) := goodIn_app (goodIn_of _ (by decide +kernel)) ggX7_addPlanets_X7_isIn
theorem dX7_addPlanets_0 : decode cX7_addPlanets 0 = .ok (.aload_n 0, 1) := by decide +kernel
theorem dX7_addPlanets_1 : decode cX7_addPlanets 1 = .ok (.iconst 0, 1) := by decide +kernel
theorem dX7_addPlanets_2 : decode cX7_addPlanets 2 = .ok (.putfield 49, 3) := by decide +kernel
theorem dX7_addPlanets_5 : decode cX7_addPlanets 5 = .ok (.aload_n 0, 1) := by decide +kernel
theorem dX7_addPlanets_6 : decode cX7_addPlanets 6 = .ok (.iload_n 1, 1) := by decide +kernel
theorem dX7_addPlanets_7 : decode cX7_addPlanets 7 = .ok (.invokevirtual 70, 3) := by decide +kernel
theorem dX7_addPlanets_10 : decode cX7_addPlanets 10 = .ok (.ifCond .eq 19, 3) := by decide +kernel
theorem dX7_addPlanets_13 : decode cX7_addPlanets 13 = .ok (.aload_n 0, 1) := by decide +kernel
theorem dX7_addPlanets_14 : decode cX7_addPlanets 14 = .ok (.iload_n 2, 1) := by decide +kernel
theorem dX7_addPlanets_15 : decode cX7_addPlanets 15 = .ok (.invokevirtual 70, 3) := by decide +kernel
theorem dX7_addPlanets_18 : decode cX7_addPlanets 18 = .ok (.ifCond .eq 11, 3) := by decide +kernel
theorem dX7_addPlanets_21 : decode cX7_addPlanets 21 = .ok (.aload_n 0, 1) := by decide +kernel
theorem dX7_addPlanets_22 : decode cX7_addPlanets 22 = .ok (.iload_n 3, 1) := by decide +kernel
theorem dX7_addPlanets_23 : decode cX7_addPlanets 23 = .ok (.invokevirtual 70, 3) := by decide +kernel
theorem dX7_addPlanets_26 : decode cX7_addPlanets 26 = .ok (.ifCond .ne 9, 3) := by decide +kernel
theorem dX7_addPlanets_29 : decode cX7_addPlanets 29 = .ok (.aload_n 0, 1) := by decide +kernel
theorem dX7_addPlanets_30 : decode cX7_addPlanets 30 = .ok (.iconst 1, 1) := by decide +kernel
theorem dX7_addPlanets_31 : decode cX7_addPlanets 31 = .ok (.invokevirtual 66, 3) := by decide +kernel
theorem dX7_addPlanets_34 : decode cX7_addPlanets 34 = .ok (.ireturn, 1) := by decide +kernel
theorem dX7_addPlanets_35 : decode cX7_addPlanets 35 = .ok (.iload_n 1, 1) := by decide +kernel
theorem dX7_addPlanets_36 : decode cX7_addPlanets 36 = .ok (.iload_n 2, 1) := by decide +kernel
theorem dX7_addPlanets_37 : decode cX7_addPlanets 37 = .ok (.if_icmp .eq 37, 3) := by decide +kernel
theorem dX7_addPlanets_40 : decode cX7_addPlanets 40 = .ok (.iload_n 1, 1) := by decide +kernel
theorem dX7_addPlanets_41 : decode cX7_addPlanets 41 = .ok (.iload_n 3, 1) := by decide +kernel
theorem dX7_addPlanets_42 : decode cX7_addPlanets 42 = .ok (.if_icmp .eq 32, 3) := by decide +kernel
theorem dX7_addPlanets_45 : decode cX7_addPlanets 45 = .ok (.iload_n 2, 1) := by decide +kernel
theorem dX7_addPlanets_46 : decode cX7_addPlanets 46 = .ok (.iload_n 3, 1) := by decide +kernel
theorem dX7_addPlanets_47 : decode cX7_addPlanets 47 = .ok (.if_icmp .eq 27, 3) := by decide +kernel
theorem dX7_addPlanets_50 : decode cX7_addPlanets 50 = .ok (.iload 4, 2) := by decide +kernel
theorem dX7_addPlanets_52 : decode cX7_addPlanets 52 = .ok (.bipush 8, 2) := by decide +kernel
theorem dX7_addPlanets_54 : decode cX7_addPlanets 54 = .ok (.bipush 100, 2) := by decide +kernel
theorem dX7_addPlanets_56 : decode cX7_addPlanets 56 = .ok (.invokestatic 55, 3) := by decide +kernel
theorem dX7_addPlanets_59 : decode cX7_addPlanets 59 = .ok (.ifCond .eq 15, 3) := by decide +kernel
theorem dX7_addPlanets_62 : decode cX7_addPlanets 62 = .ok (.iload 5, 2) := by decide +kernel
theorem dX7_addPlanets_64 : decode cX7_addPlanets 64 = .ok (.bipush 8, 2) := by decide +kernel
theorem dX7_addPlanets_66 : decode cX7_addPlanets 66 = .ok (.bipush 100, 2) := by decide +kernel
theorem dX7_addPlanets_68 : decode cX7_addPlanets 68 = .ok (.invokestatic 55, 3) := by decide +kernel
theorem dX7_addPlanets_71 : decode cX7_addPlanets 71 = .ok (.ifCond .ne 9, 3) := by decide +kernel
theorem dX7_addPlanets_74 : decode cX7_addPlanets 74 = .ok (.aload_n 0, 1) := by decide +kernel
theorem dX7_addPlanets_75 : decode cX7_addPlanets 75 = .ok (.iconst 2, 1) := by decide +kernel
theorem dX7_addPlanets_76 : decode cX7_addPlanets 76 = .ok (.invokevirtual 66, 3) := by decide +kernel
theorem dX7_addPlanets_79 : decode cX7_addPlanets 79 = .ok (.ireturn, 1) := by decide +kernel
theorem dX7_addPlanets_80 : decode cX7_addPlanets 80 = .ok (.aload_n 0, 1) := by decide +kernel
theorem dX7_addPlanets_81 : decode cX7_addPlanets 81 = .ok (.getfield 101, 3) := by decide +kernel
theorem dX7_addPlanets_84 : decode cX7_addPlanets 84 = .ok (.iconst 4, 1) := by decide +kernel
theorem dX7_addPlanets_85 : decode cX7_addPlanets 85 = .ok (.if_icmp .ne 9, 3) := by decide +kernel
theorem dX7_addPlanets_88 : decode cX7_addPlanets 88 = .ok (.aload_n 0, 1) := by decide +kernel
theorem dX7_addPlanets_89 : decode cX7_addPlanets 89 = .ok (.iconst 3, 1) := by decide +kernel
theorem dX7_addPlanets_90 : decode cX7_addPlanets 90 = .ok (.invokevirtual 66, 3) := by decide +kernel
theorem dX7_addPlanets_93 : decode cX7_addPlanets 93 = .ok (.ireturn, 1) := by decide +kernel
theorem dX7_addPlanets_94 : decode cX7_addPlanets 94 = .ok (.iconst 5, 1) := by decide +kernel
theorem dX7_addPlanets_95 : decode cX7_addPlanets 95 = .ok (.aload_n 0, 1) := by decide +kernel
theorem dX7_addPlanets_96 : decode cX7_addPlanets 96 = .ok (.getfield 101, 3) := by decide +kernel
theorem dX7_addPlanets_99 : decode cX7_addPlanets 99 = .ok (.imul, 1) := by decide +kernel
theorem dX7_addPlanets_100 : decode cX7_addPlanets 100 = .ok (.istore 6, 2) := by decide +kernel
theorem dX7_addPlanets_102 : decode cX7_addPlanets 102 = .ok (.aload_n 0, 1) := by decide +kernel
theorem dX7_addPlanets_103 : decode cX7_addPlanets 103 = .ok (.getfield 36, 3) := by decide +kernel
theorem dX7_addPlanets_106 : decode cX7_addPlanets 106 = .ok (.iload 6, 2) := by decide +kernel
theorem dX7_addPlanets_108 : decode cX7_addPlanets 108 = .ok (.iload_n 1, 1) := by decide +kernel
theorem dX7_addPlanets_109 : decode cX7_addPlanets 109 = .ok (.iastore, 1) := by decide +kernel
theorem dX7_addPlanets_110 : decode cX7_addPlanets 110 = .ok (.aload_n 0, 1) := by decide +kernel
theorem dX7_addPlanets_111 : decode cX7_addPlanets 111 = .ok (.getfield 36, 3) := by decide +kernel
theorem dX7_addPlanets_114 : decode cX7_addPlanets 114 = .ok (.iload 6, 2) := by decide +kernel
theorem dX7_addPlanets_116 : decode cX7_addPlanets 116 = .ok (.iconst 1, 1) := by decide +kernel
theorem dX7_addPlanets_117 : decode cX7_addPlanets 117 = .ok (.iadd, 1) := by decide +kernel
theorem dX7_addPlanets_118 : decode cX7_addPlanets 118 = .ok (.iload_n 2, 1) := by decide +kernel
theorem dX7_addPlanets_119 : decode cX7_addPlanets 119 = .ok (.iastore, 1) := by decide +kernel
theorem dX7_addPlanets_120 : decode cX7_addPlanets 120 = .ok (.aload_n 0, 1) := by decide +kernel
theorem dX7_addPlanets_121 : decode cX7_addPlanets 121 = .ok (.getfield 36, 3) := by decide +kernel
theorem dX7_addPlanets_124 : decode cX7_addPlanets 124 = .ok (.iload 6, 2) := by decide +kernel
theorem dX7_addPlanets_126 : decode cX7_addPlanets 126 = .ok (.iconst 2, 1) := by decide +kernel
theorem dX7_addPlanets_127 : decode cX7_addPlanets 127 = .ok (.iadd, 1) := by decide +kernel
theorem dX7_addPlanets_128 : decode cX7_addPlanets 128 = .ok (.iload_n 3, 1) := by decide +kernel
theorem dX7_addPlanets_129 : decode cX7_addPlanets 129 = .ok (.iastore, 1) := by decide +kernel
theorem dX7_addPlanets_130 : decode cX7_addPlanets 130 = .ok (.aload_n 0, 1) := by decide +kernel
theorem dX7_addPlanets_131 : decode cX7_addPlanets 131 = .ok (.getfield 36, 3) := by decide +kernel
theorem dX7_addPlanets_134 : decode cX7_addPlanets 134 = .ok (.iload 6, 2) := by decide +kernel
theorem dX7_addPlanets_136 : decode cX7_addPlanets 136 = .ok (.iconst 3, 1) := by decide +kernel
theorem dX7_addPlanets_137 : decode cX7_addPlanets 137 = .ok (.iadd, 1) := by decide +kernel
theorem dX7_addPlanets_138 : decode cX7_addPlanets 138 = .ok (.iload 4, 2) := by decide +kernel
theorem dX7_addPlanets_140 : decode cX7_addPlanets 140 = .ok (.iastore, 1) := by decide +kernel
theorem dX7_addPlanets_141 : decode cX7_addPlanets 141 = .ok (.aload_n 0, 1) := by decide +kernel
theorem dX7_addPlanets_142 : decode cX7_addPlanets 142 = .ok (.getfield 36, 3) := by decide +kernel
theorem dX7_addPlanets_145 : decode cX7_addPlanets 145 = .ok (.iload 6, 2) := by decide +kernel
theorem dX7_addPlanets_147 : decode cX7_addPlanets 147 = .ok (.iconst 4, 1) := by decide +kernel
theorem dX7_addPlanets_148 : decode cX7_addPlanets 148 = .ok (.iadd, 1) := by decide +kernel
theorem dX7_addPlanets_149 : decode cX7_addPlanets 149 = .ok (.iload 4, 2) := by decide +kernel
theorem dX7_addPlanets_151 : decode cX7_addPlanets 151 = .ok (.iconst 2, 1) := by decide +kernel
theorem dX7_addPlanets_152 : decode cX7_addPlanets 152 = .ok (.iload 5, 2) := by decide +kernel
theorem dX7_addPlanets_154 : decode cX7_addPlanets 154 = .ok (.imul, 1) := by decide +kernel
theorem dX7_addPlanets_155 : decode cX7_addPlanets 155 = .ok (.iadd, 1) := by decide +kernel
theorem dX7_addPlanets_156 : decode cX7_addPlanets 156 = .ok (.iastore, 1) := by decide +kernel
theorem dX7_addPlanets_157 : decode cX7_addPlanets 157 = .ok (.aload_n 0, 1) := by decide +kernel
theorem dX7_addPlanets_158 : decode cX7_addPlanets 158 = .ok (.dup, 1) := by decide +kernel
theorem dX7_addPlanets_159 : decode cX7_addPlanets 159 = .ok (.getfield 101, 3) := by decide +kernel
theorem dX7_addPlanets_162 : decode cX7_addPlanets 162 = .ok (.iconst 1, 1) := by decide +kernel
theorem dX7_addPlanets_163 : decode cX7_addPlanets 163 = .ok (.iadd, 1) := by decide +kernel
theorem dX7_addPlanets_164 : decode cX7_addPlanets 164 = .ok (.putfield 101, 3) := by decide +kernel
theorem dX7_addPlanets_167 : decode cX7_addPlanets 167 = .ok (.aload_n 0, 1) := by decide +kernel
theorem dX7_addPlanets_168 : decode cX7_addPlanets 168 = .ok (.getfield 101, 3) := by decide +kernel
theorem dX7_addPlanets_171 : decode cX7_addPlanets 171 = .ok (.iconst 1, 1) := by decide +kernel
theorem dX7_addPlanets_172 : decode cX7_addPlanets 172 = .ok (.isub, 1) := by decide +kernel
theorem dX7_addPlanets_173 : decode cX7_addPlanets 173 = .ok (.ireturn, 1) := by decide +kernel
set_option maxRecDepth 20000 in
theorem ggX7_planets_X7_isIn : GoodIn wsX7_planets wsX7_isIn := goodIn_r _ [7] (by decide +kernel) (by decide +kernel)
set_option maxRecDepth 20000 in
theorem gX7_planets_X7_isIn : GoodIn wsX7_planets (va_wsS RX7 55 yX7_isIn wsX7_isIn) := goodIn_app (goodIn_of _ (by decide +kernel)) ggX7_planets_X7_isIn
set_option maxRecDepth 20000 in
theorem ggX7_planets_X7_fail : GoodIn wsX7_planets wsX7_fail := goodIn_r _ [11, 1, 12, 13, 14, 15, 16, 17, 18, 19, 20, 21, 22, 23, 24, 25, 26, 27, 28, 29, 30, 31] (by decide +kernel) (by decide +kernel)
set_option maxRecDepth 20000 in
theorem gX7_planets_X7_fail : GoodIn wsX7_planets (wsV RX7 66 RX7 yX7_fail wsX7_fail) := goodIn_app (goodIn_of _ (by decide +kernel)) ggX7_planets_X7_fail
theorem dX7_planets_0 : decode cX7_planets 0 = .ok (.aload_n 0, 1) := by decide +kernel
theorem dX7_planets_1 : decode cX7_planets 1 = .ok (.iconst 0, 1) := by decide +kernel
theorem dX7_planets_2 : decode cX7_planets 2 = .ok (.putfield 49, 3) := by decide +kernel
theorem dX7_planets_5 : decode cX7_planets 5 = .ok (.iload_n 1, 1) := by decide +kernel
theorem dX7_planets_6 : decode cX7_planets 6 = .ok (.iconst 0, 1) := by decide +kernel
theorem dX7_planets_7 : decode cX7_planets 7 = .ok (.aload_n 0, 1) := by decide +kernel
theorem dX7_planets_8 : decode cX7_planets 8 = .ok (.getfield 101, 3) := by decide +kernel
theorem dX7_planets_11 : decode cX7_planets 11 = .ok (.iconst 1, 1) := by decide +kernel
theorem dX7_planets_12 : decode cX7_planets 12 = .ok (.isub, 1) := by decide +kernel
theorem dX7_planets_13 : decode cX7_planets 13 = .ok (.invokestatic 55, 3) := by decide +kernel
theorem dX7_planets_16 : decode cX7_planets 16 = .ok (.ifCond .ne 9, 3) := by decide +kernel
theorem dX7_planets_19 : decode cX7_planets 19 = .ok (.aload_n 0, 1) := by decide +kernel
theorem dX7_planets_20 : decode cX7_planets 20 = .ok (.iconst 1, 1) := by decide +kernel
theorem dX7_planets_21 : decode cX7_planets 21 = .ok (.invokevirtual 66, 3) := by decide +kernel
theorem dX7_planets_24 : decode cX7_planets 24 = .ok (.ireturn, 1) := by decide +kernel
theorem dX7_planets_25 : decode cX7_planets 25 = .ok (.iload_n 2, 1) := by decide +kernel
theorem dX7_planets_26 : decode cX7_planets 26 = .ok (.iconst 1, 1) := by decide +kernel
theorem dX7_planets_27 : decode cX7_planets 27 = .ok (.bipush 12, 2) := by decide +kernel
theorem dX7_planets_29 : decode cX7_planets 29 = .ok (.invokestatic 55, 3) := by decide +kernel
theorem dX7_planets_32 : decode cX7_planets 32 = .ok (.ifCond .ne 9, 3) := by decide +kernel
theorem dX7_planets_35 : decode cX7_planets 35 = .ok (.aload_n 0, 1) := by decide +kernel
theorem dX7_planets_36 : decode cX7_planets 36 = .ok (.iconst 2, 1) := by decide +kernel
theorem dX7_planets_37 : decode cX7_planets 37 = .ok (.invokevirtual 66, 3) := by decide +kernel
theorem dX7_planets_40 : decode cX7_planets 40 = .ok (.ireturn, 1) := by decide +kernel
theorem dX7_planets_41 : decode cX7_planets 41 = .ok (.aload_n 0, 1) := by decide +kernel
theorem dX7_planets_42 : decode cX7_planets 42 = .ok (.getfield 36, 3) := by decide +kernel
theorem dX7_planets_45 : decode cX7_planets 45 = .ok (.iconst 5, 1) := by decide +kernel
theorem dX7_planets_46 : decode cX7_planets 46 = .ok (.iload_n 1, 1) := by decide +kernel
theorem dX7_planets_47 : decode cX7_planets 47 = .ok (.imul, 1) := by decide +kernel
theorem dX7_planets_48 : decode cX7_planets 48 = .ok (.iconst 3, 1) := by decide +kernel
theorem dX7_planets_49 : decode cX7_planets 49 = .ok (.iadd, 1) := by decide +kernel
theorem dX7_planets_50 : decode cX7_planets 50 = .ok (.iaload, 1) := by decide +kernel
theorem dX7_planets_51 : decode cX7_planets 51 = .ok (.aload_n 0, 1) := by decide +kernel
theorem dX7_planets_52 : decode cX7_planets 52 = .ok (.getfield 36, 3) := by decide +kernel
theorem dX7_planets_55 : decode cX7_planets 55 = .ok (.iconst 5, 1) := by decide +kernel
theorem dX7_planets_56 : decode cX7_planets 56 = .ok (.iload_n 1, 1) := by decide +kernel
theorem dX7_planets_57 : decode cX7_planets 57 = .ok (.imul, 1) := by decide +kernel
theorem dX7_planets_58 : decode cX7_planets 58 = .ok (.iconst 4, 1) := by decide +kernel
theorem dX7_planets_59 : decode cX7_planets 59 = .ok (.iadd, 1) := by decide +kernel
theorem dX7_planets_60 : decode cX7_planets 60 = .ok (.iaload, 1) := by decide +kernel
theorem dX7_planets_61 : decode cX7_planets 61 = .ok (.iadd, 1) := by decide +kernel
theorem dX7_planets_62 : decode cX7_planets 62 = .ok (.istore_n 3, 1) := by decide +kernel
theorem dX7_planets_63 : decode cX7_planets 63 = .ok (.iload_n 2, 1) := by decide +kernel
theorem dX7_planets_64 : decode cX7_planets 64 = .ok (.istore 4, 2) := by decide +kernel
theorem dX7_planets_66 : decode cX7_planets 66 = .ok (.iload_n 3, 1) := by decide +kernel
theorem dX7_planets_67 : decode cX7_planets 67 = .ok (.iload 4, 2) := by decide +kernel
theorem dX7_planets_69 : decode cX7_planets 69 = .ok (.irem, 1) := by decide +kernel
theorem dX7_planets_70 : decode cX7_planets 70 = .ok (.ifCond .eq 9, 3) := by decide +kernel
theorem dX7_planets_73 : decode cX7_planets 73 = .ok (.iinc 4 (-1), 3) := by decide +kernel
theorem dX7_planets_76 : decode cX7_planets 76 = .ok (.goto (-10), 3) := by decide +kernel
theorem dX7_planets_79 : decode cX7_planets 79 = .ok (.iload 4, 2) := by decide +kernel
theorem dX7_planets_81 : decode cX7_planets 81 = .ok (.ireturn, 1) := by decide +kernel
set_option maxRecDepth 20000 in
theorem ggX7_count_X7_isIn : GoodIn wsX7_count wsX7_isIn := goodIn_r _ [9] (by decide +kernel) (by decide +kernel)
set_option maxRecDepth 20000 in
theorem gX7_count_X7_isIn : GoodIn wsX7_count (va_wsS RX7 55 yX7_isIn wsX7_isIn) := goodIn_app (goodIn_of _ (by decide +kernel)) ggX7_count_X7_isIn
set_option maxRecDepth 20000 in
theorem ggX7_count_X7_fail : GoodIn wsX7_count wsX7_fail := goodIn_r _ [13, 1, 14, 15, 16, 17, 18, 19, 20, 21, 22, 23, 24, 25, 26, 27, 28, 29, 30, 31, 32, 33] (by decide +kernel) (by decide +kernel)
set_option maxRecDepth 20000 in
theorem gX7_count_X7_fail : GoodIn wsX7_count (wsV RX7 66 RX7 yX7_fail wsX7_fail) := goodIn_app (goodIn_of _ (by decide +kernel)) ggX7_count_X7_fail
theorem dX7_count_0 : decode cX7_count 0 = .ok (.aload_n 0, 1) := by decide +kernel
theorem dX7_count_1 : decode cX7_count 1 = .ok (.iconst 0, 1) := by decide +kernel
theorem dX7_count_2 : decode cX7_count 2 = .ok (.putfield 49, 3) := by decide +kernel
theorem dX7_count_5 : decode cX7_count 5 = .ok (.iload_n 1, 1) := by decide +kernel
theorem dX7_count_6 : decode cX7_count 6 = .ok (.iconst 0, 1) := by decide +kernel
theorem dX7_count_7 : decode cX7_count 7 = .ok (.iconst 3, 1) := by decide +kernel
theorem dX7_count_8 : decode cX7_count 8 = .ok (.invokestatic 55, 3) := by decide +kernel
theorem dX7_count_11 : decode cX7_count 11 = .ok (.ifCond .ne 9, 3) := by decide +kernel
theorem dX7_count_14 : decode cX7_count 14 = .ok (.aload_n 0, 1) := by decide +kernel
theorem dX7_count_15 : decode cX7_count 15 = .ok (.iconst 1, 1) := by decide +kernel
theorem dX7_count_16 : decode cX7_count 16 = .ok (.invokevirtual 66, 3) := by decide +kernel
theorem dX7_count_19 : decode cX7_count 19 = .ok (.ireturn, 1) := by decide +kernel
theorem dX7_count_20 : decode cX7_count 20 = .ok (.iload_n 1, 1) := by decide +kernel
theorem dX7_count_21 : decode cX7_count 21 = .ok (.ifCond .ne 10, 3) := by decide +kernel
theorem dX7_count_24 : decode cX7_count 24 = .ok (.aload_n 0, 1) := by decide +kernel
theorem dX7_count_25 : decode cX7_count 25 = .ok (.getfield 52, 3) := by decide +kernel
theorem dX7_count_28 : decode cX7_count 28 = .ok (.goto 31, 3) := by decide +kernel
theorem dX7_count_31 : decode cX7_count 31 = .ok (.iload_n 1, 1) := by decide +kernel
theorem dX7_count_32 : decode cX7_count 32 = .ok (.iconst 1, 1) := by decide +kernel
theorem dX7_count_33 : decode cX7_count 33 = .ok (.if_icmp .ne 10, 3) := by decide +kernel
theorem dX7_count_36 : decode cX7_count 36 = .ok (.aload_n 0, 1) := by decide +kernel
theorem dX7_count_37 : decode cX7_count 37 = .ok (.getfield 59, 3) := by decide +kernel
theorem dX7_count_40 : decode cX7_count 40 = .ok (.goto 19, 3) := by decide +kernel
theorem dX7_count_43 : decode cX7_count 43 = .ok (.iload_n 1, 1) := by decide +kernel
theorem dX7_count_44 : decode cX7_count 44 = .ok (.iconst 2, 1) := by decide +kernel
theorem dX7_count_45 : decode cX7_count 45 = .ok (.if_icmp .ne 10, 3) := by decide +kernel
theorem dX7_count_48 : decode cX7_count 48 = .ok (.aload_n 0, 1) := by decide +kernel
theorem dX7_count_49 : decode cX7_count 49 = .ok (.getfield 77, 3) := by decide +kernel
theorem dX7_count_52 : decode cX7_count 52 = .ok (.goto 7, 3) := by decide +kernel
theorem dX7_count_55 : decode cX7_count 55 = .ok (.aload_n 0, 1) := by decide +kernel
theorem dX7_count_56 : decode cX7_count 56 = .ok (.getfield 101, 3) := by decide +kernel
theorem dX7_count_59 : decode cX7_count 59 = .ok (.ireturn, 1) := by decide +kernel
set_option maxRecDepth 20000 in
theorem ggX7_drive_X7_isShaft : GoodIn wsX7_drive wsX7_isShaft := goodIn_r _ [9, 10, 11, 12, 8, 13, 18, 19, 20, 21, 22, 23, 24, 25, 26, 27, 28, 29, 30, 31, 32, 33, 34, 35, 36, 37] (by decide +kernel) (by decide +kernel)
set_option maxRecDepth 20000 in
theorem gX7_drive_X7_isShaft : GoodIn wsX7_drive (wsV RX7 70 RX7 yX7_isShaft wsX7_isShaft) := goodIn_app (goodIn_of _ (by decide +kernel)) ggX7_drive_X7_isShaft
set_option maxRecDepth 20000 in
theorem ggX7_drive_X7_fail : GoodIn wsX7_drive wsX7_fail := goodIn_r _ [17, 1, 18, 19, 20, 21, 22, 23, 24, 25, 26, 27, 28, 29, 30, 31, 32, 33, 34, 35, 36, 37] (by decide +kernel) (by decide +kernel)
set_option maxRecDepth 20000 in
theorem gX7_drive_X7_fail : GoodIn wsX7_drive (wsV RX7 66 RX7 yX7_fail wsX7_fail) := goodIn_app (goodIn_of _ (by decide +kernel)) ggX7_drive_X7_fail
set_option maxRecDepth 20000 in
theorem ggX7_drive_X7_isIn : GoodIn wsX7_drive wsX7_isIn := goodIn_r _ [13] (by decide +kernel) (by decide +kernel)
set_option maxRecDepth 20000 in
theorem gX7_drive_X7_isIn : GoodIn wsX7_drive (va_wsS RX7 55 yX7_isIn wsX7_isIn) := goodIn_app (goodIn_of _ (by decide +kernel)) ggX7_drive_X7_isIn
theorem dX7_drive_0 : decode cX7_drive 0 = .ok (.aload_n 0, 1) := by decide +kernel
theorem dX7_drive_1 : decode cX7_drive 1 = .ok (.iconst 0, 1) := by decide +kernel
theorem dX7_drive_2 : decode cX7_drive 2 = .ok (.putfield 49, 3) := by decide +kernel
theorem dX7_drive_5 : decode cX7_drive 5 = .ok (.aload_n 0, 1) := by decide +kernel
theorem dX7_drive_6 : decode cX7_drive 6 = .ok (.iload_n 1, 1) := by decide +kernel
theorem dX7_drive_7 : decode cX7_drive 7 = .ok (.invokevirtual 70, 3) := by decide +kernel
theorem dX7_drive_10 : decode cX7_drive 10 = .ok (.ifCond .ne 9, 3) := by decide +kernel
theorem dX7_drive_13 : decode cX7_drive 13 = .ok (.aload_n 0, 1) := by decide +kernel
theorem dX7_drive_14 : decode cX7_drive 14 = .ok (.iconst 1, 1) := by decide +kernel
theorem dX7_drive_15 : decode cX7_drive 15 = .ok (.invokevirtual 66, 3) := by decide +kernel
theorem dX7_drive_18 : decode cX7_drive 18 = .ok (.ireturn, 1) := by decide +kernel
theorem dX7_drive_19 : decode cX7_drive 19 = .ok (.iload_n 2, 1) := by decide +kernel
theorem dX7_drive_20 : decode cX7_drive 20 = .ok (.sipush (-1000), 3) := by decide +kernel
theorem dX7_drive_23 : decode cX7_drive 23 = .ok (.sipush 1000, 3) := by decide +kernel
theorem dX7_drive_26 : decode cX7_drive 26 = .ok (.invokestatic 55, 3) := by decide +kernel
theorem dX7_drive_29 : decode cX7_drive 29 = .ok (.ifCond .ne 9, 3) := by decide +kernel
theorem dX7_drive_32 : decode cX7_drive 32 = .ok (.aload_n 0, 1) := by decide +kernel
theorem dX7_drive_33 : decode cX7_drive 33 = .ok (.iconst 2, 1) := by decide +kernel
theorem dX7_drive_34 : decode cX7_drive 34 = .ok (.invokevirtual 66, 3) := by decide +kernel
theorem dX7_drive_37 : decode cX7_drive 37 = .ok (.ireturn, 1) := by decide +kernel
theorem dX7_drive_38 : decode cX7_drive 38 = .ok (.aload_n 0, 1) := by decide +kernel
theorem dX7_drive_39 : decode cX7_drive 39 = .ok (.getfield 20, 3) := by decide +kernel
theorem dX7_drive_42 : decode cX7_drive 42 = .ok (.istore_n 3, 1) := by decide +kernel
theorem dX7_drive_43 : decode cX7_drive 43 = .ok (.aload_n 0, 1) := by decide +kernel
theorem dX7_drive_44 : decode cX7_drive 44 = .ok (.iload_n 1, 1) := by decide +kernel
theorem dX7_drive_45 : decode cX7_drive 45 = .ok (.putfield 20, 3) := by decide +kernel
theorem dX7_drive_48 : decode cX7_drive 48 = .ok (.aload_n 0, 1) := by decide +kernel
theorem dX7_drive_49 : decode cX7_drive 49 = .ok (.iload_n 2, 1) := by decide +kernel
theorem dX7_drive_50 : decode cX7_drive 50 = .ok (.putfield 104, 3) := by decide +kernel
theorem dX7_drive_53 : decode cX7_drive 53 = .ok (.aload_n 0, 1) := by decide +kernel
theorem dX7_drive_54 : decode cX7_drive 54 = .ok (.getfield 16, 3) := by decide +kernel
theorem dX7_drive_57 : decode cX7_drive 57 = .ok (.iload_n 1, 1) := by decide +kernel
theorem dX7_drive_58 : decode cX7_drive 58 = .ok (.iconst 0, 1) := by decide +kernel
theorem dX7_drive_59 : decode cX7_drive 59 = .ok (.bastore, 1) := by decide +kernel
theorem dX7_drive_60 : decode cX7_drive 60 = .ok (.iload_n 3, 1) := by decide +kernel
theorem dX7_drive_61 : decode cX7_drive 61 = .ok (.ireturn, 1) := by decide +kernel
set_option maxRecDepth 20000 in
theorem ggX7_hold_X7_isShaft : GoodIn wsX7_hold wsX7_isShaft := goodIn_r _ [8, 9, 10, 11, 7, 12, 13, 14, 15, 16, 17, 18, 19, 20, 21, 22, 23, 24, 25, 26, 27, 28, 29, 30, 31, 32] (by decide +kernel) (by decide +kernel)
set_option maxRecDepth 20000 in
theorem gX7_hold_X7_isShaft : GoodIn wsX7_hold (wsV RX7 70 RX7 yX7_isShaft wsX7_isShaft) := goodIn_app (goodIn_of _ (by decide +kernel)) ggX7_hold_X7_isShaft
theorem dX7_hold_0 : decode cX7_hold 0 = .ok (.aload_n 0, 1) := by decide +kernel
theorem dX7_hold_1 : decode cX7_hold 1 = .ok (.aload_n 0, 1) := by decide +kernel
theorem dX7_hold_2 : decode cX7_hold 2 = .ok (.iload_n 1, 1) := by decide +kernel
theorem dX7_hold_3 : decode cX7_hold 3 = .ok (.invokevirtual 70, 3) := by decide +kernel
theorem dX7_hold_6 : decode cX7_hold 6 = .ok (.ifCond .ne 7, 3) := by decide +kernel
theorem dX7_hold_9 : decode cX7_hold 9 = .ok (.iconst 1, 1) := by decide +kernel
theorem dX7_hold_10 : decode cX7_hold 10 = .ok (.goto 16, 3) := by decide +kernel
theorem dX7_hold_13 : decode cX7_hold 13 = .ok (.iload_n 1, 1) := by decide +kernel
theorem dX7_hold_14 : decode cX7_hold 14 = .ok (.aload_n 0, 1) := by decide +kernel
theorem dX7_hold_15 : decode cX7_hold 15 = .ok (.getfield 20, 3) := by decide +kernel
theorem dX7_hold_18 : decode cX7_hold 18 = .ok (.if_icmp .ne 7, 3) := by decide +kernel
theorem dX7_hold_21 : decode cX7_hold 21 = .ok (.iconst 2, 1) := by decide +kernel
theorem dX7_hold_22 : decode cX7_hold 22 = .ok (.goto 4, 3) := by decide +kernel
theorem dX7_hold_25 : decode cX7_hold 25 = .ok (.iconst 0, 1) := by decide +kernel
theorem dX7_hold_26 : decode cX7_hold 26 = .ok (.putfield 49, 3) := by decide +kernel
theorem dX7_hold_29 : decode cX7_hold 29 = .ok (.aload_n 0, 1) := by decide +kernel
theorem dX7_hold_30 : decode cX7_hold 30 = .ok (.getfield 49, 3) := by decide +kernel
theorem dX7_hold_33 : decode cX7_hold 33 = .ok (.ifCond .eq 5, 3) := by decide +kernel
theorem dX7_hold_36 : decode cX7_hold 36 = .ok (.iconst 0, 1) := by decide +kernel
theorem dX7_hold_37 : decode cX7_hold 37 = .ok (.ireturn, 1) := by decide +kernel
theorem dX7_hold_38 : decode cX7_hold 38 = .ok (.aload_n 0, 1) := by decide +kernel
theorem dX7_hold_39 : decode cX7_hold 39 = .ok (.getfield 16, 3) := by decide +kernel
theorem dX7_hold_42 : decode cX7_hold 42 = .ok (.iload_n 1, 1) := by decide +kernel
theorem dX7_hold_43 : decode cX7_hold 43 = .ok (.baload, 1) := by decide +kernel
theorem dX7_hold_44 : decode cX7_hold 44 = .ok (.istore_n 3, 1) := by decide +kernel
theorem dX7_hold_45 : decode cX7_hold 45 = .ok (.aload_n 0, 1) := by decide +kernel
theorem dX7_hold_46 : decode cX7_hold 46 = .ok (.getfield 16, 3) := by decide +kernel
theorem dX7_hold_49 : decode cX7_hold 49 = .ok (.iload_n 1, 1) := by decide +kernel
theorem dX7_hold_50 : decode cX7_hold 50 = .ok (.iload_n 2, 1) := by decide +kernel
theorem dX7_hold_51 : decode cX7_hold 51 = .ok (.bastore, 1) := by decide +kernel
theorem dX7_hold_52 : decode cX7_hold 52 = .ok (.iload_n 3, 1) := by decide +kernel
theorem dX7_hold_53 : decode cX7_hold 53 = .ok (.ireturn, 1) := by decide +kernel
theorem dX7_divisor_0 : decode cX7_divisor 0 = .ok (.lload_n 0, 1) := by decide +kernel
theorem dX7_divisor_1 : decode cX7_divisor 1 = .ok (.invokestatic 107, 3) := by decide +kernel
theorem dX7_divisor_4 : decode cX7_divisor 4 = .ok (.lstore 4, 2) := by decide +kernel
theorem dX7_divisor_6 : decode cX7_divisor 6 = .ok (.lload_n 2, 1) := by decide +kernel
theorem dX7_divisor_7 : decode cX7_divisor 7 = .ok (.invokestatic 107, 3) := by decide +kernel
theorem dX7_divisor_10 : decode cX7_divisor 10 = .ok (.lstore 6, 2) := by decide +kernel
theorem dX7_divisor_12 : decode cX7_divisor 12 = .ok (.lload 6, 2) := by decide +kernel
theorem dX7_divisor_14 : decode cX7_divisor 14 = .ok (.lconst 0, 1) := by decide +kernel
theorem dX7_divisor_15 : decode cX7_divisor 15 = .ok (.lcmp, 1) := by decide +kernel
theorem dX7_divisor_16 : decode cX7_divisor 16 = .ok (.ifCond .eq 21, 3) := by decide +kernel
theorem dX7_divisor_19 : decode cX7_divisor 19 = .ok (.lload 4, 2) := by decide +kernel
theorem dX7_divisor_21 : decode cX7_divisor 21 = .ok (.lload 6, 2) := by decide +kernel
theorem dX7_divisor_23 : decode cX7_divisor 23 = .ok (.lrem, 1) := by decide +kernel
theorem dX7_divisor_24 : decode cX7_divisor 24 = .ok (.lstore 8, 2) := by decide +kernel
theorem dX7_divisor_26 : decode cX7_divisor 26 = .ok (.lload 6, 2) := by decide +kernel
theorem dX7_divisor_28 : decode cX7_divisor 28 = .ok (.lstore 4, 2) := by decide +kernel
theorem dX7_divisor_30 : decode cX7_divisor 30 = .ok (.lload 8, 2) := by decide +kernel
theorem dX7_divisor_32 : decode cX7_divisor 32 = .ok (.lstore 6, 2) := by decide +kernel
theorem dX7_divisor_34 : decode cX7_divisor 34 = .ok (.goto (-22), 3) := by decide +kernel
theorem dX7_divisor_37 : decode cX7_divisor 37 = .ok (.lload 4, 2) := by decide +kernel
theorem dX7_divisor_39 : decode cX7_divisor 39 = .ok (.lreturn, 1) := by decide +kernel
theorem dX7_hasSpeed_0 : decode cX7_hasSpeed 0 = .ok (.aload_n 0, 1) := by decide +kernel
theorem dX7_hasSpeed_1 : decode cX7_hasSpeed 1 = .ok (.getfield 43, 3) := by decide +kernel
theorem dX7_hasSpeed_4 : decode cX7_hasSpeed 4 = .ok (.iload_n 1, 1) := by decide +kernel
theorem dX7_hasSpeed_5 : decode cX7_hasSpeed 5 = .ok (.laload, 1) := by decide +kernel
theorem dX7_hasSpeed_6 : decode cX7_hasSpeed 6 = .ok (.lconst 0, 1) := by decide +kernel
theorem dX7_hasSpeed_7 : decode cX7_hasSpeed 7 = .ok (.lcmp, 1) := by decide +kernel
theorem dX7_hasSpeed_8 : decode cX7_hasSpeed 8 = .ok (.ifCond .le 7, 3) := by decide +kernel
theorem dX7_hasSpeed_11 : decode cX7_hasSpeed 11 = .ok (.iconst 1, 1) := by decide +kernel
theorem dX7_hasSpeed_12 : decode cX7_hasSpeed 12 = .ok (.goto 4, 3) := by decide +kernel
theorem dX7_hasSpeed_15 : decode cX7_hasSpeed 15 = .ok (.iconst 0, 1) := by decide +kernel
theorem dX7_hasSpeed_16 : decode cX7_hasSpeed 16 = .ok (.ireturn, 1) := by decide +kernel
set_option maxRecDepth 20000 in
theorem ggX7_make_X7_divisor : GoodIn wsX7_make wsX7_divisor := goodIn_r _ [6, 7, 8, 9, 10] (by decide +kernel) (by decide +kernel)
set_option maxRecDepth 20000 in
theorem gX7_make_X7_divisor : GoodIn wsX7_make (va_wsS RX7 113 yX7_divisor wsX7_divisor) := goodIn_app (goodIn_of _ (by decide +kernel)) ggX7_make_X7_divisor
theorem dX7_make_0 : decode cX7_make 0 = .ok (.lload_n 1, 1) := by decide +kernel
theorem dX7_make_1 : decode cX7_make 1 = .ok (.lload_n 3, 1) := by decide +kernel
theorem dX7_make_2 : decode cX7_make 2 = .ok (.invokestatic 113, 3) := by decide +kernel
theorem dX7_make_5 : decode cX7_make 5 = .ok (.lstore 5, 2) := by decide +kernel
theorem dX7_make_7 : decode cX7_make 7 = .ok (.lload_n 3, 1) := by decide +kernel
theorem dX7_make_8 : decode cX7_make 8 = .ok (.lconst 0, 1) := by decide +kernel
theorem dX7_make_9 : decode cX7_make 9 = .ok (.lcmp, 1) := by decide +kernel
theorem dX7_make_10 : decode cX7_make 10 = .ok (.ifCond .ge 8, 3) := by decide +kernel
theorem dX7_make_13 : decode cX7_make 13 = .ok (.lload 5, 2) := by decide +kernel
theorem dX7_make_15 : decode cX7_make 15 = .ok (.lneg, 1) := by decide +kernel
theorem dX7_make_16 : decode cX7_make 16 = .ok (.lstore 5, 2) := by decide +kernel
theorem dX7_make_18 : decode cX7_make 18 = .ok (.aload_n 0, 1) := by decide +kernel
theorem dX7_make_19 : decode cX7_make 19 = .ok (.lload_n 1, 1) := by decide +kernel
theorem dX7_make_20 : decode cX7_make 20 = .ok (.lload 5, 2) := by decide +kernel
theorem dX7_make_22 : decode cX7_make 22 = .ok (.ldiv, 1) := by decide +kernel
theorem dX7_make_23 : decode cX7_make 23 = .ok (.putfield 117, 3) := by decide +kernel
theorem dX7_make_26 : decode cX7_make 26 = .ok (.aload_n 0, 1) := by decide +kernel
theorem dX7_make_27 : decode cX7_make 27 = .ok (.lload_n 3, 1) := by decide +kernel
theorem dX7_make_28 : decode cX7_make 28 = .ok (.lload 5, 2) := by decide +kernel
theorem dX7_make_30 : decode cX7_make 30 = .ok (.ldiv, 1) := by decide +kernel
theorem dX7_make_31 : decode cX7_make 31 = .ok (.putfield 121, 3) := by decide +kernel
theorem dX7_make_34 : decode cX7_make 34 = .ok (.return_, 1) := by decide +kernel
theorem dX7_tell_0 : decode cX7_tell 0 = .ok (.aload_n 0, 1) := by decide +kernel
theorem dX7_tell_1 : decode cX7_tell 1 = .ok (.getfield 117, 3) := by decide +kernel
theorem dX7_tell_4 : decode cX7_tell 4 = .ok (.invokestatic 107, 3) := by decide +kernel
theorem dX7_tell_7 : decode cX7_tell 7 = .ok (.ldc2_w 124, 3) := by decide +kernel
theorem dX7_tell_10 : decode cX7_tell 10 = .ok (.lcmp, 1) := by decide +kernel
theorem dX7_tell_11 : decode cX7_tell 11 = .ok (.ifCond .gt 14, 3) := by decide +kernel
theorem dX7_tell_14 : decode cX7_tell 14 = .ok (.aload_n 0, 1) := by decide +kernel
theorem dX7_tell_15 : decode cX7_tell 15 = .ok (.getfield 121, 3) := by decide +kernel
theorem dX7_tell_18 : decode cX7_tell 18 = .ok (.ldc2_w 124, 3) := by decide +kernel
theorem dX7_tell_21 : decode cX7_tell 21 = .ok (.lcmp, 1) := by decide +kernel
theorem dX7_tell_22 : decode cX7_tell 22 = .ok (.ifCond .le 5, 3) := by decide +kernel
theorem dX7_tell_25 : decode cX7_tell 25 = .ok (.iconst 0, 1) := by decide +kernel
theorem dX7_tell_26 : decode cX7_tell 26 = .ok (.ireturn, 1) := by decide +kernel
theorem dX7_tell_27 : decode cX7_tell 27 = .ok (.aload_n 0, 1) := by decide +kernel
theorem dX7_tell_28 : decode cX7_tell 28 = .ok (.getfield 39, 3) := by decide +kernel
theorem dX7_tell_31 : decode cX7_tell 31 = .ok (.iload_n 1, 1) := by decide +kernel
theorem dX7_tell_32 : decode cX7_tell 32 = .ok (.aload_n 0, 1) := by decide +kernel
theorem dX7_tell_33 : decode cX7_tell 33 = .ok (.getfield 117, 3) := by decide +kernel
theorem dX7_tell_36 : decode cX7_tell 36 = .ok (.lastore, 1) := by decide +kernel
theorem dX7_tell_37 : decode cX7_tell 37 = .ok (.aload_n 0, 1) := by decide +kernel
theorem dX7_tell_38 : decode cX7_tell 38 = .ok (.getfield 43, 3) := by decide +kernel
theorem dX7_tell_41 : decode cX7_tell 41 = .ok (.iload_n 1, 1) := by decide +kernel
theorem dX7_tell_42 : decode cX7_tell 42 = .ok (.aload_n 0, 1) := by decide +kernel
theorem dX7_tell_43 : decode cX7_tell 43 = .ok (.getfield 121, 3) := by decide +kernel
theorem dX7_tell_46 : decode cX7_tell 46 = .ok (.lastore, 1) := by decide +kernel
theorem dX7_tell_47 : decode cX7_tell 47 = .ok (.aload_n 0, 1) := by decide +kernel
theorem dX7_tell_48 : decode cX7_tell 48 = .ok (.getfield 46, 3) := by decide +kernel
theorem dX7_tell_51 : decode cX7_tell 51 = .ok (.iload_n 1, 1) := by decide +kernel
theorem dX7_tell_52 : decode cX7_tell 52 = .ok (.iload_n 2, 1) := by decide +kernel
theorem dX7_tell_53 : decode cX7_tell 53 = .ok (.iastore, 1) := by decide +kernel
theorem dX7_tell_54 : decode cX7_tell 54 = .ok (.iconst 1, 1) := by decide +kernel
theorem dX7_tell_55 : decode cX7_tell 55 = .ok (.ireturn, 1) := by decide +kernel
theorem dX7_isInner_0 : decode cX7_isInner 0 = .ok (.aload_n 0, 1) := by decide +kernel
theorem dX7_isInner_1 : decode cX7_isInner 1 = .ok (.getfield 27, 3) := by decide +kernel
theorem dX7_isInner_4 : decode cX7_isInner 4 = .ok (.aload_n 0, 1) := by decide +kernel
theorem dX7_isInner_5 : decode cX7_isInner 5 = .ok (.getfield 30, 3) := by decide +kernel
theorem dX7_isInner_8 : decode cX7_isInner 8 = .ok (.iload_n 1, 1) := by decide +kernel
theorem dX7_isInner_9 : decode cX7_isInner 9 = .ok (.iaload, 1) := by decide +kernel
theorem dX7_isInner_10 : decode cX7_isInner 10 = .ok (.baload, 1) := by decide +kernel
theorem dX7_isInner_11 : decode cX7_isInner 11 = .ok (.ifCond .ne 17, 3) := by decide +kernel
theorem dX7_isInner_14 : decode cX7_isInner 14 = .ok (.aload_n 0, 1) := by decide +kernel
theorem dX7_isInner_15 : decode cX7_isInner 15 = .ok (.getfield 27, 3) := by decide +kernel
theorem dX7_isInner_18 : decode cX7_isInner 18 = .ok (.aload_n 0, 1) := by decide +kernel
theorem dX7_isInner_19 : decode cX7_isInner 19 = .ok (.getfield 33, 3) := by decide +kernel
theorem dX7_isInner_22 : decode cX7_isInner 22 = .ok (.iload_n 1, 1) := by decide +kernel
theorem dX7_isInner_23 : decode cX7_isInner 23 = .ok (.iaload, 1) := by decide +kernel
theorem dX7_isInner_24 : decode cX7_isInner 24 = .ok (.baload, 1) := by decide +kernel
theorem dX7_isInner_25 : decode cX7_isInner 25 = .ok (.ifCond .eq 7, 3) := by decide +kernel
theorem dX7_isInner_28 : decode cX7_isInner 28 = .ok (.iconst 1, 1) := by decide +kernel
theorem dX7_isInner_29 : decode cX7_isInner 29 = .ok (.goto 4, 3) := by decide +kernel
theorem dX7_isInner_32 : decode cX7_isInner 32 = .ok (.iconst 0, 1) := by decide +kernel
theorem dX7_isInner_33 : decode cX7_isInner 33 = .ok (.ireturn, 1) := by decide +kernel
set_option maxRecDepth 20000 in
theorem ggX7_tellByMesh_X7_shaftOf : GoodIn wsX7_tellByMesh wsX7_shaftOf := goodIn_r _ [11, 12, 44, 45, 46, 47, 48, 49, 50, 51, 52, 53, 54, 55, 56, 57, 58, 59, 60, 61, 62, 63] (by decide +kernel) (by decide +kernel)
set_option maxRecDepth 20000 in
theorem gX7_tellByMesh_X7_shaftOf : GoodIn wsX7_tellByMesh (wsV RX7 80 RX7 yX7_shaftOf wsX7_shaftOf) := goodIn_app (goodIn_of _ (by decide +kernel)) ggX7_tellByMesh_X7_shaftOf
set_option maxRecDepth 20000 in
theorem ggX7_tellByMesh_X7_hasSpeed : GoodIn wsX7_tellByMesh wsX7_hasSpeed := goodIn_r _ [16, 5, 44, 45, 46, 47, 48, 49, 50, 51, 52, 53, 54, 55, 56, 57, 58, 59, 60, 61, 62, 63] (by decide +kernel) (by decide +kernel)
set_option maxRecDepth 20000 in
theorem gX7_tellByMesh_X7_hasSpeed : GoodIn wsX7_tellByMesh (wsV RX7 126 RX7 yX7_hasSpeed wsX7_hasSpeed) := goodIn_app (goodIn_of _ (by decide +kernel)) ggX7_tellByMesh_X7_hasSpeed
set_option maxRecDepth 20000 in
theorem ggX7_tellByMesh_X7_isInner : GoodIn wsX7_tellByMesh wsX7_isInner := goodIn_r _ [20, 21, 1, 2, 44, 45, 46, 47, 48, 49, 50, 51, 52, 53, 54, 55, 56, 57, 58, 59, 60, 61, 62, 63] (by decide +kernel) (by decide +kernel)
set_option maxRecDepth 20000 in
theorem gX7_tellByMesh_X7_isInner : GoodIn wsX7_tellByMesh (wsV RX7 129 RX7 yX7_isInner wsX7_isInner) := goodIn_app (goodIn_of _ (by decide +kernel)) ggX7_tellByMesh_X7_isInner
set_option maxRecDepth 20000 in
theorem ggX7_tellByMesh_X7_teeth : GoodIn wsX7_tellByMesh wsX7_teeth := goodIn_r _ [25, 12, 44, 45, 46, 47, 48, 49, 50, 51, 52, 53, 54, 55, 56, 57, 58, 59, 60, 61, 62, 63] (by decide +kernel) (by decide +kernel)
set_option maxRecDepth 20000 in
theorem gX7_tellByMesh_X7_teeth : GoodIn wsX7_tellByMesh (wsV RX7 92 RX7 yX7_teeth wsX7_teeth) := goodIn_app (goodIn_of _ (by decide +kernel)) ggX7_tellByMesh_X7_teeth
set_option maxRecDepth 20000 in
theorem ggX7_tellByMesh_X7_make : GoodIn wsX7_tellByMesh wsX7_make := goodIn_r _ [29, 30, 31, 32, 33, 10, 34, 35, 36, 37, 38, 44, 45, 46, 47, 48, 49, 50, 51, 52, 53, 54, 55, 56, 57, 58, 59, 60, 61, 62, 63] (by decide +kernel) (by decide +kernel)
set_option maxRecDepth 20000 in
theorem gX7_tellByMesh_X7_make : GoodIn wsX7_tellByMesh (wsV RX7 134 RX7 yX7_make wsX7_make) := goodIn_app (goodIn_of _ (by decide +kernel)) ggX7_tellByMesh_X7_make
set_option maxRecDepth 20000 in
theorem ggX7_tellByMesh_X7_tell : GoodIn wsX7_tellByMesh wsX7_tell := goodIn_r _ [42, 30, 35, 36, 37, 38, 43, 31, 4, 5, 6, 44, 45, 46, 47, 48, 49, 50, 51, 52, 53, 54, 55, 56, 57, 58, 59, 60, 61, 62, 63] (by decide +kernel) (by decide +kernel)
set_option maxRecDepth 20000 in
theorem gX7_tellByMesh_X7_tell : GoodIn wsX7_tellByMesh (wsV RX7 138 RX7 yX7_tell wsX7_tell) := goodIn_app (goodIn_of _ (by decide +kernel)) ggX7_tellByMesh_X7_tell
theorem dX7_tellByMesh_0 : decode cX7_tellByMesh 0 = .ok (.aload_n 0, 1) := by decide +kernel
theorem dX7_tellByMesh_1 : decode cX7_tellByMesh 1 = .ok (.getfield 30, 3) := by decide +kernel
theorem dX7_tellByMesh_4 : decode cX7_tellByMesh 4 = .ok (.iload_n 1, 1) := by decide +kernel
theorem dX7_tellByMesh_5 : decode cX7_tellByMesh 5 = .ok (.iaload, 1) := by decide +kernel
theorem dX7_tellByMesh_6 : decode cX7_tellByMesh 6 = .ok (.istore_n 2, 1) := by decide +kernel
theorem dX7_tellByMesh_7 : decode cX7_tellByMesh 7 = .ok (.aload_n 0, 1) := by decide +kernel
theorem dX7_tellByMesh_8 : decode cX7_tellByMesh 8 = .ok (.getfield 33, 3) := by decide +kernel
theorem dX7_tellByMesh_11 : decode cX7_tellByMesh 11 = .ok (.iload_n 1, 1) := by decide +kernel
theorem dX7_tellByMesh_12 : decode cX7_tellByMesh 12 = .ok (.iaload, 1) := by decide +kernel
theorem dX7_tellByMesh_13 : decode cX7_tellByMesh 13 = .ok (.istore_n 3, 1) := by decide +kernel
theorem dX7_tellByMesh_14 : decode cX7_tellByMesh 14 = .ok (.aload_n 0, 1) := by decide +kernel
theorem dX7_tellByMesh_15 : decode cX7_tellByMesh 15 = .ok (.aload_n 0, 1) := by decide +kernel
theorem dX7_tellByMesh_16 : decode cX7_tellByMesh 16 = .ok (.iload_n 2, 1) := by decide +kernel
theorem dX7_tellByMesh_17 : decode cX7_tellByMesh 17 = .ok (.invokevirtual 80, 3) := by decide +kernel
theorem dX7_tellByMesh_20 : decode cX7_tellByMesh 20 = .ok (.invokevirtual 126, 3) := by decide +kernel
theorem dX7_tellByMesh_23 : decode cX7_tellByMesh 23 = .ok (.ifCond .eq 7, 3) := by decide +kernel
theorem dX7_tellByMesh_26 : decode cX7_tellByMesh 26 = .ok (.iload_n 2, 1) := by decide +kernel
theorem dX7_tellByMesh_27 : decode cX7_tellByMesh 27 = .ok (.goto 4, 3) := by decide +kernel
theorem dX7_tellByMesh_30 : decode cX7_tellByMesh 30 = .ok (.iload_n 3, 1) := by decide +kernel
theorem dX7_tellByMesh_31 : decode cX7_tellByMesh 31 = .ok (.istore 4, 2) := by decide +kernel
theorem dX7_tellByMesh_33 : decode cX7_tellByMesh 33 = .ok (.iload 4, 2) := by decide +kernel
theorem dX7_tellByMesh_35 : decode cX7_tellByMesh 35 = .ok (.iload_n 2, 1) := by decide +kernel
theorem dX7_tellByMesh_36 : decode cX7_tellByMesh 36 = .ok (.if_icmp .ne 7, 3) := by decide +kernel
theorem dX7_tellByMesh_39 : decode cX7_tellByMesh 39 = .ok (.iload_n 3, 1) := by decide +kernel
theorem dX7_tellByMesh_40 : decode cX7_tellByMesh 40 = .ok (.goto 4, 3) := by decide +kernel
theorem dX7_tellByMesh_43 : decode cX7_tellByMesh 43 = .ok (.iload_n 2, 1) := by decide +kernel
theorem dX7_tellByMesh_44 : decode cX7_tellByMesh 44 = .ok (.istore 5, 2) := by decide +kernel
theorem dX7_tellByMesh_46 : decode cX7_tellByMesh 46 = .ok (.aload_n 0, 1) := by decide +kernel
theorem dX7_tellByMesh_47 : decode cX7_tellByMesh 47 = .ok (.iload_n 1, 1) := by decide +kernel
theorem dX7_tellByMesh_48 : decode cX7_tellByMesh 48 = .ok (.invokevirtual 129, 3) := by decide +kernel
theorem dX7_tellByMesh_51 : decode cX7_tellByMesh 51 = .ok (.ifCond .eq 7, 3) := by decide +kernel
theorem dX7_tellByMesh_54 : decode cX7_tellByMesh 54 = .ok (.lconst 1, 1) := by decide +kernel
theorem dX7_tellByMesh_55 : decode cX7_tellByMesh 55 = .ok (.goto 6, 3) := by decide +kernel
theorem dX7_tellByMesh_58 : decode cX7_tellByMesh 58 = .ok (.ldc2_w 132, 3) := by decide +kernel
theorem dX7_tellByMesh_61 : decode cX7_tellByMesh 61 = .ok (.lstore 6, 2) := by decide +kernel
theorem dX7_tellByMesh_63 : decode cX7_tellByMesh 63 = .ok (.aload_n 0, 1) := by decide +kernel
theorem dX7_tellByMesh_64 : decode cX7_tellByMesh 64 = .ok (.lload 6, 2) := by decide +kernel
theorem dX7_tellByMesh_66 : decode cX7_tellByMesh 66 = .ok (.aload_n 0, 1) := by decide +kernel
theorem dX7_tellByMesh_67 : decode cX7_tellByMesh 67 = .ok (.getfield 39, 3) := by decide +kernel
theorem dX7_tellByMesh_70 : decode cX7_tellByMesh 70 = .ok (.aload_n 0, 1) := by decide +kernel
theorem dX7_tellByMesh_71 : decode cX7_tellByMesh 71 = .ok (.iload 4, 2) := by decide +kernel
theorem dX7_tellByMesh_73 : decode cX7_tellByMesh 73 = .ok (.invokevirtual 80, 3) := by decide +kernel
theorem dX7_tellByMesh_76 : decode cX7_tellByMesh 76 = .ok (.laload, 1) := by decide +kernel
theorem dX7_tellByMesh_77 : decode cX7_tellByMesh 77 = .ok (.lmul, 1) := by decide +kernel
theorem dX7_tellByMesh_78 : decode cX7_tellByMesh 78 = .ok (.aload_n 0, 1) := by decide +kernel
theorem dX7_tellByMesh_79 : decode cX7_tellByMesh 79 = .ok (.iload 4, 2) := by decide +kernel
