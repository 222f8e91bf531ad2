theorem dX0_init_0 : decode cX0_init 0 = .ok (.aload_n 0, 1) := by decide +kernel
theorem dX0_init_1 : decode cX0_init 1 = .ok (.invokespecial 3, 3) := by decide +kernel
theorem dX0_init_4 : decode cX0_init 4 = .ok (.aload_n 0, 1) := by decide +kernel
theorem dX0_init_5 : decode cX0_init 5 = .ok (.lconst 0, 1) := by decide +kernel
theorem dX0_init_6 : decode cX0_init 6 = .ok (.putfield 9, 3) := by decide +kernel
theorem dX0_init_9 : decode cX0_init 9 = .ok (.aload_n 0, 1) := by decide +kernel
theorem dX0_init_10 : decode cX0_init 10 = .ok (.lconst 1, 1) := by decide +kernel
theorem dX0_init_11 : decode cX0_init 11 = .ok (.putfield 15, 3) := by decide +kernel
theorem dX0_init_14 : decode cX0_init 14 = .ok (.return_, 1) := by decide +kernel
set_option maxRecDepth 20000 in
theorem ggX0_become_X0_commonDivisor : GoodIn wsX0_become wsX0_commonDivisor := goodIn_r _ [10] (by decide +kernel) (by decide +kernel)
set_option maxRecDepth 20000 in
theorem gX0_become_X0_commonDivisor : GoodIn wsX0_become (va_wsS RX0 24 yX0_commonDivisor wsX0_commonDivisor) := goodIn_app (goodIn_of _ (by decide +kernel)) ggX0_become_X0_commonDivisor
theorem dX0_become_0 : decode cX0_become 0 = .ok (.lload_n 1, 1) := by decide +kernel
theorem dX0_become_1 : decode cX0_become 1 = .ok (.invokestatic 18, 3) := by decide +kernel
theorem dX0_become_4 : decode cX0_become 4 = .ok (.lload_n 3, 1) := by decide +kernel
theorem dX0_become_5 : decode cX0_become 5 = .ok (.invokestatic 18, 3) := by decide +kernel
theorem dX0_become_8 : decode cX0_become 8 = .ok (.invokestatic 24, 3) := by decide +kernel
theorem dX0_become_11 : decode cX0_become 11 = .ok (.lstore 5, 2) := by decide +kernel
theorem dX0_become_13 : decode cX0_become 13 = .ok (.lload_n 3, 1) := by decide +kernel
theorem dX0_become_14 : decode cX0_become 14 = .ok (.lconst 0, 1) := by decide +kernel
theorem dX0_become_15 : decode cX0_become 15 = .ok (.lcmp, 1) := by decide +kernel
theorem dX0_become_16 : decode cX0_become 16 = .ok (.ifCond .ge 9, 3) := by decide +kernel
theorem dX0_become_19 : decode cX0_become 19 = .ok (.lload 5, 2) := by decide +kernel
theorem dX0_become_21 : decode cX0_become 21 = .ok (.lneg, 1) := by decide +kernel
theorem dX0_become_22 : decode cX0_become 22 = .ok (.goto 5, 3) := by decide +kernel
theorem dX0_become_25 : decode cX0_become 25 = .ok (.lload 5, 2) := by decide +kernel
theorem dX0_become_27 : decode cX0_become 27 = .ok (.lstore 7, 2) := by decide +kernel
theorem dX0_become_29 : decode cX0_become 29 = .ok (.lload 7, 2) := by decide +kernel
theorem dX0_become_31 : decode cX0_become 31 = .ok (.lconst 0, 1) := by decide +kernel
theorem dX0_become_32 : decode cX0_become 32 = .ok (.lcmp, 1) := by decide +kernel
theorem dX0_become_33 : decode cX0_become 33 = .ok (.ifCond .eq 19, 3) := by decide +kernel
theorem dX0_become_36 : decode cX0_become 36 = .ok (.aload_n 0, 1) := by decide +kernel
theorem dX0_become_37 : decode cX0_become 37 = .ok (.lload_n 1, 1) := by decide +kernel
theorem dX0_become_38 : decode cX0_become 38 = .ok (.lload 7, 2) := by decide +kernel
theorem dX0_become_40 : decode cX0_become 40 = .ok (.ldiv, 1) := by decide +kernel
theorem dX0_become_41 : decode cX0_become 41 = .ok (.putfield 9, 3) := by decide +kernel
theorem dX0_become_44 : decode cX0_become 44 = .ok (.aload_n 0, 1) := by decide +kernel
theorem dX0_become_45 : decode cX0_become 45 = .ok (.lload_n 3, 1) := by decide +kernel
theorem dX0_become_46 : decode cX0_become 46 = .ok (.lload 7, 2) := by decide +kernel
theorem dX0_become_48 : decode cX0_become 48 = .ok (.ldiv, 1) := by decide +kernel
theorem dX0_become_49 : decode cX0_become 49 = .ok (.putfield 15, 3) := by decide +kernel
theorem dX0_become_52 : decode cX0_become 52 = .ok (.return_, 1) := by decide +kernel
theorem dX0_isSameAs_0 : decode cX0_isSameAs 0 = .ok (.aload_n 0, 1) := by decide +kernel
theorem dX0_isSameAs_1 : decode cX0_isSameAs 1 = .ok (.getfield 9, 3) := by decide +kernel
theorem dX0_isSameAs_4 : decode cX0_isSameAs 4 = .ok (.aload_n 1, 1) := by decide +kernel
theorem dX0_isSameAs_5 : decode cX0_isSameAs 5 = .ok (.getfield 9, 3) := by decide +kernel
theorem dX0_isSameAs_8 : decode cX0_isSameAs 8 = .ok (.lcmp, 1) := by decide +kernel
theorem dX0_isSameAs_9 : decode cX0_isSameAs 9 = .ok (.ifCond .ne 19, 3) := by decide +kernel
theorem dX0_isSameAs_12 : decode cX0_isSameAs 12 = .ok (.aload_n 0, 1) := by decide +kernel
theorem dX0_isSameAs_13 : decode cX0_isSameAs 13 = .ok (.getfield 15, 3) := by decide +kernel
theorem dX0_isSameAs_16 : decode cX0_isSameAs 16 = .ok (.aload_n 1, 1) := by decide +kernel
theorem dX0_isSameAs_17 : decode cX0_isSameAs 17 = .ok (.getfield 15, 3) := by decide +kernel
theorem dX0_isSameAs_20 : decode cX0_isSameAs 20 = .ok (.lcmp, 1) := by decide +kernel
theorem dX0_isSameAs_21 : decode cX0_isSameAs 21 = .ok (.ifCond .ne 7, 3) := by decide +kernel
theorem dX0_isSameAs_24 : decode cX0_isSameAs 24 = .ok (.iconst 1, 1) := by decide +kernel
theorem dX0_isSameAs_25 : decode cX0_isSameAs 25 = .ok (.goto 4, 3) := by decide +kernel
theorem dX0_isSameAs_28 : decode cX0_isSameAs 28 = .ok (.iconst 0, 1) := by decide +kernel
theorem dX0_isSameAs_29 : decode cX0_isSameAs 29 = .ok (.ireturn, 1) := by decide +kernel
theorem dX0_isTooGreat_0 : decode cX0_isTooGreat 0 = .ok (.aload_n 0, 1) := by decide +kernel
theorem dX0_isTooGreat_1 : decode cX0_isTooGreat 1 = .ok (.getfield 9, 3) := by decide +kernel
theorem dX0_isTooGreat_4 : decode cX0_isTooGreat 4 = .ok (.invokestatic 18, 3) := by decide +kernel
theorem dX0_isTooGreat_7 : decode cX0_isTooGreat 7 = .ok (.ldc2_w 28, 3) := by decide +kernel
theorem dX0_isTooGreat_10 : decode cX0_isTooGreat 10 = .ok (.lcmp, 1) := by decide +kernel
theorem dX0_isTooGreat_11 : decode cX0_isTooGreat 11 = .ok (.ifCond .gt 14, 3) := by decide +kernel
theorem dX0_isTooGreat_14 : decode cX0_isTooGreat 14 = .ok (.aload_n 0, 1) := by decide +kernel
theorem dX0_isTooGreat_15 : decode cX0_isTooGreat 15 = .ok (.getfield 15, 3) := by decide +kernel
theorem dX0_isTooGreat_18 : decode cX0_isTooGreat 18 = .ok (.ldc2_w 28, 3) := by decide +kernel
theorem dX0_isTooGreat_21 : decode cX0_isTooGreat 21 = .ok (.lcmp, 1) := by decide +kernel
theorem dX0_isTooGreat_22 : decode cX0_isTooGreat 22 = .ok (.ifCond .le 7, 3) := by decide +kernel
theorem dX0_isTooGreat_25 : decode cX0_isTooGreat 25 = .ok (.iconst 1, 1) := by decide +kernel
theorem dX0_isTooGreat_26 : decode cX0_isTooGreat 26 = .ok (.goto 4, 3) := by decide +kernel
theorem dX0_isTooGreat_29 : decode cX0_isTooGreat 29 = .ok (.iconst 0, 1) := by decide +kernel
theorem dX0_isTooGreat_30 : decode cX0_isTooGreat 30 = .ok (.ireturn, 1) := by decide +kernel
theorem dX0_commonDivisor_0 : decode cX0_commonDivisor 0 = .ok (.lload_n 0, 1) := by decide +kernel
theorem dX0_commonDivisor_1 : decode cX0_commonDivisor 1 = .ok (.lstore 4, 2) := by decide +kernel
theorem dX0_commonDivisor_3 : decode cX0_commonDivisor 3 = .ok (.lload_n 2, 1) := by decide +kernel
theorem dX0_commonDivisor_4 : decode cX0_commonDivisor 4 = .ok (.lstore 6, 2) := by decide +kernel
theorem dX0_commonDivisor_6 : decode cX0_commonDivisor 6 = .ok (.iconst 0, 1) := by decide +kernel
theorem dX0_commonDivisor_7 : decode cX0_commonDivisor 7 = .ok (.istore 8, 2) := by decide +kernel
theorem dX0_commonDivisor_9 : decode cX0_commonDivisor 9 = .ok (.lload 6, 2) := by decide +kernel
theorem dX0_commonDivisor_11 : decode cX0_commonDivisor 11 = .ok (.lconst 0, 1) := by decide +kernel
theorem dX0_commonDivisor_12 : decode cX0_commonDivisor 12 = .ok (.lcmp, 1) := by decide +kernel
theorem dX0_commonDivisor_13 : decode cX0_commonDivisor 13 = .ok (.ifCond .eq 31, 3) := by decide +kernel
theorem dX0_commonDivisor_16 : decode cX0_commonDivisor 16 = .ok (.iload 8, 2) := by decide +kernel
theorem dX0_commonDivisor_18 : decode cX0_commonDivisor 18 = .ok (.bipush 100, 2) := by decide +kernel
theorem dX0_commonDivisor_20 : decode cX0_commonDivisor 20 = .ok (.if_icmp .ge 24, 3) := by decide +kernel
theorem dX0_commonDivisor_23 : decode cX0_commonDivisor 23 = .ok (.lload 4, 2) := by decide +kernel
theorem dX0_commonDivisor_25 : decode cX0_commonDivisor 25 = .ok (.lload 6, 2) := by decide +kernel
theorem dX0_commonDivisor_27 : decode cX0_commonDivisor 27 = .ok (.lrem, 1) := by decide +kernel
theorem dX0_commonDivisor_28 : decode cX0_commonDivisor 28 = .ok (.lstore 9, 2) := by decide +kernel
theorem dX0_commonDivisor_30 : decode cX0_commonDivisor 30 = .ok (.lload 6, 2) := by decide +kernel
theorem dX0_commonDivisor_32 : decode cX0_commonDivisor 32 = .ok (.lstore 4, 2) := by decide +kernel
theorem dX0_commonDivisor_34 : decode cX0_commonDivisor 34 = .ok (.lload 9, 2) := by decide +kernel
theorem dX0_commonDivisor_36 : decode cX0_commonDivisor 36 = .ok (.lstore 6, 2) := by decide +kernel
theorem dX0_commonDivisor_38 : decode cX0_commonDivisor 38 = .ok (.iinc 8 1, 3) := by decide +kernel
theorem dX0_commonDivisor_41 : decode cX0_commonDivisor 41 = .ok (.goto (-32), 3) := by decide +kernel
theorem dX0_commonDivisor_44 : decode cX0_commonDivisor 44 = .ok (.lload 4, 2) := by decide +kernel
theorem dX0_commonDivisor_46 : decode cX0_commonDivisor 46 = .ok (.lreturn, 1) := by decide +kernel
theorem dX1_init_0 : decode cX1_init 0 = .ok (.aload_n 0, 1) := by decide +kernel
theorem dX1_init_1 : decode cX1_init 1 = .ok (.invokespecial 1, 3) := by decide +kernel
theorem dX1_init_4 : decode cX1_init 4 = .ok (.aload_n 0, 1) := by decide +kernel
theorem dX1_init_5 : decode cX1_init 5 = .ok (.aload_n 1, 1) := by decide +kernel
theorem dX1_init_6 : decode cX1_init 6 = .ok (.putfield 7, 3) := by decide +kernel
theorem dX1_init_9 : decode cX1_init 9 = .ok (.aload_n 0, 1) := by decide +kernel
theorem dX1_init_10 : decode cX1_init 10 = .ok (.iload_n 2, 1) := by decide +kernel
theorem dX1_init_11 : decode cX1_init 11 = .ok (.putfield 13, 3) := by decide +kernel
theorem dX1_init_14 : decode cX1_init 14 = .ok (.aload_n 0, 1) := by decide +kernel
theorem dX1_init_15 : decode cX1_init 15 = .ok (.iload_n 3, 1) := by decide +kernel
theorem dX1_init_16 : decode cX1_init 16 = .ok (.putfield 17, 3) := by decide +kernel
theorem dX1_init_19 : decode cX1_init 19 = .ok (.aload_n 0, 1) := by decide +kernel
theorem dX1_init_20 : decode cX1_init 20 = .ok (.iload 4, 2) := by decide +kernel
theorem dX1_init_22 : decode cX1_init 22 = .ok (.putfield 20, 3) := by decide +kernel
theorem dX1_init_25 : decode cX1_init 25 = .ok (.aload_n 0, 1) := by decide +kernel
theorem dX1_init_26 : decode cX1_init 26 = .ok (.iload 5, 2) := by decide +kernel
theorem dX1_init_28 : decode cX1_init 28 = .ok (.putfield 23, 3) := by decide +kernel
theorem dX1_init_31 : decode cX1_init 31 = .ok (.return_, 1) := by decide +kernel
theorem dX1_suits_0 : decode cX1_suits 0 = .ok (.aload_n 0, 1) := by decide +kernel
theorem dX1_suits_1 : decode cX1_suits 1 = .ok (.getfield 7, 3) := by decide +kernel
theorem dX1_suits_4 : decode cX1_suits 4 = .ok (.aload_n 1, 1) := by decide +kernel
theorem dX1_suits_5 : decode cX1_suits 5 = .ok (.getfield 7, 3) := by decide +kernel
theorem dX1_suits_8 : decode cX1_suits 8 = .ok (.if_acmp .eq 25, 3) := by decide +kernel
theorem dX1_suits_11 : decode cX1_suits 11 = .ok (.aload_n 0, 1) := by decide +kernel
theorem dX1_suits_12 : decode cX1_suits 12 = .ok (.getfield 20, 3) := by decide +kernel
theorem dX1_suits_15 : decode cX1_suits 15 = .ok (.aload_n 1, 1) := by decide +kernel
theorem dX1_suits_16 : decode cX1_suits 16 = .ok (.getfield 20, 3) := by decide +kernel
theorem dX1_suits_19 : decode cX1_suits 19 = .ok (.if_icmp .ne 14, 3) := by decide +kernel
theorem dX1_suits_22 : decode cX1_suits 22 = .ok (.aload_n 0, 1) := by decide +kernel
theorem dX1_suits_23 : decode cX1_suits 23 = .ok (.getfield 17, 3) := by decide +kernel
theorem dX1_suits_26 : decode cX1_suits 26 = .ok (.aload_n 1, 1) := by decide +kernel
theorem dX1_suits_27 : decode cX1_suits 27 = .ok (.getfield 17, 3) := by decide +kernel
theorem dX1_suits_30 : decode cX1_suits 30 = .ok (.if_icmp .eq 5, 3) := by decide +kernel
theorem dX1_suits_33 : decode cX1_suits 33 = .ok (.iconst 0, 1) := by decide +kernel
theorem dX1_suits_34 : decode cX1_suits 34 = .ok (.ireturn, 1) := by decide +kernel
theorem dX1_suits_35 : decode cX1_suits 35 = .ok (.aload_n 0, 1) := by decide +kernel
theorem dX1_suits_36 : decode cX1_suits 36 = .ok (.getfield 23, 3) := by decide +kernel
theorem dX1_suits_39 : decode cX1_suits 39 = .ok (.ifCond .eq 27, 3) := by decide +kernel
theorem dX1_suits_42 : decode cX1_suits 42 = .ok (.aload_n 1, 1) := by decide +kernel
theorem dX1_suits_43 : decode cX1_suits 43 = .ok (.getfield 23, 3) := by decide +kernel
theorem dX1_suits_46 : decode cX1_suits 46 = .ok (.ifCond .ne 18, 3) := by decide +kernel
theorem dX1_suits_49 : decode cX1_suits 49 = .ok (.aload_n 0, 1) := by decide +kernel
theorem dX1_suits_50 : decode cX1_suits 50 = .ok (.getfield 13, 3) := by decide +kernel
theorem dX1_suits_53 : decode cX1_suits 53 = .ok (.aload_n 1, 1) := by decide +kernel
theorem dX1_suits_54 : decode cX1_suits 54 = .ok (.getfield 13, 3) := by decide +kernel
theorem dX1_suits_57 : decode cX1_suits 57 = .ok (.if_icmp .le 7, 3) := by decide +kernel
theorem dX1_suits_60 : decode cX1_suits 60 = .ok (.iconst 1, 1) := by decide +kernel
theorem dX1_suits_61 : decode cX1_suits 61 = .ok (.goto 4, 3) := by decide +kernel
theorem dX1_suits_64 : decode cX1_suits 64 = .ok (.iconst 0, 1) := by decide +kernel
theorem dX1_suits_65 : decode cX1_suits 65 = .ok (.ireturn, 1) := by decide +kernel
theorem dX1_suits_66 : decode cX1_suits 66 = .ok (.aload_n 1, 1) := by decide +kernel
theorem dX1_suits_67 : decode cX1_suits 67 = .ok (.getfield 23, 3) := by decide +kernel
theorem dX1_suits_70 : decode cX1_suits 70 = .ok (.ifCond .eq 14, 3) := by decide +kernel
theorem dX1_suits_73 : decode cX1_suits 73 = .ok (.aload_n 1, 1) := by decide +kernel
theorem dX1_suits_74 : decode cX1_suits 74 = .ok (.getfield 13, 3) := by decide +kernel
theorem dX1_suits_77 : decode cX1_suits 77 = .ok (.aload_n 0, 1) := by decide +kernel
theorem dX1_suits_78 : decode cX1_suits 78 = .ok (.getfield 13, 3) := by decide +kernel
theorem dX1_suits_81 : decode cX1_suits 81 = .ok (.if_icmp .le 7, 3) := by decide +kernel
theorem dX1_suits_84 : decode cX1_suits 84 = .ok (.iconst 1, 1) := by decide +kernel
theorem dX1_suits_85 : decode cX1_suits 85 = .ok (.goto 4, 3) := by decide +kernel
theorem dX1_suits_88 : decode cX1_suits 88 = .ok (.iconst 0, 1) := by decide +kernel
theorem dX1_suits_89 : decode cX1_suits 89 = .ok (.ireturn, 1) := by decide +kernel
set_option maxRecDepth 20000 in
theorem ggX2_init_X9_init : GoodIn wsX2_init wsX9_init := goodIn_r _ [18, 19, 2, 3, 20, 21, 49, 50] (by decide +kernel) (by decide +kernel)
set_option maxRecDepth 20000 in
theorem gX2_init_X9_init : GoodIn wsX2_init (wsX9_init) := ggX2_init_X9_init
set_option maxRecDepth 20000 in
theorem ggX2_init_X5_init : GoodIn wsX2_init wsX5_init := goodIn_r _ [24, 25, 2, 3, 26, 27, 28, 29, 30, 31, 32, 33, 34, 35, 36, 37, 46, 47, 48, 51, 52] (by decide +kernel) (by decide +kernel)
set_option maxRecDepth 20000 in
theorem gX2_init_X5_init : GoodIn wsX2_init (wsX5_init) := ggX2_init_X5_init
theorem dX2_init_0 : decode cX2_init 0 = .ok (.aload_n 0, 1) := by decide +kernel
theorem dX2_init_1 : decode cX2_init 1 = .ok (.invokespecial 1, 3) := by decide +kernel
theorem dX2_init_4 : decode cX2_init 4 = .ok (.aload_n 0, 1) := by decide +kernel
theorem dX2_init_5 : decode cX2_init 5 = .ok (.aload_n 1, 1) := by decide +kernel
theorem dX2_init_6 : decode cX2_init 6 = .ok (.putfield 7, 3) := by decide +kernel
theorem dX2_init_9 : decode cX2_init 9 = .ok (.aload_n 0, 1) := by decide +kernel
theorem dX2_init_10 : decode cX2_init 10 = .ok (.aload_n 2, 1) := by decide +kernel
theorem dX2_init_11 : decode cX2_init 11 = .ok (.putfield 13, 3) := by decide +kernel
theorem dX2_init_14 : decode cX2_init 14 = .ok (.aload_n 1, 1) := by decide +kernel
theorem dX2_init_15 : decode cX2_init 15 = .ok (.getfield 16, 3) := by decide +kernel
theorem dX2_init_18 : decode cX2_init 18 = .ok (.ifCond .ne 10, 3) := by decide +kernel
theorem dX2_init_21 : decode cX2_init 21 = .ok (.aload_n 2, 1) := by decide +kernel
theorem dX2_init_22 : decode cX2_init 22 = .ok (.getfield 16, 3) := by decide +kernel
theorem dX2_init_25 : decode cX2_init 25 = .ok (.ifCond .eq 11, 3) := by decide +kernel
theorem dX2_init_28 : decode cX2_init 28 = .ok (.aload_n 2, 1) := by decide +kernel
theorem dX2_init_29 : decode cX2_init 29 = .ok (.getfield 22, 3) := by decide +kernel
theorem dX2_init_32 : decode cX2_init 32 = .ok (.ineg, 1) := by decide +kernel
theorem dX2_init_33 : decode cX2_init 33 = .ok (.goto 7, 3) := by decide +kernel
theorem dX2_init_36 : decode cX2_init 36 = .ok (.aload_n 2, 1) := by decide +kernel
theorem dX2_init_37 : decode cX2_init 37 = .ok (.getfield 22, 3) := by decide +kernel
theorem dX2_init_40 : decode cX2_init 40 = .ok (.istore_n 3, 1) := by decide +kernel
theorem dX2_init_41 : decode cX2_init 41 = .ok (.aload_n 0, 1) := by decide +kernel
theorem dX2_init_42 : decode cX2_init 42 = .ok (.new 26, 3) := by decide +kernel
theorem dX2_init_45 : decode cX2_init 45 = .ok (.dup, 1) := by decide +kernel
theorem dX2_init_46 : decode cX2_init 46 = .ok (.iconst 2, 1) := by decide +kernel
theorem dX2_init_47 : decode cX2_init 47 = .ok (.anewarray 28, 3) := by decide +kernel
theorem dX2_init_50 : decode cX2_init 50 = .ok (.dup, 1) := by decide +kernel
theorem dX2_init_51 : decode cX2_init 51 = .ok (.iconst 0, 1) := by decide +kernel
theorem dX2_init_52 : decode cX2_init 52 = .ok (.new 28, 3) := by decide +kernel
theorem dX2_init_55 : decode cX2_init 55 = .ok (.dup, 1) := by decide +kernel
theorem dX2_init_56 : decode cX2_init 56 = .ok (.aload_n 1, 1) := by decide +kernel
theorem dX2_init_57 : decode cX2_init 57 = .ok (.getfield 30, 3) := by decide +kernel
theorem dX2_init_60 : decode cX2_init 60 = .ok (.aload_n 1, 1) := by decide +kernel
theorem dX2_init_61 : decode cX2_init 61 = .ok (.getfield 22, 3) := by decide +kernel
theorem dX2_init_64 : decode cX2_init 64 = .ok (.invokespecial 34, 3) := by decide +kernel
theorem dX2_init_67 : decode cX2_init 67 = .ok (.aastore, 1) := by decide +kernel
theorem dX2_init_68 : decode cX2_init 68 = .ok (.dup, 1) := by decide +kernel
theorem dX2_init_69 : decode cX2_init 69 = .ok (.iconst 1, 1) := by decide +kernel
theorem dX2_init_70 : decode cX2_init 70 = .ok (.new 28, 3) := by decide +kernel
theorem dX2_init_73 : decode cX2_init 73 = .ok (.dup, 1) := by decide +kernel
theorem dX2_init_74 : decode cX2_init 74 = .ok (.aload_n 2, 1) := by decide +kernel
theorem dX2_init_75 : decode cX2_init 75 = .ok (.getfield 30, 3) := by decide +kernel
theorem dX2_init_78 : decode cX2_init 78 = .ok (.iload_n 3, 1) := by decide +kernel
theorem dX2_init_79 : decode cX2_init 79 = .ok (.invokespecial 34, 3) := by decide +kernel
theorem dX2_init_82 : decode cX2_init 82 = .ok (.aastore, 1) := by decide +kernel
theorem dX2_init_83 : decode cX2_init 83 = .ok (.invokespecial 37, 3) := by decide +kernel
theorem dX2_init_86 : decode cX2_init 86 = .ok (.putfield 40, 3) := by decide +kernel
theorem dX2_init_89 : decode cX2_init 89 = .ok (.return_, 1) := by decide +kernel
theorem dX2_isOf_0 : decode cX2_isOf 0 = .ok (.aload_n 0, 1) := by decide +kernel
theorem dX2_isOf_1 : decode cX2_isOf 1 = .ok (.getfield 7, 3) := by decide +kernel
theorem dX2_isOf_4 : decode cX2_isOf 4 = .ok (.aload_n 1, 1) := by decide +kernel
theorem dX2_isOf_5 : decode cX2_isOf 5 = .ok (.if_acmp .ne 11, 3) := by decide +kernel
theorem dX2_isOf_8 : decode cX2_isOf 8 = .ok (.aload_n 0, 1) := by decide +kernel
theorem dX2_isOf_9 : decode cX2_isOf 9 = .ok (.getfield 13, 3) := by decide +kernel
theorem dX2_isOf_12 : decode cX2_isOf 12 = .ok (.aload_n 2, 1) := by decide +kernel
theorem dX2_isOf_13 : decode cX2_isOf 13 = .ok (.if_acmp .eq 19, 3) := by decide +kernel
theorem dX2_isOf_16 : decode cX2_isOf 16 = .ok (.aload_n 0, 1) := by decide +kernel
theorem dX2_isOf_17 : decode cX2_isOf 17 = .ok (.getfield 7, 3) := by decide +kernel
theorem dX2_isOf_20 : decode cX2_isOf 20 = .ok (.aload_n 2, 1) := by decide +kernel
theorem dX2_isOf_21 : decode cX2_isOf 21 = .ok (.if_acmp .ne 15, 3) := by decide +kernel
theorem dX2_isOf_24 : decode cX2_isOf 24 = .ok (.aload_n 0, 1) := by decide +kernel
theorem dX2_isOf_25 : decode cX2_isOf 25 = .ok (.getfield 13, 3) := by decide +kernel
theorem dX2_isOf_28 : decode cX2_isOf 28 = .ok (.aload_n 1, 1) := by decide +kernel
theorem dX2_isOf_29 : decode cX2_isOf 29 = .ok (.if_acmp .ne 7, 3) := by decide +kernel
theorem dX2_isOf_32 : decode cX2_isOf 32 = .ok (.iconst 1, 1) := by decide +kernel
theorem dX2_isOf_33 : decode cX2_isOf 33 = .ok (.goto 4, 3) := by decide +kernel
theorem dX2_isOf_36 : decode cX2_isOf 36 = .ok (.iconst 0, 1) := by decide +kernel
theorem dX2_isOf_37 : decode cX2_isOf 37 = .ok (.ireturn, 1) := by decide +kernel
set_option maxRecDepth 20000 in
theorem ggX3_init_X9_init : GoodIn wsX3_init wsX9_init := goodIn_r _ [14, 15, 2, 3, 16, 17, 39, 40] (by decide +kernel) (by decide +kernel)
set_option maxRecDepth 20000 in
theorem gX3_init_X9_init : GoodIn wsX3_init (wsX9_init) := ggX3_init_X9_init
set_option maxRecDepth 20000 in
theorem ggX3_init_X5_init : GoodIn wsX3_init wsX5_init := goodIn_r _ [20, 21, 2, 3, 22, 23, 24, 25, 26, 27, 28, 29, 30, 31, 32, 33, 36, 37, 38, 41, 42] (by decide +kernel) (by decide +kernel)
set_option maxRecDepth 20000 in
theorem gX3_init_X5_init : GoodIn wsX3_init (wsX5_init) := ggX3_init_X5_init
theorem dX3_init_0 : decode cX3_init 0 = .ok (.aload_n 0, 1) := by decide +kernel
theorem dX3_init_1 : decode cX3_init 1 = .ok (.invokespecial 1, 3) := by decide +kernel
theorem dX3_init_4 : decode cX3_init 4 = .ok (.iload 4, 2) := by decide +kernel
theorem dX3_init_6 : decode cX3_init 6 = .ok (.iconst 2, 1) := by decide +kernel
theorem dX3_init_7 : decode cX3_init 7 = .ok (.iload 5, 2) := by decide +kernel
theorem dX3_init_9 : decode cX3_init 9 = .ok (.imul, 1) := by decide +kernel
theorem dX3_init_10 : decode cX3_init 10 = .ok (.iadd, 1) := by decide +kernel
theorem dX3_init_11 : decode cX3_init 11 = .ok (.istore 6, 2) := by decide +kernel
theorem dX3_init_13 : decode cX3_init 13 = .ok (.aload_n 0, 1) := by decide +kernel
theorem dX3_init_14 : decode cX3_init 14 = .ok (.iload 4, 2) := by decide +kernel
theorem dX3_init_16 : decode cX3_init 16 = .ok (.iload 6, 2) := by decide +kernel
theorem dX3_init_18 : decode cX3_init 18 = .ok (.iadd, 1) := by decide +kernel
theorem dX3_init_19 : decode cX3_init 19 = .ok (.putfield 7, 3) := by decide +kernel
theorem dX3_init_22 : decode cX3_init 22 = .ok (.aload_n 0, 1) := by decide +kernel
theorem dX3_init_23 : decode cX3_init 23 = .ok (.new 13, 3) := by decide +kernel
theorem dX3_init_26 : decode cX3_init 26 = .ok (.dup, 1) := by decide +kernel
theorem dX3_init_27 : decode cX3_init 27 = .ok (.iconst 3, 1) := by decide +kernel
theorem dX3_init_28 : decode cX3_init 28 = .ok (.anewarray 15, 3) := by decide +kernel
theorem dX3_init_31 : decode cX3_init 31 = .ok (.dup, 1) := by decide +kernel
theorem dX3_init_32 : decode cX3_init 32 = .ok (.iconst 0, 1) := by decide +kernel
theorem dX3_init_33 : decode cX3_init 33 = .ok (.new 15, 3) := by decide +kernel
theorem dX3_init_36 : decode cX3_init 36 = .ok (.dup, 1) := by decide +kernel
theorem dX3_init_37 : decode cX3_init 37 = .ok (.aload_n 1, 1) := by decide +kernel
theorem dX3_init_38 : decode cX3_init 38 = .ok (.iload 4, 2) := by decide +kernel
theorem dX3_init_40 : decode cX3_init 40 = .ok (.invokespecial 17, 3) := by decide +kernel
theorem dX3_init_43 : decode cX3_init 43 = .ok (.aastore, 1) := by decide +kernel
theorem dX3_init_44 : decode cX3_init 44 = .ok (.dup, 1) := by decide +kernel
theorem dX3_init_45 : decode cX3_init 45 = .ok (.iconst 1, 1) := by decide +kernel
theorem dX3_init_46 : decode cX3_init 46 = .ok (.new 15, 3) := by decide +kernel
theorem dX3_init_49 : decode cX3_init 49 = .ok (.dup, 1) := by decide +kernel
theorem dX3_init_50 : decode cX3_init 50 = .ok (.aload_n 2, 1) := by decide +kernel
theorem dX3_init_51 : decode cX3_init 51 = .ok (.iload 6, 2) := by decide +kernel
theorem dX3_init_53 : decode cX3_init 53 = .ok (.invokespecial 17, 3) := by decide +kernel
theorem dX3_init_56 : decode cX3_init 56 = .ok (.aastore, 1) := by decide +kernel
theorem dX3_init_57 : decode cX3_init 57 = .ok (.dup, 1) := by decide +kernel
theorem dX3_init_58 : decode cX3_init 58 = .ok (.iconst 2, 1) := by decide +kernel
theorem dX3_init_59 : decode cX3_init 59 = .ok (.new 15, 3) := by decide +kernel
theorem dX3_init_62 : decode cX3_init 62 = .ok (.dup, 1) := by decide +kernel
theorem dX3_init_63 : decode cX3_init 63 = .ok (.aload_n 3, 1) := by decide +kernel
theorem dX3_init_64 : decode cX3_init 64 = .ok (.aload_n 0, 1) := by decide +kernel
theorem dX3_init_65 : decode cX3_init 65 = .ok (.getfield 7, 3) := by decide +kernel
theorem dX3_init_68 : decode cX3_init 68 = .ok (.ineg, 1) := by decide +kernel
theorem dX3_init_69 : decode cX3_init 69 = .ok (.invokespecial 17, 3) := by decide +kernel
theorem dX3_init_72 : decode cX3_init 72 = .ok (.aastore, 1) := by decide +kernel
theorem dX3_init_73 : decode cX3_init 73 = .ok (.invokespecial 20, 3) := by decide +kernel
theorem dX3_init_76 : decode cX3_init 76 = .ok (.putfield 23, 3) := by decide +kernel
theorem dX3_init_79 : decode cX3_init 79 = .ok (.return_, 1) := by decide +kernel
set_option maxRecDepth 20000 in
theorem ggX4_init_X0_init : GoodIn wsX4_init wsX0_init := goodIn_r _ [14, 15, 2, 3, 16, 17, 23, 24] (by decide +kernel) (by decide +kernel)
set_option maxRecDepth 20000 in
theorem gX4_init_X0_init : GoodIn wsX4_init (wsX0_init) := ggX4_init_X0_init
theorem dX4_init_0 : decode cX4_init 0 = .ok (.aload_n 0, 1) := by decide +kernel
theorem dX4_init_1 : decode cX4_init 1 = .ok (.invokespecial 3, 3) := by decide +kernel
theorem dX4_init_4 : decode cX4_init 4 = .ok (.aload_n 0, 1) := by decide +kernel
theorem dX4_init_5 : decode cX4_init 5 = .ok (.iload_n 1, 1) := by decide +kernel
theorem dX4_init_6 : decode cX4_init 6 = .ok (.putfield 9, 3) := by decide +kernel
theorem dX4_init_9 : decode cX4_init 9 = .ok (.aload_n 0, 1) := by decide +kernel
theorem dX4_init_10 : decode cX4_init 10 = .ok (.iload_n 2, 1) := by decide +kernel
theorem dX4_init_11 : decode cX4_init 11 = .ok (.putfield 15, 3) := by decide +kernel
theorem dX4_init_14 : decode cX4_init 14 = .ok (.aload_n 0, 1) := by decide +kernel
theorem dX4_init_15 : decode cX4_init 15 = .ok (.iconst 0, 1) := by decide +kernel
theorem dX4_init_16 : decode cX4_init 16 = .ok (.putfield 18, 3) := by decide +kernel
theorem dX4_init_19 : decode cX4_init 19 = .ok (.aload_n 0, 1) := by decide +kernel
theorem dX4_init_20 : decode cX4_init 20 = .ok (.iconst (-1), 1) := by decide +kernel
theorem dX4_init_21 : decode cX4_init 21 = .ok (.putfield 22, 3) := by decide +kernel
theorem dX4_init_24 : decode cX4_init 24 = .ok (.aload_n 0, 1) := by decide +kernel
theorem dX4_init_25 : decode cX4_init 25 = .ok (.new 25, 3) := by decide +kernel
theorem dX4_init_28 : decode cX4_init 28 = .ok (.dup, 1) := by decide +kernel
theorem dX4_init_29 : decode cX4_init 29 = .ok (.invokespecial 27, 3) := by decide +kernel
theorem dX4_init_32 : decode cX4_init 32 = .ok (.putfield 28, 3) := by decide +kernel
theorem dX4_init_35 : decode cX4_init 35 = .ok (.return_, 1) := by decide +kernel
theorem dX4_hasSpeed_0 : decode cX4_hasSpeed 0 = .ok (.aload_n 0, 1) := by decide +kernel
theorem dX4_hasSpeed_1 : decode cX4_hasSpeed 1 = .ok (.getfield 22, 3) := by decide +kernel
theorem dX4_hasSpeed_4 : decode cX4_hasSpeed 4 = .ok (.iconst (-1), 1) := by decide +kernel
theorem dX4_hasSpeed_5 : decode cX4_hasSpeed 5 = .ok (.if_icmp .eq 7, 3) := by decide +kernel
theorem dX4_hasSpeed_8 : decode cX4_hasSpeed 8 = .ok (.iconst 1, 1) := by decide +kernel
theorem dX4_hasSpeed_9 : decode cX4_hasSpeed 9 = .ok (.goto 4, 3) := by decide +kernel
theorem dX4_hasSpeed_12 : decode cX4_hasSpeed 12 = .ok (.iconst 0, 1) := by decide +kernel
theorem dX4_hasSpeed_13 : decode cX4_hasSpeed 13 = .ok (.ireturn, 1) := by decide +kernel
set_option maxRecDepth 20000 in
theorem ggX4_begin_X0_become : GoodIn wsX4_begin wsX0_become := goodIn_r _ [8, 9, 10, 11, 12, 13, 14, 15, 16, 7, 17, 23, 24] (by decide +kernel) (by decide +kernel)
set_option maxRecDepth 20000 in
theorem gX4_begin_X0_become : GoodIn wsX4_begin (wsV RX4 32 RX0 yX0_become wsX0_become) := goodIn_app (goodIn_of _ (by decide +kernel)) ggX4_begin_X0_become
theorem dX4_begin_0 : decode cX4_begin 0 = .ok (.aload_n 0, 1) := by decide +kernel
theorem dX4_begin_1 : decode cX4_begin 1 = .ok (.iload_n 1, 1) := by decide +kernel
theorem dX4_begin_2 : decode cX4_begin 2 = .ok (.ifCond .ne 10, 3) := by decide +kernel
theorem dX4_begin_5 : decode cX4_begin 5 = .ok (.aload_n 0, 1) := by decide +kernel
theorem dX4_begin_6 : decode cX4_begin 6 = .ok (.getfield 18, 3) := by decide +kernel
theorem dX4_begin_9 : decode cX4_begin 9 = .ok (.ifCond .eq 7, 3) := by decide +kernel
theorem dX4_begin_12 : decode cX4_begin 12 = .ok (.iconst 0, 1) := by decide +kernel
theorem dX4_begin_13 : decode cX4_begin 13 = .ok (.goto 4, 3) := by decide +kernel
theorem dX4_begin_16 : decode cX4_begin 16 = .ok (.iconst (-1), 1) := by decide +kernel
theorem dX4_begin_17 : decode cX4_begin 17 = .ok (.putfield 22, 3) := by decide +kernel
theorem dX4_begin_20 : decode cX4_begin 20 = .ok (.aload_n 0, 1) := by decide +kernel
theorem dX4_begin_21 : decode cX4_begin 21 = .ok (.getfield 28, 3) := by decide +kernel
theorem dX4_begin_24 : decode cX4_begin 24 = .ok (.iload_n 1, 1) := by decide +kernel
theorem dX4_begin_25 : decode cX4_begin 25 = .ok (.ifCond .eq 8, 3) := by decide +kernel
theorem dX4_begin_28 : decode cX4_begin 28 = .ok (.iload_n 2, 1) := by decide +kernel
theorem dX4_begin_29 : decode cX4_begin 29 = .ok (.i2l, 1) := by decide +kernel
theorem dX4_begin_30 : decode cX4_begin 30 = .ok (.goto 4, 3) := by decide +kernel
theorem dX4_begin_33 : decode cX4_begin 33 = .ok (.lconst 0, 1) := by decide +kernel
theorem dX4_begin_34 : decode cX4_begin 34 = .ok (.lconst 1, 1) := by decide +kernel
theorem dX4_begin_35 : decode cX4_begin 35 = .ok (.invokevirtual 32, 3) := by decide +kernel
theorem dX4_begin_38 : decode cX4_begin 38 = .ok (.return_, 1) := by decide +kernel
set_option maxRecDepth 20000 in
theorem ggX4_learn_X0_become : GoodIn wsX4_learn wsX0_become := goodIn_r _ [9, 10, 11, 12, 13, 14, 15, 16, 17, 8, 18, 24, 25] (by decide +kernel) (by decide +kernel)
set_option maxRecDepth 20000 in
theorem gX4_learn_X0_become : GoodIn wsX4_learn (wsV RX4 32 RX0 yX0_become wsX0_become) := goodIn_app (goodIn_of _ (by decide +kernel)) ggX4_learn_X0_become
theorem dX4_learn_0 : decode cX4_learn 0 = .ok (.aload_n 0, 1) := by decide +kernel
theorem dX4_learn_1 : decode cX4_learn 1 = .ok (.getfield 28, 3) := by decide +kernel
theorem dX4_learn_4 : decode cX4_learn 4 = .ok (.aload_n 1, 1) := by decide +kernel
theorem dX4_learn_5 : decode cX4_learn 5 = .ok (.getfield 36, 3) := by decide +kernel
theorem dX4_learn_8 : decode cX4_learn 8 = .ok (.aload_n 1, 1) := by decide +kernel
theorem dX4_learn_9 : decode cX4_learn 9 = .ok (.getfield 40, 3) := by decide +kernel
theorem dX4_learn_12 : decode cX4_learn 12 = .ok (.invokevirtual 32, 3) := by decide +kernel
theorem dX4_learn_15 : decode cX4_learn 15 = .ok (.aload_n 0, 1) := by decide +kernel
theorem dX4_learn_16 : decode cX4_learn 16 = .ok (.iload_n 2, 1) := by decide +kernel
theorem dX4_learn_17 : decode cX4_learn 17 = .ok (.putfield 22, 3) := by decide +kernel
theorem dX4_learn_20 : decode cX4_learn 20 = .ok (.return_, 1) := by decide +kernel
theorem dX9_init_0 : decode cX9_init 0 = .ok (.aload_n 0, 1) := by decide +kernel
theorem dX9_init_1 : decode cX9_init 1 = .ok (.invokespecial 1, 3) := by decide +kernel
theorem dX9_init_4 : decode cX9_init 4 = .ok (.aload_n 0, 1) := by decide +kernel
theorem dX9_init_5 : decode cX9_init 5 = .ok (.aload_n 1, 1) := by decide +kernel
theorem dX9_init_6 : decode cX9_init 6 = .ok (.putfield 7, 3) := by decide +kernel
theorem dX9_init_9 : decode cX9_init 9 = .ok (.aload_n 0, 1) := by decide +kernel
theorem dX9_init_10 : decode cX9_init 10 = .ok (.iload_n 2, 1) := by decide +kernel
theorem dX9_init_11 : decode cX9_init 11 = .ok (.putfield 13, 3) := by decide +kernel
theorem dX9_init_14 : decode cX9_init 14 = .ok (.return_, 1) := by decide +kernel
set_option maxRecDepth 20000 in
theorem ggX5_init_X0_init : GoodIn wsX5_init wsX0_init := goodIn_r _ [12, 13, 2, 3, 14, 15, 19, 20] (by decide +kernel) (by decide +kernel)
set_option maxRecDepth 20000 in
theorem gX5_init_X0_init : GoodIn wsX5_init (wsX0_init) := ggX5_init_X0_init
theorem dX5_init_0 : decode cX5_init 0 = .ok (.aload_n 0, 1) := by decide +kernel
theorem dX5_init_1 : decode cX5_init 1 = .ok (.invokespecial 3, 3) := by decide +kernel
theorem dX5_init_4 : decode cX5_init 4 = .ok (.aload_n 0, 1) := by decide +kernel
theorem dX5_init_5 : decode cX5_init 5 = .ok (.aload_n 1, 1) := by decide +kernel
theorem dX5_init_6 : decode cX5_init 6 = .ok (.putfield 9, 3) := by decide +kernel
theorem dX5_init_9 : decode cX5_init 9 = .ok (.aload_n 0, 1) := by decide +kernel
theorem dX5_init_10 : decode cX5_init 10 = .ok (.new 15, 3) := by decide +kernel
theorem dX5_init_13 : decode cX5_init 13 = .ok (.dup, 1) := by decide +kernel
theorem dX5_init_14 : decode cX5_init 14 = .ok (.invokespecial 17, 3) := by decide +kernel
theorem dX5_init_17 : decode cX5_init 17 = .ok (.putfield 18, 3) := by decide +kernel
theorem dX5_init_20 : decode cX5_init 20 = .ok (.aload_n 0, 1) := by decide +kernel
theorem dX5_init_21 : decode cX5_init 21 = .ok (.iconst 0, 1) := by decide +kernel
theorem dX5_init_22 : decode cX5_init 22 = .ok (.putfield 22, 3) := by decide +kernel
theorem dX5_init_25 : decode cX5_init 25 = .ok (.return_, 1) := by decide +kernel
set_option maxRecDepth 20000 in
theorem ggX5_tellsOrStepsAside_X5_onlyUnknown : GoodIn wsX5_tellsOrStepsAside wsX5_onlyUnknown := goodIn_r _ [8, 9, 3, 10, 11, 12, 13, 14, 15, 59, 60, 61, 62, 63, 64, 65, 66, 67, 68] (by decide +kernel) (by decide +kernel)
set_option maxRecDepth 20000 in
theorem gX5_tellsOrStepsAside_X5_onlyUnknown : GoodIn wsX5_tellsOrStepsAside (wsV RX5 26 RX5 yX5_onlyUnknown wsX5_onlyUnknown) := goodIn_app (goodIn_of _ (by decide +kernel)) ggX5_tellsOrStepsAside_X5_onlyUnknown
set_option maxRecDepth 20000 in
theorem ggX5_tellsOrStepsAside_X5_ask : GoodIn wsX5_tellsOrStepsAside wsX5_ask := goodIn_r _ [19, 9, 3, 20, 21, 22, 23, 2, 24, 25, 26, 27, 28, 29, 30, 31, 32, 33, 34, 35, 36, 37, 59, 60, 61, 62, 63, 64, 65, 66, 67, 68, 69, 70] (by decide +kernel) (by decide +kernel)
set_option maxRecDepth 20000 in
theorem gX5_tellsOrStepsAside_X5_ask : GoodIn wsX5_tellsOrStepsAside (wsV RX5 30 RX5 yX5_ask wsX5_ask) := goodIn_app (goodIn_of _ (by decide +kernel)) ggX5_tellsOrStepsAside_X5_ask
set_option maxRecDepth 20000 in
theorem ggX5_tellsOrStepsAside_X0_isTooGreat : GoodIn wsX5_tellsOrStepsAside wsX0_isTooGreat := goodIn_r _ [41, 33, 29, 30, 31, 32, 42, 34, 69, 70] (by decide +kernel) (by decide +kernel)
set_option maxRecDepth 20000 in
theorem gX5_tellsOrStepsAside_X0_isTooGreat : GoodIn wsX5_tellsOrStepsAside (wsV RX5 34 RX0 yX0_isTooGreat wsX0_isTooGreat) := goodIn_app (goodIn_of _ (by decide +kernel)) ggX5_tellsOrStepsAside_X0_isTooGreat
set_option maxRecDepth 20000 in
theorem ggX5_tellsOrStepsAside_X5_greatestStage : GoodIn wsX5_tellsOrStepsAside wsX5_greatestStage := goodIn_r _ [46, 9, 3, 47, 48, 49, 31, 50, 59, 60, 61, 62, 63, 64, 65, 66, 67, 68] (by decide +kernel) (by decide +kernel)
set_option maxRecDepth 20000 in
theorem gX5_tellsOrStepsAside_X5_greatestStage : GoodIn wsX5_tellsOrStepsAside (wsV RX5 44 RX5 yX5_greatestStage wsX5_greatestStage) := goodIn_app (goodIn_of _ (by decide +kernel)) ggX5_tellsOrStepsAside_X5_greatestStage
set_option maxRecDepth 20000 in
theorem ggX5_tellsOrStepsAside_X4_learn : GoodIn wsX5_tellsOrStepsAside wsX4_learn := goodIn_r _ [54, 55, 56, 57, 15, 58, 25, 26, 27, 28, 29, 30, 31, 32, 33, 34, 35, 36, 37, 64, 65, 66, 67, 68, 69, 70] (by decide +kernel) (by decide +kernel)
set_option maxRecDepth 20000 in
theorem gX5_tellsOrStepsAside_X4_learn : GoodIn wsX5_tellsOrStepsAside (wsV RX5 48 RX4 yX4_learn wsX4_learn) := goodIn_app (goodIn_of _ (by decide +kernel)) ggX5_tellsOrStepsAside_X4_learn
theorem dX5_tellsOrStepsAside_0 : decode cX5_tellsOrStepsAside 0 = .ok (.aload_n 0, 1) := by decide +kernel
theorem dX5_tellsOrStepsAside_1 : decode cX5_tellsOrStepsAside 1 = .ok (.getfield 22, 3) := by decide +kernel
theorem dX5_tellsOrStepsAside_4 : decode cX5_tellsOrStepsAside 4 = .ok (.ifCond .eq 7, 3) := by decide +kernel
theorem dX5_tellsOrStepsAside_7 : decode cX5_tellsOrStepsAside 7 = .ok (.aconst_null, 1) := by decide +kernel
theorem dX5_tellsOrStepsAside_8 : decode cX5_tellsOrStepsAside 8 = .ok (.goto 7, 3) := by decide +kernel
theorem dX5_tellsOrStepsAside_11 : decode cX5_tellsOrStepsAside 11 = .ok (.aload_n 0, 1) := by decide +kernel
theorem dX5_tellsOrStepsAside_12 : decode cX5_tellsOrStepsAside 12 = .ok (.invokevirtual 26, 3) := by decide +kernel
theorem dX5_tellsOrStepsAside_15 : decode cX5_tellsOrStepsAside 15 = .ok (.astore_n 1, 1) := by decide +kernel
theorem dX5_tellsOrStepsAside_16 : decode cX5_tellsOrStepsAside 16 = .ok (.aload_n 1, 1) := by decide +kernel
theorem dX5_tellsOrStepsAside_17 : decode cX5_tellsOrStepsAside 17 = .ok (.ifnonnull 5, 3) := by decide +kernel
theorem dX5_tellsOrStepsAside_20 : decode cX5_tellsOrStepsAside 20 = .ok (.iconst 0, 1) := by decide +kernel
theorem dX5_tellsOrStepsAside_21 : decode cX5_tellsOrStepsAside 21 = .ok (.ireturn, 1) := by decide +kernel
theorem dX5_tellsOrStepsAside_22 : decode cX5_tellsOrStepsAside 22 = .ok (.aload_n 0, 1) := by decide +kernel
theorem dX5_tellsOrStepsAside_23 : decode cX5_tellsOrStepsAside 23 = .ok (.aload_n 1, 1) := by decide +kernel
theorem dX5_tellsOrStepsAside_24 : decode cX5_tellsOrStepsAside 24 = .ok (.invokevirtual 30, 3) := by decide +kernel
theorem dX5_tellsOrStepsAside_27 : decode cX5_tellsOrStepsAside 27 = .ok (.aload_n 0, 1) := by decide +kernel
theorem dX5_tellsOrStepsAside_28 : decode cX5_tellsOrStepsAside 28 = .ok (.getfield 18, 3) := by decide +kernel
theorem dX5_tellsOrStepsAside_31 : decode cX5_tellsOrStepsAside 31 = .ok (.invokevirtual 34, 3) := by decide +kernel
theorem dX5_tellsOrStepsAside_34 : decode cX5_tellsOrStepsAside 34 = .ok (.ifCond .eq 11, 3) := by decide +kernel
theorem dX5_tellsOrStepsAside_37 : decode cX5_tellsOrStepsAside 37 = .ok (.aload_n 0, 1) := by decide +kernel
theorem dX5_tellsOrStepsAside_38 : decode cX5_tellsOrStepsAside 38 = .ok (.iconst 1, 1) := by decide +kernel
theorem dX5_tellsOrStepsAside_39 : decode cX5_tellsOrStepsAside 39 = .ok (.putfield 22, 3) := by decide +kernel
theorem dX5_tellsOrStepsAside_42 : decode cX5_tellsOrStepsAside 42 = .ok (.goto 20, 3) := by decide +kernel
theorem dX5_tellsOrStepsAside_45 : decode cX5_tellsOrStepsAside 45 = .ok (.aload_n 1, 1) := by decide +kernel
theorem dX5_tellsOrStepsAside_46 : decode cX5_tellsOrStepsAside 46 = .ok (.getfield 38, 3) := by decide +kernel
theorem dX5_tellsOrStepsAside_49 : decode cX5_tellsOrStepsAside 49 = .ok (.aload_n 0, 1) := by decide +kernel
theorem dX5_tellsOrStepsAside_50 : decode cX5_tellsOrStepsAside 50 = .ok (.getfield 18, 3) := by decide +kernel
theorem dX5_tellsOrStepsAside_53 : decode cX5_tellsOrStepsAside 53 = .ok (.iconst 1, 1) := by decide +kernel
theorem dX5_tellsOrStepsAside_54 : decode cX5_tellsOrStepsAside 54 = .ok (.aload_n 0, 1) := by decide +kernel
theorem dX5_tellsOrStepsAside_55 : decode cX5_tellsOrStepsAside 55 = .ok (.invokevirtual 44, 3) := by decide +kernel
theorem dX5_tellsOrStepsAside_58 : decode cX5_tellsOrStepsAside 58 = .ok (.iadd, 1) := by decide +kernel
theorem dX5_tellsOrStepsAside_59 : decode cX5_tellsOrStepsAside 59 = .ok (.invokevirtual 48, 3) := by decide +kernel
theorem dX5_tellsOrStepsAside_62 : decode cX5_tellsOrStepsAside 62 = .ok (.iconst 1, 1) := by decide +kernel
theorem dX5_tellsOrStepsAside_63 : decode cX5_tellsOrStepsAside 63 = .ok (.ireturn, 1) := by decide +kernel
set_option maxRecDepth 20000 in
theorem ggX5_isBroken_X4_hasSpeed : GoodIn wsX5_isBroken wsX4_hasSpeed := goodIn_r _ [9, 10, 42, 43, 44, 45, 46] (by decide +kernel) (by decide +kernel)
set_option maxRecDepth 20000 in
theorem gX5_isBroken_X4_hasSpeed : GoodIn wsX5_isBroken (wsV RX5 54 RX4 yX4_hasSpeed wsX4_hasSpeed) := goodIn_app (goodIn_of _ (by decide +kernel)) ggX5_isBroken_X4_hasSpeed
set_option maxRecDepth 20000 in
theorem ggX5_isBroken_X5_ask : GoodIn wsX5_isBroken wsX5_ask := goodIn_r _ [15, 1, 2, 4, 16, 17, 18, 3, 19, 20, 21, 22, 23, 24, 25, 26, 27, 28, 29, 30, 31, 32, 37, 38, 39, 40, 41, 42, 43, 44, 45, 46, 47, 48] (by decide +kernel) (by decide +kernel)
set_option maxRecDepth 20000 in
theorem gX5_isBroken_X5_ask : GoodIn wsX5_isBroken (wsV RX5 30 RX5 yX5_ask wsX5_ask) := goodIn_app (goodIn_of _ (by decide +kernel)) ggX5_isBroken_X5_ask
set_option maxRecDepth 20000 in
theorem ggX5_isBroken_X0_isSameAs : GoodIn wsX5_isBroken wsX0_isSameAs := goodIn_r _ [36, 28, 29, 47, 48] (by decide +kernel) (by decide +kernel)
set_option maxRecDepth 20000 in
theorem gX5_isBroken_X0_isSameAs : GoodIn wsX5_isBroken (wsV RX5 60 RX0 yX0_isSameAs wsX0_isSameAs) := goodIn_app (goodIn_of _ (by decide +kernel)) ggX5_isBroken_X0_isSameAs
theorem dX5_isBroken_0 : decode cX5_isBroken 0 = .ok (.aconst_null, 1) := by decide +kernel
theorem dX5_isBroken_1 : decode cX5_isBroken 1 = .ok (.astore_n 1, 1) := by decide +kernel
theorem dX5_isBroken_2 : decode cX5_isBroken 2 = .ok (.aload_n 0, 1) := by decide +kernel
theorem dX5_isBroken_3 : decode cX5_isBroken 3 = .ok (.getfield 9, 3) := by decide +kernel
theorem dX5_isBroken_6 : decode cX5_isBroken 6 = .ok (.astore_n 2, 1) := by decide +kernel
theorem dX5_isBroken_7 : decode cX5_isBroken 7 = .ok (.aload_n 2, 1) := by decide +kernel
theorem dX5_isBroken_8 : decode cX5_isBroken 8 = .ok (.arraylength, 1) := by decide +kernel
theorem dX5_isBroken_9 : decode cX5_isBroken 9 = .ok (.istore_n 3, 1) := by decide +kernel
theorem dX5_isBroken_10 : decode cX5_isBroken 10 = .ok (.iconst 0, 1) := by decide +kernel
theorem dX5_isBroken_11 : decode cX5_isBroken 11 = .ok (.istore 4, 2) := by decide +kernel
theorem dX5_isBroken_13 : decode cX5_isBroken 13 = .ok (.iload 4, 2) := by decide +kernel
theorem dX5_isBroken_15 : decode cX5_isBroken 15 = .ok (.iload_n 3, 1) := by decide +kernel
theorem dX5_isBroken_16 : decode cX5_isBroken 16 = .ok (.if_icmp .ge 31, 3) := by decide +kernel
theorem dX5_isBroken_19 : decode cX5_isBroken 19 = .ok (.aload_n 2, 1) := by decide +kernel
theorem dX5_isBroken_20 : decode cX5_isBroken 20 = .ok (.iload 4, 2) := by decide +kernel
theorem dX5_isBroken_22 : decode cX5_isBroken 22 = .ok (.aaload, 1) := by decide +kernel
theorem dX5_isBroken_23 : decode cX5_isBroken 23 = .ok (.astore 5, 2) := by decide +kernel
theorem dX5_isBroken_25 : decode cX5_isBroken 25 = .ok (.aload 5, 2) := by decide +kernel
theorem dX5_isBroken_27 : decode cX5_isBroken 27 = .ok (.getfield 38, 3) := by decide +kernel
theorem dX5_isBroken_30 : decode cX5_isBroken 30 = .ok (.invokevirtual 54, 3) := by decide +kernel
theorem dX5_isBroken_33 : decode cX5_isBroken 33 = .ok (.ifCond .ne 5, 3) := by decide +kernel
theorem dX5_isBroken_36 : decode cX5_isBroken 36 = .ok (.iconst 0, 1) := by decide +kernel
theorem dX5_isBroken_37 : decode cX5_isBroken 37 = .ok (.ireturn, 1) := by decide +kernel
theorem dX5_isBroken_38 : decode cX5_isBroken 38 = .ok (.aload 5, 2) := by decide +kernel
theorem dX5_isBroken_40 : decode cX5_isBroken 40 = .ok (.astore_n 1, 1) := by decide +kernel
theorem dX5_isBroken_41 : decode cX5_isBroken 41 = .ok (.iinc 4 1, 3) := by decide +kernel
theorem dX5_isBroken_44 : decode cX5_isBroken 44 = .ok (.goto (-31), 3) := by decide +kernel
theorem dX5_isBroken_47 : decode cX5_isBroken 47 = .ok (.aload_n 1, 1) := by decide +kernel
theorem dX5_isBroken_48 : decode cX5_isBroken 48 = .ok (.ifnonnull 5, 3) := by decide +kernel
theorem dX5_isBroken_51 : decode cX5_isBroken 51 = .ok (.iconst 0, 1) := by decide +kernel
theorem dX5_isBroken_52 : decode cX5_isBroken 52 = .ok (.ireturn, 1) := by decide +kernel
theorem dX5_isBroken_53 : decode cX5_isBroken 53 = .ok (.aload_n 0, 1) := by decide +kernel
theorem dX5_isBroken_54 : decode cX5_isBroken 54 = .ok (.aload_n 1, 1) := by decide +kernel
theorem dX5_isBroken_55 : decode cX5_isBroken 55 = .ok (.invokevirtual 30, 3) := by decide +kernel
theorem dX5_isBroken_58 : decode cX5_isBroken 58 = .ok (.aload_n 0, 1) := by decide +kernel
theorem dX5_isBroken_59 : decode cX5_isBroken 59 = .ok (.getfield 18, 3) := by decide +kernel
theorem dX5_isBroken_62 : decode cX5_isBroken 62 = .ok (.aload_n 1, 1) := by decide +kernel
theorem dX5_isBroken_63 : decode cX5_isBroken 63 = .ok (.getfield 38, 3) := by decide +kernel
theorem dX5_isBroken_66 : decode cX5_isBroken 66 = .ok (.getfield 57, 3) := by decide +kernel
theorem dX5_isBroken_69 : decode cX5_isBroken 69 = .ok (.invokevirtual 60, 3) := by decide +kernel
theorem dX5_isBroken_72 : decode cX5_isBroken 72 = .ok (.ifCond .ne 7, 3) := by decide +kernel
theorem dX5_isBroken_75 : decode cX5_isBroken 75 = .ok (.iconst 1, 1) := by decide +kernel
theorem dX5_isBroken_76 : decode cX5_isBroken 76 = .ok (.goto 4, 3) := by decide +kernel
theorem dX5_isBroken_79 : decode cX5_isBroken 79 = .ok (.iconst 0, 1) := by decide +kernel
theorem dX5_isBroken_80 : decode cX5_isBroken 80 = .ok (.ireturn, 1) := by decide +kernel
set_option maxRecDepth 20000 in
theorem ggX5_onlyUnknown_X4_hasSpeed : GoodIn wsX5_onlyUnknown wsX4_hasSpeed := goodIn_r _ [7, 8, 14, 15, 16, 17, 18] (by decide +kernel) (by decide +kernel)
set_option maxRecDepth 20000 in
theorem gX5_onlyUnknown_X4_hasSpeed : GoodIn wsX5_onlyUnknown (wsV RX5 54 RX4 yX4_hasSpeed wsX4_hasSpeed) := goodIn_app (goodIn_of _ (by decide +kernel)) ggX5_onlyUnknown_X4_hasSpeed
theorem dX5_onlyUnknown_0 : decode cX5_onlyUnknown 0 = .ok (.aconst_null, 1) := by decide +kernel
theorem dX5_onlyUnknown_1 : decode cX5_onlyUnknown 1 = .ok (.astore_n 1, 1) := by decide +kernel
theorem dX5_onlyUnknown_2 : decode cX5_onlyUnknown 2 = .ok (.aload_n 0, 1) := by decide +kernel
theorem dX5_onlyUnknown_3 : decode cX5_onlyUnknown 3 = .ok (.getfield 9, 3) := by decide +kernel
theorem dX5_onlyUnknown_6 : decode cX5_onlyUnknown 6 = .ok (.astore_n 2, 1) := by decide +kernel
theorem dX5_onlyUnknown_7 : decode cX5_onlyUnknown 7 = .ok (.aload_n 2, 1) := by decide +kernel
theorem dX5_onlyUnknown_8 : decode cX5_onlyUnknown 8 = .ok (.arraylength, 1) := by decide +kernel
theorem dX5_onlyUnknown_9 : decode cX5_onlyUnknown 9 = .ok (.istore_n 3, 1) := by decide +kernel
theorem dX5_onlyUnknown_10 : decode cX5_onlyUnknown 10 = .ok (.iconst 0, 1) := by decide +kernel
theorem dX5_onlyUnknown_11 : decode cX5_onlyUnknown 11 = .ok (.istore 4, 2) := by decide +kernel
theorem dX5_onlyUnknown_13 : decode cX5_onlyUnknown 13 = .ok (.iload 4, 2) := by decide +kernel
theorem dX5_onlyUnknown_15 : decode cX5_onlyUnknown 15 = .ok (.iload_n 3, 1) := by decide +kernel
theorem dX5_onlyUnknown_16 : decode cX5_onlyUnknown 16 = .ok (.if_icmp .ge 35, 3) := by decide +kernel
theorem dX5_onlyUnknown_19 : decode cX5_onlyUnknown 19 = .ok (.aload_n 2, 1) := by decide +kernel
theorem dX5_onlyUnknown_20 : decode cX5_onlyUnknown 20 = .ok (.iload 4, 2) := by decide +kernel
theorem dX5_onlyUnknown_22 : decode cX5_onlyUnknown 22 = .ok (.aaload, 1) := by decide +kernel
theorem dX5_onlyUnknown_23 : decode cX5_onlyUnknown 23 = .ok (.astore 5, 2) := by decide +kernel
theorem dX5_onlyUnknown_25 : decode cX5_onlyUnknown 25 = .ok (.aload 5, 2) := by decide +kernel
theorem dX5_onlyUnknown_27 : decode cX5_onlyUnknown 27 = .ok (.getfield 38, 3) := by decide +kernel
theorem dX5_onlyUnknown_30 : decode cX5_onlyUnknown 30 = .ok (.invokevirtual 54, 3) := by decide +kernel
theorem dX5_onlyUnknown_33 : decode cX5_onlyUnknown 33 = .ok (.ifCond .ne 12, 3) := by decide +kernel
theorem dX5_onlyUnknown_36 : decode cX5_onlyUnknown 36 = .ok (.aload_n 1, 1) := by decide +kernel
theorem dX5_onlyUnknown_37 : decode cX5_onlyUnknown 37 = .ok (.ifnull 5, 3) := by decide +kernel
theorem dX5_onlyUnknown_40 : decode cX5_onlyUnknown 40 = .ok (.aconst_null, 1) := by decide +kernel
theorem dX5_onlyUnknown_41 : decode cX5_onlyUnknown 41 = .ok (.areturn, 1) := by decide +kernel
theorem dX5_onlyUnknown_42 : decode cX5_onlyUnknown 42 = .ok (.aload 5, 2) := by decide +kernel
theorem dX5_onlyUnknown_44 : decode cX5_onlyUnknown 44 = .ok (.astore_n 1, 1) := by decide +kernel
theorem dX5_onlyUnknown_45 : decode cX5_onlyUnknown 45 = .ok (.iinc 4 1, 3) := by decide +kernel
theorem dX5_onlyUnknown_48 : decode cX5_onlyUnknown 48 = .ok (.goto (-35), 3) := by decide +kernel
theorem dX5_onlyUnknown_51 : decode cX5_onlyUnknown 51 = .ok (.aload_n 1, 1) := by decide +kernel
theorem dX5_onlyUnknown_52 : decode cX5_onlyUnknown 52 = .ok (.areturn, 1) := by decide +kernel
theorem dX5_greatestStage_0 : decode cX5_greatestStage 0 = .ok (.iconst (-1), 1) := by decide +kernel
theorem dX5_greatestStage_1 : decode cX5_greatestStage 1 = .ok (.istore_n 1, 1) := by decide +kernel
theorem dX5_greatestStage_2 : decode cX5_greatestStage 2 = .ok (.aload_n 0, 1) := by decide +kernel
theorem dX5_greatestStage_3 : decode cX5_greatestStage 3 = .ok (.getfield 9, 3) := by decide +kernel
theorem dX5_greatestStage_6 : decode cX5_greatestStage 6 = .ok (.astore_n 2, 1) := by decide +kernel
theorem dX5_greatestStage_7 : decode cX5_greatestStage 7 = .ok (.aload_n 2, 1) := by decide +kernel
theorem dX5_greatestStage_8 : decode cX5_greatestStage 8 = .ok (.arraylength, 1) := by decide +kernel
theorem dX5_greatestStage_9 : decode cX5_greatestStage 9 = .ok (.istore_n 3, 1) := by decide +kernel
theorem dX5_greatestStage_10 : decode cX5_greatestStage 10 = .ok (.iconst 0, 1) := by decide +kernel
theorem dX5_greatestStage_11 : decode cX5_greatestStage 11 = .ok (.istore 4, 2) := by decide +kernel
theorem dX5_greatestStage_13 : decode cX5_greatestStage 13 = .ok (.iload 4, 2) := by decide +kernel
theorem dX5_greatestStage_15 : decode cX5_greatestStage 15 = .ok (.iload_n 3, 1) := by decide +kernel
theorem dX5_greatestStage_16 : decode cX5_greatestStage 16 = .ok (.if_icmp .ge 28, 3) := by decide +kernel
theorem dX5_greatestStage_19 : decode cX5_greatestStage 19 = .ok (.aload_n 2, 1) := by decide +kernel
theorem dX5_greatestStage_20 : decode cX5_greatestStage 20 = .ok (.iload 4, 2) := by decide +kernel
theorem dX5_greatestStage_22 : decode cX5_greatestStage 22 = .ok (.aaload, 1) := by decide +kernel
theorem dX5_greatestStage_23 : decode cX5_greatestStage 23 = .ok (.astore 5, 2) := by decide +kernel
theorem dX5_greatestStage_25 : decode cX5_greatestStage 25 = .ok (.iload_n 1, 1) := by decide +kernel
theorem dX5_greatestStage_26 : decode cX5_greatestStage 26 = .ok (.aload 5, 2) := by decide +kernel
theorem dX5_greatestStage_28 : decode cX5_greatestStage 28 = .ok (.getfield 38, 3) := by decide +kernel
theorem dX5_greatestStage_31 : decode cX5_greatestStage 31 = .ok (.getfield 64, 3) := by decide +kernel
theorem dX5_greatestStage_34 : decode cX5_greatestStage 34 = .ok (.invokestatic 68, 3) := by decide +kernel
theorem dX5_greatestStage_37 : decode cX5_greatestStage 37 = .ok (.istore_n 1, 1) := by decide +kernel
theorem dX5_greatestStage_38 : decode cX5_greatestStage 38 = .ok (.iinc 4 1, 3) := by decide +kernel
theorem dX5_greatestStage_41 : decode cX5_greatestStage 41 = .ok (.goto (-28), 3) := by decide +kernel
theorem dX5_greatestStage_44 : decode cX5_greatestStage 44 = .ok (.iload_n 1, 1) := by decide +kernel
theorem dX5_greatestStage_45 : decode cX5_greatestStage 45 = .ok (.ireturn, 1) := by decide +kernel
set_option maxRecDepth 20000 in
theorem ggX5_ask_X0_become : GoodIn wsX5_ask wsX0_become := goodIn_r _ [12, 13, 14, 15, 16, 17, 18, 19, 20, 11, 21, 32, 33] (by decide +kernel) (by decide +kernel)
set_option maxRecDepth 20000 in
theorem gX5_ask_X0_become : GoodIn wsX5_ask (wsV RX5 84 RX0 yX0_become wsX0_become) := goodIn_app (goodIn_of _ (by decide +kernel)) ggX5_ask_X0_become
theorem dX5_ask_0 : decode cX5_ask 0 = .ok (.lconst 0, 1) := by decide +kernel
theorem dX5_ask_1 : decode cX5_ask 1 = .ok (.lstore_n 2, 1) := by decide +kernel
theorem dX5_ask_2 : decode cX5_ask 2 = .ok (.lconst 1, 1) := by decide +kernel
theorem dX5_ask_3 : decode cX5_ask 3 = .ok (.lstore 4, 2) := by decide +kernel
theorem dX5_ask_5 : decode cX5_ask 5 = .ok (.aload_n 0, 1) := by decide +kernel
theorem dX5_ask_6 : decode cX5_ask 6 = .ok (.getfield 9, 3) := by decide +kernel
theorem dX5_ask_9 : decode cX5_ask 9 = .ok (.astore 6, 2) := by decide +kernel
theorem dX5_ask_11 : decode cX5_ask 11 = .ok (.aload 6, 2) := by decide +kernel
theorem dX5_ask_13 : decode cX5_ask 13 = .ok (.arraylength, 1) := by decide +kernel
theorem dX5_ask_14 : decode cX5_ask 14 = .ok (.istore 7, 2) := by decide +kernel
theorem dX5_ask_16 : decode cX5_ask 16 = .ok (.iconst 0, 1) := by decide +kernel
theorem dX5_ask_17 : decode cX5_ask 17 = .ok (.istore 8, 2) := by decide +kernel
theorem dX5_ask_19 : decode cX5_ask 19 = .ok (.iload 8, 2) := by decide +kernel
theorem dX5_ask_21 : decode cX5_ask 21 = .ok (.iload 7, 2) := by decide +kernel
theorem dX5_ask_23 : decode cX5_ask 23 = .ok (.if_icmp .ge 66, 3) := by decide +kernel
theorem dX5_ask_26 : decode cX5_ask 26 = .ok (.aload 6, 2) := by decide +kernel
theorem dX5_ask_28 : decode cX5_ask 28 = .ok (.iload 8, 2) := by decide +kernel
theorem dX5_ask_30 : decode cX5_ask 30 = .ok (.aaload, 1) := by decide +kernel
theorem dX5_ask_31 : decode cX5_ask 31 = .ok (.astore 9, 2) := by decide +kernel
theorem dX5_ask_33 : decode cX5_ask 33 = .ok (.aload 9, 2) := by decide +kernel
theorem dX5_ask_35 : decode cX5_ask 35 = .ok (.aload_n 1, 1) := by decide +kernel
theorem dX5_ask_36 : decode cX5_ask 36 = .ok (.if_acmp .eq 47, 3) := by decide +kernel
theorem dX5_ask_39 : decode cX5_ask 39 = .ok (.aload 9, 2) := by decide +kernel
theorem dX5_ask_41 : decode cX5_ask 41 = .ok (.getfield 38, 3) := by decide +kernel
theorem dX5_ask_44 : decode cX5_ask 44 = .ok (.getfield 57, 3) := by decide +kernel
theorem dX5_ask_47 : decode cX5_ask 47 = .ok (.astore 10, 2) := by decide +kernel
theorem dX5_ask_49 : decode cX5_ask 49 = .ok (.lload_n 2, 1) := by decide +kernel
theorem dX5_ask_50 : decode cX5_ask 50 = .ok (.aload 10, 2) := by decide +kernel
theorem dX5_ask_52 : decode cX5_ask 52 = .ok (.getfield 74, 3) := by decide +kernel
theorem dX5_ask_55 : decode cX5_ask 55 = .ok (.lmul, 1) := by decide +kernel
theorem dX5_ask_56 : decode cX5_ask 56 = .ok (.aload 9, 2) := by decide +kernel
theorem dX5_ask_58 : decode cX5_ask 58 = .ok (.getfield 78, 3) := by decide +kernel
theorem dX5_ask_61 : decode cX5_ask 61 = .ok (.i2l, 1) := by decide +kernel
theorem dX5_ask_62 : decode cX5_ask 62 = .ok (.aload 10, 2) := by decide +kernel
theorem dX5_ask_64 : decode cX5_ask 64 = .ok (.getfield 81, 3) := by decide +kernel
theorem dX5_ask_67 : decode cX5_ask 67 = .ok (.lmul, 1) := by decide +kernel
theorem dX5_ask_68 : decode cX5_ask 68 = .ok (.lload 4, 2) := by decide +kernel
theorem dX5_ask_70 : decode cX5_ask 70 = .ok (.lmul, 1) := by decide +kernel
theorem dX5_ask_71 : decode cX5_ask 71 = .ok (.ladd, 1) := by decide +kernel
theorem dX5_ask_72 : decode cX5_ask 72 = .ok (.lstore_n 2, 1) := by decide +kernel
theorem dX5_ask_73 : decode cX5_ask 73 = .ok (.lload 4, 2) := by decide +kernel
theorem dX5_ask_75 : decode cX5_ask 75 = .ok (.aload 10, 2) := by decide +kernel
theorem dX5_ask_77 : decode cX5_ask 77 = .ok (.getfield 74, 3) := by decide +kernel
theorem dX5_ask_80 : decode cX5_ask 80 = .ok (.lmul, 1) := by decide +kernel
theorem dX5_ask_81 : decode cX5_ask 81 = .ok (.lstore 4, 2) := by decide +kernel
theorem dX5_ask_83 : decode cX5_ask 83 = .ok (.iinc 8 1, 3) := by decide +kernel
theorem dX5_ask_86 : decode cX5_ask 86 = .ok (.goto (-67), 3) := by decide +kernel
theorem dX5_ask_89 : decode cX5_ask 89 = .ok (.aload_n 0, 1) := by decide +kernel
theorem dX5_ask_90 : decode cX5_ask 90 = .ok (.getfield 18, 3) := by decide +kernel
theorem dX5_ask_93 : decode cX5_ask 93 = .ok (.lload_n 2, 1) := by decide +kernel
theorem dX5_ask_94 : decode cX5_ask 94 = .ok (.lneg, 1) := by decide +kernel
theorem dX5_ask_95 : decode cX5_ask 95 = .ok (.aload_n 1, 1) := by decide +kernel
theorem dX5_ask_96 : decode cX5_ask 96 = .ok (.getfield 78, 3) := by decide +kernel
theorem dX5_ask_99 : decode cX5_ask 99 = .ok (.i2l, 1) := by decide +kernel
theorem dX5_ask_100 : decode cX5_ask 100 = .ok (.lload 4, 2) := by decide +kernel
theorem dX5_ask_102 : decode cX5_ask 102 = .ok (.lmul, 1) := by decide +kernel
theorem dX5_ask_103 : decode cX5_ask 103 = .ok (.invokevirtual 84, 3) := by decide +kernel
theorem dX5_ask_106 : decode cX5_ask 106 = .ok (.return_, 1) := by decide +kernel
set_option maxRecDepth 20000 in
theorem ggX6_init_Jx4a65c_init_da8c8 : GoodIn wsX6_init wsJx4a65c_init_da8c8 := goodIn_r _ [15, 16, 17, 18, 19, 20, 21, 22, 23, 24, 25, 26, 27, 2, 3, 28, 29, 30] (by decide +kernel) (by decide +kernel)
set_option maxRecDepth 20000 in
theorem gX6_init_Jx4a65c_init_da8c8 : GoodIn wsX6_init (wsJx4a65c_init_da8c8) := ggX6_init_Jx4a65c_init_da8c8
theorem dX6_init_0 : decode cX6_init 0 = .ok (.aload_n 0, 1) := by decide +kernel
theorem dX6_init_1 : decode cX6_init 1 = .ok (.invokespecial 3, 3) := by decide +kernel
theorem dX6_init_4 : decode cX6_init 4 = .ok (.aload_n 0, 1) := by decide +kernel
theorem dX6_init_5 : decode cX6_init 5 = .ok (.new 9, 3) := by decide +kernel
theorem dX6_init_8 : decode cX6_init 8 = .ok (.dup, 1) := by decide +kernel
theorem dX6_init_9 : decode cX6_init 9 = .ok (.invokespecial 11, 3) := by decide +kernel
theorem dX6_init_12 : decode cX6_init 12 = .ok (.putfield 12, 3) := by decide +kernel
theorem dX6_init_15 : decode cX6_init 15 = .ok (.aload_n 0, 1) := by decide +kernel
theorem dX6_init_16 : decode cX6_init 16 = .ok (.new 9, 3) := by decide +kernel
theorem dX6_init_19 : decode cX6_init 19 = .ok (.dup, 1) := by decide +kernel
theorem dX6_init_20 : decode cX6_init 20 = .ok (.invokespecial 11, 3) := by decide +kernel
theorem dX6_init_23 : decode cX6_init 23 = .ok (.putfield 16, 3) := by decide +kernel
theorem dX6_init_26 : decode cX6_init 26 = .ok (.aload_n 0, 1) := by decide +kernel
theorem dX6_init_27 : decode cX6_init 27 = .ok (.new 9, 3) := by decide +kernel
theorem dX6_init_30 : decode cX6_init 30 = .ok (.dup, 1) := by decide +kernel
theorem dX6_init_31 : decode cX6_init 31 = .ok (.invokespecial 11, 3) := by decide +kernel
theorem dX6_init_34 : decode cX6_init 34 = .ok (.putfield 19, 3) := by decide +kernel
theorem dX6_init_37 : decode cX6_init 37 = .ok (.aload_n 0, 1) := by decide +kernel
theorem dX6_init_38 : decode cX6_init 38 = .ok (.new 9, 3) := by decide +kernel
theorem dX6_init_41 : decode cX6_init 41 = .ok (.dup, 1) := by decide +kernel
theorem dX6_init_42 : decode cX6_init 42 = .ok (.invokespecial 11, 3) := by decide +kernel
theorem dX6_init_45 : decode cX6_init 45 = .ok (.putfield 22, 3) := by decide +kernel
theorem dX6_init_48 : decode cX6_init 48 = .ok (.aload_n 0, 1) := by decide +kernel
theorem dX6_init_49 : decode cX6_init 49 = .ok (.iconst (-1), 1) := by decide +kernel
theorem dX6_init_50 : decode cX6_init 50 = .ok (.putfield 25, 3) := by decide +kernel
theorem dX6_init_53 : decode cX6_init 53 = .ok (.aload_n 0, 1) := by decide +kernel
theorem dX6_init_54 : decode cX6_init 54 = .ok (.iconst 0, 1) := by decide +kernel
theorem dX6_init_55 : decode cX6_init 55 = .ok (.putfield 29, 3) := by decide +kernel
theorem dX6_init_58 : decode cX6_init 58 = .ok (.return_, 1) := by decide +kernel
set_option maxRecDepth 20000 in
theorem ggX6_addShaft_X6_requirePlace : GoodIn wsX6_addShaft wsX6_requirePlace := goodIn_ca (goodIn_r _ [10, 11, 12, 13, 14, 9, 15] (by decide +kernel) (by decide +kernel)) (goodIn_sub (fun _ h => List.mem_cons_of_mem _ (List.mem_append_right _ h)) (by decide +kernel))
set_option maxRecDepth 20000 in
theorem gX6_addShaft_X6_requirePlace : GoodIn wsX6_addShaft (va_wsS RX6 32 yX6_requirePlace wsX6_requirePlace) := goodIn_app (goodIn_of _ (by decide +kernel)) ggX6_addShaft_X6_requirePlace
set_option maxRecDepth 20000 in
theorem ggX6_addShaft_Jx4a65c_size_8abf5 : GoodIn wsX6_addShaft wsJx4a65c_size_8abf5 := goodIn_r _ [20, 21, 107, 108, 109] (by decide +kernel) (by decide +kernel)
set_option maxRecDepth 20000 in
theorem gX6_addShaft_Jx4a65c_size_8abf5 : GoodIn wsX6_addShaft (wsV RX6 36 RJx4a65c yJx4a65c_size_8abf5 wsJx4a65c_size_8abf5) := goodIn_app (goodIn_of _ (by decide +kernel)) ggX6_addShaft_Jx4a65c_size_8abf5
set_option maxRecDepth 20000 in
theorem ggX6_addShaft_X4_init : GoodIn wsX6_addShaft wsX4_init := goodIn_r _ [24, 25, 26, 27, 28, 29, 30, 31, 32, 33, 34, 35, 36, 37, 38, 39, 40, 41, 102, 103, 104, 105, 106, 110, 111] (by decide +kernel) (by decide +kernel)
set_option maxRecDepth 20000 in
theorem gX6_addShaft_X4_init : GoodIn wsX6_addShaft (wsX4_init) := ggX6_addShaft_X4_init
set_option maxRecDepth 20000 in
theorem ggX6_addShaft_Jx4a65c_add_9ea2d : GoodIn wsX6_addShaft wsJx4a65c_add_9ea2d := goodIn_r _ [45, 46, 47, 48, 21, 49, 50, 51, 19, 52, 53, 54, 55, 56, 57, 58, 59, 60, 61, 62, 63, 64, 65, 66, 67, 68, 69, 70, 71, 72, 73, 74, 75, 76, 77, 78, 79, 80, 81, 82, 83, 84, 85, 86, 87, 88, 89, 90, 91, 92, 93, 94, 95, 107, 108, 109] (by decide +kernel) (by decide +kernel)
set_option maxRecDepth 20000 in
theorem gX6_addShaft_Jx4a65c_add_9ea2d : GoodIn wsX6_addShaft (wsV RX6 51 RJx4a65c yJx4a65c_add_9ea2d wsJx4a65c_add_9ea2d) := goodIn_app (goodIn_of _ (by decide +kernel)) ggX6_addShaft_Jx4a65c_add_9ea2d
theorem dX6_addShaft_0 : decode cX6_addShaft 0 = .ok (.iload_n 1, 1) := by decide +kernel
theorem dX6_addShaft_1 : decode cX6_addShaft 1 = .ok (.iload_n 2, 1) := by decide +kernel
theorem dX6_addShaft_2 : decode cX6_addShaft 2 = .ok (.invokestatic 32, 3) := by decide +kernel
theorem dX6_addShaft_5 : decode cX6_addShaft 5 = .ok (.aload_n 0, 1) := by decide +kernel
theorem dX6_addShaft_6 : decode cX6_addShaft 6 = .ok (.getfield 12, 3) := by decide +kernel
theorem dX6_addShaft_9 : decode cX6_addShaft 9 = .ok (.invokevirtual 36, 3) := by decide +kernel
theorem dX6_addShaft_12 : decode cX6_addShaft 12 = .ok (.bipush 10, 2) := by decide +kernel
theorem dX6_addShaft_14 : decode cX6_addShaft 14 = .ok (.if_icmp .lt 13, 3) := by decide +kernel
theorem dX6_addShaft_17 : decode cX6_addShaft 17 = .ok (.new 40, 3) := by decide +kernel
theorem dX6_addShaft_20 : decode cX6_addShaft 20 = .ok (.dup, 1) := by decide +kernel
theorem dX6_addShaft_21 : decode cX6_addShaft 21 = .ok (.ldc 42, 2) := by decide +kernel
theorem dX6_addShaft_23 : decode cX6_addShaft 23 = .ok (.invokespecial 44, 3) := by decide +kernel
theorem dX6_addShaft_26 : decode cX6_addShaft 26 = .ok (.athrow, 1) := by decide +kernel
theorem dX6_addShaft_27 : decode cX6_addShaft 27 = .ok (.aload_n 0, 1) := by decide +kernel
theorem dX6_addShaft_28 : decode cX6_addShaft 28 = .ok (.getfield 12, 3) := by decide +kernel
theorem dX6_addShaft_31 : decode cX6_addShaft 31 = .ok (.new 47, 3) := by decide +kernel
theorem dX6_addShaft_34 : decode cX6_addShaft 34 = .ok (.dup, 1) := by decide +kernel
theorem dX6_addShaft_35 : decode cX6_addShaft 35 = .ok (.iload_n 1, 1) := by decide +kernel
theorem dX6_addShaft_36 : decode cX6_addShaft 36 = .ok (.iload_n 2, 1) := by decide +kernel
theorem dX6_addShaft_37 : decode cX6_addShaft 37 = .ok (.invokespecial 49, 3) := by decide +kernel
theorem dX6_addShaft_40 : decode cX6_addShaft 40 = .ok (.invokevirtual 51, 3) := by decide +kernel
theorem dX6_addShaft_43 : decode cX6_addShaft 43 = .ok (.pop, 1) := by decide +kernel
theorem dX6_addShaft_44 : decode cX6_addShaft 44 = .ok (.aload_n 0, 1) := by decide +kernel
theorem dX6_addShaft_45 : decode cX6_addShaft 45 = .ok (.getfield 12, 3) := by decide +kernel
theorem dX6_addShaft_48 : decode cX6_addShaft 48 = .ok (.invokevirtual 36, 3) := by decide +kernel
theorem dX6_addShaft_51 : decode cX6_addShaft 51 = .ok (.iconst 1, 1) := by decide +kernel
theorem dX6_addShaft_52 : decode cX6_addShaft 52 = .ok (.isub, 1) := by decide +kernel
theorem dX6_addShaft_53 : decode cX6_addShaft 53 = .ok (.ireturn, 1) := by decide +kernel
set_option maxRecDepth 20000 in
theorem ggX6_addGear_X6_requireShaft : GoodIn wsX6_addGear wsX6_requireShaft := goodIn_ca (goodIn_r _ [15, 16, 17, 9, 18, 19, 20, 21, 22, 23, 24, 25, 14, 26, 108, 109, 110, 111, 112, 113, 119, 120, 121] (by decide +kernel) (by decide +kernel)) (goodIn_sub (fun _ h => List.mem_cons_of_mem _ (List.mem_append_right _ h)) (by decide +kernel))
set_option maxRecDepth 20000 in
theorem gX6_addGear_X6_requireShaft : GoodIn wsX6_addGear (wsV RX6 55 RX6 yX6_requireShaft wsX6_requireShaft) := goodIn_app (goodIn_of _ (by decide +kernel)) ggX6_addGear_X6_requireShaft
set_option maxRecDepth 20000 in
theorem ggX6_addGear_X6_isWithin : GoodIn wsX6_addGear wsX6_isWithin := goodIn_r _ [26] (by decide +kernel) (by decide +kernel)
set_option maxRecDepth 20000 in
theorem gX6_addGear_X6_isWithin : GoodIn wsX6_addGear (va_wsS RX6 73 yX6_isWithin wsX6_isWithin) := goodIn_app (goodIn_of _ (by decide +kernel)) ggX6_addGear_X6_isWithin
set_option maxRecDepth 20000 in
theorem ggX6_addGear_Jx4a65c_size_8abf5 : GoodIn wsX6_addGear wsJx4a65c_size_8abf5 := goodIn_r _ [22, 23, 119, 120, 121] (by decide +kernel) (by decide +kernel)
set_option maxRecDepth 20000 in
theorem gX6_addGear_Jx4a65c_size_8abf5 : GoodIn wsX6_addGear (wsV RX6 36 RJx4a65c yJx4a65c_size_8abf5 wsJx4a65c_size_8abf5) := goodIn_app (goodIn_of _ (by decide +kernel)) ggX6_addGear_Jx4a65c_size_8abf5
set_option maxRecDepth 20000 in
theorem ggX6_addGear_Jx4a65c_get_915e3 : GoodIn wsX6_addGear wsJx4a65c_get_915e3 := goodIn_r _ [30, 23, 31, 32, 33, 34, 35, 36, 37, 38, 39, 40, 41, 21, 42, 43, 119, 120, 121] (by decide +kernel) (by decide +kernel)
set_option maxRecDepth 20000 in
theorem gX6_addGear_Jx4a65c_get_915e3 : GoodIn wsX6_addGear (wsV RX6 59 RJx4a65c yJx4a65c_get_915e3 wsJx4a65c_get_915e3) := goodIn_app (goodIn_of _ (by decide +kernel)) ggX6_addGear_Jx4a65c_get_915e3
set_option maxRecDepth 20000 in
theorem ggX6_addGear_X1_init : GoodIn wsX6_addGear wsX1_init := goodIn_r _ [46, 47, 48, 49, 50, 51, 52, 53, 54, 114, 115, 116, 117, 118] (by decide +kernel) (by decide +kernel)
set_option maxRecDepth 20000 in
theorem gX6_addGear_X1_init : GoodIn wsX6_addGear (wsX1_init) := ggX6_addGear_X1_init
set_option maxRecDepth 20000 in
theorem ggX6_addGear_Jx4a65c_add_9ea2d : GoodIn wsX6_addGear wsJx4a65c_add_9ea2d := goodIn_r _ [58, 59, 60, 43, 23, 61, 62, 63, 21, 64, 65, 66, 67, 68, 69, 70, 71, 72, 73, 74, 75, 76, 77, 78, 79, 80, 81, 82, 83, 84, 85, 86, 87, 88, 89, 90, 91, 92, 93, 94, 95, 96, 97, 98, 99, 100, 101, 102, 103, 104, 105, 106, 107, 119, 120, 121] (by decide +kernel) (by decide +kernel)
set_option maxRecDepth 20000 in
theorem gX6_addGear_Jx4a65c_add_9ea2d : GoodIn wsX6_addGear (wsV RX6 51 RJx4a65c yJx4a65c_add_9ea2d wsJx4a65c_add_9ea2d) := goodIn_app (goodIn_of _ (by decide +kernel)) ggX6_addGear_Jx4a65c_add_9ea2d
theorem dX6_addGear_0 : decode cX6_addGear 0 = .ok (.aload_n 0, 1) := by decide +kernel
theorem dX6_addGear_1 : decode cX6_addGear 1 = .ok (.iload_n 1, 1) := by decide +kernel
theorem dX6_addGear_2 : decode cX6_addGear 2 = .ok (.invokevirtual 55, 3) := by decide +kernel
theorem dX6_addGear_5 : decode cX6_addGear 5 = .ok (.iload_n 2, 1) := by decide +kernel
theorem dX6_addGear_6 : decode cX6_addGear 6 = .ok (.bipush 8, 2) := by decide +kernel
theorem dX6_addGear_8 : decode cX6_addGear 8 = .ok (.sipush 200, 3) := by decide +kernel
theorem dX6_addGear_11 : decode cX6_addGear 11 = .ok (.invokestatic 73, 3) := by decide +kernel
theorem dX6_addGear_14 : decode cX6_addGear 14 = .ok (.ifCond .eq 23, 3) := by decide +kernel
theorem dX6_addGear_17 : decode cX6_addGear 17 = .ok (.iload_n 3, 1) := by decide +kernel
theorem dX6_addGear_18 : decode cX6_addGear 18 = .ok (.iconst 1, 1) := by decide +kernel
theorem dX6_addGear_19 : decode cX6_addGear 19 = .ok (.bipush 10, 2) := by decide +kernel
theorem dX6_addGear_21 : decode cX6_addGear 21 = .ok (.invokestatic 73, 3) := by decide +kernel
theorem dX6_addGear_24 : decode cX6_addGear 24 = .ok (.ifCond .eq 13, 3) := by decide +kernel
theorem dX6_addGear_27 : decode cX6_addGear 27 = .ok (.iload 4, 2) := by decide +kernel
theorem dX6_addGear_29 : decode cX6_addGear 29 = .ok (.iconst 0, 1) := by decide +kernel
theorem dX6_addGear_30 : decode cX6_addGear 30 = .ok (.iconst 5, 1) := by decide +kernel
theorem dX6_addGear_31 : decode cX6_addGear 31 = .ok (.invokestatic 73, 3) := by decide +kernel
theorem dX6_addGear_34 : decode cX6_addGear 34 = .ok (.ifCond .ne 13, 3) := by decide +kernel
theorem dX6_addGear_37 : decode cX6_addGear 37 = .ok (.new 77, 3) := by decide +kernel
theorem dX6_addGear_40 : decode cX6_addGear 40 = .ok (.dup, 1) := by decide +kernel
theorem dX6_addGear_41 : decode cX6_addGear 41 = .ok (.ldc 79, 2) := by decide +kernel
theorem dX6_addGear_43 : decode cX6_addGear 43 = .ok (.invokespecial 81, 3) := by decide +kernel
theorem dX6_addGear_46 : decode cX6_addGear 46 = .ok (.athrow, 1) := by decide +kernel
theorem dX6_addGear_47 : decode cX6_addGear 47 = .ok (.aload_n 0, 1) := by decide +kernel
theorem dX6_addGear_48 : decode cX6_addGear 48 = .ok (.getfield 16, 3) := by decide +kernel
theorem dX6_addGear_51 : decode cX6_addGear 51 = .ok (.invokevirtual 36, 3) := by decide +kernel
theorem dX6_addGear_54 : decode cX6_addGear 54 = .ok (.bipush 16, 2) := by decide +kernel
theorem dX6_addGear_56 : decode cX6_addGear 56 = .ok (.if_icmp .lt 13, 3) := by decide +kernel
theorem dX6_addGear_59 : decode cX6_addGear 59 = .ok (.new 40, 3) := by decide +kernel
theorem dX6_addGear_62 : decode cX6_addGear 62 = .ok (.dup, 1) := by decide +kernel
theorem dX6_addGear_63 : decode cX6_addGear 63 = .ok (.ldc 82, 2) := by decide +kernel
theorem dX6_addGear_65 : decode cX6_addGear 65 = .ok (.invokespecial 44, 3) := by decide +kernel
theorem dX6_addGear_68 : decode cX6_addGear 68 = .ok (.athrow, 1) := by decide +kernel
theorem dX6_addGear_69 : decode cX6_addGear 69 = .ok (.aload_n 0, 1) := by decide +kernel
theorem dX6_addGear_70 : decode cX6_addGear 70 = .ok (.getfield 16, 3) := by decide +kernel
