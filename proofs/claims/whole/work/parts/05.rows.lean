theorem dX0_init_0 : decode cX0_init 0 = .ok (.aload_n 0, 1) := by decide +kernel
theorem dX0_init_1 : decode cX0_init 1 = .ok (.invokespecial 3, 3) := by decide +kernel
theorem dX0_init_4 : decode cX0_init 4 = .ok (.aload_n 0, 1) := by decide +kernel
theorem dX0_init_5 : decode cX0_init 5 = .ok (.lconst 0, 1) := by decide +kernel
theorem dX0_init_6 : decode cX0_init 6 = .ok (.putfield 9, 3) := by decide +kernel
theorem dX0_init_9 : decode cX0_init 9 = .ok (.aload_n 0, 1) := by decide +kernel
theorem dX0_init_10 : decode cX0_init 10 = .ok (.lconst 1, 1) := by decide +kernel
theorem dX0_init_11 : decode cX0_init 11 = .ok (.putfield 15, 3) := by decide +kernel
theorem dX0_init_14 : decode cX0_init 14 = .ok (.return_, 1) := by decide +kernel
set_option maxRecDepth 20000 in
theorem ggX0_become_X0_commonDivisor : GoodIn wsX0_become wsX0_commonDivisor := goodIn_r _ [10] (by decide +kernel) (by decide +kernel)
set_option maxRecDepth 20000 in
theorem gX0_become_X0_commonDivisor : GoodIn wsX0_become (va_wsS RX0 24 yX0_commonDivisor wsX0_commonDivisor) := goodIn_app (goodIn_of _ (by decide +kernel)) ggX0_become_X0_commonDivisor
theorem dX0_become_0 : decode cX0_become 0 = .ok (.lload_n 1, 1) := by decide +kernel
theorem dX0_become_1 : decode cX0_become 1 = .ok (.invokestatic 18, 3) := by decide +kernel
theorem dX0_become_4 : decode cX0_become 4 = .ok (.lload_n 3, 1) := by decide +kernel
theorem dX0_become_5 : decode cX0_become 5 = .ok (.invokestatic 18, 3) := by decide +kernel
theorem dX0_become_8 : decode cX0_become 8 = .ok (.invokestatic 24, 3) := by decide +kernel
theorem dX0_become_11 : decode cX0_become 11 = .ok (.lstore 5, 2) := by decide +kernel
theorem dX0_become_13 : decode cX0_become 13 = .ok (.lload_n 3, 1) := by decide +kernel
theorem dX0_become_14 : decode cX0_become 14 = .ok (.lconst 0, 1) := by decide +kernel
theorem dX0_become_15 : decode cX0_become 15 = .ok (.lcmp, 1) := by decide +kernel
theorem dX0_become_16 : decode cX0_become 16 = .ok (.ifCond .ge 9, 3) := by decide +kernel
theorem dX0_become_19 : decode cX0_become 19 = .ok (.lload 5, 2) := by decide +kernel
theorem dX0_become_21 : decode cX0_become 21 = .ok (.lneg, 1) := by decide +kernel
theorem dX0_become_22 : decode cX0_become 22 = .ok (.goto 5, 3) := by decide +kernel
theorem dX0_become_25 : decode cX0_become 25 = .ok (.lload 5, 2) := by decide +kernel
theorem dX0_become_27 : decode cX0_become 27 = .ok (.lstore 7, 2) := by decide +kernel
theorem dX0_become_29 : decode cX0_become 29 = .ok (.lload 7, 2) := by decide +kernel
theorem dX0_become_31 : decode cX0_become 31 = .ok (.lconst 0, 1) := by decide +kernel
theorem dX0_become_32 : decode cX0_become 32 = .ok (.lcmp, 1) := by decide +kernel
theorem dX0_become_33 : decode cX0_become 33 = .ok (.ifCond .eq 19, 3) := by decide +kernel
theorem dX0_become_36 : decode cX0_become 36 = .ok (.aload_n 0, 1) := by decide +kernel
theorem dX0_become_37 : decode cX0_become 37 = .ok (.lload_n 1, 1) := by decide +kernel
theorem dX0_become_38 : decode cX0_become 38 = .ok (.lload 7, 2) := by decide +kernel
theorem dX0_become_40 : decode cX0_become 40 = .ok (.ldiv, 1) := by decide +kernel
theorem dX0_become_41 : decode cX0_become 41 = .ok (.putfield 9, 3) := by decide +kernel
theorem dX0_become_44 : decode cX0_become 44 = .ok (.aload_n 0, 1) := by decide +kernel
theorem dX0_become_45 : decode cX0_become 45 = .ok (.lload_n 3, 1) := by decide +kernel
theorem dX0_become_46 : decode cX0_become 46 = .ok (.lload 7, 2) := by decide +kernel
theorem dX0_become_48 : decode cX0_become 48 = .ok (.ldiv, 1) := by decide +kernel
theorem dX0_become_49 : decode cX0_become 49 = .ok (.putfield 15, 3) := by decide +kernel
theorem dX0_become_52 : decode cX0_become 52 = .ok (.return_, 1) := by decide +kernel
theorem dX0_isSameAs_0 : decode cX0_isSameAs 0 = .ok (.aload_n 0, 1) := by decide +kernel
theorem dX0_isSameAs_1 : decode cX0_isSameAs 1 = .ok (.getfield 9, 3) := by decide +kernel
theorem dX0_isSameAs_4 : decode cX0_isSameAs 4 = .ok (.aload_n 1, 1) := by decide +kernel
theorem dX0_isSameAs_5 : decode cX0_isSameAs 5 = .ok (.getfield 9, 3) := by decide +kernel
theorem dX0_isSameAs_8 : decode cX0_isSameAs 8 = .ok (.lcmp, 1) := by decide +kernel
theorem dX0_isSameAs_9 : decode cX0_isSameAs 9 = .ok (.ifCond .ne 19, 3) := by decide +kernel
theorem dX0_isSameAs_12 : decode cX0_isSameAs 12 = .ok (.aload_n 0, 1) := by decide +kernel
theorem dX0_isSameAs_13 : decode cX0_isSameAs 13 = .ok (.getfield 15, 3) := by decide +kernel
theorem dX0_isSameAs_16 : decode cX0_isSameAs 16 = .ok (.aload_n 1, 1) := by decide +kernel
theorem dX0_isSameAs_17 : decode cX0_isSameAs 17 = .ok (.getfield 15, 3) := by decide +kernel
theorem dX0_isSameAs_20 : decode cX0_isSameAs 20 = .ok (.lcmp, 1) := by decide +kernel
theorem dX0_isSameAs_21 : decode cX0_isSameAs 21 = .ok (.ifCond .ne 7, 3) := by decide +kernel
theorem dX0_isSameAs_24 : decode cX0_isSameAs 24 = .ok (.iconst 1, 1) := by decide +kernel
theorem dX0_isSameAs_25 : decode cX0_isSameAs 25 = .ok (.goto 4, 3) := by decide +kernel
theorem dX0_isSameAs_28 : decode cX0_isSameAs 28 = .ok (.iconst 0, 1) := by decide +kernel
theorem dX0_isSameAs_29 : decode cX0_isSameAs 29 = .ok (.ireturn, 1) := by decide +kernel
theorem dX0_isTooGreat_0 : decode cX0_isTooGreat 0 = .ok (.aload_n 0, 1) := by decide +kernel
theorem dX0_isTooGreat_1 : decode cX0_isTooGreat 1 = .ok (.getfield 9, 3) := by decide +kernel
theorem dX0_isTooGreat_4 : decode cX0_isTooGreat 4 = .ok (.invokestatic 18, 3) := by decide +kernel
theorem dX0_isTooGreat_7 : decode cX0_isTooGreat 7 = .ok (.ldc2_w 28, 3) := by decide +kernel
theorem dX0_isTooGreat_10 : decode cX0_isTooGreat 10 = .ok (.lcmp, 1) := by decide +kernel
theorem dX0_isTooGreat_11 : decode cX0_isTooGreat 11 = .ok (.ifCond .gt 14, 3) := by decide +kernel
theorem dX0_isTooGreat_14 : decode cX0_isTooGreat 14 = .ok (.aload_n 0, 1) := by decide +kernel
theorem dX0_isTooGreat_15 : decode cX0_isTooGreat 15 = .ok (.getfield 15, 3) := by decide +kernel
theorem dX0_isTooGreat_18 : decode cX0_isTooGreat 18 = .ok (.ldc2_w 28, 3) := by decide +kernel
theorem dX0_isTooGreat_21 : decode cX0_isTooGreat 21 = .ok (.lcmp, 1) := by decide +kernel
theorem dX0_isTooGreat_22 : decode cX0_isTooGreat 22 = .ok (.ifCond .le 7, 3) := by decide +kernel
theorem dX0_isTooGreat_25 : decode cX0_isTooGreat 25 = .ok (.iconst 1, 1) := by decide +kernel
theorem dX0_isTooGreat_26 : decode cX0_isTooGreat 26 = .ok (.goto 4, 3) := by decide +kernel
theorem dX0_isTooGreat_29 : decode cX0_isTooGreat 29 = .ok (.iconst 0, 1) := by decide +kernel
theorem dX0_isTooGreat_30 : decode cX0_isTooGreat 30 = .ok (.ireturn, 1) := by decide +kernel
theorem dX0_asDouble_0 : decode cX0_asDouble 0 = .ok (.aload_n 0, 1) := by decide +kernel
theorem dX0_asDouble_1 : decode cX0_asDouble 1 = .ok (.getfield 9, 3) := by decide +kernel
theorem dX0_asDouble_4 : decode cX0_asDouble 4 = .ok (.l2d, 1) := by decide +kernel
theorem dX0_asDouble_5 : decode cX0_asDouble 5 = .ok (.aload_n 0, 1) := by decide +kernel
theorem dX0_asDouble_6 : decode cX0_asDouble 6 = .ok (.getfield 15, 3) := by decide +kernel
theorem dX0_asDouble_9 : decode cX0_asDouble 9 = .ok (.l2d, 1) := by decide +kernel
theorem dX0_asDouble_10 : decode cX0_asDouble 10 = .ok (.ddiv, 1) := by decide +kernel
theorem dX0_asDouble_11 : decode cX0_asDouble 11 = .ok (.dreturn, 1) := by decide +kernel
theorem dX0_commonDivisor_0 : decode cX0_commonDivisor 0 = .ok (.lload_n 0, 1) := by decide +kernel
theorem dX0_commonDivisor_1 : decode cX0_commonDivisor 1 = .ok (.lstore 4, 2) := by decide +kernel
theorem dX0_commonDivisor_3 : decode cX0_commonDivisor 3 = .ok (.lload_n 2, 1) := by decide +kernel
theorem dX0_commonDivisor_4 : decode cX0_commonDivisor 4 = .ok (.lstore 6, 2) := by decide +kernel
theorem dX0_commonDivisor_6 : decode cX0_commonDivisor 6 = .ok (.iconst 0, 1) := by decide +kernel
theorem dX0_commonDivisor_7 : decode cX0_commonDivisor 7 = .ok (.istore 8, 2) := by decide +kernel
theorem dX0_commonDivisor_9 : decode cX0_commonDivisor 9 = .ok (.lload 6, 2) := by decide +kernel
theorem dX0_commonDivisor_11 : decode cX0_commonDivisor 11 = .ok (.lconst 0, 1) := by decide +kernel
theorem dX0_commonDivisor_12 : decode cX0_commonDivisor 12 = .ok (.lcmp, 1) := by decide +kernel
theorem dX0_commonDivisor_13 : decode cX0_commonDivisor 13 = .ok (.ifCond .eq 31, 3) := by decide +kernel
theorem dX0_commonDivisor_16 : decode cX0_commonDivisor 16 = .ok (.iload 8, 2) := by decide +kernel
theorem dX0_commonDivisor_18 : decode cX0_commonDivisor 18 = .ok (.bipush 100, 2) := by decide +kernel
theorem dX0_commonDivisor_20 : decode cX0_commonDivisor 20 = .ok (.if_icmp .ge 24, 3) := by decide +kernel
theorem dX0_commonDivisor_23 : decode cX0_commonDivisor 23 = .ok (.lload 4, 2) := by decide +kernel
theorem dX0_commonDivisor_25 : decode cX0_commonDivisor 25 = .ok (.lload 6, 2) := by decide +kernel
theorem dX0_commonDivisor_27 : decode cX0_commonDivisor 27 = .ok (.lrem, 1) := by decide +kernel
theorem dX0_commonDivisor_28 : decode cX0_commonDivisor 28 = .ok (.lstore 9, 2) := by decide +kernel
theorem dX0_commonDivisor_30 : decode cX0_commonDivisor 30 = .ok (.lload 6, 2) := by decide +kernel
theorem dX0_commonDivisor_32 : decode cX0_commonDivisor 32 = .ok (.lstore 4, 2) := by decide +kernel
theorem dX0_commonDivisor_34 : decode cX0_commonDivisor 34 = .ok (.lload 9, 2) := by decide +kernel
theorem dX0_commonDivisor_36 : decode cX0_commonDivisor 36 = .ok (.lstore 6, 2) := by decide +kernel
theorem dX0_commonDivisor_38 : decode cX0_commonDivisor 38 = .ok (.iinc 8 1, 3) := by decide +kernel
theorem dX0_commonDivisor_41 : decode cX0_commonDivisor 41 = .ok (.goto (-32), 3) := by decide +kernel
theorem dX0_commonDivisor_44 : decode cX0_commonDivisor 44 = .ok (.lload 4, 2) := by decide +kernel
theorem dX0_commonDivisor_46 : decode cX0_commonDivisor 46 = .ok (.lreturn, 1) := by decide +kernel
theorem dX1_init_0 : decode cX1_init 0 = .ok (.aload_n 0, 1) := by decide +kernel
theorem dX1_init_1 : decode cX1_init 1 = .ok (.invokespecial 1, 3) := by decide +kernel
theorem dX1_init_4 : decode cX1_init 4 = .ok (.aload_n 0, 1) := by decide +kernel
theorem dX1_init_5 : decode cX1_init 5 = .ok (.aload_n 1, 1) := by decide +kernel
theorem dX1_init_6 : decode cX1_init 6 = .ok (.putfield 7, 3) := by decide +kernel
theorem dX1_init_9 : decode cX1_init 9 = .ok (.aload_n 0, 1) := by decide +kernel
theorem dX1_init_10 : decode cX1_init 10 = .ok (.iload_n 2, 1) := by decide +kernel
theorem dX1_init_11 : decode cX1_init 11 = .ok (.putfield 13, 3) := by decide +kernel
theorem dX1_init_14 : decode cX1_init 14 = .ok (.aload_n 0, 1) := by decide +kernel
theorem dX1_init_15 : decode cX1_init 15 = .ok (.iload_n 3, 1) := by decide +kernel
theorem dX1_init_16 : decode cX1_init 16 = .ok (.putfield 17, 3) := by decide +kernel
theorem dX1_init_19 : decode cX1_init 19 = .ok (.aload_n 0, 1) := by decide +kernel
theorem dX1_init_20 : decode cX1_init 20 = .ok (.iload 4, 2) := by decide +kernel
theorem dX1_init_22 : decode cX1_init 22 = .ok (.putfield 20, 3) := by decide +kernel
theorem dX1_init_25 : decode cX1_init 25 = .ok (.aload_n 0, 1) := by decide +kernel
theorem dX1_init_26 : decode cX1_init 26 = .ok (.iload 5, 2) := by decide +kernel
theorem dX1_init_28 : decode cX1_init 28 = .ok (.putfield 23, 3) := by decide +kernel
theorem dX1_init_31 : decode cX1_init 31 = .ok (.return_, 1) := by decide +kernel
theorem dX1_suits_0 : decode cX1_suits 0 = .ok (.aload_n 0, 1) := by decide +kernel
theorem dX1_suits_1 : decode cX1_suits 1 = .ok (.getfield 7, 3) := by decide +kernel
theorem dX1_suits_4 : decode cX1_suits 4 = .ok (.aload_n 1, 1) := by decide +kernel
theorem dX1_suits_5 : decode cX1_suits 5 = .ok (.getfield 7, 3) := by decide +kernel
theorem dX1_suits_8 : decode cX1_suits 8 = .ok (.if_acmp .eq 25, 3) := by decide +kernel
theorem dX1_suits_11 : decode cX1_suits 11 = .ok (.aload_n 0, 1) := by decide +kernel
theorem dX1_suits_12 : decode cX1_suits 12 = .ok (.getfield 20, 3) := by decide +kernel
theorem dX1_suits_15 : decode cX1_suits 15 = .ok (.aload_n 1, 1) := by decide +kernel
theorem dX1_suits_16 : decode cX1_suits 16 = .ok (.getfield 20, 3) := by decide +kernel
theorem dX1_suits_19 : decode cX1_suits 19 = .ok (.if_icmp .ne 14, 3) := by decide +kernel
theorem dX1_suits_22 : decode cX1_suits 22 = .ok (.aload_n 0, 1) := by decide +kernel
theorem dX1_suits_23 : decode cX1_suits 23 = .ok (.getfield 17, 3) := by decide +kernel
theorem dX1_suits_26 : decode cX1_suits 26 = .ok (.aload_n 1, 1) := by decide +kernel
theorem dX1_suits_27 : decode cX1_suits 27 = .ok (.getfield 17, 3) := by decide +kernel
theorem dX1_suits_30 : decode cX1_suits 30 = .ok (.if_icmp .eq 5, 3) := by decide +kernel
theorem dX1_suits_33 : decode cX1_suits 33 = .ok (.iconst 0, 1) := by decide +kernel
theorem dX1_suits_34 : decode cX1_suits 34 = .ok (.ireturn, 1) := by decide +kernel
theorem dX1_suits_35 : decode cX1_suits 35 = .ok (.aload_n 0, 1) := by decide +kernel
theorem dX1_suits_36 : decode cX1_suits 36 = .ok (.getfield 23, 3) := by decide +kernel
theorem dX1_suits_39 : decode cX1_suits 39 = .ok (.ifCond .eq 27, 3) := by decide +kernel
theorem dX1_suits_42 : decode cX1_suits 42 = .ok (.aload_n 1, 1) := by decide +kernel
theorem dX1_suits_43 : decode cX1_suits 43 = .ok (.getfield 23, 3) := by decide +kernel
theorem dX1_suits_46 : decode cX1_suits 46 = .ok (.ifCond .ne 18, 3) := by decide +kernel
theorem dX1_suits_49 : decode cX1_suits 49 = .ok (.aload_n 0, 1) := by decide +kernel
theorem dX1_suits_50 : decode cX1_suits 50 = .ok (.getfield 13, 3) := by decide +kernel
theorem dX1_suits_53 : decode cX1_suits 53 = .ok (.aload_n 1, 1) := by decide +kernel
theorem dX1_suits_54 : decode cX1_suits 54 = .ok (.getfield 13, 3) := by decide +kernel
theorem dX1_suits_57 : decode cX1_suits 57 = .ok (.if_icmp .le 7, 3) := by decide +kernel
theorem dX1_suits_60 : decode cX1_suits 60 = .ok (.iconst 1, 1) := by decide +kernel
theorem dX1_suits_61 : decode cX1_suits 61 = .ok (.goto 4, 3) := by decide +kernel
theorem dX1_suits_64 : decode cX1_suits 64 = .ok (.iconst 0, 1) := by decide +kernel
theorem dX1_suits_65 : decode cX1_suits 65 = .ok (.ireturn, 1) := by decide +kernel
theorem dX1_suits_66 : decode cX1_suits 66 = .ok (.aload_n 1, 1) := by decide +kernel
theorem dX1_suits_67 : decode cX1_suits 67 = .ok (.getfield 23, 3) := by decide +kernel
theorem dX1_suits_70 : decode cX1_suits 70 = .ok (.ifCond .eq 14, 3) := by decide +kernel
theorem dX1_suits_73 : decode cX1_suits 73 = .ok (.aload_n 1, 1) := by decide +kernel
theorem dX1_suits_74 : decode cX1_suits 74 = .ok (.getfield 13, 3) := by decide +kernel
theorem dX1_suits_77 : decode cX1_suits 77 = .ok (.aload_n 0, 1) := by decide +kernel
theorem dX1_suits_78 : decode cX1_suits 78 = .ok (.getfield 13, 3) := by decide +kernel
theorem dX1_suits_81 : decode cX1_suits 81 = .ok (.if_icmp .le 7, 3) := by decide +kernel
theorem dX1_suits_84 : decode cX1_suits 84 = .ok (.iconst 1, 1) := by decide +kernel
theorem dX1_suits_85 : decode cX1_suits 85 = .ok (.goto 4, 3) := by decide +kernel
theorem dX1_suits_88 : decode cX1_suits 88 = .ok (.iconst 0, 1) := by decide +kernel
theorem dX1_suits_89 : decode cX1_suits 89 = .ok (.ireturn, 1) := by decide +kernel
set_option maxRecDepth 20000 in
theorem ggX1_overlaps_X1_size : GoodIn wsX1_overlaps wsX1_size := goodIn_r _ [9, 10, 11, 12, 20, 21, 22, 23, 24] (by decide +kernel) (by decide +kernel)
set_option maxRecDepth 20000 in
theorem gX1_overlaps_X1_size : GoodIn wsX1_overlaps (wsV RX1 27 RX1 yX1_size wsX1_size) := goodIn_app (goodIn_of _ (by decide +kernel)) ggX1_overlaps_X1_size
set_option maxRecDepth 20000 in
theorem ggX1_overlaps_X4_squareTo : GoodIn wsX1_overlaps wsX4_squareTo := goodIn_r _ [17, 18, 19, 25, 26, 27, 28, 29] (by decide +kernel) (by decide +kernel)
set_option maxRecDepth 20000 in
theorem gX1_overlaps_X4_squareTo : GoodIn wsX1_overlaps (wsV RX1 39 RX4 yX4_squareTo wsX4_squareTo) := goodIn_app (goodIn_of _ (by decide +kernel)) ggX1_overlaps_X4_squareTo
theorem dX1_overlaps_0 : decode cX1_overlaps 0 = .ok (.aload_n 0, 1) := by decide +kernel
theorem dX1_overlaps_1 : decode cX1_overlaps 1 = .ok (.getfield 7, 3) := by decide +kernel
theorem dX1_overlaps_4 : decode cX1_overlaps 4 = .ok (.aload_n 1, 1) := by decide +kernel
theorem dX1_overlaps_5 : decode cX1_overlaps 5 = .ok (.getfield 7, 3) := by decide +kernel
theorem dX1_overlaps_8 : decode cX1_overlaps 8 = .ok (.if_acmp .eq 14, 3) := by decide +kernel
theorem dX1_overlaps_11 : decode cX1_overlaps 11 = .ok (.aload_n 0, 1) := by decide +kernel
theorem dX1_overlaps_12 : decode cX1_overlaps 12 = .ok (.getfield 20, 3) := by decide +kernel
theorem dX1_overlaps_15 : decode cX1_overlaps 15 = .ok (.aload_n 1, 1) := by decide +kernel
theorem dX1_overlaps_16 : decode cX1_overlaps 16 = .ok (.getfield 20, 3) := by decide +kernel
theorem dX1_overlaps_19 : decode cX1_overlaps 19 = .ok (.if_icmp .eq 5, 3) := by decide +kernel
theorem dX1_overlaps_22 : decode cX1_overlaps 22 = .ok (.iconst 0, 1) := by decide +kernel
theorem dX1_overlaps_23 : decode cX1_overlaps 23 = .ok (.ireturn, 1) := by decide +kernel
theorem dX1_overlaps_24 : decode cX1_overlaps 24 = .ok (.aload_n 0, 1) := by decide +kernel
theorem dX1_overlaps_25 : decode cX1_overlaps 25 = .ok (.invokevirtual 27, 3) := by decide +kernel
theorem dX1_overlaps_28 : decode cX1_overlaps 28 = .ok (.aload_n 1, 1) := by decide +kernel
theorem dX1_overlaps_29 : decode cX1_overlaps 29 = .ok (.invokevirtual 27, 3) := by decide +kernel
theorem dX1_overlaps_32 : decode cX1_overlaps 32 = .ok (.iadd, 1) := by decide +kernel
theorem dX1_overlaps_33 : decode cX1_overlaps 33 = .ok (.istore_n 2, 1) := by decide +kernel
theorem dX1_overlaps_34 : decode cX1_overlaps 34 = .ok (.aload_n 0, 1) := by decide +kernel
theorem dX1_overlaps_35 : decode cX1_overlaps 35 = .ok (.getfield 7, 3) := by decide +kernel
theorem dX1_overlaps_38 : decode cX1_overlaps 38 = .ok (.aload_n 1, 1) := by decide +kernel
theorem dX1_overlaps_39 : decode cX1_overlaps 39 = .ok (.getfield 7, 3) := by decide +kernel
theorem dX1_overlaps_42 : decode cX1_overlaps 42 = .ok (.getfield 31, 3) := by decide +kernel
theorem dX1_overlaps_45 : decode cX1_overlaps 45 = .ok (.aload_n 1, 1) := by decide +kernel
theorem dX1_overlaps_46 : decode cX1_overlaps 46 = .ok (.getfield 7, 3) := by decide +kernel
theorem dX1_overlaps_49 : decode cX1_overlaps 49 = .ok (.getfield 36, 3) := by decide +kernel
theorem dX1_overlaps_52 : decode cX1_overlaps 52 = .ok (.invokevirtual 39, 3) := by decide +kernel
theorem dX1_overlaps_55 : decode cX1_overlaps 55 = .ok (.iload_n 2, 1) := by decide +kernel
theorem dX1_overlaps_56 : decode cX1_overlaps 56 = .ok (.iload_n 2, 1) := by decide +kernel
theorem dX1_overlaps_57 : decode cX1_overlaps 57 = .ok (.imul, 1) := by decide +kernel
theorem dX1_overlaps_58 : decode cX1_overlaps 58 = .ok (.if_icmp .ge 7, 3) := by decide +kernel
theorem dX1_overlaps_61 : decode cX1_overlaps 61 = .ok (.iconst 1, 1) := by decide +kernel
theorem dX1_overlaps_62 : decode cX1_overlaps 62 = .ok (.goto 4, 3) := by decide +kernel
theorem dX1_overlaps_65 : decode cX1_overlaps 65 = .ok (.iconst 0, 1) := by decide +kernel
theorem dX1_overlaps_66 : decode cX1_overlaps 66 = .ok (.ireturn, 1) := by decide +kernel
theorem dX1_size_0 : decode cX1_size 0 = .ok (.aload_n 0, 1) := by decide +kernel
theorem dX1_size_1 : decode cX1_size 1 = .ok (.getfield 17, 3) := by decide +kernel
theorem dX1_size_4 : decode cX1_size 4 = .ok (.aload_n 0, 1) := by decide +kernel
theorem dX1_size_5 : decode cX1_size 5 = .ok (.getfield 13, 3) := by decide +kernel
theorem dX1_size_8 : decode cX1_size 8 = .ok (.aload_n 0, 1) := by decide +kernel
theorem dX1_size_9 : decode cX1_size 9 = .ok (.getfield 23, 3) := by decide +kernel
theorem dX1_size_12 : decode cX1_size 12 = .ok (.ifCond .eq 8, 3) := by decide +kernel
theorem dX1_size_15 : decode cX1_size 15 = .ok (.bipush 6, 2) := by decide +kernel
theorem dX1_size_17 : decode cX1_size 17 = .ok (.goto 4, 3) := by decide +kernel
theorem dX1_size_20 : decode cX1_size 20 = .ok (.iconst 2, 1) := by decide +kernel
theorem dX1_size_21 : decode cX1_size 21 = .ok (.iadd, 1) := by decide +kernel
theorem dX1_size_22 : decode cX1_size 22 = .ok (.imul, 1) := by decide +kernel
theorem dX1_size_23 : decode cX1_size 23 = .ok (.ireturn, 1) := by decide +kernel
set_option maxRecDepth 20000 in
theorem ggX2_init_X9_init : GoodIn wsX2_init wsX9_init := goodIn_r _ [18, 19, 2, 3, 20, 21, 49, 50] (by decide +kernel) (by decide +kernel)
set_option maxRecDepth 20000 in
theorem gX2_init_X9_init : GoodIn wsX2_init (wsX9_init) := ggX2_init_X9_init
set_option maxRecDepth 20000 in
theorem ggX2_init_X5_init : GoodIn wsX2_init wsX5_init := goodIn_r _ [24, 25, 2, 3, 26, 27, 28, 29, 30, 31, 32, 33, 34, 35, 36, 37, 46, 47, 48, 51, 52] (by decide +kernel) (by decide +kernel)
set_option maxRecDepth 20000 in
theorem gX2_init_X5_init : GoodIn wsX2_init (wsX5_init) := ggX2_init_X5_init
theorem dX2_init_0 : decode cX2_init 0 = .ok (.aload_n 0, 1) := by decide +kernel
theorem dX2_init_1 : decode cX2_init 1 = .ok (.invokespecial 1, 3) := by decide +kernel
theorem dX2_init_4 : decode cX2_init 4 = .ok (.aload_n 0, 1) := by decide +kernel
theorem dX2_init_5 : decode cX2_init 5 = .ok (.aload_n 1, 1) := by decide +kernel
theorem dX2_init_6 : decode cX2_init 6 = .ok (.putfield 7, 3) := by decide +kernel
theorem dX2_init_9 : decode cX2_init 9 = .ok (.aload_n 0, 1) := by decide +kernel
theorem dX2_init_10 : decode cX2_init 10 = .ok (.aload_n 2, 1) := by decide +kernel
theorem dX2_init_11 : decode cX2_init 11 = .ok (.putfield 13, 3) := by decide +kernel
theorem dX2_init_14 : decode cX2_init 14 = .ok (.aload_n 1, 1) := by decide +kernel
theorem dX2_init_15 : decode cX2_init 15 = .ok (.getfield 16, 3) := by decide +kernel
theorem dX2_init_18 : decode cX2_init 18 = .ok (.ifCond .ne 10, 3) := by decide +kernel
theorem dX2_init_21 : decode cX2_init 21 = .ok (.aload_n 2, 1) := by decide +kernel
theorem dX2_init_22 : decode cX2_init 22 = .ok (.getfield 16, 3) := by decide +kernel
theorem dX2_init_25 : decode cX2_init 25 = .ok (.ifCond .eq 11, 3) := by decide +kernel
theorem dX2_init_28 : decode cX2_init 28 = .ok (.aload_n 2, 1) := by decide +kernel
theorem dX2_init_29 : decode cX2_init 29 = .ok (.getfield 22, 3) := by decide +kernel
theorem dX2_init_32 : decode cX2_init 32 = .ok (.ineg, 1) := by decide +kernel
theorem dX2_init_33 : decode cX2_init 33 = .ok (.goto 7, 3) := by decide +kernel
theorem dX2_init_36 : decode cX2_init 36 = .ok (.aload_n 2, 1) := by decide +kernel
theorem dX2_init_37 : decode cX2_init 37 = .ok (.getfield 22, 3) := by decide +kernel
theorem dX2_init_40 : decode cX2_init 40 = .ok (.istore_n 3, 1) := by decide +kernel
theorem dX2_init_41 : decode cX2_init 41 = .ok (.aload_n 0, 1) := by decide +kernel
theorem dX2_init_42 : decode cX2_init 42 = .ok (.new 26, 3) := by decide +kernel
theorem dX2_init_45 : decode cX2_init 45 = .ok (.dup, 1) := by decide +kernel
theorem dX2_init_46 : decode cX2_init 46 = .ok (.iconst 2, 1) := by decide +kernel
theorem dX2_init_47 : decode cX2_init 47 = .ok (.anewarray 28, 3) := by decide +kernel
theorem dX2_init_50 : decode cX2_init 50 = .ok (.dup, 1) := by decide +kernel
theorem dX2_init_51 : decode cX2_init 51 = .ok (.iconst 0, 1) := by decide +kernel
theorem dX2_init_52 : decode cX2_init 52 = .ok (.new 28, 3) := by decide +kernel
theorem dX2_init_55 : decode cX2_init 55 = .ok (.dup, 1) := by decide +kernel
theorem dX2_init_56 : decode cX2_init 56 = .ok (.aload_n 1, 1) := by decide +kernel
theorem dX2_init_57 : decode cX2_init 57 = .ok (.getfield 30, 3) := by decide +kernel
theorem dX2_init_60 : decode cX2_init 60 = .ok (.aload_n 1, 1) := by decide +kernel
theorem dX2_init_61 : decode cX2_init 61 = .ok (.getfield 22, 3) := by decide +kernel
theorem dX2_init_64 : decode cX2_init 64 = .ok (.invokespecial 34, 3) := by decide +kernel
theorem dX2_init_67 : decode cX2_init 67 = .ok (.aastore, 1) := by decide +kernel
theorem dX2_init_68 : decode cX2_init 68 = .ok (.dup, 1) := by decide +kernel
theorem dX2_init_69 : decode cX2_init 69 = .ok (.iconst 1, 1) := by decide +kernel
theorem dX2_init_70 : decode cX2_init 70 = .ok (.new 28, 3) := by decide +kernel
theorem dX2_init_73 : decode cX2_init 73 = .ok (.dup, 1) := by decide +kernel
theorem dX2_init_74 : decode cX2_init 74 = .ok (.aload_n 2, 1) := by decide +kernel
theorem dX2_init_75 : decode cX2_init 75 = .ok (.getfield 30, 3) := by decide +kernel
theorem dX2_init_78 : decode cX2_init 78 = .ok (.iload_n 3, 1) := by decide +kernel
theorem dX2_init_79 : decode cX2_init 79 = .ok (.invokespecial 34, 3) := by decide +kernel
theorem dX2_init_82 : decode cX2_init 82 = .ok (.aastore, 1) := by decide +kernel
theorem dX2_init_83 : decode cX2_init 83 = .ok (.invokespecial 37, 3) := by decide +kernel
theorem dX2_init_86 : decode cX2_init 86 = .ok (.putfield 40, 3) := by decide +kernel
theorem dX2_init_89 : decode cX2_init 89 = .ok (.return_, 1) := by decide +kernel
theorem dX2_isOf_0 : decode cX2_isOf 0 = .ok (.aload_n 0, 1) := by decide +kernel
theorem dX2_isOf_1 : decode cX2_isOf 1 = .ok (.getfield 7, 3) := by decide +kernel
theorem dX2_isOf_4 : decode cX2_isOf 4 = .ok (.aload_n 1, 1) := by decide +kernel
theorem dX2_isOf_5 : decode cX2_isOf 5 = .ok (.if_acmp .ne 11, 3) := by decide +kernel
theorem dX2_isOf_8 : decode cX2_isOf 8 = .ok (.aload_n 0, 1) := by decide +kernel
theorem dX2_isOf_9 : decode cX2_isOf 9 = .ok (.getfield 13, 3) := by decide +kernel
theorem dX2_isOf_12 : decode cX2_isOf 12 = .ok (.aload_n 2, 1) := by decide +kernel
theorem dX2_isOf_13 : decode cX2_isOf 13 = .ok (.if_acmp .eq 19, 3) := by decide +kernel
theorem dX2_isOf_16 : decode cX2_isOf 16 = .ok (.aload_n 0, 1) := by decide +kernel
theorem dX2_isOf_17 : decode cX2_isOf 17 = .ok (.getfield 7, 3) := by decide +kernel
theorem dX2_isOf_20 : decode cX2_isOf 20 = .ok (.aload_n 2, 1) := by decide +kernel
theorem dX2_isOf_21 : decode cX2_isOf 21 = .ok (.if_acmp .ne 15, 3) := by decide +kernel
theorem dX2_isOf_24 : decode cX2_isOf 24 = .ok (.aload_n 0, 1) := by decide +kernel
theorem dX2_isOf_25 : decode cX2_isOf 25 = .ok (.getfield 13, 3) := by decide +kernel
theorem dX2_isOf_28 : decode cX2_isOf 28 = .ok (.aload_n 1, 1) := by decide +kernel
theorem dX2_isOf_29 : decode cX2_isOf 29 = .ok (.if_acmp .ne 7, 3) := by decide +kernel
theorem dX2_isOf_32 : decode cX2_isOf 32 = .ok (.iconst 1, 1) := by decide +kernel
theorem dX2_isOf_33 : decode cX2_isOf 33 = .ok (.goto 4, 3) := by decide +kernel
theorem dX2_isOf_36 : decode cX2_isOf 36 = .ok (.iconst 0, 1) := by decide +kernel
theorem dX2_isOf_37 : decode cX2_isOf 37 = .ok (.ireturn, 1) := by decide +kernel
theorem dX2_length_0 : decode cX2_length 0 = .ok (.aload_n 0, 1) := by decide +kernel
theorem dX2_length_1 : decode cX2_length 1 = .ok (.getfield 7, 3) := by decide +kernel
theorem dX2_length_4 : decode cX2_length 4 = .ok (.getfield 16, 3) := by decide +kernel
theorem dX2_length_7 : decode cX2_length 7 = .ok (.ifCond .ne 13, 3) := by decide +kernel
theorem dX2_length_10 : decode cX2_length 10 = .ok (.aload_n 0, 1) := by decide +kernel
theorem dX2_length_11 : decode cX2_length 11 = .ok (.getfield 13, 3) := by decide +kernel
theorem dX2_length_14 : decode cX2_length 14 = .ok (.getfield 16, 3) := by decide +kernel
theorem dX2_length_17 : decode cX2_length 17 = .ok (.ifCond .eq 7, 3) := by decide +kernel
theorem dX2_length_20 : decode cX2_length 20 = .ok (.iconst 1, 1) := by decide +kernel
theorem dX2_length_21 : decode cX2_length 21 = .ok (.goto 4, 3) := by decide +kernel
theorem dX2_length_24 : decode cX2_length 24 = .ok (.iconst 0, 1) := by decide +kernel
theorem dX2_length_25 : decode cX2_length 25 = .ok (.istore_n 1, 1) := by decide +kernel
theorem dX2_length_26 : decode cX2_length 26 = .ok (.aload_n 0, 1) := by decide +kernel
theorem dX2_length_27 : decode cX2_length 27 = .ok (.getfield 7, 3) := by decide +kernel
theorem dX2_length_30 : decode cX2_length 30 = .ok (.getfield 44, 3) := by decide +kernel
theorem dX2_length_33 : decode cX2_length 33 = .ok (.iload_n 1, 1) := by decide +kernel
theorem dX2_length_34 : decode cX2_length 34 = .ok (.ifCond .eq 24, 3) := by decide +kernel
theorem dX2_length_37 : decode cX2_length 37 = .ok (.aload_n 0, 1) := by decide +kernel
theorem dX2_length_38 : decode cX2_length 38 = .ok (.getfield 7, 3) := by decide +kernel
theorem dX2_length_41 : decode cX2_length 41 = .ok (.getfield 22, 3) := by decide +kernel
theorem dX2_length_44 : decode cX2_length 44 = .ok (.aload_n 0, 1) := by decide +kernel
theorem dX2_length_45 : decode cX2_length 45 = .ok (.getfield 13, 3) := by decide +kernel
theorem dX2_length_48 : decode cX2_length 48 = .ok (.getfield 22, 3) := by decide +kernel
theorem dX2_length_51 : decode cX2_length 51 = .ok (.isub, 1) := by decide +kernel
theorem dX2_length_52 : decode cX2_length 52 = .ok (.invokestatic 47, 3) := by decide +kernel
theorem dX2_length_55 : decode cX2_length 55 = .ok (.goto 18, 3) := by decide +kernel
theorem dX2_length_58 : decode cX2_length 58 = .ok (.aload_n 0, 1) := by decide +kernel
theorem dX2_length_59 : decode cX2_length 59 = .ok (.getfield 7, 3) := by decide +kernel
theorem dX2_length_62 : decode cX2_length 62 = .ok (.getfield 22, 3) := by decide +kernel
theorem dX2_length_65 : decode cX2_length 65 = .ok (.aload_n 0, 1) := by decide +kernel
theorem dX2_length_66 : decode cX2_length 66 = .ok (.getfield 13, 3) := by decide +kernel
theorem dX2_length_69 : decode cX2_length 69 = .ok (.getfield 22, 3) := by decide +kernel
theorem dX2_length_72 : decode cX2_length 72 = .ok (.iadd, 1) := by decide +kernel
theorem dX2_length_73 : decode cX2_length 73 = .ok (.imul, 1) := by decide +kernel
theorem dX2_length_74 : decode cX2_length 74 = .ok (.ireturn, 1) := by decide +kernel
set_option maxRecDepth 20000 in
theorem ggX2_fits_X2_length : GoodIn wsX2_fits wsX2_length := goodIn_r _ [10, 1, 11, 3, 12, 13, 14, 15, 16, 17, 25, 26, 27, 28, 29, 30, 31, 32] (by decide +kernel) (by decide +kernel)
set_option maxRecDepth 20000 in
theorem gX2_fits_X2_length : GoodIn wsX2_fits (wsV RX2 53 RX2 yX2_length wsX2_length) := goodIn_app (goodIn_of _ (by decide +kernel)) ggX2_fits_X2_length
set_option maxRecDepth 20000 in
theorem ggX2_fits_X4_squareTo : GoodIn wsX2_fits wsX4_squareTo := goodIn_r _ [22, 23, 24, 33, 34, 35, 36, 37] (by decide +kernel) (by decide +kernel)
set_option maxRecDepth 20000 in
theorem gX2_fits_X4_squareTo : GoodIn wsX2_fits (wsV RX2 65 RX4 yX4_squareTo wsX4_squareTo) := goodIn_app (goodIn_of _ (by decide +kernel)) ggX2_fits_X4_squareTo
theorem dX2_fits_0 : decode cX2_fits 0 = .ok (.aload_n 0, 1) := by decide +kernel
theorem dX2_fits_1 : decode cX2_fits 1 = .ok (.invokevirtual 53, 3) := by decide +kernel
theorem dX2_fits_4 : decode cX2_fits 4 = .ok (.istore_n 1, 1) := by decide +kernel
theorem dX2_fits_5 : decode cX2_fits 5 = .ok (.aload_n 0, 1) := by decide +kernel
theorem dX2_fits_6 : decode cX2_fits 6 = .ok (.getfield 7, 3) := by decide +kernel
theorem dX2_fits_9 : decode cX2_fits 9 = .ok (.getfield 30, 3) := by decide +kernel
theorem dX2_fits_12 : decode cX2_fits 12 = .ok (.aload_n 0, 1) := by decide +kernel
theorem dX2_fits_13 : decode cX2_fits 13 = .ok (.getfield 13, 3) := by decide +kernel
theorem dX2_fits_16 : decode cX2_fits 16 = .ok (.getfield 30, 3) := by decide +kernel
theorem dX2_fits_19 : decode cX2_fits 19 = .ok (.getfield 57, 3) := by decide +kernel
theorem dX2_fits_22 : decode cX2_fits 22 = .ok (.aload_n 0, 1) := by decide +kernel
theorem dX2_fits_23 : decode cX2_fits 23 = .ok (.getfield 13, 3) := by decide +kernel
theorem dX2_fits_26 : decode cX2_fits 26 = .ok (.getfield 30, 3) := by decide +kernel
theorem dX2_fits_29 : decode cX2_fits 29 = .ok (.getfield 62, 3) := by decide +kernel
theorem dX2_fits_32 : decode cX2_fits 32 = .ok (.invokevirtual 65, 3) := by decide +kernel
theorem dX2_fits_35 : decode cX2_fits 35 = .ok (.iload_n 1, 1) := by decide +kernel
theorem dX2_fits_36 : decode cX2_fits 36 = .ok (.iload_n 1, 1) := by decide +kernel
theorem dX2_fits_37 : decode cX2_fits 37 = .ok (.imul, 1) := by decide +kernel
theorem dX2_fits_38 : decode cX2_fits 38 = .ok (.if_icmp .ne 7, 3) := by decide +kernel
theorem dX2_fits_41 : decode cX2_fits 41 = .ok (.iconst 1, 1) := by decide +kernel
theorem dX2_fits_42 : decode cX2_fits 42 = .ok (.goto 4, 3) := by decide +kernel
theorem dX2_fits_45 : decode cX2_fits 45 = .ok (.iconst 0, 1) := by decide +kernel
theorem dX2_fits_46 : decode cX2_fits 46 = .ok (.ireturn, 1) := by decide +kernel
set_option maxRecDepth 20000 in
theorem ggX3_init_X9_init : GoodIn wsX3_init wsX9_init := goodIn_r _ [14, 15, 2, 3, 16, 17, 39, 40] (by decide +kernel) (by decide +kernel)
set_option maxRecDepth 20000 in
theorem gX3_init_X9_init : GoodIn wsX3_init (wsX9_init) := ggX3_init_X9_init
set_option maxRecDepth 20000 in
theorem ggX3_init_X5_init : GoodIn wsX3_init wsX5_init := goodIn_r _ [20, 21, 2, 3, 22, 23, 24, 25, 26, 27, 28, 29, 30, 31, 32, 33, 36, 37, 38, 41, 42] (by decide +kernel) (by decide +kernel)
set_option maxRecDepth 20000 in
theorem gX3_init_X5_init : GoodIn wsX3_init (wsX5_init) := ggX3_init_X5_init
theorem dX3_init_0 : decode cX3_init 0 = .ok (.aload_n 0, 1) := by decide +kernel
theorem dX3_init_1 : decode cX3_init 1 = .ok (.invokespecial 1, 3) := by decide +kernel
theorem dX3_init_4 : decode cX3_init 4 = .ok (.iload 4, 2) := by decide +kernel
theorem dX3_init_6 : decode cX3_init 6 = .ok (.iconst 2, 1) := by decide +kernel
theorem dX3_init_7 : decode cX3_init 7 = .ok (.iload 5, 2) := by decide +kernel
theorem dX3_init_9 : decode cX3_init 9 = .ok (.imul, 1) := by decide +kernel
theorem dX3_init_10 : decode cX3_init 10 = .ok (.iadd, 1) := by decide +kernel
theorem dX3_init_11 : decode cX3_init 11 = .ok (.istore 6, 2) := by decide +kernel
theorem dX3_init_13 : decode cX3_init 13 = .ok (.aload_n 0, 1) := by decide +kernel
theorem dX3_init_14 : decode cX3_init 14 = .ok (.iload 4, 2) := by decide +kernel
theorem dX3_init_16 : decode cX3_init 16 = .ok (.iload 6, 2) := by decide +kernel
theorem dX3_init_18 : decode cX3_init 18 = .ok (.iadd, 1) := by decide +kernel
theorem dX3_init_19 : decode cX3_init 19 = .ok (.putfield 7, 3) := by decide +kernel
theorem dX3_init_22 : decode cX3_init 22 = .ok (.aload_n 0, 1) := by decide +kernel
theorem dX3_init_23 : decode cX3_init 23 = .ok (.new 13, 3) := by decide +kernel
theorem dX3_init_26 : decode cX3_init 26 = .ok (.dup, 1) := by decide +kernel
theorem dX3_init_27 : decode cX3_init 27 = .ok (.iconst 3, 1) := by decide +kernel
theorem dX3_init_28 : decode cX3_init 28 = .ok (.anewarray 15, 3) := by decide +kernel
theorem dX3_init_31 : decode cX3_init 31 = .ok (.dup, 1) := by decide +kernel
theorem dX3_init_32 : decode cX3_init 32 = .ok (.iconst 0, 1) := by decide +kernel
theorem dX3_init_33 : decode cX3_init 33 = .ok (.new 15, 3) := by decide +kernel
theorem dX3_init_36 : decode cX3_init 36 = .ok (.dup, 1) := by decide +kernel
theorem dX3_init_37 : decode cX3_init 37 = .ok (.aload_n 1, 1) := by decide +kernel
theorem dX3_init_38 : decode cX3_init 38 = .ok (.iload 4, 2) := by decide +kernel
theorem dX3_init_40 : decode cX3_init 40 = .ok (.invokespecial 17, 3) := by decide +kernel
theorem dX3_init_43 : decode cX3_init 43 = .ok (.aastore, 1) := by decide +kernel
theorem dX3_init_44 : decode cX3_init 44 = .ok (.dup, 1) := by decide +kernel
theorem dX3_init_45 : decode cX3_init 45 = .ok (.iconst 1, 1) := by decide +kernel
theorem dX3_init_46 : decode cX3_init 46 = .ok (.new 15, 3) := by decide +kernel
theorem dX3_init_49 : decode cX3_init 49 = .ok (.dup, 1) := by decide +kernel
theorem dX3_init_50 : decode cX3_init 50 = .ok (.aload_n 2, 1) := by decide +kernel
theorem dX3_init_51 : decode cX3_init 51 = .ok (.iload 6, 2) := by decide +kernel
theorem dX3_init_53 : decode cX3_init 53 = .ok (.invokespecial 17, 3) := by decide +kernel
theorem dX3_init_56 : decode cX3_init 56 = .ok (.aastore, 1) := by decide +kernel
theorem dX3_init_57 : decode cX3_init 57 = .ok (.dup, 1) := by decide +kernel
theorem dX3_init_58 : decode cX3_init 58 = .ok (.iconst 2, 1) := by decide +kernel
theorem dX3_init_59 : decode cX3_init 59 = .ok (.new 15, 3) := by decide +kernel
theorem dX3_init_62 : decode cX3_init 62 = .ok (.dup, 1) := by decide +kernel
theorem dX3_init_63 : decode cX3_init 63 = .ok (.aload_n 3, 1) := by decide +kernel
theorem dX3_init_64 : decode cX3_init 64 = .ok (.aload_n 0, 1) := by decide +kernel
theorem dX3_init_65 : decode cX3_init 65 = .ok (.getfield 7, 3) := by decide +kernel
theorem dX3_init_68 : decode cX3_init 68 = .ok (.ineg, 1) := by decide +kernel
theorem dX3_init_69 : decode cX3_init 69 = .ok (.invokespecial 17, 3) := by decide +kernel
theorem dX3_init_72 : decode cX3_init 72 = .ok (.aastore, 1) := by decide +kernel
theorem dX3_init_73 : decode cX3_init 73 = .ok (.invokespecial 20, 3) := by decide +kernel
theorem dX3_init_76 : decode cX3_init 76 = .ok (.putfield 23, 3) := by decide +kernel
theorem dX3_init_79 : decode cX3_init 79 = .ok (.return_, 1) := by decide +kernel
theorem dX3_mostPlanets_0 : decode cX3_mostPlanets 0 = .ok (.iload_n 1, 1) := by decide +kernel
theorem dX3_mostPlanets_1 : decode cX3_mostPlanets 1 = .ok (.istore_n 2, 1) := by decide +kernel
theorem dX3_mostPlanets_2 : decode cX3_mostPlanets 2 = .ok (.iload_n 2, 1) := by decide +kernel
theorem dX3_mostPlanets_3 : decode cX3_mostPlanets 3 = .ok (.iconst 1, 1) := by decide +kernel
theorem dX3_mostPlanets_4 : decode cX3_mostPlanets 4 = .ok (.if_icmp .le 20, 3) := by decide +kernel
theorem dX3_mostPlanets_7 : decode cX3_mostPlanets 7 = .ok (.aload_n 0, 1) := by decide +kernel
theorem dX3_mostPlanets_8 : decode cX3_mostPlanets 8 = .ok (.getfield 7, 3) := by decide +kernel
theorem dX3_mostPlanets_11 : decode cX3_mostPlanets 11 = .ok (.iload_n 2, 1) := by decide +kernel
theorem dX3_mostPlanets_12 : decode cX3_mostPlanets 12 = .ok (.irem, 1) := by decide +kernel
theorem dX3_mostPlanets_13 : decode cX3_mostPlanets 13 = .ok (.ifCond .ne 5, 3) := by decide +kernel
theorem dX3_mostPlanets_16 : decode cX3_mostPlanets 16 = .ok (.iload_n 2, 1) := by decide +kernel
theorem dX3_mostPlanets_17 : decode cX3_mostPlanets 17 = .ok (.ireturn, 1) := by decide +kernel
theorem dX3_mostPlanets_18 : decode cX3_mostPlanets 18 = .ok (.iinc 2 (-1), 3) := by decide +kernel
theorem dX3_mostPlanets_21 : decode cX3_mostPlanets 21 = .ok (.goto (-19), 3) := by decide +kernel
theorem dX3_mostPlanets_24 : decode cX3_mostPlanets 24 = .ok (.iconst 1, 1) := by decide +kernel
theorem dX3_mostPlanets_25 : decode cX3_mostPlanets 25 = .ok (.ireturn, 1) := by decide +kernel
set_option maxRecDepth 20000 in
theorem ggX4_init_X0_init : GoodIn wsX4_init wsX0_init := goodIn_r _ [14, 15, 2, 3, 16, 17, 23, 24] (by decide +kernel) (by decide +kernel)
set_option maxRecDepth 20000 in
theorem gX4_init_X0_init : GoodIn wsX4_init (wsX0_init) := ggX4_init_X0_init
theorem dX4_init_0 : decode cX4_init 0 = .ok (.aload_n 0, 1) := by decide +kernel
theorem dX4_init_1 : decode cX4_init 1 = .ok (.invokespecial 3, 3) := by decide +kernel
theorem dX4_init_4 : decode cX4_init 4 = .ok (.aload_n 0, 1) := by decide +kernel
theorem dX4_init_5 : decode cX4_init 5 = .ok (.iload_n 1, 1) := by decide +kernel
theorem dX4_init_6 : decode cX4_init 6 = .ok (.putfield 9, 3) := by decide +kernel
theorem dX4_init_9 : decode cX4_init 9 = .ok (.aload_n 0, 1) := by decide +kernel
theorem dX4_init_10 : decode cX4_init 10 = .ok (.iload_n 2, 1) := by decide +kernel
theorem dX4_init_11 : decode cX4_init 11 = .ok (.putfield 15, 3) := by decide +kernel
theorem dX4_init_14 : decode cX4_init 14 = .ok (.aload_n 0, 1) := by decide +kernel
theorem dX4_init_15 : decode cX4_init 15 = .ok (.iconst 0, 1) := by decide +kernel
theorem dX4_init_16 : decode cX4_init 16 = .ok (.putfield 18, 3) := by decide +kernel
theorem dX4_init_19 : decode cX4_init 19 = .ok (.aload_n 0, 1) := by decide +kernel
theorem dX4_init_20 : decode cX4_init 20 = .ok (.iconst (-1), 1) := by decide +kernel
theorem dX4_init_21 : decode cX4_init 21 = .ok (.putfield 22, 3) := by decide +kernel
theorem dX4_init_24 : decode cX4_init 24 = .ok (.aload_n 0, 1) := by decide +kernel
theorem dX4_init_25 : decode cX4_init 25 = .ok (.new 25, 3) := by decide +kernel
theorem dX4_init_28 : decode cX4_init 28 = .ok (.dup, 1) := by decide +kernel
theorem dX4_init_29 : decode cX4_init 29 = .ok (.invokespecial 27, 3) := by decide +kernel
theorem dX4_init_32 : decode cX4_init 32 = .ok (.putfield 28, 3) := by decide +kernel
theorem dX4_init_35 : decode cX4_init 35 = .ok (.return_, 1) := by decide +kernel
theorem dX4_hasSpeed_0 : decode cX4_hasSpeed 0 = .ok (.aload_n 0, 1) := by decide +kernel
theorem dX4_hasSpeed_1 : decode cX4_hasSpeed 1 = .ok (.getfield 22, 3) := by decide +kernel
theorem dX4_hasSpeed_4 : decode cX4_hasSpeed 4 = .ok (.iconst (-1), 1) := by decide +kernel
theorem dX4_hasSpeed_5 : decode cX4_hasSpeed 5 = .ok (.if_icmp .eq 7, 3) := by decide +kernel
theorem dX4_hasSpeed_8 : decode cX4_hasSpeed 8 = .ok (.iconst 1, 1) := by decide +kernel
theorem dX4_hasSpeed_9 : decode cX4_hasSpeed 9 = .ok (.goto 4, 3) := by decide +kernel
theorem dX4_hasSpeed_12 : decode cX4_hasSpeed 12 = .ok (.iconst 0, 1) := by decide +kernel
theorem dX4_hasSpeed_13 : decode cX4_hasSpeed 13 = .ok (.ireturn, 1) := by decide +kernel
theorem dX4_squareTo_0 : decode cX4_squareTo 0 = .ok (.aload_n 0, 1) := by decide +kernel
theorem dX4_squareTo_1 : decode cX4_squareTo 1 = .ok (.getfield 9, 3) := by decide +kernel
theorem dX4_squareTo_4 : decode cX4_squareTo 4 = .ok (.iload_n 1, 1) := by decide +kernel
theorem dX4_squareTo_5 : decode cX4_squareTo 5 = .ok (.isub, 1) := by decide +kernel
theorem dX4_squareTo_6 : decode cX4_squareTo 6 = .ok (.aload_n 0, 1) := by decide +kernel
theorem dX4_squareTo_7 : decode cX4_squareTo 7 = .ok (.getfield 9, 3) := by decide +kernel
theorem dX4_squareTo_10 : decode cX4_squareTo 10 = .ok (.iload_n 1, 1) := by decide +kernel
theorem dX4_squareTo_11 : decode cX4_squareTo 11 = .ok (.isub, 1) := by decide +kernel
theorem dX4_squareTo_12 : decode cX4_squareTo 12 = .ok (.imul, 1) := by decide +kernel
theorem dX4_squareTo_13 : decode cX4_squareTo 13 = .ok (.aload_n 0, 1) := by decide +kernel
theorem dX4_squareTo_14 : decode cX4_squareTo 14 = .ok (.getfield 15, 3) := by decide +kernel
theorem dX4_squareTo_17 : decode cX4_squareTo 17 = .ok (.iload_n 2, 1) := by decide +kernel
theorem dX4_squareTo_18 : decode cX4_squareTo 18 = .ok (.isub, 1) := by decide +kernel
theorem dX4_squareTo_19 : decode cX4_squareTo 19 = .ok (.aload_n 0, 1) := by decide +kernel
theorem dX4_squareTo_20 : decode cX4_squareTo 20 = .ok (.getfield 15, 3) := by decide +kernel
theorem dX4_squareTo_23 : decode cX4_squareTo 23 = .ok (.iload_n 2, 1) := by decide +kernel
theorem dX4_squareTo_24 : decode cX4_squareTo 24 = .ok (.isub, 1) := by decide +kernel
theorem dX4_squareTo_25 : decode cX4_squareTo 25 = .ok (.imul, 1) := by decide +kernel
theorem dX4_squareTo_26 : decode cX4_squareTo 26 = .ok (.iadd, 1) := by decide +kernel
theorem dX4_squareTo_27 : decode cX4_squareTo 27 = .ok (.ireturn, 1) := by decide +kernel
set_option maxRecDepth 20000 in
theorem ggX4_begin_X0_become : GoodIn wsX4_begin wsX0_become := goodIn_r _ [8, 9, 10, 11, 12, 13, 14, 15, 16, 7, 17, 23, 24] (by decide +kernel) (by decide +kernel)
set_option maxRecDepth 20000 in
theorem gX4_begin_X0_become : GoodIn wsX4_begin (wsV RX4 32 RX0 yX0_become wsX0_become) := goodIn_app (goodIn_of _ (by decide +kernel)) ggX4_begin_X0_become
theorem dX4_begin_0 : decode cX4_begin 0 = .ok (.aload_n 0, 1) := by decide +kernel
theorem dX4_begin_1 : decode cX4_begin 1 = .ok (.iload_n 1, 1) := by decide +kernel
theorem dX4_begin_2 : decode cX4_begin 2 = .ok (.ifCond .ne 10, 3) := by decide +kernel
theorem dX4_begin_5 : decode cX4_begin 5 = .ok (.aload_n 0, 1) := by decide +kernel
theorem dX4_begin_6 : decode cX4_begin 6 = .ok (.getfield 18, 3) := by decide +kernel
theorem dX4_begin_9 : decode cX4_begin 9 = .ok (.ifCond .eq 7, 3) := by decide +kernel
theorem dX4_begin_12 : decode cX4_begin 12 = .ok (.iconst 0, 1) := by decide +kernel
theorem dX4_begin_13 : decode cX4_begin 13 = .ok (.goto 4, 3) := by decide +kernel
theorem dX4_begin_16 : decode cX4_begin 16 = .ok (.iconst (-1), 1) := by decide +kernel
theorem dX4_begin_17 : decode cX4_begin 17 = .ok (.putfield 22, 3) := by decide +kernel
theorem dX4_begin_20 : decode cX4_begin 20 = .ok (.aload_n 0, 1) := by decide +kernel
theorem dX4_begin_21 : decode cX4_begin 21 = .ok (.getfield 28, 3) := by decide +kernel
theorem dX4_begin_24 : decode cX4_begin 24 = .ok (.iload_n 1, 1) := by decide +kernel
theorem dX4_begin_25 : decode cX4_begin 25 = .ok (.ifCond .eq 8, 3) := by decide +kernel
theorem dX4_begin_28 : decode cX4_begin 28 = .ok (.iload_n 2, 1) := by decide +kernel
theorem dX4_begin_29 : decode cX4_begin 29 = .ok (.i2l, 1) := by decide +kernel
theorem dX4_begin_30 : decode cX4_begin 30 = .ok (.goto 4, 3) := by decide +kernel
theorem dX4_begin_33 : decode cX4_begin 33 = .ok (.lconst 0, 1) := by decide +kernel
theorem dX4_begin_34 : decode cX4_begin 34 = .ok (.lconst 1, 1) := by decide +kernel
theorem dX4_begin_35 : decode cX4_begin 35 = .ok (.invokevirtual 32, 3) := by decide +kernel
theorem dX4_begin_38 : decode cX4_begin 38 = .ok (.return_, 1) := by decide +kernel
set_option maxRecDepth 20000 in
theorem ggX4_learn_X0_become : GoodIn wsX4_learn wsX0_become := goodIn_r _ [9, 10, 11, 12, 13, 14, 15, 16, 17, 8, 18, 24, 25] (by decide +kernel) (by decide +kernel)
set_option maxRecDepth 20000 in
theorem gX4_learn_X0_become : GoodIn wsX4_learn (wsV RX4 32 RX0 yX0_become wsX0_become) := goodIn_app (goodIn_of _ (by decide +kernel)) ggX4_learn_X0_become
theorem dX4_learn_0 : decode cX4_learn 0 = .ok (.aload_n 0, 1) := by decide +kernel
theorem dX4_learn_1 : decode cX4_learn 1 = .ok (.getfield 28, 3) := by decide +kernel
theorem dX4_learn_4 : decode cX4_learn 4 = .ok (.aload_n 1, 1) := by decide +kernel
theorem dX4_learn_5 : decode cX4_learn 5 = .ok (.getfield 36, 3) := by decide +kernel
theorem dX4_learn_8 : decode cX4_learn 8 = .ok (.aload_n 1, 1) := by decide +kernel
theorem dX4_learn_9 : decode cX4_learn 9 = .ok (.getfield 40, 3) := by decide +kernel
theorem dX4_learn_12 : decode cX4_learn 12 = .ok (.invokevirtual 32, 3) := by decide +kernel
theorem dX4_learn_15 : decode cX4_learn 15 = .ok (.aload_n 0, 1) := by decide +kernel
theorem dX4_learn_16 : decode cX4_learn 16 = .ok (.iload_n 2, 1) := by decide +kernel
theorem dX4_learn_17 : decode cX4_learn 17 = .ok (.putfield 22, 3) := by decide +kernel
theorem dX4_learn_20 : decode cX4_learn 20 = .ok (.return_, 1) := by decide +kernel
theorem dX9_init_0 : decode cX9_init 0 = .ok (.aload_n 0, 1) := by decide +kernel
theorem dX9_init_1 : decode cX9_init 1 = .ok (.invokespecial 1, 3) := by decide +kernel
theorem dX9_init_4 : decode cX9_init 4 = .ok (.aload_n 0, 1) := by decide +kernel
theorem dX9_init_5 : decode cX9_init 5 = .ok (.aload_n 1, 1) := by decide +kernel
theorem dX9_init_6 : decode cX9_init 6 = .ok (.putfield 7, 3) := by decide +kernel
theorem dX9_init_9 : decode cX9_init 9 = .ok (.aload_n 0, 1) := by decide +kernel
theorem dX9_init_10 : decode cX9_init 10 = .ok (.iload_n 2, 1) := by decide +kernel
theorem dX9_init_11 : decode cX9_init 11 = .ok (.putfield 13, 3) := by decide +kernel
theorem dX9_init_14 : decode cX9_init 14 = .ok (.return_, 1) := by decide +kernel
set_option maxRecDepth 20000 in
theorem ggX5_init_X0_init : GoodIn wsX5_init wsX0_init := goodIn_r _ [12, 13, 2, 3, 14, 15, 19, 20] (by decide +kernel) (by decide +kernel)
set_option maxRecDepth 20000 in
theorem gX5_init_X0_init : GoodIn wsX5_init (wsX0_init) := ggX5_init_X0_init
theorem dX5_init_0 : decode cX5_init 0 = .ok (.aload_n 0, 1) := by decide +kernel
theorem dX5_init_1 : decode cX5_init 1 = .ok (.invokespecial 3, 3) := by decide +kernel
theorem dX5_init_4 : decode cX5_init 4 = .ok (.aload_n 0, 1) := by decide +kernel
theorem dX5_init_5 : decode cX5_init 5 = .ok (.aload_n 1, 1) := by decide +kernel
theorem dX5_init_6 : decode cX5_init 6 = .ok (.putfield 9, 3) := by decide +kernel
theorem dX5_init_9 : decode cX5_init 9 = .ok (.aload_n 0, 1) := by decide +kernel
theorem dX5_init_10 : decode cX5_init 10 = .ok (.new 15, 3) := by decide +kernel
theorem dX5_init_13 : decode cX5_init 13 = .ok (.dup, 1) := by decide +kernel
theorem dX5_init_14 : decode cX5_init 14 = .ok (.invokespecial 17, 3) := by decide +kernel
theorem dX5_init_17 : decode cX5_init 17 = .ok (.putfield 18, 3) := by decide +kernel
theorem dX5_init_20 : decode cX5_init 20 = .ok (.aload_n 0, 1) := by decide +kernel
theorem dX5_init_21 : decode cX5_init 21 = .ok (.iconst 0, 1) := by decide +kernel
theorem dX5_init_22 : decode cX5_init 22 = .ok (.putfield 22, 3) := by decide +kernel
theorem dX5_init_25 : decode cX5_init 25 = .ok (.return_, 1) := by decide +kernel
set_option maxRecDepth 20000 in
theorem ggX5_tellsOrStepsAside_X5_onlyUnknown : GoodIn wsX5_tellsOrStepsAside wsX5_onlyUnknown := goodIn_r _ [8, 9, 3, 10, 11, 12, 13, 14, 15, 59, 60, 61, 62, 63, 64, 65, 66, 67, 68] (by decide +kernel) (by decide +kernel)
set_option maxRecDepth 20000 in
theorem gX5_tellsOrStepsAside_X5_onlyUnknown : GoodIn wsX5_tellsOrStepsAside (wsV RX5 26 RX5 yX5_onlyUnknown wsX5_onlyUnknown) := goodIn_app (goodIn_of _ (by decide +kernel)) ggX5_tellsOrStepsAside_X5_onlyUnknown
set_option maxRecDepth 20000 in
theorem ggX5_tellsOrStepsAside_X5_ask : GoodIn wsX5_tellsOrStepsAside wsX5_ask := goodIn_r _ [19, 9, 3, 20, 21, 22, 23, 2, 24, 25, 26, 27, 28, 29, 30, 31, 32, 33, 34, 35, 36, 37, 59, 60, 61, 62, 63, 64, 65, 66, 67, 68, 69, 70] (by decide +kernel) (by decide +kernel)
set_option maxRecDepth 20000 in
theorem gX5_tellsOrStepsAside_X5_ask : GoodIn wsX5_tellsOrStepsAside (wsV RX5 30 RX5 yX5_ask wsX5_ask) := goodIn_app (goodIn_of _ (by decide +kernel)) ggX5_tellsOrStepsAside_X5_ask
set_option maxRecDepth 20000 in
theorem ggX5_tellsOrStepsAside_X0_isTooGreat : GoodIn wsX5_tellsOrStepsAside wsX0_isTooGreat := goodIn_r _ [41, 33, 29, 30, 31, 32, 42, 34, 69, 70] (by decide +kernel) (by decide +kernel)
set_option maxRecDepth 20000 in
theorem gX5_tellsOrStepsAside_X0_isTooGreat : GoodIn wsX5_tellsOrStepsAside (wsV RX5 34 RX0 yX0_isTooGreat wsX0_isTooGreat) := goodIn_app (goodIn_of _ (by decide +kernel)) ggX5_tellsOrStepsAside_X0_isTooGreat
set_option maxRecDepth 20000 in
theorem ggX5_tellsOrStepsAside_X5_greatestStage : GoodIn wsX5_tellsOrStepsAside wsX5_greatestStage := goodIn_r _ [46, 9, 3, 47, 48, 49, 31, 50, 59, 60, 61, 62, 63, 64, 65, 66, 67, 68] (by decide +kernel) (by decide +kernel)
set_option maxRecDepth 20000 in
theorem gX5_tellsOrStepsAside_X5_greatestStage : GoodIn wsX5_tellsOrStepsAside (wsV RX5 44 RX5 yX5_greatestStage wsX5_greatestStage) := goodIn_app (goodIn_of _ (by decide +kernel)) ggX5_tellsOrStepsAside_X5_greatestStage
set_option maxRecDepth 20000 in
theorem ggX5_tellsOrStepsAside_X4_learn : GoodIn wsX5_tellsOrStepsAside wsX4_learn := goodIn_r _ [54, 55, 56, 57, 15, 58, 25, 26, 27, 28, 29, 30, 31, 32, 33, 34, 35, 36, 37, 64, 65, 66, 67, 68, 69, 70] (by decide +kernel) (by decide +kernel)
set_option maxRecDepth 20000 in
theorem gX5_tellsOrStepsAside_X4_learn : GoodIn wsX5_tellsOrStepsAside (wsV RX5 48 RX4 yX4_learn wsX4_learn) := goodIn_app (goodIn_of _ (by decide +kernel)) ggX5_tellsOrStepsAside_X4_learn
theorem dX5_tellsOrStepsAside_0 : decode cX5_tellsOrStepsAside 0 = .ok (.aload_n 0, 1) := by decide +kernel
theorem dX5_tellsOrStepsAside_1 : decode cX5_tellsOrStepsAside 1 = .ok (.getfield 22, 3) := by decide +kernel
theorem dX5_tellsOrStepsAside_4 : decode cX5_tellsOrStepsAside 4 = .ok (.ifCond .eq 7, 3) := by decide +kernel
theorem dX5_tellsOrStepsAside_7 : decode cX5_tellsOrStepsAside 7 = .ok (.aconst_null, 1) := by decide +kernel
theorem dX5_tellsOrStepsAside_8 : decode cX5_tellsOrStepsAside 8 = .ok (.goto 7, 3) := by decide +kernel
theorem dX5_tellsOrStepsAside_11 : decode cX5_tellsOrStepsAside 11 = .ok (.aload_n 0, 1) := by decide +kernel
theorem dX5_tellsOrStepsAside_12 : decode cX5_tellsOrStepsAside 12 = .ok (.invokevirtual 26, 3) := by decide +kernel
theorem dX5_tellsOrStepsAside_15 : decode cX5_tellsOrStepsAside 15 = .ok (.astore_n 1, 1) := by decide +kernel
theorem dX5_tellsOrStepsAside_16 : decode cX5_tellsOrStepsAside 16 = .ok (.aload_n 1, 1) := by decide +kernel
theorem dX5_tellsOrStepsAside_17 : decode cX5_tellsOrStepsAside 17 = .ok (.ifnonnull 5, 3) := by decide +kernel
theorem dX5_tellsOrStepsAside_20 : decode cX5_tellsOrStepsAside 20 = .ok (.iconst 0, 1) := by decide +kernel
theorem dX5_tellsOrStepsAside_21 : decode cX5_tellsOrStepsAside 21 = .ok (.ireturn, 1) := by decide +kernel
theorem dX5_tellsOrStepsAside_22 : decode cX5_tellsOrStepsAside 22 = .ok (.aload_n 0, 1) := by decide +kernel
theorem dX5_tellsOrStepsAside_23 : decode cX5_tellsOrStepsAside 23 = .ok (.aload_n 1, 1) := by decide +kernel
theorem dX5_tellsOrStepsAside_24 : decode cX5_tellsOrStepsAside 24 = .ok (.invokevirtual 30, 3) := by decide +kernel
theorem dX5_tellsOrStepsAside_27 : decode cX5_tellsOrStepsAside 27 = .ok (.aload_n 0, 1) := by decide +kernel
theorem dX5_tellsOrStepsAside_28 : decode cX5_tellsOrStepsAside 28 = .ok (.getfield 18, 3) := by decide +kernel
theorem dX5_tellsOrStepsAside_31 : decode cX5_tellsOrStepsAside 31 = .ok (.invokevirtual 34, 3) := by decide +kernel
theorem dX5_tellsOrStepsAside_34 : decode cX5_tellsOrStepsAside 34 = .ok (.ifCond .eq 11, 3) := by decide +kernel
theorem dX5_tellsOrStepsAside_37 : decode cX5_tellsOrStepsAside 37 = .ok (.aload_n 0, 1) := by decide +kernel
theorem dX5_tellsOrStepsAside_38 : decode cX5_tellsOrStepsAside 38 = .ok (.iconst 1, 1) := by decide +kernel
theorem dX5_tellsOrStepsAside_39 : decode cX5_tellsOrStepsAside 39 = .ok (.putfield 22, 3) := by decide +kernel
theorem dX5_tellsOrStepsAside_42 : decode cX5_tellsOrStepsAside 42 = .ok (.goto 20, 3) := by decide +kernel
theorem dX5_tellsOrStepsAside_45 : decode cX5_tellsOrStepsAside 45 = .ok (.aload_n 1, 1) := by decide +kernel
theorem dX5_tellsOrStepsAside_46 : decode cX5_tellsOrStepsAside 46 = .ok (.getfield 38, 3) := by decide +kernel
theorem dX5_tellsOrStepsAside_49 : decode cX5_tellsOrStepsAside 49 = .ok (.aload_n 0, 1) := by decide +kernel
theorem dX5_tellsOrStepsAside_50 : decode cX5_tellsOrStepsAside 50 = .ok (.getfield 18, 3) := by decide +kernel
theorem dX5_tellsOrStepsAside_53 : decode cX5_tellsOrStepsAside 53 = .ok (.iconst 1, 1) := by decide +kernel
theorem dX5_tellsOrStepsAside_54 : decode cX5_tellsOrStepsAside 54 = .ok (.aload_n 0, 1) := by decide +kernel
theorem dX5_tellsOrStepsAside_55 : decode cX5_tellsOrStepsAside 55 = .ok (.invokevirtual 44, 3) := by decide +kernel
theorem dX5_tellsOrStepsAside_58 : decode cX5_tellsOrStepsAside 58 = .ok (.iadd, 1) := by decide +kernel
theorem dX5_tellsOrStepsAside_59 : decode cX5_tellsOrStepsAside 59 = .ok (.invokevirtual 48, 3) := by decide +kernel
theorem dX5_tellsOrStepsAside_62 : decode cX5_tellsOrStepsAside 62 = .ok (.iconst 1, 1) := by decide +kernel
theorem dX5_tellsOrStepsAside_63 : decode cX5_tellsOrStepsAside 63 = .ok (.ireturn, 1) := by decide +kernel
set_option maxRecDepth 20000 in
theorem ggX5_isBroken_X4_hasSpeed : GoodIn wsX5_isBroken wsX4_hasSpeed := goodIn_r _ [9, 10, 42, 43, 44, 45, 46] (by decide +kernel) (by decide +kernel)
set_option maxRecDepth 20000 in
theorem gX5_isBroken_X4_hasSpeed : GoodIn wsX5_isBroken (wsV RX5 54 RX4 yX4_hasSpeed wsX4_hasSpeed) := goodIn_app (goodIn_of _ (by decide +kernel)) ggX5_isBroken_X4_hasSpeed
set_option maxRecDepth 20000 in
theorem ggX5_isBroken_X5_ask : GoodIn wsX5_isBroken wsX5_ask := goodIn_r _ [15, 1, 2, 4, 16, 17, 18, 3, 19, 20, 21, 22, 23, 24, 25, 26, 27, 28, 29, 30, 31, 32, 37, 38, 39, 40, 41, 42, 43, 44, 45, 46, 47, 48] (by decide +kernel) (by decide +kernel)
set_option maxRecDepth 20000 in
theorem gX5_isBroken_X5_ask : GoodIn wsX5_isBroken (wsV RX5 30 RX5 yX5_ask wsX5_ask) := goodIn_app (goodIn_of _ (by decide +kernel)) ggX5_isBroken_X5_ask
set_option maxRecDepth 20000 in
theorem ggX5_isBroken_X0_isSameAs : GoodIn wsX5_isBroken wsX0_isSameAs := goodIn_r _ [36, 28, 29, 47, 48] (by decide +kernel) (by decide +kernel)
set_option maxRecDepth 20000 in
theorem gX5_isBroken_X0_isSameAs : GoodIn wsX5_isBroken (wsV RX5 60 RX0 yX0_isSameAs wsX0_isSameAs) := goodIn_app (goodIn_of _ (by decide +kernel)) ggX5_isBroken_X0_isSameAs
theorem dX5_isBroken_0 : decode cX5_isBroken 0 = .ok (.aconst_null, 1) := by decide +kernel
theorem dX5_isBroken_1 : decode cX5_isBroken 1 = .ok (.astore_n 1, 1) := by decide +kernel
theorem dX5_isBroken_2 : decode cX5_isBroken 2 = .ok (.aload_n 0, 1) := by decide +kernel
theorem dX5_isBroken_3 : decode cX5_isBroken 3 = .ok (.getfield 9, 3) := by decide +kernel
theorem dX5_isBroken_6 : decode cX5_isBroken 6 = .ok (.astore_n 2, 1) := by decide +kernel
theorem dX5_isBroken_7 : decode cX5_isBroken 7 = .ok (.aload_n 2, 1) := by decide +kernel
theorem dX5_isBroken_8 : decode cX5_isBroken 8 = .ok (.arraylength, 1) := by decide +kernel
theorem dX5_isBroken_9 : decode cX5_isBroken 9 = .ok (.istore_n 3, 1) := by decide +kernel
theorem dX5_isBroken_10 : decode cX5_isBroken 10 = .ok (.iconst 0, 1) := by decide +kernel
theorem dX5_isBroken_11 : decode cX5_isBroken 11 = .ok (.istore 4, 2) := by decide +kernel
theorem dX5_isBroken_13 : decode cX5_isBroken 13 = .ok (.iload 4, 2) := by decide +kernel
theorem dX5_isBroken_15 : decode cX5_isBroken 15 = .ok (.iload_n 3, 1) := by decide +kernel
theorem dX5_isBroken_16 : decode cX5_isBroken 16 = .ok (.if_icmp .ge 31, 3) := by decide +kernel
theorem dX5_isBroken_19 : decode cX5_isBroken 19 = .ok (.aload_n 2, 1) := by decide +kernel
theorem dX5_isBroken_20 : decode cX5_isBroken 20 = .ok (.iload 4, 2) := by decide +kernel
theorem dX5_isBroken_22 : decode cX5_isBroken 22 = .ok (.aaload, 1) := by decide +kernel
theorem dX5_isBroken_23 : decode cX5_isBroken 23 = .ok (.astore 5, 2) := by decide +kernel
theorem dX5_isBroken_25 : decode cX5_isBroken 25 = .ok (.aload 5, 2) := by decide +kernel
theorem dX5_isBroken_27 : decode cX5_isBroken 27 = .ok (.getfield 38, 3) := by decide +kernel
theorem dX5_isBroken_30 : decode cX5_isBroken 30 = .ok (.invokevirtual 54, 3) := by decide +kernel
theorem dX5_isBroken_33 : decode cX5_isBroken 33 = .ok (.ifCond .ne 5, 3) := by decide +kernel
theorem dX5_isBroken_36 : decode cX5_isBroken 36 = .ok (.iconst 0, 1) := by decide +kernel
theorem dX5_isBroken_37 : decode cX5_isBroken 37 = .ok (.ireturn, 1) := by decide +kernel
theorem dX5_isBroken_38 : decode cX5_isBroken 38 = .ok (.aload 5, 2) := by decide +kernel
theorem dX5_isBroken_40 : decode cX5_isBroken 40 = .ok (.astore_n 1, 1) := by decide +kernel
theorem dX5_isBroken_41 : decode cX5_isBroken 41 = .ok (.iinc 4 1, 3) := by decide +kernel
theorem dX5_isBroken_44 : decode cX5_isBroken 44 = .ok (.goto (-31), 3) := by decide +kernel
theorem dX5_isBroken_47 : decode cX5_isBroken 47 = .ok (.aload_n 1, 1) := by decide +kernel
theorem dX5_isBroken_48 : decode cX5_isBroken 48 = .ok (.ifnonnull 5, 3) := by decide +kernel
theorem dX5_isBroken_51 : decode cX5_isBroken 51 = .ok (.iconst 0, 1) := by decide +kernel
theorem dX5_isBroken_52 : decode cX5_isBroken 52 = .ok (.ireturn, 1) := by decide +kernel
theorem dX5_isBroken_53 : decode cX5_isBroken 53 = .ok (.aload_n 0, 1) := by decide +kernel
theorem dX5_isBroken_54 : decode cX5_isBroken 54 = .ok (.aload_n 1, 1) := by decide +kernel
theorem dX5_isBroken_55 : decode cX5_isBroken 55 = .ok (.invokevirtual 30, 3) := by decide +kernel
theorem dX5_isBroken_58 : decode cX5_isBroken 58 = .ok (.aload_n 0, 1) := by decide +kernel
theorem dX5_isBroken_59 : decode cX5_isBroken 59 = .ok (.getfield 18, 3) := by decide +kernel
theorem dX5_isBroken_62 : decode cX5_isBroken 62 = .ok (.aload_n 1, 1) := by decide +kernel
theorem dX5_isBroken_63 : decode cX5_isBroken 63 = .ok (.getfield 38, 3) := by decide +kernel
theorem dX5_isBroken_66 : decode cX5_isBroken 66 = .ok (.getfield 57, 3) := by decide +kernel
theorem dX5_isBroken_69 : decode cX5_isBroken 69 = .ok (.invokevirtual 60, 3) := by decide +kernel
theorem dX5_isBroken_72 : decode cX5_isBroken 72 = .ok (.ifCond .ne 7, 3) := by decide +kernel
theorem dX5_isBroken_75 : decode cX5_isBroken 75 = .ok (.iconst 1, 1) := by decide +kernel
theorem dX5_isBroken_76 : decode cX5_isBroken 76 = .ok (.goto 4, 3) := by decide +kernel
theorem dX5_isBroken_79 : decode cX5_isBroken 79 = .ok (.iconst 0, 1) := by decide +kernel
theorem dX5_isBroken_80 : decode cX5_isBroken 80 = .ok (.ireturn, 1) := by decide +kernel
set_option maxRecDepth 20000 in
theorem ggX5_onlyUnknown_X4_hasSpeed : GoodIn wsX5_onlyUnknown wsX4_hasSpeed := goodIn_r _ [7, 8, 14, 15, 16, 17, 18] (by decide +kernel) (by decide +kernel)
set_option maxRecDepth 20000 in
theorem gX5_onlyUnknown_X4_hasSpeed : GoodIn wsX5_onlyUnknown (wsV RX5 54 RX4 yX4_hasSpeed wsX4_hasSpeed) := goodIn_app (goodIn_of _ (by decide +kernel)) ggX5_onlyUnknown_X4_hasSpeed
theorem dX5_onlyUnknown_0 : decode cX5_onlyUnknown 0 = .ok (.aconst_null, 1) := by decide +kernel
theorem dX5_onlyUnknown_1 : decode cX5_onlyUnknown 1 = .ok (.astore_n 1, 1) := by decide +kernel
theorem dX5_onlyUnknown_2 : decode cX5_onlyUnknown 2 = .ok (.aload_n 0, 1) := by decide +kernel
theorem dX5_onlyUnknown_3 : decode cX5_onlyUnknown 3 = .ok (.getfield 9, 3) := by decide +kernel
theorem dX5_onlyUnknown_6 : decode cX5_onlyUnknown 6 = .ok (.astore_n 2, 1) := by decide +kernel
theorem dX5_onlyUnknown_7 : decode cX5_onlyUnknown 7 = .ok (.aload_n 2, 1) := by decide +kernel
theorem dX5_onlyUnknown_8 : decode cX5_onlyUnknown 8 = .ok (.arraylength, 1) := by decide +kernel
theorem dX5_onlyUnknown_9 : decode cX5_onlyUnknown 9 = .ok (.istore_n 3, 1) := by decide +kernel
theorem dX5_onlyUnknown_10 : decode cX5_onlyUnknown 10 = .ok (.iconst 0, 1) := by decide +kernel
theorem dX5_onlyUnknown_11 : decode cX5_onlyUnknown 11 = .ok (.istore 4, 2) := by decide +kernel
theorem dX5_onlyUnknown_13 : decode cX5_onlyUnknown 13 = .ok (.iload 4, 2) := by decide +kernel
theorem dX5_onlyUnknown_15 : decode cX5_onlyUnknown 15 = .ok (.iload_n 3, 1) := by decide +kernel
theorem dX5_onlyUnknown_16 : decode cX5_onlyUnknown 16 = .ok (.if_icmp .ge 35, 3) := by decide +kernel
theorem dX5_onlyUnknown_19 : decode cX5_onlyUnknown 19 = .ok (.aload_n 2, 1) := by decide +kernel
theorem dX5_onlyUnknown_20 : decode cX5_onlyUnknown 20 = .ok (.iload 4, 2) := by decide +kernel
theorem dX5_onlyUnknown_22 : decode cX5_onlyUnknown 22 = .ok (.aaload, 1) := by decide +kernel
theorem dX5_onlyUnknown_23 : decode cX5_onlyUnknown 23 = .ok (.astore 5, 2) := by decide +kernel
theorem dX5_onlyUnknown_25 : decode cX5_onlyUnknown 25 = .ok (.aload 5, 2) := by decide +kernel
theorem dX5_onlyUnknown_27 : decode cX5_onlyUnknown 27 = .ok (.getfield 38, 3) := by decide +kernel
theorem dX5_onlyUnknown_30 : decode cX5_onlyUnknown 30 = .ok (.invokevirtual 54, 3) := by decide +kernel
theorem dX5_onlyUnknown_33 : decode cX5_onlyUnknown 33 = .ok (.ifCond .ne 12, 3) := by decide +kernel
theorem dX5_onlyUnknown_36 : decode cX5_onlyUnknown 36 = .ok (.aload_n 1, 1) := by decide +kernel
theorem dX5_onlyUnknown_37 : decode cX5_onlyUnknown 37 = .ok (.ifnull 5, 3) := by decide +kernel
theorem dX5_onlyUnknown_40 : decode cX5_onlyUnknown 40 = .ok (.aconst_null, 1) := by decide +kernel
theorem dX5_onlyUnknown_41 : decode cX5_onlyUnknown 41 = .ok (.areturn, 1) := by decide +kernel
theorem dX5_onlyUnknown_42 : decode cX5_onlyUnknown 42 = .ok (.aload 5, 2) := by decide +kernel
theorem dX5_onlyUnknown_44 : decode cX5_onlyUnknown 44 = .ok (.astore_n 1, 1) := by decide +kernel
theorem dX5_onlyUnknown_45 : decode cX5_onlyUnknown 45 = .ok (.iinc 4 1, 3) := by decide +kernel
theorem dX5_onlyUnknown_48 : decode cX5_onlyUnknown 48 = .ok (.goto (-35), 3) := by decide +kernel
theorem dX5_onlyUnknown_51 : decode cX5_onlyUnknown 51 = .ok (.aload_n 1, 1) := by decide +kernel
theorem dX5_onlyUnknown_52 : decode cX5_onlyUnknown 52 = .ok (.areturn, 1) := by decide +kernel
theorem dX5_greatestStage_0 : decode cX5_greatestStage 0 = .ok (.iconst (-1), 1) := by decide +kernel
theorem dX5_greatestStage_1 : decode cX5_greatestStage 1 = .ok (.istore_n 1, 1) := by decide +kernel
theorem dX5_greatestStage_2 : decode cX5_greatestStage 2 = .ok (.aload_n 0, 1) := by decide +kernel
theorem dX5_greatestStage_3 : decode cX5_greatestStage 3 = .ok (.getfield 9, 3) := by decide +kernel
theorem dX5_greatestStage_6 : decode cX5_greatestStage 6 = .ok (.astore_n 2, 1) := by decide +kernel
theorem dX5_greatestStage_7 : decode cX5_greatestStage 7 = .ok (.aload_n 2, 1) := by decide +kernel
theorem dX5_greatestStage_8 : decode cX5_greatestStage 8 = .ok (.arraylength, 1) := by decide +kernel
theorem dX5_greatestStage_9 : decode cX5_greatestStage 9 = .ok (.istore_n 3, 1) := by decide +kernel
theorem dX5_greatestStage_10 : decode cX5_greatestStage 10 = .ok (.iconst 0, 1) := by decide +kernel
theorem dX5_greatestStage_11 : decode cX5_greatestStage 11 = .ok (.istore 4, 2) := by decide +kernel
theorem dX5_greatestStage_13 : decode cX5_greatestStage 13 = .ok (.iload 4, 2) := by decide +kernel
theorem dX5_greatestStage_15 : decode cX5_greatestStage 15 = .ok (.iload_n 3, 1) := by decide +kernel
theorem dX5_greatestStage_16 : decode cX5_greatestStage 16 = .ok (.if_icmp .ge 28, 3) := by decide +kernel
theorem dX5_greatestStage_19 : decode cX5_greatestStage 19 = .ok (.aload_n 2, 1) := by decide +kernel
theorem dX5_greatestStage_20 : decode cX5_greatestStage 20 = .ok (.iload 4, 2) := by decide +kernel
theorem dX5_greatestStage_22 : decode cX5_greatestStage 22 = .ok (.aaload, 1) := by decide +kernel
theorem dX5_greatestStage_23 : decode cX5_greatestStage 23 = .ok (.astore 5, 2) := by decide +kernel
theorem dX5_greatestStage_25 : decode cX5_greatestStage 25 = .ok (.iload_n 1, 1) := by decide +kernel
theorem dX5_greatestStage_26 : decode cX5_greatestStage 26 = .ok (.aload 5, 2) := by decide +kernel
theorem dX5_greatestStage_28 : decode cX5_greatestStage 28 = .ok (.getfield 38, 3) := by decide +kernel
theorem dX5_greatestStage_31 : decode cX5_greatestStage 31 = .ok (.getfield 64, 3) := by decide +kernel
theorem dX5_greatestStage_34 : decode cX5_greatestStage 34 = .ok (.invokestatic 68, 3) := by decide +kernel
theorem dX5_greatestStage_37 : decode cX5_greatestStage 37 = .ok (.istore_n 1, 1) := by decide +kernel
theorem dX5_greatestStage_38 : decode cX5_greatestStage 38 = .ok (.iinc 4 1, 3) := by decide +kernel
theorem dX5_greatestStage_41 : decode cX5_greatestStage 41 = .ok (.goto (-28), 3) := by decide +kernel
theorem dX5_greatestStage_44 : decode cX5_greatestStage 44 = .ok (.iload_n 1, 1) := by decide +kernel
theorem dX5_greatestStage_45 : decode cX5_greatestStage 45 = .ok (.ireturn, 1) := by decide +kernel
set_option maxRecDepth 20000 in
theorem ggX5_ask_X0_become : GoodIn wsX5_ask wsX0_become := goodIn_r _ [12, 13, 14, 15, 16, 17, 18, 19, 20, 11, 21, 32, 33] (by decide +kernel) (by decide +kernel)
set_option maxRecDepth 20000 in
theorem gX5_ask_X0_become : GoodIn wsX5_ask (wsV RX5 84 RX0 yX0_become wsX0_become) := goodIn_app (goodIn_of _ (by decide +kernel)) ggX5_ask_X0_become
theorem dX5_ask_0 : decode cX5_ask 0 = .ok (.lconst 0, 1) := by decide +kernel
theorem dX5_ask_1 : decode cX5_ask 1 = .ok (.lstore_n 2, 1) := by decide +kernel
theorem dX5_ask_2 : decode cX5_ask 2 = .ok (.lconst 1, 1) := by decide +kernel
theorem dX5_ask_3 : decode cX5_ask 3 = .ok (.lstore 4, 2) := by decide +kernel
theorem dX5_ask_5 : decode cX5_ask 5 = .ok (.aload_n 0, 1) := by decide +kernel
theorem dX5_ask_6 : decode cX5_ask 6 = .ok (.getfield 9, 3) := by decide +kernel
theorem dX5_ask_9 : decode cX5_ask 9 = .ok (.astore 6, 2) := by decide +kernel
theorem dX5_ask_11 : decode cX5_ask 11 = .ok (.aload 6, 2) := by decide +kernel
theorem dX5_ask_13 : decode cX5_ask 13 = .ok (.arraylength, 1) := by decide +kernel
theorem dX5_ask_14 : decode cX5_ask 14 = .ok (.istore 7, 2) := by decide +kernel
theorem dX5_ask_16 : decode cX5_ask 16 = .ok (.iconst 0, 1) := by decide +kernel
theorem dX5_ask_17 : decode cX5_ask 17 = .ok (.istore 8, 2) := by decide +kernel
theorem dX5_ask_19 : decode cX5_ask 19 = .ok (.iload 8, 2) := by decide +kernel
theorem dX5_ask_21 : decode cX5_ask 21 = .ok (.iload 7, 2) := by decide +kernel
theorem dX5_ask_23 : decode cX5_ask 23 = .ok (.if_icmp .ge 66, 3) := by decide +kernel
theorem dX5_ask_26 : decode cX5_ask 26 = .ok (.aload 6, 2) := by decide +kernel
theorem dX5_ask_28 : decode cX5_ask 28 = .ok (.iload 8, 2) := by decide +kernel
theorem dX5_ask_30 : decode cX5_ask 30 = .ok (.aaload, 1) := by decide +kernel
theorem dX5_ask_31 : decode cX5_ask 31 = .ok (.astore 9, 2) := by decide +kernel
theorem dX5_ask_33 : decode cX5_ask 33 = .ok (.aload 9, 2) := by decide +kernel
theorem dX5_ask_35 : decode cX5_ask 35 = .ok (.aload_n 1, 1) := by decide +kernel
theorem dX5_ask_36 : decode cX5_ask 36 = .ok (.if_acmp .eq 47, 3) := by decide +kernel
theorem dX5_ask_39 : decode cX5_ask 39 = .ok (.aload 9, 2) := by decide +kernel
theorem dX5_ask_41 : decode cX5_ask 41 = .ok (.getfield 38, 3) := by decide +kernel
theorem dX5_ask_44 : decode cX5_ask 44 = .ok (.getfield 57, 3) := by decide +kernel
theorem dX5_ask_47 : decode cX5_ask 47 = .ok (.astore 10, 2) := by decide +kernel
theorem dX5_ask_49 : decode cX5_ask 49 = .ok (.lload_n 2, 1) := by decide +kernel
theorem dX5_ask_50 : decode cX5_ask 50 = .ok (.aload 10, 2) := by decide +kernel
