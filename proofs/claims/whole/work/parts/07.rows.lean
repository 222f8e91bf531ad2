theorem dX6_broken_108 : decode cX6_broken 108 = .ok (.ireturn, 1) := by decide +kernel
set_option maxRecDepth 20000 in
theorem ggX6_free_Jx4a65c_size_8abf5 : GoodIn wsX6_free wsJx4a65c_size_8abf5 := goodIn_r _ [7, 8, 38, 39, 40] (by decide +kernel) (by decide +kernel)
set_option maxRecDepth 20000 in
theorem gX6_free_Jx4a65c_size_8abf5 : GoodIn wsX6_free (wsV RX6 36 RJx4a65c yJx4a65c_size_8abf5 wsJx4a65c_size_8abf5) := goodIn_app (goodIn_of _ (by decide +kernel)) ggX6_free_Jx4a65c_size_8abf5
set_option maxRecDepth 20000 in
theorem ggX6_free_Jx4a65c_get_915e3 : GoodIn wsX6_free wsJx4a65c_get_915e3 := goodIn_r _ [12, 8, 13, 14, 15, 16, 17, 18, 19, 20, 21, 22, 23, 6, 24, 25, 38, 39, 40] (by decide +kernel) (by decide +kernel)
set_option maxRecDepth 20000 in
theorem gX6_free_Jx4a65c_get_915e3 : GoodIn wsX6_free (wsV RX6 59 RJx4a65c yJx4a65c_get_915e3 wsJx4a65c_get_915e3) := goodIn_app (goodIn_of _ (by decide +kernel)) ggX6_free_Jx4a65c_get_915e3
set_option maxRecDepth 20000 in
theorem ggX6_free_X4_hasSpeed : GoodIn wsX6_free wsX4_hasSpeed := goodIn_r _ [30, 31, 41, 42, 43, 44, 45] (by decide +kernel) (by decide +kernel)
set_option maxRecDepth 20000 in
theorem gX6_free_X4_hasSpeed : GoodIn wsX6_free (wsV RX6 153 RX4 yX4_hasSpeed wsX4_hasSpeed) := goodIn_app (goodIn_of _ (by decide +kernel)) ggX6_free_X4_hasSpeed
theorem dX6_free_0 : decode cX6_free 0 = .ok (.iconst 0, 1) := by decide +kernel
theorem dX6_free_1 : decode cX6_free 1 = .ok (.istore_n 1, 1) := by decide +kernel
theorem dX6_free_2 : decode cX6_free 2 = .ok (.iconst 0, 1) := by decide +kernel
theorem dX6_free_3 : decode cX6_free 3 = .ok (.istore_n 2, 1) := by decide +kernel
theorem dX6_free_4 : decode cX6_free 4 = .ok (.iload_n 2, 1) := by decide +kernel
theorem dX6_free_5 : decode cX6_free 5 = .ok (.aload_n 0, 1) := by decide +kernel
theorem dX6_free_6 : decode cX6_free 6 = .ok (.getfield 12, 3) := by decide +kernel
theorem dX6_free_9 : decode cX6_free 9 = .ok (.invokevirtual 36, 3) := by decide +kernel
theorem dX6_free_12 : decode cX6_free 12 = .ok (.if_icmp .ge 34, 3) := by decide +kernel
theorem dX6_free_15 : decode cX6_free 15 = .ok (.iload_n 1, 1) := by decide +kernel
theorem dX6_free_16 : decode cX6_free 16 = .ok (.aload_n 0, 1) := by decide +kernel
theorem dX6_free_17 : decode cX6_free 17 = .ok (.getfield 12, 3) := by decide +kernel
theorem dX6_free_20 : decode cX6_free 20 = .ok (.iload_n 2, 1) := by decide +kernel
theorem dX6_free_21 : decode cX6_free 21 = .ok (.invokevirtual 59, 3) := by decide +kernel
theorem dX6_free_24 : decode cX6_free 24 = .ok (.checkcast 47, 3) := by decide +kernel
theorem dX6_free_27 : decode cX6_free 27 = .ok (.invokevirtual 153, 3) := by decide +kernel
theorem dX6_free_30 : decode cX6_free 30 = .ok (.ifCond .eq 7, 3) := by decide +kernel
theorem dX6_free_33 : decode cX6_free 33 = .ok (.iconst 0, 1) := by decide +kernel
theorem dX6_free_34 : decode cX6_free 34 = .ok (.goto 4, 3) := by decide +kernel
theorem dX6_free_37 : decode cX6_free 37 = .ok (.iconst 1, 1) := by decide +kernel
theorem dX6_free_38 : decode cX6_free 38 = .ok (.iadd, 1) := by decide +kernel
theorem dX6_free_39 : decode cX6_free 39 = .ok (.istore_n 1, 1) := by decide +kernel
theorem dX6_free_40 : decode cX6_free 40 = .ok (.iinc 2 1, 3) := by decide +kernel
theorem dX6_free_43 : decode cX6_free 43 = .ok (.goto (-39), 3) := by decide +kernel
theorem dX6_free_46 : decode cX6_free 46 = .ok (.iload_n 1, 1) := by decide +kernel
theorem dX6_free_47 : decode cX6_free 47 = .ok (.ireturn, 1) := by decide +kernel
set_option maxRecDepth 20000 in
theorem ggX6_torque_X6_requireShaft : GoodIn wsX6_torque wsX6_requireShaft := goodIn_ca (goodIn_r _ [19, 20, 21, 6, 22, 23, 24, 25, 26, 27, 28, 29, 18, 30, 62, 63, 64, 65, 66, 67, 75, 76, 77] (by decide +kernel) (by decide +kernel)) (goodIn_sub (fun _ h => List.mem_cons_of_mem _ (List.mem_append_right _ h)) (by decide +kernel))
set_option maxRecDepth 20000 in
theorem gX6_torque_X6_requireShaft : GoodIn wsX6_torque (wsV RX6 55 RX6 yX6_requireShaft wsX6_requireShaft) := goodIn_app (goodIn_of _ (by decide +kernel)) ggX6_torque_X6_requireShaft
set_option maxRecDepth 20000 in
theorem ggX6_torque_X6_isWithin : GoodIn wsX6_torque wsX6_isWithin := goodIn_r _ [30] (by decide +kernel) (by decide +kernel)
set_option maxRecDepth 20000 in
theorem gX6_torque_X6_isWithin : GoodIn wsX6_torque (va_wsS RX6 73 yX6_isWithin wsX6_isWithin) := goodIn_app (goodIn_of _ (by decide +kernel)) ggX6_torque_X6_isWithin
set_option maxRecDepth 20000 in
theorem ggX6_torque_X6_requireTurning : GoodIn wsX6_torque wsX6_requireTurning := goodIn_ca (goodIn_r _ [34, 3, 4, 6, 7, 12, 14, 35, 36, 37, 18, 38, 39, 40, 41, 25, 42, 27, 43, 44, 45, 46, 47, 48, 49, 50, 51, 52, 53, 54, 55, 56, 57, 58, 59, 60, 61, 62, 63, 64, 65, 66, 67, 68, 69, 70, 71, 72, 73, 74, 75, 76, 77] (by decide +kernel) (by decide +kernel)) (goodIn_sub (fun _ h => List.mem_cons_of_mem _ (List.mem_append_left _ (List.mem_append_right _ h))) (by decide +kernel))
set_option maxRecDepth 20000 in
theorem gX6_torque_X6_requireTurning : GoodIn wsX6_torque (wsV RX6 175 RX6 yX6_requireTurning wsX6_requireTurning) := goodIn_app (goodIn_of _ (by decide +kernel)) ggX6_torque_X6_requireTurning
set_option maxRecDepth 20000 in
theorem ggX6_torque_Jx4a65c_get_915e3 : GoodIn wsX6_torque wsJx4a65c_get_915e3 := goodIn_r _ [42, 27, 43, 44, 45, 46, 47, 48, 49, 50, 51, 52, 53, 25, 54, 55, 75, 76, 77] (by decide +kernel) (by decide +kernel)
set_option maxRecDepth 20000 in
theorem gX6_torque_Jx4a65c_get_915e3 : GoodIn wsX6_torque (wsV RX6 59 RJx4a65c yJx4a65c_get_915e3 wsJx4a65c_get_915e3) := goodIn_app (goodIn_of _ (by decide +kernel)) ggX6_torque_Jx4a65c_get_915e3
theorem dX6_torque_0 : decode cX6_torque 0 = .ok (.aload_n 0, 1) := by decide +kernel
theorem dX6_torque_1 : decode cX6_torque 1 = .ok (.iload_n 1, 1) := by decide +kernel
theorem dX6_torque_2 : decode cX6_torque 2 = .ok (.invokevirtual 55, 3) := by decide +kernel
theorem dX6_torque_5 : decode cX6_torque 5 = .ok (.iload_n 2, 1) := by decide +kernel
theorem dX6_torque_6 : decode cX6_torque 6 = .ok (.iconst 1, 1) := by decide +kernel
theorem dX6_torque_7 : decode cX6_torque 7 = .ok (.sipush 10000, 3) := by decide +kernel
theorem dX6_torque_10 : decode cX6_torque 10 = .ok (.invokestatic 73, 3) := by decide +kernel
theorem dX6_torque_13 : decode cX6_torque 13 = .ok (.ifCond .ne 13, 3) := by decide +kernel
theorem dX6_torque_16 : decode cX6_torque 16 = .ok (.new 77, 3) := by decide +kernel
theorem dX6_torque_19 : decode cX6_torque 19 = .ok (.dup, 1) := by decide +kernel
theorem dX6_torque_20 : decode cX6_torque 20 = .ok (.ldc 192, 2) := by decide +kernel
theorem dX6_torque_22 : decode cX6_torque 22 = .ok (.invokespecial 81, 3) := by decide +kernel
theorem dX6_torque_25 : decode cX6_torque 25 = .ok (.athrow, 1) := by decide +kernel
theorem dX6_torque_26 : decode cX6_torque 26 = .ok (.aload_n 0, 1) := by decide +kernel
theorem dX6_torque_27 : decode cX6_torque 27 = .ok (.getfield 25, 3) := by decide +kernel
theorem dX6_torque_30 : decode cX6_torque 30 = .ok (.iconst (-1), 1) := by decide +kernel
theorem dX6_torque_31 : decode cX6_torque 31 = .ok (.if_icmp .ne 13, 3) := by decide +kernel
theorem dX6_torque_34 : decode cX6_torque 34 = .ok (.new 40, 3) := by decide +kernel
theorem dX6_torque_37 : decode cX6_torque 37 = .ok (.dup, 1) := by decide +kernel
theorem dX6_torque_38 : decode cX6_torque 38 = .ok (.ldc 194, 2) := by decide +kernel
theorem dX6_torque_40 : decode cX6_torque 40 = .ok (.invokespecial 44, 3) := by decide +kernel
theorem dX6_torque_43 : decode cX6_torque 43 = .ok (.athrow, 1) := by decide +kernel
theorem dX6_torque_44 : decode cX6_torque 44 = .ok (.aload_n 0, 1) := by decide +kernel
theorem dX6_torque_45 : decode cX6_torque 45 = .ok (.iload_n 1, 1) := by decide +kernel
theorem dX6_torque_46 : decode cX6_torque 46 = .ok (.invokevirtual 175, 3) := by decide +kernel
theorem dX6_torque_49 : decode cX6_torque 49 = .ok (.aload_n 0, 1) := by decide +kernel
theorem dX6_torque_50 : decode cX6_torque 50 = .ok (.getfield 12, 3) := by decide +kernel
theorem dX6_torque_53 : decode cX6_torque 53 = .ok (.iload_n 1, 1) := by decide +kernel
theorem dX6_torque_54 : decode cX6_torque 54 = .ok (.invokevirtual 59, 3) := by decide +kernel
theorem dX6_torque_57 : decode cX6_torque 57 = .ok (.checkcast 47, 3) := by decide +kernel
theorem dX6_torque_60 : decode cX6_torque 60 = .ok (.astore_n 3, 1) := by decide +kernel
theorem dX6_torque_61 : decode cX6_torque 61 = .ok (.iload_n 2, 1) := by decide +kernel
theorem dX6_torque_62 : decode cX6_torque 62 = .ok (.i2l, 1) := by decide +kernel
theorem dX6_torque_63 : decode cX6_torque 63 = .ok (.lstore 4, 2) := by decide +kernel
theorem dX6_torque_65 : decode cX6_torque 65 = .ok (.iconst 0, 1) := by decide +kernel
theorem dX6_torque_66 : decode cX6_torque 66 = .ok (.istore 6, 2) := by decide +kernel
theorem dX6_torque_68 : decode cX6_torque 68 = .ok (.iload 6, 2) := by decide +kernel
theorem dX6_torque_70 : decode cX6_torque 70 = .ok (.aload_n 3, 1) := by decide +kernel
theorem dX6_torque_71 : decode cX6_torque 71 = .ok (.getfield 172, 3) := by decide +kernel
theorem dX6_torque_74 : decode cX6_torque 74 = .ok (.if_icmp .ge 21, 3) := by decide +kernel
theorem dX6_torque_77 : decode cX6_torque 77 = .ok (.lload 4, 2) := by decide +kernel
theorem dX6_torque_79 : decode cX6_torque 79 = .ok (.ldc2_w 196, 3) := by decide +kernel
theorem dX6_torque_82 : decode cX6_torque 82 = .ok (.lmul, 1) := by decide +kernel
theorem dX6_torque_83 : decode cX6_torque 83 = .ok (.ldc2_w 198, 3) := by decide +kernel
theorem dX6_torque_86 : decode cX6_torque 86 = .ok (.ldiv, 1) := by decide +kernel
theorem dX6_torque_87 : decode cX6_torque 87 = .ok (.lstore 4, 2) := by decide +kernel
theorem dX6_torque_89 : decode cX6_torque 89 = .ok (.iinc 6 1, 3) := by decide +kernel
theorem dX6_torque_92 : decode cX6_torque 92 = .ok (.goto (-24), 3) := by decide +kernel
theorem dX6_torque_95 : decode cX6_torque 95 = .ok (.lload 4, 2) := by decide +kernel
theorem dX6_torque_97 : decode cX6_torque 97 = .ok (.aload_n 0, 1) := by decide +kernel
theorem dX6_torque_98 : decode cX6_torque 98 = .ok (.getfield 29, 3) := by decide +kernel
theorem dX6_torque_101 : decode cX6_torque 101 = .ok (.i2l, 1) := by decide +kernel
theorem dX6_torque_102 : decode cX6_torque 102 = .ok (.lmul, 1) := by decide +kernel
theorem dX6_torque_103 : decode cX6_torque 103 = .ok (.aload_n 3, 1) := by decide +kernel
theorem dX6_torque_104 : decode cX6_torque 104 = .ok (.getfield 159, 3) := by decide +kernel
theorem dX6_torque_107 : decode cX6_torque 107 = .ok (.getfield 163, 3) := by decide +kernel
theorem dX6_torque_110 : decode cX6_torque 110 = .ok (.lmul, 1) := by decide +kernel
theorem dX6_torque_111 : decode cX6_torque 111 = .ok (.aload_n 3, 1) := by decide +kernel
theorem dX6_torque_112 : decode cX6_torque 112 = .ok (.getfield 159, 3) := by decide +kernel
theorem dX6_torque_115 : decode cX6_torque 115 = .ok (.getfield 169, 3) := by decide +kernel
theorem dX6_torque_118 : decode cX6_torque 118 = .ok (.ldiv, 1) := by decide +kernel
theorem dX6_torque_119 : decode cX6_torque 119 = .ok (.lreturn, 1) := by decide +kernel
set_option maxRecDepth 20000 in
theorem ggX6_distance_Jx4a65c_size_8abf5 : GoodIn wsX6_distance wsJx4a65c_size_8abf5 := goodIn_r _ [9, 10, 52, 53, 54] (by decide +kernel) (by decide +kernel)
set_option maxRecDepth 20000 in
theorem gX6_distance_Jx4a65c_size_8abf5 : GoodIn wsX6_distance (wsV RX6 36 RJx4a65c yJx4a65c_size_8abf5 wsJx4a65c_size_8abf5) := goodIn_app (goodIn_of _ (by decide +kernel)) ggX6_distance_Jx4a65c_size_8abf5
set_option maxRecDepth 20000 in
theorem ggX6_distance_X6_isWithin : GoodIn wsX6_distance wsX6_isWithin := goodIn_r _ [14] (by decide +kernel) (by decide +kernel)
set_option maxRecDepth 20000 in
theorem gX6_distance_X6_isWithin : GoodIn wsX6_distance (va_wsS RX6 73 yX6_isWithin wsX6_isWithin) := goodIn_app (goodIn_of _ (by decide +kernel)) ggX6_distance_X6_isWithin
set_option maxRecDepth 20000 in
theorem ggX6_distance_Jx4a65c_get_915e3 : GoodIn wsX6_distance wsJx4a65c_get_915e3 := goodIn_r _ [18, 10, 19, 20, 21, 22, 23, 24, 25, 26, 27, 28, 29, 8, 30, 31, 52, 53, 54] (by decide +kernel) (by decide +kernel)
set_option maxRecDepth 20000 in
theorem gX6_distance_Jx4a65c_get_915e3 : GoodIn wsX6_distance (wsV RX6 59 RJx4a65c yJx4a65c_get_915e3 wsJx4a65c_get_915e3) := goodIn_app (goodIn_of _ (by decide +kernel)) ggX6_distance_Jx4a65c_get_915e3
set_option maxRecDepth 20000 in
theorem ggX6_distance_X2_length : GoodIn wsX6_distance wsX2_length := goodIn_r _ [36, 37, 38, 39, 40, 41, 42, 43, 44, 45, 55, 56, 57, 58, 59, 60, 61, 62] (by decide +kernel) (by decide +kernel)
set_option maxRecDepth 20000 in
theorem gX6_distance_X2_length : GoodIn wsX6_distance (wsV RX6 202 RX2 yX2_length wsX2_length) := goodIn_app (goodIn_of _ (by decide +kernel)) ggX6_distance_X2_length
theorem dX6_distance_0 : decode cX6_distance 0 = .ok (.iload_n 1, 1) := by decide +kernel
theorem dX6_distance_1 : decode cX6_distance 1 = .ok (.iconst 0, 1) := by decide +kernel
theorem dX6_distance_2 : decode cX6_distance 2 = .ok (.aload_n 0, 1) := by decide +kernel
theorem dX6_distance_3 : decode cX6_distance 3 = .ok (.getfield 19, 3) := by decide +kernel
theorem dX6_distance_6 : decode cX6_distance 6 = .ok (.invokevirtual 36, 3) := by decide +kernel
theorem dX6_distance_9 : decode cX6_distance 9 = .ok (.iconst 1, 1) := by decide +kernel
theorem dX6_distance_10 : decode cX6_distance 10 = .ok (.isub, 1) := by decide +kernel
theorem dX6_distance_11 : decode cX6_distance 11 = .ok (.invokestatic 73, 3) := by decide +kernel
theorem dX6_distance_14 : decode cX6_distance 14 = .ok (.ifCond .ne 13, 3) := by decide +kernel
theorem dX6_distance_17 : decode cX6_distance 17 = .ok (.new 132, 3) := by decide +kernel
theorem dX6_distance_20 : decode cX6_distance 20 = .ok (.dup, 1) := by decide +kernel
theorem dX6_distance_21 : decode cX6_distance 21 = .ok (.ldc 200, 2) := by decide +kernel
theorem dX6_distance_23 : decode cX6_distance 23 = .ok (.invokespecial 136, 3) := by decide +kernel
theorem dX6_distance_26 : decode cX6_distance 26 = .ok (.athrow, 1) := by decide +kernel
theorem dX6_distance_27 : decode cX6_distance 27 = .ok (.aload_n 0, 1) := by decide +kernel
theorem dX6_distance_28 : decode cX6_distance 28 = .ok (.getfield 19, 3) := by decide +kernel
theorem dX6_distance_31 : decode cX6_distance 31 = .ok (.iload_n 1, 1) := by decide +kernel
theorem dX6_distance_32 : decode cX6_distance 32 = .ok (.invokevirtual 59, 3) := by decide +kernel
theorem dX6_distance_35 : decode cX6_distance 35 = .ok (.checkcast 104, 3) := by decide +kernel
theorem dX6_distance_38 : decode cX6_distance 38 = .ok (.invokevirtual 202, 3) := by decide +kernel
theorem dX6_distance_41 : decode cX6_distance 41 = .ok (.ireturn, 1) := by decide +kernel
set_option maxRecDepth 20000 in
theorem ggX6_misfits_Jx4a65c_size_8abf5 : GoodIn wsX6_misfits wsJx4a65c_size_8abf5 := goodIn_r _ [7, 8, 60, 61, 62] (by decide +kernel) (by decide +kernel)
set_option maxRecDepth 20000 in
theorem gX6_misfits_Jx4a65c_size_8abf5 : GoodIn wsX6_misfits (wsV RX6 36 RJx4a65c yJx4a65c_size_8abf5 wsJx4a65c_size_8abf5) := goodIn_app (goodIn_of _ (by decide +kernel)) ggX6_misfits_Jx4a65c_size_8abf5
set_option maxRecDepth 20000 in
theorem ggX6_misfits_Jx4a65c_get_915e3 : GoodIn wsX6_misfits wsJx4a65c_get_915e3 := goodIn_r _ [12, 8, 13, 14, 15, 16, 17, 18, 19, 20, 21, 22, 23, 6, 24, 25, 60, 61, 62] (by decide +kernel) (by decide +kernel)
set_option maxRecDepth 20000 in
theorem gX6_misfits_Jx4a65c_get_915e3 : GoodIn wsX6_misfits (wsV RX6 59 RJx4a65c yJx4a65c_get_915e3 wsJx4a65c_get_915e3) := goodIn_app (goodIn_of _ (by decide +kernel)) ggX6_misfits_Jx4a65c_get_915e3
set_option maxRecDepth 20000 in
theorem ggX6_misfits_X2_fits : GoodIn wsX6_misfits wsX2_fits := goodIn_r _ [30, 31, 32, 33, 34, 35, 36, 37, 38, 29, 39, 40, 41, 42, 43, 44, 45, 46, 47, 48, 49, 50, 51, 52, 53, 63, 64, 65, 66, 67, 68, 69, 70, 71, 72, 73, 74, 75] (by decide +kernel) (by decide +kernel)
set_option maxRecDepth 20000 in
theorem gX6_misfits_X2_fits : GoodIn wsX6_misfits (wsV RX6 205 RX2 yX2_fits wsX2_fits) := goodIn_app (goodIn_of _ (by decide +kernel)) ggX6_misfits_X2_fits
theorem dX6_misfits_0 : decode cX6_misfits 0 = .ok (.iconst 0, 1) := by decide +kernel
theorem dX6_misfits_1 : decode cX6_misfits 1 = .ok (.istore_n 1, 1) := by decide +kernel
theorem dX6_misfits_2 : decode cX6_misfits 2 = .ok (.iconst 0, 1) := by decide +kernel
theorem dX6_misfits_3 : decode cX6_misfits 3 = .ok (.istore_n 2, 1) := by decide +kernel
theorem dX6_misfits_4 : decode cX6_misfits 4 = .ok (.iload_n 2, 1) := by decide +kernel
theorem dX6_misfits_5 : decode cX6_misfits 5 = .ok (.aload_n 0, 1) := by decide +kernel
theorem dX6_misfits_6 : decode cX6_misfits 6 = .ok (.getfield 19, 3) := by decide +kernel
theorem dX6_misfits_9 : decode cX6_misfits 9 = .ok (.invokevirtual 36, 3) := by decide +kernel
theorem dX6_misfits_12 : decode cX6_misfits 12 = .ok (.if_icmp .ge 36, 3) := by decide +kernel
theorem dX6_misfits_15 : decode cX6_misfits 15 = .ok (.iload_n 1, 1) := by decide +kernel
theorem dX6_misfits_16 : decode cX6_misfits 16 = .ok (.aload_n 0, 1) := by decide +kernel
theorem dX6_misfits_17 : decode cX6_misfits 17 = .ok (.getfield 19, 3) := by decide +kernel
theorem dX6_misfits_20 : decode cX6_misfits 20 = .ok (.iload_n 2, 1) := by decide +kernel
theorem dX6_misfits_21 : decode cX6_misfits 21 = .ok (.invokevirtual 59, 3) := by decide +kernel
theorem dX6_misfits_24 : decode cX6_misfits 24 = .ok (.checkcast 104, 3) := by decide +kernel
theorem dX6_misfits_27 : decode cX6_misfits 27 = .ok (.invokevirtual 205, 3) := by decide +kernel
theorem dX6_misfits_30 : decode cX6_misfits 30 = .ok (.ifCond .eq 7, 3) := by decide +kernel
theorem dX6_misfits_33 : decode cX6_misfits 33 = .ok (.iconst 0, 1) := by decide +kernel
theorem dX6_misfits_34 : decode cX6_misfits 34 = .ok (.goto 6, 3) := by decide +kernel
theorem dX6_misfits_37 : decode cX6_misfits 37 = .ok (.iconst 1, 1) := by decide +kernel
theorem dX6_misfits_38 : decode cX6_misfits 38 = .ok (.iload_n 2, 1) := by decide +kernel
theorem dX6_misfits_39 : decode cX6_misfits 39 = .ok (.ishl, 1) := by decide +kernel
theorem dX6_misfits_40 : decode cX6_misfits 40 = .ok (.ior, 1) := by decide +kernel
theorem dX6_misfits_41 : decode cX6_misfits 41 = .ok (.istore_n 1, 1) := by decide +kernel
theorem dX6_misfits_42 : decode cX6_misfits 42 = .ok (.iinc 2 1, 3) := by decide +kernel
theorem dX6_misfits_45 : decode cX6_misfits 45 = .ok (.goto (-41), 3) := by decide +kernel
theorem dX6_misfits_48 : decode cX6_misfits 48 = .ok (.iload_n 1, 1) := by decide +kernel
theorem dX6_misfits_49 : decode cX6_misfits 49 = .ok (.ireturn, 1) := by decide +kernel
set_option maxRecDepth 20000 in
theorem ggX6_collisions_Jx4a65c_size_8abf5 : GoodIn wsX6_collisions wsJx4a65c_size_8abf5 := goodIn_r _ [7, 8, 73, 74, 75] (by decide +kernel) (by decide +kernel)
set_option maxRecDepth 20000 in
theorem gX6_collisions_Jx4a65c_size_8abf5 : GoodIn wsX6_collisions (wsV RX6 36 RJx4a65c yJx4a65c_size_8abf5 wsJx4a65c_size_8abf5) := goodIn_app (goodIn_of _ (by decide +kernel)) ggX6_collisions_Jx4a65c_size_8abf5
set_option maxRecDepth 20000 in
theorem ggX6_collisions_Jx4a65c_get_915e3 : GoodIn wsX6_collisions wsJx4a65c_get_915e3 := goodIn_r _ [12, 8, 13, 14, 15, 16, 17, 18, 19, 20, 21, 22, 23, 6, 24, 25, 73, 74, 75] (by decide +kernel) (by decide +kernel)
set_option maxRecDepth 20000 in
theorem gX6_collisions_Jx4a65c_get_915e3 : GoodIn wsX6_collisions (wsV RX6 59 RJx4a65c yJx4a65c_get_915e3 wsJx4a65c_get_915e3) := goodIn_app (goodIn_of _ (by decide +kernel)) ggX6_collisions_Jx4a65c_get_915e3
set_option maxRecDepth 20000 in
theorem ggX6_collisions_X6_doCollide : GoodIn wsX6_collisions wsX6_doCollide := goodIn_r _ [30, 31, 32, 33, 34, 35, 36, 37, 38, 39, 40, 41, 42, 43, 44, 45, 46, 47, 48, 49, 50, 51, 52, 53, 54, 55, 56, 29, 57, 58, 59, 3, 4, 5, 6, 7, 8, 9, 10, 11, 12, 13, 14, 15, 16, 17, 18, 19, 20, 21, 22, 23, 24, 25, 60, 61, 62, 63, 64, 65, 66, 76, 77, 78, 79, 80, 81, 82, 83, 84, 85, 67, 68, 69, 70, 71, 72, 73, 74, 75, 86, 87, 88] (by decide +kernel) (by decide +kernel)
set_option maxRecDepth 20000 in
theorem gX6_collisions_X6_doCollide : GoodIn wsX6_collisions (wsV RX6 208 RX6 yX6_doCollide wsX6_doCollide) := goodIn_app (goodIn_of _ (by decide +kernel)) ggX6_collisions_X6_doCollide
theorem dX6_collisions_0 : decode cX6_collisions 0 = .ok (.iconst 0, 1) := by decide +kernel
theorem dX6_collisions_1 : decode cX6_collisions 1 = .ok (.istore_n 1, 1) := by decide +kernel
theorem dX6_collisions_2 : decode cX6_collisions 2 = .ok (.iconst 0, 1) := by decide +kernel
theorem dX6_collisions_3 : decode cX6_collisions 3 = .ok (.istore_n 2, 1) := by decide +kernel
theorem dX6_collisions_4 : decode cX6_collisions 4 = .ok (.iload_n 2, 1) := by decide +kernel
theorem dX6_collisions_5 : decode cX6_collisions 5 = .ok (.aload_n 0, 1) := by decide +kernel
theorem dX6_collisions_6 : decode cX6_collisions 6 = .ok (.getfield 16, 3) := by decide +kernel
theorem dX6_collisions_9 : decode cX6_collisions 9 = .ok (.invokevirtual 36, 3) := by decide +kernel
theorem dX6_collisions_12 : decode cX6_collisions 12 = .ok (.if_icmp .ge 67, 3) := by decide +kernel
theorem dX6_collisions_15 : decode cX6_collisions 15 = .ok (.iload_n 2, 1) := by decide +kernel
theorem dX6_collisions_16 : decode cX6_collisions 16 = .ok (.iconst 1, 1) := by decide +kernel
theorem dX6_collisions_17 : decode cX6_collisions 17 = .ok (.iadd, 1) := by decide +kernel
theorem dX6_collisions_18 : decode cX6_collisions 18 = .ok (.istore_n 3, 1) := by decide +kernel
theorem dX6_collisions_19 : decode cX6_collisions 19 = .ok (.iload_n 3, 1) := by decide +kernel
theorem dX6_collisions_20 : decode cX6_collisions 20 = .ok (.aload_n 0, 1) := by decide +kernel
theorem dX6_collisions_21 : decode cX6_collisions 21 = .ok (.getfield 16, 3) := by decide +kernel
theorem dX6_collisions_24 : decode cX6_collisions 24 = .ok (.invokevirtual 36, 3) := by decide +kernel
theorem dX6_collisions_27 : decode cX6_collisions 27 = .ok (.if_icmp .ge 46, 3) := by decide +kernel
theorem dX6_collisions_30 : decode cX6_collisions 30 = .ok (.iload_n 1, 1) := by decide +kernel
theorem dX6_collisions_31 : decode cX6_collisions 31 = .ok (.aload_n 0, 1) := by decide +kernel
theorem dX6_collisions_32 : decode cX6_collisions 32 = .ok (.aload_n 0, 1) := by decide +kernel
theorem dX6_collisions_33 : decode cX6_collisions 33 = .ok (.getfield 16, 3) := by decide +kernel
theorem dX6_collisions_36 : decode cX6_collisions 36 = .ok (.iload_n 2, 1) := by decide +kernel
theorem dX6_collisions_37 : decode cX6_collisions 37 = .ok (.invokevirtual 59, 3) := by decide +kernel
theorem dX6_collisions_40 : decode cX6_collisions 40 = .ok (.checkcast 84, 3) := by decide +kernel
theorem dX6_collisions_43 : decode cX6_collisions 43 = .ok (.aload_n 0, 1) := by decide +kernel
theorem dX6_collisions_44 : decode cX6_collisions 44 = .ok (.getfield 16, 3) := by decide +kernel
theorem dX6_collisions_47 : decode cX6_collisions 47 = .ok (.iload_n 3, 1) := by decide +kernel
theorem dX6_collisions_48 : decode cX6_collisions 48 = .ok (.invokevirtual 59, 3) := by decide +kernel
theorem dX6_collisions_51 : decode cX6_collisions 51 = .ok (.checkcast 84, 3) := by decide +kernel
theorem dX6_collisions_54 : decode cX6_collisions 54 = .ok (.invokevirtual 208, 3) := by decide +kernel
theorem dX6_collisions_57 : decode cX6_collisions 57 = .ok (.ifCond .eq 7, 3) := by decide +kernel
theorem dX6_collisions_60 : decode cX6_collisions 60 = .ok (.iconst 1, 1) := by decide +kernel
theorem dX6_collisions_61 : decode cX6_collisions 61 = .ok (.goto 4, 3) := by decide +kernel
theorem dX6_collisions_64 : decode cX6_collisions 64 = .ok (.iconst 0, 1) := by decide +kernel
theorem dX6_collisions_65 : decode cX6_collisions 65 = .ok (.iadd, 1) := by decide +kernel
theorem dX6_collisions_66 : decode cX6_collisions 66 = .ok (.istore_n 1, 1) := by decide +kernel
theorem dX6_collisions_67 : decode cX6_collisions 67 = .ok (.iinc 3 1, 3) := by decide +kernel
theorem dX6_collisions_70 : decode cX6_collisions 70 = .ok (.goto (-51), 3) := by decide +kernel
theorem dX6_collisions_73 : decode cX6_collisions 73 = .ok (.iinc 2 1, 3) := by decide +kernel
theorem dX6_collisions_76 : decode cX6_collisions 76 = .ok (.goto (-72), 3) := by decide +kernel
theorem dX6_collisions_79 : decode cX6_collisions 79 = .ok (.iload_n 1, 1) := by decide +kernel
theorem dX6_collisions_80 : decode cX6_collisions 80 = .ok (.ireturn, 1) := by decide +kernel
set_option maxRecDepth 20000 in
theorem ggX6_suggest_X6_isWithin : GoodIn wsX6_suggest wsX6_isWithin := goodIn_r _ [13] (by decide +kernel) (by decide +kernel)
set_option maxRecDepth 20000 in
theorem gX6_suggest_X6_isWithin : GoodIn wsX6_suggest (va_wsS RX6 73 yX6_isWithin wsX6_isWithin) := goodIn_app (goodIn_of _ (by decide +kernel)) ggX6_suggest_X6_isWithin
set_option maxRecDepth 20000 in
theorem ggX6_suggest_X6_isBetterPair : GoodIn wsX6_suggest wsX6_isBetterPair := goodIn_r _ [16, 17, 18, 12, 19, 20, 21, 5, 22] (by decide +kernel) (by decide +kernel)
set_option maxRecDepth 20000 in
theorem gX6_suggest_X6_isBetterPair : GoodIn wsX6_suggest (va_wsS RX6 223 yX6_isBetterPair wsX6_isBetterPair) := goodIn_app (goodIn_of _ (by decide +kernel)) ggX6_suggest_X6_isBetterPair
theorem dX6_suggest_0 : decode cX6_suggest 0 = .ok (.iload_n 1, 1) := by decide +kernel
theorem dX6_suggest_1 : decode cX6_suggest 1 = .ok (.iconst 1, 1) := by decide +kernel
theorem dX6_suggest_2 : decode cX6_suggest 2 = .ok (.sipush 10000, 3) := by decide +kernel
theorem dX6_suggest_5 : decode cX6_suggest 5 = .ok (.invokestatic 73, 3) := by decide +kernel
theorem dX6_suggest_8 : decode cX6_suggest 8 = .ok (.ifCond .eq 14, 3) := by decide +kernel
theorem dX6_suggest_11 : decode cX6_suggest 11 = .ok (.iload_n 2, 1) := by decide +kernel
theorem dX6_suggest_12 : decode cX6_suggest 12 = .ok (.iconst 1, 1) := by decide +kernel
theorem dX6_suggest_13 : decode cX6_suggest 13 = .ok (.sipush 10000, 3) := by decide +kernel
theorem dX6_suggest_16 : decode cX6_suggest 16 = .ok (.invokestatic 73, 3) := by decide +kernel
theorem dX6_suggest_19 : decode cX6_suggest 19 = .ok (.ifCond .ne 13, 3) := by decide +kernel
theorem dX6_suggest_22 : decode cX6_suggest 22 = .ok (.new 77, 3) := by decide +kernel
theorem dX6_suggest_25 : decode cX6_suggest 25 = .ok (.dup, 1) := by decide +kernel
theorem dX6_suggest_26 : decode cX6_suggest 26 = .ok (.ldc 211, 2) := by decide +kernel
theorem dX6_suggest_28 : decode cX6_suggest 28 = .ok (.invokespecial 81, 3) := by decide +kernel
theorem dX6_suggest_31 : decode cX6_suggest 31 = .ok (.athrow, 1) := by decide +kernel
theorem dX6_suggest_32 : decode cX6_suggest 32 = .ok (.iload_n 3, 1) := by decide +kernel
theorem dX6_suggest_33 : decode cX6_suggest 33 = .ok (.bipush 8, 2) := by decide +kernel
theorem dX6_suggest_35 : decode cX6_suggest 35 = .ok (.if_icmp .lt 16, 3) := by decide +kernel
theorem dX6_suggest_38 : decode cX6_suggest 38 = .ok (.iload 4, 2) := by decide +kernel
theorem dX6_suggest_40 : decode cX6_suggest 40 = .ok (.iload_n 3, 1) := by decide +kernel
theorem dX6_suggest_41 : decode cX6_suggest 41 = .ok (.if_icmp .lt 10, 3) := by decide +kernel
theorem dX6_suggest_44 : decode cX6_suggest 44 = .ok (.iload 4, 2) := by decide +kernel
theorem dX6_suggest_46 : decode cX6_suggest 46 = .ok (.bipush 120, 2) := by decide +kernel
theorem dX6_suggest_48 : decode cX6_suggest 48 = .ok (.if_icmp .le 13, 3) := by decide +kernel
theorem dX6_suggest_51 : decode cX6_suggest 51 = .ok (.new 77, 3) := by decide +kernel
theorem dX6_suggest_54 : decode cX6_suggest 54 = .ok (.dup, 1) := by decide +kernel
theorem dX6_suggest_55 : decode cX6_suggest 55 = .ok (.ldc 213, 2) := by decide +kernel
theorem dX6_suggest_57 : decode cX6_suggest 57 = .ok (.invokespecial 81, 3) := by decide +kernel
theorem dX6_suggest_60 : decode cX6_suggest 60 = .ok (.athrow, 1) := by decide +kernel
theorem dX6_suggest_61 : decode cX6_suggest 61 = .ok (.iload_n 3, 1) := by decide +kernel
theorem dX6_suggest_62 : decode cX6_suggest 62 = .ok (.istore 5, 2) := by decide +kernel
theorem dX6_suggest_64 : decode cX6_suggest 64 = .ok (.iload_n 3, 1) := by decide +kernel
theorem dX6_suggest_65 : decode cX6_suggest 65 = .ok (.istore 6, 2) := by decide +kernel
theorem dX6_suggest_67 : decode cX6_suggest 67 = .ok (.iload_n 3, 1) := by decide +kernel
theorem dX6_suggest_68 : decode cX6_suggest 68 = .ok (.istore 7, 2) := by decide +kernel
theorem dX6_suggest_70 : decode cX6_suggest 70 = .ok (.iload 7, 2) := by decide +kernel
theorem dX6_suggest_72 : decode cX6_suggest 72 = .ok (.iload 4, 2) := by decide +kernel
theorem dX6_suggest_74 : decode cX6_suggest 74 = .ok (.if_icmp .gt 78, 3) := by decide +kernel
theorem dX6_suggest_77 : decode cX6_suggest 77 = .ok (.iload_n 3, 1) := by decide +kernel
theorem dX6_suggest_78 : decode cX6_suggest 78 = .ok (.iload 4, 2) := by decide +kernel
theorem dX6_suggest_80 : decode cX6_suggest 80 = .ok (.iload 7, 2) := by decide +kernel
theorem dX6_suggest_82 : decode cX6_suggest 82 = .ok (.iload_n 1, 1) := by decide +kernel
theorem dX6_suggest_83 : decode cX6_suggest 83 = .ok (.imul, 1) := by decide +kernel
theorem dX6_suggest_84 : decode cX6_suggest 84 = .ok (.iload_n 2, 1) := by decide +kernel
theorem dX6_suggest_85 : decode cX6_suggest 85 = .ok (.idiv, 1) := by decide +kernel
theorem dX6_suggest_86 : decode cX6_suggest 86 = .ok (.invokestatic 215, 3) := by decide +kernel
theorem dX6_suggest_89 : decode cX6_suggest 89 = .ok (.invokestatic 220, 3) := by decide +kernel
theorem dX6_suggest_92 : decode cX6_suggest 92 = .ok (.istore 8, 2) := by decide +kernel
theorem dX6_suggest_94 : decode cX6_suggest 94 = .ok (.iload 4, 2) := by decide +kernel
theorem dX6_suggest_96 : decode cX6_suggest 96 = .ok (.iload 8, 2) := by decide +kernel
theorem dX6_suggest_98 : decode cX6_suggest 98 = .ok (.iconst 1, 1) := by decide +kernel
theorem dX6_suggest_99 : decode cX6_suggest 99 = .ok (.iadd, 1) := by decide +kernel
theorem dX6_suggest_100 : decode cX6_suggest 100 = .ok (.invokestatic 215, 3) := by decide +kernel
theorem dX6_suggest_103 : decode cX6_suggest 103 = .ok (.istore 9, 2) := by decide +kernel
theorem dX6_suggest_105 : decode cX6_suggest 105 = .ok (.iload 8, 2) := by decide +kernel
theorem dX6_suggest_107 : decode cX6_suggest 107 = .ok (.istore 10, 2) := by decide +kernel
theorem dX6_suggest_109 : decode cX6_suggest 109 = .ok (.iload 10, 2) := by decide +kernel
theorem dX6_suggest_111 : decode cX6_suggest 111 = .ok (.iload 9, 2) := by decide +kernel
theorem dX6_suggest_113 : decode cX6_suggest 113 = .ok (.if_icmp .gt 33, 3) := by decide +kernel
theorem dX6_suggest_116 : decode cX6_suggest 116 = .ok (.iload 10, 2) := by decide +kernel
theorem dX6_suggest_118 : decode cX6_suggest 118 = .ok (.iload 7, 2) := by decide +kernel
theorem dX6_suggest_120 : decode cX6_suggest 120 = .ok (.iload 5, 2) := by decide +kernel
theorem dX6_suggest_122 : decode cX6_suggest 122 = .ok (.iload 6, 2) := by decide +kernel
theorem dX6_suggest_124 : decode cX6_suggest 124 = .ok (.iload_n 1, 1) := by decide +kernel
theorem dX6_suggest_125 : decode cX6_suggest 125 = .ok (.iload_n 2, 1) := by decide +kernel
theorem dX6_suggest_126 : decode cX6_suggest 126 = .ok (.invokestatic 223, 3) := by decide +kernel
theorem dX6_suggest_129 : decode cX6_suggest 129 = .ok (.ifCond .eq 11, 3) := by decide +kernel
theorem dX6_suggest_132 : decode cX6_suggest 132 = .ok (.iload 10, 2) := by decide +kernel
theorem dX6_suggest_134 : decode cX6_suggest 134 = .ok (.istore 5, 2) := by decide +kernel
theorem dX6_suggest_136 : decode cX6_suggest 136 = .ok (.iload 7, 2) := by decide +kernel
theorem dX6_suggest_138 : decode cX6_suggest 138 = .ok (.istore 6, 2) := by decide +kernel
theorem dX6_suggest_140 : decode cX6_suggest 140 = .ok (.iinc 10 1, 3) := by decide +kernel
theorem dX6_suggest_143 : decode cX6_suggest 143 = .ok (.goto (-34), 3) := by decide +kernel
theorem dX6_suggest_146 : decode cX6_suggest 146 = .ok (.iinc 7 1, 3) := by decide +kernel
theorem dX6_suggest_149 : decode cX6_suggest 149 = .ok (.goto (-79), 3) := by decide +kernel
theorem dX6_suggest_152 : decode cX6_suggest 152 = .ok (.sipush 1000, 3) := by decide +kernel
theorem dX6_suggest_155 : decode cX6_suggest 155 = .ok (.iload 5, 2) := by decide +kernel
theorem dX6_suggest_157 : decode cX6_suggest 157 = .ok (.imul, 1) := by decide +kernel
theorem dX6_suggest_158 : decode cX6_suggest 158 = .ok (.iload 6, 2) := by decide +kernel
theorem dX6_suggest_160 : decode cX6_suggest 160 = .ok (.iadd, 1) := by decide +kernel
theorem dX6_suggest_161 : decode cX6_suggest 161 = .ok (.ireturn, 1) := by decide +kernel
set_option maxRecDepth 20000 in
theorem ggX6_digest_Jx4a65c_size_8abf5 : GoodIn wsX6_digest wsJx4a65c_size_8abf5 := goodIn_r _ [12, 13, 131, 132, 133] (by decide +kernel) (by decide +kernel)
set_option maxRecDepth 20000 in
theorem gX6_digest_Jx4a65c_size_8abf5 : GoodIn wsX6_digest (wsV RX6 36 RJx4a65c yJx4a65c_size_8abf5 wsJx4a65c_size_8abf5) := goodIn_app (goodIn_of _ (by decide +kernel)) ggX6_digest_Jx4a65c_size_8abf5
set_option maxRecDepth 20000 in
theorem ggX6_digest_X6_mixed : GoodIn wsX6_digest wsX6_mixed := goodIn_r _ [17, 18] (by decide +kernel) (by decide +kernel)
set_option maxRecDepth 20000 in
theorem gX6_digest_X6_mixed : GoodIn wsX6_digest (va_wsS RX6 229 yX6_mixed wsX6_mixed) := goodIn_app (goodIn_of _ (by decide +kernel)) ggX6_digest_X6_mixed
set_option maxRecDepth 20000 in
theorem ggX6_digest_Jx4a65c_get_915e3 : GoodIn wsX6_digest wsJx4a65c_get_915e3 := goodIn_r _ [22, 13, 23, 24, 25, 26, 27, 28, 29, 30, 31, 32, 33, 11, 34, 35, 131, 132, 133] (by decide +kernel) (by decide +kernel)
set_option maxRecDepth 20000 in
theorem gX6_digest_Jx4a65c_get_915e3 : GoodIn wsX6_digest (wsV RX6 59 RJx4a65c yJx4a65c_get_915e3 wsJx4a65c_get_915e3) := goodIn_app (goodIn_of _ (by decide +kernel)) ggX6_digest_Jx4a65c_get_915e3
set_option maxRecDepth 20000 in
theorem ggX6_digest_X6_mixedShaft : GoodIn wsX6_digest wsX6_mixedShaft := goodIn_r _ [38, 39, 40, 41, 42, 43, 44, 45, 14, 15, 16, 17, 18, 46, 47, 48, 49, 50, 51, 134, 135, 136, 137, 138, 139, 140] (by decide +kernel) (by decide +kernel)
set_option maxRecDepth 20000 in
theorem gX6_digest_X6_mixedShaft : GoodIn wsX6_digest (va_wsS RX6 233 yX6_mixedShaft wsX6_mixedShaft) := goodIn_app (goodIn_of _ (by decide +kernel)) ggX6_digest_X6_mixedShaft
set_option maxRecDepth 20000 in
theorem ggX6_digest_X6_broken : GoodIn wsX6_digest wsX6_broken := goodIn_r _ [55, 7, 56, 57, 6, 58, 59, 8, 9, 10, 11, 12, 13, 19, 20, 21, 22, 23, 24, 25, 26, 27, 28, 29, 30, 31, 32, 33, 34, 35, 60, 61, 62, 63, 64, 65, 66, 67, 68, 69, 47, 48, 49, 50, 51, 70, 71, 72, 73, 74, 75, 76, 77, 78, 79, 80, 81, 82, 83, 84, 85, 86, 87, 88, 89, 90, 91, 92, 93, 94, 125, 126, 127, 128, 129, 130, 141, 142, 143, 144, 145, 131, 132, 133, 146, 147, 148, 149, 150, 134, 135, 136, 137, 138, 139, 140] (by decide +kernel) (by decide +kernel)
set_option maxRecDepth 20000 in
theorem gX6_digest_X6_broken : GoodIn wsX6_digest (wsV RX6 237 RX6 yX6_broken wsX6_broken) := goodIn_app (goodIn_of _ (by decide +kernel)) ggX6_digest_X6_broken
set_option maxRecDepth 20000 in
theorem ggX6_digest_X6_misfits : GoodIn wsX6_digest wsX6_misfits := goodIn_r _ [98, 6, 58, 8, 9, 10, 11, 12, 13, 19, 20, 21, 22, 23, 24, 25, 26, 27, 28, 29, 30, 31, 32, 33, 34, 35, 99, 100, 101, 102, 103, 104, 105, 106, 107, 108, 109, 110, 111, 112, 113, 114, 115, 116, 117, 84, 118, 119, 120, 121, 49, 122, 123, 124, 125, 126, 127, 128, 129, 130, 131, 132, 133, 143, 144, 145, 151, 152, 153, 154, 155, 134, 135, 136, 137, 138] (by decide +kernel) (by decide +kernel)
set_option maxRecDepth 20000 in
theorem gX6_digest_X6_misfits : GoodIn wsX6_digest (wsV RX6 241 RX6 yX6_misfits wsX6_misfits) := goodIn_app (goodIn_of _ (by decide +kernel)) ggX6_digest_X6_misfits
theorem dX6_digest_0 : decode cX6_digest 0 = .ok (.ldc2_w 227, 3) := by decide +kernel
theorem dX6_digest_3 : decode cX6_digest 3 = .ok (.aload_n 0, 1) := by decide +kernel
theorem dX6_digest_4 : decode cX6_digest 4 = .ok (.getfield 12, 3) := by decide +kernel
theorem dX6_digest_7 : decode cX6_digest 7 = .ok (.invokevirtual 36, 3) := by decide +kernel
theorem dX6_digest_10 : decode cX6_digest 10 = .ok (.i2l, 1) := by decide +kernel
theorem dX6_digest_11 : decode cX6_digest 11 = .ok (.invokestatic 229, 3) := by decide +kernel
theorem dX6_digest_14 : decode cX6_digest 14 = .ok (.lstore_n 1, 1) := by decide +kernel
theorem dX6_digest_15 : decode cX6_digest 15 = .ok (.iconst 0, 1) := by decide +kernel
theorem dX6_digest_16 : decode cX6_digest 16 = .ok (.istore_n 3, 1) := by decide +kernel
theorem dX6_digest_17 : decode cX6_digest 17 = .ok (.iload_n 3, 1) := by decide +kernel
theorem dX6_digest_18 : decode cX6_digest 18 = .ok (.aload_n 0, 1) := by decide +kernel
theorem dX6_digest_19 : decode cX6_digest 19 = .ok (.getfield 12, 3) := by decide +kernel
theorem dX6_digest_22 : decode cX6_digest 22 = .ok (.invokevirtual 36, 3) := by decide +kernel
theorem dX6_digest_25 : decode cX6_digest 25 = .ok (.if_icmp .ge 25, 3) := by decide +kernel
theorem dX6_digest_28 : decode cX6_digest 28 = .ok (.lload_n 1, 1) := by decide +kernel
theorem dX6_digest_29 : decode cX6_digest 29 = .ok (.aload_n 0, 1) := by decide +kernel
theorem dX6_digest_30 : decode cX6_digest 30 = .ok (.getfield 12, 3) := by decide +kernel
theorem dX6_digest_33 : decode cX6_digest 33 = .ok (.iload_n 3, 1) := by decide +kernel
theorem dX6_digest_34 : decode cX6_digest 34 = .ok (.invokevirtual 59, 3) := by decide +kernel
theorem dX6_digest_37 : decode cX6_digest 37 = .ok (.checkcast 47, 3) := by decide +kernel
theorem dX6_digest_40 : decode cX6_digest 40 = .ok (.invokestatic 233, 3) := by decide +kernel
theorem dX6_digest_43 : decode cX6_digest 43 = .ok (.lstore_n 1, 1) := by decide +kernel
theorem dX6_digest_44 : decode cX6_digest 44 = .ok (.iinc 3 1, 3) := by decide +kernel
theorem dX6_digest_47 : decode cX6_digest 47 = .ok (.goto (-30), 3) := by decide +kernel
theorem dX6_digest_50 : decode cX6_digest 50 = .ok (.lload_n 1, 1) := by decide +kernel
theorem dX6_digest_51 : decode cX6_digest 51 = .ok (.aload_n 0, 1) := by decide +kernel
theorem dX6_digest_52 : decode cX6_digest 52 = .ok (.getfield 25, 3) := by decide +kernel
theorem dX6_digest_55 : decode cX6_digest 55 = .ok (.i2l, 1) := by decide +kernel
theorem dX6_digest_56 : decode cX6_digest 56 = .ok (.invokestatic 229, 3) := by decide +kernel
theorem dX6_digest_59 : decode cX6_digest 59 = .ok (.lstore_n 1, 1) := by decide +kernel
theorem dX6_digest_60 : decode cX6_digest 60 = .ok (.lload_n 1, 1) := by decide +kernel
theorem dX6_digest_61 : decode cX6_digest 61 = .ok (.aload_n 0, 1) := by decide +kernel
theorem dX6_digest_62 : decode cX6_digest 62 = .ok (.getfield 16, 3) := by decide +kernel
theorem dX6_digest_65 : decode cX6_digest 65 = .ok (.invokevirtual 36, 3) := by decide +kernel
theorem dX6_digest_68 : decode cX6_digest 68 = .ok (.i2l, 1) := by decide +kernel
theorem dX6_digest_69 : decode cX6_digest 69 = .ok (.invokestatic 229, 3) := by decide +kernel
theorem dX6_digest_72 : decode cX6_digest 72 = .ok (.lstore_n 1, 1) := by decide +kernel
theorem dX6_digest_73 : decode cX6_digest 73 = .ok (.lload_n 1, 1) := by decide +kernel
theorem dX6_digest_74 : decode cX6_digest 74 = .ok (.aload_n 0, 1) := by decide +kernel
theorem dX6_digest_75 : decode cX6_digest 75 = .ok (.getfield 19, 3) := by decide +kernel
theorem dX6_digest_78 : decode cX6_digest 78 = .ok (.invokevirtual 36, 3) := by decide +kernel
theorem dX6_digest_81 : decode cX6_digest 81 = .ok (.i2l, 1) := by decide +kernel
theorem dX6_digest_82 : decode cX6_digest 82 = .ok (.invokestatic 229, 3) := by decide +kernel
theorem dX6_digest_85 : decode cX6_digest 85 = .ok (.lstore_n 1, 1) := by decide +kernel
theorem dX6_digest_86 : decode cX6_digest 86 = .ok (.lload_n 1, 1) := by decide +kernel
theorem dX6_digest_87 : decode cX6_digest 87 = .ok (.aload_n 0, 1) := by decide +kernel
theorem dX6_digest_88 : decode cX6_digest 88 = .ok (.getfield 22, 3) := by decide +kernel
theorem dX6_digest_91 : decode cX6_digest 91 = .ok (.invokevirtual 36, 3) := by decide +kernel
theorem dX6_digest_94 : decode cX6_digest 94 = .ok (.i2l, 1) := by decide +kernel
theorem dX6_digest_95 : decode cX6_digest 95 = .ok (.invokestatic 229, 3) := by decide +kernel
theorem dX6_digest_98 : decode cX6_digest 98 = .ok (.lstore_n 1, 1) := by decide +kernel
theorem dX6_digest_99 : decode cX6_digest 99 = .ok (.lload_n 1, 1) := by decide +kernel
theorem dX6_digest_100 : decode cX6_digest 100 = .ok (.aload_n 0, 1) := by decide +kernel
theorem dX6_digest_101 : decode cX6_digest 101 = .ok (.iconst 0, 1) := by decide +kernel
theorem dX6_digest_102 : decode cX6_digest 102 = .ok (.invokevirtual 237, 3) := by decide +kernel
theorem dX6_digest_105 : decode cX6_digest 105 = .ok (.i2l, 1) := by decide +kernel
theorem dX6_digest_106 : decode cX6_digest 106 = .ok (.invokestatic 229, 3) := by decide +kernel
theorem dX6_digest_109 : decode cX6_digest 109 = .ok (.lstore_n 1, 1) := by decide +kernel
theorem dX6_digest_110 : decode cX6_digest 110 = .ok (.lload_n 1, 1) := by decide +kernel
theorem dX6_digest_111 : decode cX6_digest 111 = .ok (.aload_n 0, 1) := by decide +kernel
theorem dX6_digest_112 : decode cX6_digest 112 = .ok (.iconst 1, 1) := by decide +kernel
theorem dX6_digest_113 : decode cX6_digest 113 = .ok (.invokevirtual 237, 3) := by decide +kernel
theorem dX6_digest_116 : decode cX6_digest 116 = .ok (.i2l, 1) := by decide +kernel
theorem dX6_digest_117 : decode cX6_digest 117 = .ok (.invokestatic 229, 3) := by decide +kernel
theorem dX6_digest_120 : decode cX6_digest 120 = .ok (.lstore_n 1, 1) := by decide +kernel
theorem dX6_digest_121 : decode cX6_digest 121 = .ok (.lload_n 1, 1) := by decide +kernel
theorem dX6_digest_122 : decode cX6_digest 122 = .ok (.aload_n 0, 1) := by decide +kernel
theorem dX6_digest_123 : decode cX6_digest 123 = .ok (.invokevirtual 241, 3) := by decide +kernel
theorem dX6_digest_126 : decode cX6_digest 126 = .ok (.i2l, 1) := by decide +kernel
theorem dX6_digest_127 : decode cX6_digest 127 = .ok (.invokestatic 229, 3) := by decide +kernel
theorem dX6_digest_130 : decode cX6_digest 130 = .ok (.lreturn, 1) := by decide +kernel
theorem dX6_isWithin_0 : decode cX6_isWithin 0 = .ok (.iload_n 0, 1) := by decide +kernel
theorem dX6_isWithin_1 : decode cX6_isWithin 1 = .ok (.iload_n 1, 1) := by decide +kernel
theorem dX6_isWithin_2 : decode cX6_isWithin 2 = .ok (.if_icmp .lt 12, 3) := by decide +kernel
theorem dX6_isWithin_5 : decode cX6_isWithin 5 = .ok (.iload_n 0, 1) := by decide +kernel
theorem dX6_isWithin_6 : decode cX6_isWithin 6 = .ok (.iload_n 2, 1) := by decide +kernel
theorem dX6_isWithin_7 : decode cX6_isWithin 7 = .ok (.if_icmp .gt 7, 3) := by decide +kernel
theorem dX6_isWithin_10 : decode cX6_isWithin 10 = .ok (.iconst 1, 1) := by decide +kernel
theorem dX6_isWithin_11 : decode cX6_isWithin 11 = .ok (.goto 4, 3) := by decide +kernel
theorem dX6_isWithin_14 : decode cX6_isWithin 14 = .ok (.iconst 0, 1) := by decide +kernel
theorem dX6_isWithin_15 : decode cX6_isWithin 15 = .ok (.ireturn, 1) := by decide +kernel
set_option maxRecDepth 20000 in
theorem ggX6_requirePlace_X6_isWithin : GoodIn wsX6_requirePlace wsX6_isWithin := goodIn_r _ [6] (by decide +kernel) (by decide +kernel)
set_option maxRecDepth 20000 in
theorem gX6_requirePlace_X6_isWithin : GoodIn wsX6_requirePlace (va_wsS RX6 73 yX6_isWithin wsX6_isWithin) := goodIn_app (goodIn_of _ (by decide +kernel)) ggX6_requirePlace_X6_isWithin
theorem dX6_requirePlace_0 : decode cX6_requirePlace 0 = .ok (.iload_n 0, 1) := by decide +kernel
theorem dX6_requirePlace_1 : decode cX6_requirePlace 1 = .ok (.sipush (-1000), 3) := by decide +kernel
theorem dX6_requirePlace_4 : decode cX6_requirePlace 4 = .ok (.sipush 1000, 3) := by decide +kernel
theorem dX6_requirePlace_7 : decode cX6_requirePlace 7 = .ok (.invokestatic 73, 3) := by decide +kernel
theorem dX6_requirePlace_10 : decode cX6_requirePlace 10 = .ok (.ifCond .eq 16, 3) := by decide +kernel
theorem dX6_requirePlace_13 : decode cX6_requirePlace 13 = .ok (.iload_n 1, 1) := by decide +kernel
theorem dX6_requirePlace_14 : decode cX6_requirePlace 14 = .ok (.sipush (-1000), 3) := by decide +kernel
theorem dX6_requirePlace_17 : decode cX6_requirePlace 17 = .ok (.sipush 1000, 3) := by decide +kernel
theorem dX6_requirePlace_20 : decode cX6_requirePlace 20 = .ok (.invokestatic 73, 3) := by decide +kernel
theorem dX6_requirePlace_23 : decode cX6_requirePlace 23 = .ok (.ifCond .ne 13, 3) := by decide +kernel
theorem dX6_requirePlace_26 : decode cX6_requirePlace 26 = .ok (.new 77, 3) := by decide +kernel
theorem dX6_requirePlace_29 : decode cX6_requirePlace 29 = .ok (.dup, 1) := by decide +kernel
theorem dX6_requirePlace_30 : decode cX6_requirePlace 30 = .ok (.ldc 244, 2) := by decide +kernel
theorem dX6_requirePlace_32 : decode cX6_requirePlace 32 = .ok (.invokespecial 81, 3) := by decide +kernel
theorem dX6_requirePlace_35 : decode cX6_requirePlace 35 = .ok (.athrow, 1) := by decide +kernel
theorem dX6_requirePlace_36 : decode cX6_requirePlace 36 = .ok (.return_, 1) := by decide +kernel
set_option maxRecDepth 20000 in
theorem ggX6_requireShaft_Jx4a65c_size_8abf5 : GoodIn wsX6_requireShaft wsJx4a65c_size_8abf5 := goodIn_r _ [8, 9, 20, 21, 22] (by decide +kernel) (by decide +kernel)
set_option maxRecDepth 20000 in
theorem gX6_requireShaft_Jx4a65c_size_8abf5 : GoodIn wsX6_requireShaft (wsV RX6 36 RJx4a65c yJx4a65c_size_8abf5 wsJx4a65c_size_8abf5) := goodIn_app (goodIn_of _ (by decide +kernel)) ggX6_requireShaft_Jx4a65c_size_8abf5
set_option maxRecDepth 20000 in
theorem ggX6_requireShaft_X6_isWithin : GoodIn wsX6_requireShaft wsX6_isWithin := goodIn_r _ [13] (by decide +kernel) (by decide +kernel)
set_option maxRecDepth 20000 in
theorem gX6_requireShaft_X6_isWithin : GoodIn wsX6_requireShaft (va_wsS RX6 73 yX6_isWithin wsX6_isWithin) := goodIn_app (goodIn_of _ (by decide +kernel)) ggX6_requireShaft_X6_isWithin
theorem dX6_requireShaft_0 : decode cX6_requireShaft 0 = .ok (.iload_n 1, 1) := by decide +kernel
theorem dX6_requireShaft_1 : decode cX6_requireShaft 1 = .ok (.iconst 0, 1) := by decide +kernel
theorem dX6_requireShaft_2 : decode cX6_requireShaft 2 = .ok (.aload_n 0, 1) := by decide +kernel
theorem dX6_requireShaft_3 : decode cX6_requireShaft 3 = .ok (.getfield 12, 3) := by decide +kernel
theorem dX6_requireShaft_6 : decode cX6_requireShaft 6 = .ok (.invokevirtual 36, 3) := by decide +kernel
theorem dX6_requireShaft_9 : decode cX6_requireShaft 9 = .ok (.iconst 1, 1) := by decide +kernel
theorem dX6_requireShaft_10 : decode cX6_requireShaft 10 = .ok (.isub, 1) := by decide +kernel
theorem dX6_requireShaft_11 : decode cX6_requireShaft 11 = .ok (.invokestatic 73, 3) := by decide +kernel
theorem dX6_requireShaft_14 : decode cX6_requireShaft 14 = .ok (.ifCond .ne 13, 3) := by decide +kernel
theorem dX6_requireShaft_17 : decode cX6_requireShaft 17 = .ok (.new 132, 3) := by decide +kernel
theorem dX6_requireShaft_20 : decode cX6_requireShaft 20 = .ok (.dup, 1) := by decide +kernel
theorem dX6_requireShaft_21 : decode cX6_requireShaft 21 = .ok (.ldc 246, 2) := by decide +kernel
theorem dX6_requireShaft_23 : decode cX6_requireShaft 23 = .ok (.invokespecial 136, 3) := by decide +kernel
theorem dX6_requireShaft_26 : decode cX6_requireShaft 26 = .ok (.athrow, 1) := by decide +kernel
theorem dX6_requireShaft_27 : decode cX6_requireShaft 27 = .ok (.return_, 1) := by decide +kernel
set_option maxRecDepth 20000 in
theorem ggX6_requireGear_Jx4a65c_size_8abf5 : GoodIn wsX6_requireGear wsJx4a65c_size_8abf5 := goodIn_r _ [8, 9, 20, 21, 22] (by decide +kernel) (by decide +kernel)
set_option maxRecDepth 20000 in
theorem gX6_requireGear_Jx4a65c_size_8abf5 : GoodIn wsX6_requireGear (wsV RX6 36 RJx4a65c yJx4a65c_size_8abf5 wsJx4a65c_size_8abf5) := goodIn_app (goodIn_of _ (by decide +kernel)) ggX6_requireGear_Jx4a65c_size_8abf5
set_option maxRecDepth 20000 in
theorem ggX6_requireGear_X6_isWithin : GoodIn wsX6_requireGear wsX6_isWithin := goodIn_r _ [13] (by decide +kernel) (by decide +kernel)
set_option maxRecDepth 20000 in
theorem gX6_requireGear_X6_isWithin : GoodIn wsX6_requireGear (va_wsS RX6 73 yX6_isWithin wsX6_isWithin) := goodIn_app (goodIn_of _ (by decide +kernel)) ggX6_requireGear_X6_isWithin
theorem dX6_requireGear_0 : decode cX6_requireGear 0 = .ok (.iload_n 1, 1) := by decide +kernel
theorem dX6_requireGear_1 : decode cX6_requireGear 1 = .ok (.iconst 0, 1) := by decide +kernel
theorem dX6_requireGear_2 : decode cX6_requireGear 2 = .ok (.aload_n 0, 1) := by decide +kernel
theorem dX6_requireGear_3 : decode cX6_requireGear 3 = .ok (.getfield 16, 3) := by decide +kernel
theorem dX6_requireGear_6 : decode cX6_requireGear 6 = .ok (.invokevirtual 36, 3) := by decide +kernel
theorem dX6_requireGear_9 : decode cX6_requireGear 9 = .ok (.iconst 1, 1) := by decide +kernel
theorem dX6_requireGear_10 : decode cX6_requireGear 10 = .ok (.isub, 1) := by decide +kernel
theorem dX6_requireGear_11 : decode cX6_requireGear 11 = .ok (.invokestatic 73, 3) := by decide +kernel
theorem dX6_requireGear_14 : decode cX6_requireGear 14 = .ok (.ifCond .ne 13, 3) := by decide +kernel
theorem dX6_requireGear_17 : decode cX6_requireGear 17 = .ok (.new 132, 3) := by decide +kernel
theorem dX6_requireGear_20 : decode cX6_requireGear 20 = .ok (.dup, 1) := by decide +kernel
theorem dX6_requireGear_21 : decode cX6_requireGear 21 = .ok (.ldc 248, 2) := by decide +kernel
theorem dX6_requireGear_23 : decode cX6_requireGear 23 = .ok (.invokespecial 136, 3) := by decide +kernel
theorem dX6_requireGear_26 : decode cX6_requireGear 26 = .ok (.athrow, 1) := by decide +kernel
theorem dX6_requireGear_27 : decode cX6_requireGear 27 = .ok (.return_, 1) := by decide +kernel
set_option maxRecDepth 20000 in
theorem ggX6_requireSpeed_Jx4a65c_get_915e3 : GoodIn wsX6_requireSpeed wsJx4a65c_get_915e3 := goodIn_r _ [9, 10, 11, 12, 13, 14, 15, 16, 17, 18, 19, 20, 21, 8, 22, 23, 36, 37, 38] (by decide +kernel) (by decide +kernel)
set_option maxRecDepth 20000 in
theorem gX6_requireSpeed_Jx4a65c_get_915e3 : GoodIn wsX6_requireSpeed (wsV RX6 59 RJx4a65c yJx4a65c_get_915e3 wsJx4a65c_get_915e3) := goodIn_app (goodIn_of _ (by decide +kernel)) ggX6_requireSpeed_Jx4a65c_get_915e3
set_option maxRecDepth 20000 in
theorem ggX6_requireSpeed_X4_hasSpeed : GoodIn wsX6_requireSpeed wsX4_hasSpeed := goodIn_r _ [28, 29, 39, 40, 41, 42, 43] (by decide +kernel) (by decide +kernel)
set_option maxRecDepth 20000 in
theorem gX6_requireSpeed_X4_hasSpeed : GoodIn wsX6_requireSpeed (wsV RX6 153 RX4 yX4_hasSpeed wsX4_hasSpeed) := goodIn_app (goodIn_of _ (by decide +kernel)) ggX6_requireSpeed_X4_hasSpeed
theorem dX6_requireSpeed_0 : decode cX6_requireSpeed 0 = .ok (.aload_n 0, 1) := by decide +kernel
theorem dX6_requireSpeed_1 : decode cX6_requireSpeed 1 = .ok (.getfield 12, 3) := by decide +kernel
theorem dX6_requireSpeed_4 : decode cX6_requireSpeed 4 = .ok (.iload_n 1, 1) := by decide +kernel
theorem dX6_requireSpeed_5 : decode cX6_requireSpeed 5 = .ok (.invokevirtual 59, 3) := by decide +kernel
theorem dX6_requireSpeed_8 : decode cX6_requireSpeed 8 = .ok (.checkcast 47, 3) := by decide +kernel
theorem dX6_requireSpeed_11 : decode cX6_requireSpeed 11 = .ok (.invokevirtual 153, 3) := by decide +kernel
theorem dX6_requireSpeed_14 : decode cX6_requireSpeed 14 = .ok (.ifCond .ne 13, 3) := by decide +kernel
theorem dX6_requireSpeed_17 : decode cX6_requireSpeed 17 = .ok (.new 40, 3) := by decide +kernel
theorem dX6_requireSpeed_20 : decode cX6_requireSpeed 20 = .ok (.dup, 1) := by decide +kernel
theorem dX6_requireSpeed_21 : decode cX6_requireSpeed 21 = .ok (.ldc 250, 2) := by decide +kernel
theorem dX6_requireSpeed_23 : decode cX6_requireSpeed 23 = .ok (.invokespecial 44, 3) := by decide +kernel
theorem dX6_requireSpeed_26 : decode cX6_requireSpeed 26 = .ok (.athrow, 1) := by decide +kernel
theorem dX6_requireSpeed_27 : decode cX6_requireSpeed 27 = .ok (.return_, 1) := by decide +kernel
set_option maxRecDepth 20000 in
theorem ggX6_requireTurning_X6_requireSpeed : GoodIn wsX6_requireTurning wsX6_requireSpeed := goodIn_ca (goodIn_r _ [11, 1, 2, 3, 4, 12, 13, 14, 15, 16, 17, 18, 19, 20, 21, 22, 23, 24, 25, 26, 27, 28, 29, 30, 31, 32, 33, 34, 35, 36, 37, 38, 39, 40, 41, 42, 50, 51, 52, 43, 44, 45, 46, 47] (by decide +kernel) (by decide +kernel)) (goodIn_sub (fun _ h => List.mem_cons_of_mem _ (List.mem_append_right _ h)) (by decide +kernel))
set_option maxRecDepth 20000 in
theorem gX6_requireTurning_X6_requireSpeed : GoodIn wsX6_requireTurning (wsV RX6 156 RX6 yX6_requireSpeed wsX6_requireSpeed) := goodIn_app (goodIn_of _ (by decide +kernel)) ggX6_requireTurning_X6_requireSpeed
set_option maxRecDepth 20000 in
theorem ggX6_requireTurning_Jx4a65c_get_915e3 : GoodIn wsX6_requireTurning wsJx4a65c_get_915e3 := goodIn_r _ [16, 17, 18, 19, 20, 21, 22, 23, 24, 25, 26, 27, 28, 15, 29, 30, 50, 51, 52] (by decide +kernel) (by decide +kernel)
set_option maxRecDepth 20000 in
theorem gX6_requireTurning_Jx4a65c_get_915e3 : GoodIn wsX6_requireTurning (wsV RX6 59 RJx4a65c yJx4a65c_get_915e3 wsJx4a65c_get_915e3) := goodIn_app (goodIn_of _ (by decide +kernel)) ggX6_requireTurning_Jx4a65c_get_915e3
theorem dX6_requireTurning_0 : decode cX6_requireTurning 0 = .ok (.aload_n 0, 1) := by decide +kernel
theorem dX6_requireTurning_1 : decode cX6_requireTurning 1 = .ok (.iload_n 1, 1) := by decide +kernel
theorem dX6_requireTurning_2 : decode cX6_requireTurning 2 = .ok (.invokevirtual 156, 3) := by decide +kernel
theorem dX6_requireTurning_5 : decode cX6_requireTurning 5 = .ok (.aload_n 0, 1) := by decide +kernel
theorem dX6_requireTurning_6 : decode cX6_requireTurning 6 = .ok (.getfield 12, 3) := by decide +kernel
theorem dX6_requireTurning_9 : decode cX6_requireTurning 9 = .ok (.iload_n 1, 1) := by decide +kernel
theorem dX6_requireTurning_10 : decode cX6_requireTurning 10 = .ok (.invokevirtual 59, 3) := by decide +kernel
theorem dX6_requireTurning_13 : decode cX6_requireTurning 13 = .ok (.checkcast 47, 3) := by decide +kernel
theorem dX6_requireTurning_16 : decode cX6_requireTurning 16 = .ok (.getfield 159, 3) := by decide +kernel
theorem dX6_requireTurning_19 : decode cX6_requireTurning 19 = .ok (.getfield 169, 3) := by decide +kernel
theorem dX6_requireTurning_22 : decode cX6_requireTurning 22 = .ok (.lconst 0, 1) := by decide +kernel
theorem dX6_requireTurning_23 : decode cX6_requireTurning 23 = .ok (.lcmp, 1) := by decide +kernel
theorem dX6_requireTurning_24 : decode cX6_requireTurning 24 = .ok (.ifCond .ne 13, 3) := by decide +kernel
theorem dX6_requireTurning_27 : decode cX6_requireTurning 27 = .ok (.new 40, 3) := by decide +kernel
theorem dX6_requireTurning_30 : decode cX6_requireTurning 30 = .ok (.dup, 1) := by decide +kernel
theorem dX6_requireTurning_31 : decode cX6_requireTurning 31 = .ok (.ldc 252, 2) := by decide +kernel
theorem dX6_requireTurning_33 : decode cX6_requireTurning 33 = .ok (.invokespecial 44, 3) := by decide +kernel
theorem dX6_requireTurning_36 : decode cX6_requireTurning 36 = .ok (.athrow, 1) := by decide +kernel
theorem dX6_requireTurning_37 : decode cX6_requireTurning 37 = .ok (.return_, 1) := by decide +kernel
set_option maxRecDepth 20000 in
theorem ggX6_tellSpeeds_Jx4a65c_size_8abf5 : GoodIn wsX6_tellSpeeds wsJx4a65c_size_8abf5 := goodIn_r _ [16, 17, 121, 122, 123] (by decide +kernel) (by decide +kernel)
set_option maxRecDepth 20000 in
theorem gX6_tellSpeeds_Jx4a65c_size_8abf5 : GoodIn wsX6_tellSpeeds (wsV RX6 36 RJx4a65c yJx4a65c_size_8abf5 wsJx4a65c_size_8abf5) := goodIn_app (goodIn_of _ (by decide +kernel)) ggX6_tellSpeeds_Jx4a65c_size_8abf5
set_option maxRecDepth 20000 in
theorem ggX6_tellSpeeds_Jx4a65c_get_915e3 : GoodIn wsX6_tellSpeeds wsJx4a65c_get_915e3 := goodIn_r _ [21, 17, 22, 23, 24, 25, 26, 27, 28, 29, 30, 31, 32, 15, 33, 34, 121, 122, 123] (by decide +kernel) (by decide +kernel)
set_option maxRecDepth 20000 in
theorem gX6_tellSpeeds_Jx4a65c_get_915e3 : GoodIn wsX6_tellSpeeds (wsV RX6 59 RJx4a65c yJx4a65c_get_915e3 wsJx4a65c_get_915e3) := goodIn_app (goodIn_of _ (by decide +kernel)) ggX6_tellSpeeds_Jx4a65c_get_915e3
set_option maxRecDepth 20000 in
theorem ggX6_tellSpeeds_X4_begin : GoodIn wsX6_tellSpeeds wsX4_begin := goodIn_r _ [39, 40, 41, 42, 43, 44, 45, 46, 47, 48, 49, 50, 51, 52, 53, 54, 55, 56, 124, 125, 126, 127, 128, 129, 130] (by decide +kernel) (by decide +kernel)
set_option maxRecDepth 20000 in
theorem gX6_tellSpeeds_X4_begin : GoodIn wsX6_tellSpeeds (wsV RX6 254 RX4 yX4_begin wsX4_begin) := goodIn_app (goodIn_of _ (by decide +kernel)) ggX6_tellSpeeds_X4_begin
set_option maxRecDepth 20000 in
theorem ggX6_tellSpeeds_X6_makeStep : GoodIn wsX6_tellSpeeds wsX6_makeStep := goodIn_r _ [61, 5, 6, 7, 9, 10, 11, 12, 13, 14, 15, 16, 17, 18, 19, 20, 21, 22, 23, 24, 25, 26, 27, 28, 29, 30, 31, 32, 33, 34, 62, 63, 64, 65, 66, 67, 68, 69, 70, 71, 72, 73, 74, 75, 76, 77, 38, 78, 41, 79, 80, 81, 82, 83, 84, 85, 86, 87, 44, 45, 46, 47, 48, 49, 50, 51, 52, 53, 54, 55, 56, 88, 89, 90, 91, 92, 93, 94, 95, 96, 97, 98, 99, 100, 101, 102, 103, 104, 42, 105, 106, 43, 107, 108, 109, 110, 111, 112, 113, 114, 115, 119, 120, 121, 122, 123, 116, 117, 118, 131, 132, 124, 125, 126, 127, 128, 129, 130] (by decide +kernel) (by decide +kernel)
set_option maxRecDepth 20000 in
theorem gX6_tellSpeeds_X6_makeStep : GoodIn wsX6_tellSpeeds (wsV RX6 261 RX6 yX6_makeStep wsX6_makeStep) := goodIn_app (goodIn_of _ (by decide +kernel)) ggX6_tellSpeeds_X6_makeStep
theorem dX6_tellSpeeds_0 : decode cX6_tellSpeeds 0 = .ok (.iconst 0, 1) := by decide +kernel
theorem dX6_tellSpeeds_1 : decode cX6_tellSpeeds 1 = .ok (.istore_n 1, 1) := by decide +kernel
theorem dX6_tellSpeeds_2 : decode cX6_tellSpeeds 2 = .ok (.iload_n 1, 1) := by decide +kernel
theorem dX6_tellSpeeds_3 : decode cX6_tellSpeeds 3 = .ok (.aload_n 0, 1) := by decide +kernel
theorem dX6_tellSpeeds_4 : decode cX6_tellSpeeds 4 = .ok (.getfield 12, 3) := by decide +kernel
theorem dX6_tellSpeeds_7 : decode cX6_tellSpeeds 7 = .ok (.invokevirtual 36, 3) := by decide +kernel
theorem dX6_tellSpeeds_10 : decode cX6_tellSpeeds 10 = .ok (.if_icmp .ge 40, 3) := by decide +kernel
theorem dX6_tellSpeeds_13 : decode cX6_tellSpeeds 13 = .ok (.aload_n 0, 1) := by decide +kernel
theorem dX6_tellSpeeds_14 : decode cX6_tellSpeeds 14 = .ok (.getfield 12, 3) := by decide +kernel
theorem dX6_tellSpeeds_17 : decode cX6_tellSpeeds 17 = .ok (.iload_n 1, 1) := by decide +kernel
theorem dX6_tellSpeeds_18 : decode cX6_tellSpeeds 18 = .ok (.invokevirtual 59, 3) := by decide +kernel
theorem dX6_tellSpeeds_21 : decode cX6_tellSpeeds 21 = .ok (.checkcast 47, 3) := by decide +kernel
theorem dX6_tellSpeeds_24 : decode cX6_tellSpeeds 24 = .ok (.iload_n 1, 1) := by decide +kernel
theorem dX6_tellSpeeds_25 : decode cX6_tellSpeeds 25 = .ok (.aload_n 0, 1) := by decide +kernel
theorem dX6_tellSpeeds_26 : decode cX6_tellSpeeds 26 = .ok (.getfield 25, 3) := by decide +kernel
theorem dX6_tellSpeeds_29 : decode cX6_tellSpeeds 29 = .ok (.if_icmp .ne 7, 3) := by decide +kernel
theorem dX6_tellSpeeds_32 : decode cX6_tellSpeeds 32 = .ok (.iconst 1, 1) := by decide +kernel
theorem dX6_tellSpeeds_33 : decode cX6_tellSpeeds 33 = .ok (.goto 4, 3) := by decide +kernel
theorem dX6_tellSpeeds_36 : decode cX6_tellSpeeds 36 = .ok (.iconst 0, 1) := by decide +kernel
theorem dX6_tellSpeeds_37 : decode cX6_tellSpeeds 37 = .ok (.aload_n 0, 1) := by decide +kernel
theorem dX6_tellSpeeds_38 : decode cX6_tellSpeeds 38 = .ok (.getfield 29, 3) := by decide +kernel
theorem dX6_tellSpeeds_41 : decode cX6_tellSpeeds 41 = .ok (.invokevirtual 254, 3) := by decide +kernel
theorem dX6_tellSpeeds_44 : decode cX6_tellSpeeds 44 = .ok (.iinc 1 1, 3) := by decide +kernel
theorem dX6_tellSpeeds_47 : decode cX6_tellSpeeds 47 = .ok (.goto (-45), 3) := by decide +kernel
theorem dX6_tellSpeeds_50 : decode cX6_tellSpeeds 50 = .ok (.iconst 0, 1) := by decide +kernel
theorem dX6_tellSpeeds_51 : decode cX6_tellSpeeds 51 = .ok (.istore_n 1, 1) := by decide +kernel
theorem dX6_tellSpeeds_52 : decode cX6_tellSpeeds 52 = .ok (.iload_n 1, 1) := by decide +kernel
theorem dX6_tellSpeeds_53 : decode cX6_tellSpeeds 53 = .ok (.aload_n 0, 1) := by decide +kernel
theorem dX6_tellSpeeds_54 : decode cX6_tellSpeeds 54 = .ok (.getfield 19, 3) := by decide +kernel
theorem dX6_tellSpeeds_57 : decode cX6_tellSpeeds 57 = .ok (.invokevirtual 36, 3) := by decide +kernel
theorem dX6_tellSpeeds_60 : decode cX6_tellSpeeds 60 = .ok (.if_icmp .ge 27, 3) := by decide +kernel
theorem dX6_tellSpeeds_63 : decode cX6_tellSpeeds 63 = .ok (.aload_n 0, 1) := by decide +kernel
theorem dX6_tellSpeeds_64 : decode cX6_tellSpeeds 64 = .ok (.getfield 19, 3) := by decide +kernel
theorem dX6_tellSpeeds_67 : decode cX6_tellSpeeds 67 = .ok (.iload_n 1, 1) := by decide +kernel
theorem dX6_tellSpeeds_68 : decode cX6_tellSpeeds 68 = .ok (.invokevirtual 59, 3) := by decide +kernel
theorem dX6_tellSpeeds_71 : decode cX6_tellSpeeds 71 = .ok (.checkcast 104, 3) := by decide +kernel
theorem dX6_tellSpeeds_74 : decode cX6_tellSpeeds 74 = .ok (.getfield 191, 3) := by decide +kernel
theorem dX6_tellSpeeds_77 : decode cX6_tellSpeeds 77 = .ok (.iconst 0, 1) := by decide +kernel
theorem dX6_tellSpeeds_78 : decode cX6_tellSpeeds 78 = .ok (.putfield 258, 3) := by decide +kernel
theorem dX6_tellSpeeds_81 : decode cX6_tellSpeeds 81 = .ok (.iinc 1 1, 3) := by decide +kernel
theorem dX6_tellSpeeds_84 : decode cX6_tellSpeeds 84 = .ok (.goto (-32), 3) := by decide +kernel
theorem dX6_tellSpeeds_87 : decode cX6_tellSpeeds 87 = .ok (.iconst 0, 1) := by decide +kernel
theorem dX6_tellSpeeds_88 : decode cX6_tellSpeeds 88 = .ok (.istore_n 1, 1) := by decide +kernel
theorem dX6_tellSpeeds_89 : decode cX6_tellSpeeds 89 = .ok (.iload_n 1, 1) := by decide +kernel
theorem dX6_tellSpeeds_90 : decode cX6_tellSpeeds 90 = .ok (.aload_n 0, 1) := by decide +kernel
theorem dX6_tellSpeeds_91 : decode cX6_tellSpeeds 91 = .ok (.getfield 22, 3) := by decide +kernel
theorem dX6_tellSpeeds_94 : decode cX6_tellSpeeds 94 = .ok (.invokevirtual 36, 3) := by decide +kernel
theorem dX6_tellSpeeds_97 : decode cX6_tellSpeeds 97 = .ok (.if_icmp .ge 27, 3) := by decide +kernel
theorem dX6_tellSpeeds_100 : decode cX6_tellSpeeds 100 = .ok (.aload_n 0, 1) := by decide +kernel
theorem dX6_tellSpeeds_101 : decode cX6_tellSpeeds 101 = .ok (.getfield 22, 3) := by decide +kernel
theorem dX6_tellSpeeds_104 : decode cX6_tellSpeeds 104 = .ok (.iload_n 1, 1) := by decide +kernel
theorem dX6_tellSpeeds_105 : decode cX6_tellSpeeds 105 = .ok (.invokevirtual 59, 3) := by decide +kernel
theorem dX6_tellSpeeds_108 : decode cX6_tellSpeeds 108 = .ok (.checkcast 127, 3) := by decide +kernel
theorem dX6_tellSpeeds_111 : decode cX6_tellSpeeds 111 = .ok (.getfield 182, 3) := by decide +kernel
theorem dX6_tellSpeeds_114 : decode cX6_tellSpeeds 114 = .ok (.iconst 0, 1) := by decide +kernel
theorem dX6_tellSpeeds_115 : decode cX6_tellSpeeds 115 = .ok (.putfield 258, 3) := by decide +kernel
theorem dX6_tellSpeeds_118 : decode cX6_tellSpeeds 118 = .ok (.iinc 1 1, 3) := by decide +kernel
theorem dX6_tellSpeeds_121 : decode cX6_tellSpeeds 121 = .ok (.goto (-32), 3) := by decide +kernel
theorem dX6_tellSpeeds_124 : decode cX6_tellSpeeds 124 = .ok (.iconst 1, 1) := by decide +kernel
theorem dX6_tellSpeeds_125 : decode cX6_tellSpeeds 125 = .ok (.istore_n 1, 1) := by decide +kernel
theorem dX6_tellSpeeds_126 : decode cX6_tellSpeeds 126 = .ok (.iconst 0, 1) := by decide +kernel
theorem dX6_tellSpeeds_127 : decode cX6_tellSpeeds 127 = .ok (.istore_n 2, 1) := by decide +kernel
theorem dX6_tellSpeeds_128 : decode cX6_tellSpeeds 128 = .ok (.iload_n 1, 1) := by decide +kernel
theorem dX6_tellSpeeds_129 : decode cX6_tellSpeeds 129 = .ok (.ifCond .eq 20, 3) := by decide +kernel
theorem dX6_tellSpeeds_132 : decode cX6_tellSpeeds 132 = .ok (.iload_n 2, 1) := by decide +kernel
theorem dX6_tellSpeeds_133 : decode cX6_tellSpeeds 133 = .ok (.bipush 30, 2) := by decide +kernel
theorem dX6_tellSpeeds_135 : decode cX6_tellSpeeds 135 = .ok (.if_icmp .ge 14, 3) := by decide +kernel
theorem dX6_tellSpeeds_138 : decode cX6_tellSpeeds 138 = .ok (.aload_n 0, 1) := by decide +kernel
theorem dX6_tellSpeeds_139 : decode cX6_tellSpeeds 139 = .ok (.invokevirtual 261, 3) := by decide +kernel
theorem dX6_tellSpeeds_142 : decode cX6_tellSpeeds 142 = .ok (.istore_n 1, 1) := by decide +kernel
theorem dX6_tellSpeeds_143 : decode cX6_tellSpeeds 143 = .ok (.iinc 2 1, 3) := by decide +kernel
theorem dX6_tellSpeeds_146 : decode cX6_tellSpeeds 146 = .ok (.goto (-18), 3) := by decide +kernel
theorem dX6_tellSpeeds_149 : decode cX6_tellSpeeds 149 = .ok (.return_, 1) := by decide +kernel
set_option maxRecDepth 20000 in
theorem ggX6_makeStep_Jx4a65c_size_8abf5 : GoodIn wsX6_makeStep wsJx4a65c_size_8abf5 := goodIn_r _ [11, 12, 103, 104, 105] (by decide +kernel) (by decide +kernel)
set_option maxRecDepth 20000 in
theorem gX6_makeStep_Jx4a65c_size_8abf5 : GoodIn wsX6_makeStep (wsV RX6 36 RJx4a65c yJx4a65c_size_8abf5 wsJx4a65c_size_8abf5) := goodIn_app (goodIn_of _ (by decide +kernel)) ggX6_makeStep_Jx4a65c_size_8abf5
set_option maxRecDepth 20000 in
theorem ggX6_makeStep_Jx4a65c_get_915e3 : GoodIn wsX6_makeStep wsJx4a65c_get_915e3 := goodIn_r _ [16, 12, 17, 18, 19, 20, 21, 22, 23, 24, 25, 26, 27, 10, 28, 29, 103, 104, 105] (by decide +kernel) (by decide +kernel)
set_option maxRecDepth 20000 in
theorem gX6_makeStep_Jx4a65c_get_915e3 : GoodIn wsX6_makeStep (wsV RX6 59 RJx4a65c yJx4a65c_get_915e3 wsJx4a65c_get_915e3) := goodIn_app (goodIn_of _ (by decide +kernel)) ggX6_makeStep_Jx4a65c_get_915e3
set_option maxRecDepth 20000 in
theorem ggX6_makeStep_X5_tellsOrStepsAside : GoodIn wsX6_makeStep wsX5_tellsOrStepsAside := goodIn_r _ [34, 35, 36, 37, 38, 39, 40, 33, 41, 42, 43, 44, 45, 46, 47, 48, 49, 50, 51, 52, 53, 54, 55, 56, 57, 58, 59, 60, 61, 62, 63, 64, 65, 66, 67, 68, 69, 70, 71, 72, 73, 74, 75, 76, 77, 78, 79, 80, 81, 82, 83, 84, 85, 86, 87, 88, 89, 90, 91, 106, 107, 108, 109, 110, 111, 112, 113, 114, 115, 116, 117] (by decide +kernel) (by decide +kernel)
set_option maxRecDepth 20000 in
theorem gX6_makeStep_X5_tellsOrStepsAside : GoodIn wsX6_makeStep (wsV RX6 264 RX5 yX5_tellsOrStepsAside wsX5_tellsOrStepsAside) := goodIn_app (goodIn_of _ (by decide +kernel)) ggX6_makeStep_X5_tellsOrStepsAside
theorem dX6_makeStep_0 : decode cX6_makeStep 0 = .ok (.iconst 0, 1) := by decide +kernel
theorem dX6_makeStep_1 : decode cX6_makeStep 1 = .ok (.istore_n 1, 1) := by decide +kernel
theorem dX6_makeStep_2 : decode cX6_makeStep 2 = .ok (.iload_n 1, 1) := by decide +kernel
theorem dX6_makeStep_3 : decode cX6_makeStep 3 = .ok (.aload_n 0, 1) := by decide +kernel
theorem dX6_makeStep_4 : decode cX6_makeStep 4 = .ok (.getfield 19, 3) := by decide +kernel
theorem dX6_makeStep_7 : decode cX6_makeStep 7 = .ok (.invokevirtual 36, 3) := by decide +kernel
theorem dX6_makeStep_10 : decode cX6_makeStep 10 = .ok (.if_icmp .ge 31, 3) := by decide +kernel
theorem dX6_makeStep_13 : decode cX6_makeStep 13 = .ok (.aload_n 0, 1) := by decide +kernel
theorem dX6_makeStep_14 : decode cX6_makeStep 14 = .ok (.getfield 19, 3) := by decide +kernel
theorem dX6_makeStep_17 : decode cX6_makeStep 17 = .ok (.iload_n 1, 1) := by decide +kernel
theorem dX6_makeStep_18 : decode cX6_makeStep 18 = .ok (.invokevirtual 59, 3) := by decide +kernel
theorem dX6_makeStep_21 : decode cX6_makeStep 21 = .ok (.checkcast 104, 3) := by decide +kernel
theorem dX6_makeStep_24 : decode cX6_makeStep 24 = .ok (.getfield 191, 3) := by decide +kernel
theorem dX6_makeStep_27 : decode cX6_makeStep 27 = .ok (.invokevirtual 264, 3) := by decide +kernel
theorem dX6_makeStep_30 : decode cX6_makeStep 30 = .ok (.ifCond .eq 5, 3) := by decide +kernel
theorem dX6_makeStep_33 : decode cX6_makeStep 33 = .ok (.iconst 1, 1) := by decide +kernel
theorem dX6_makeStep_34 : decode cX6_makeStep 34 = .ok (.ireturn, 1) := by decide +kernel
theorem dX6_makeStep_35 : decode cX6_makeStep 35 = .ok (.iinc 1 1, 3) := by decide +kernel
theorem dX6_makeStep_38 : decode cX6_makeStep 38 = .ok (.goto (-36), 3) := by decide +kernel
theorem dX6_makeStep_41 : decode cX6_makeStep 41 = .ok (.iconst 0, 1) := by decide +kernel
theorem dX6_makeStep_42 : decode cX6_makeStep 42 = .ok (.istore_n 1, 1) := by decide +kernel
theorem dX6_makeStep_43 : decode cX6_makeStep 43 = .ok (.iload_n 1, 1) := by decide +kernel
theorem dX6_makeStep_44 : decode cX6_makeStep 44 = .ok (.aload_n 0, 1) := by decide +kernel
theorem dX6_makeStep_45 : decode cX6_makeStep 45 = .ok (.getfield 22, 3) := by decide +kernel
theorem dX6_makeStep_48 : decode cX6_makeStep 48 = .ok (.invokevirtual 36, 3) := by decide +kernel
theorem dX6_makeStep_51 : decode cX6_makeStep 51 = .ok (.if_icmp .ge 31, 3) := by decide +kernel
theorem dX6_makeStep_54 : decode cX6_makeStep 54 = .ok (.aload_n 0, 1) := by decide +kernel
theorem dX6_makeStep_55 : decode cX6_makeStep 55 = .ok (.getfield 22, 3) := by decide +kernel
theorem dX6_makeStep_58 : decode cX6_makeStep 58 = .ok (.iload_n 1, 1) := by decide +kernel
theorem dX6_makeStep_59 : decode cX6_makeStep 59 = .ok (.invokevirtual 59, 3) := by decide +kernel
theorem dX6_makeStep_62 : decode cX6_makeStep 62 = .ok (.checkcast 127, 3) := by decide +kernel
theorem dX6_makeStep_65 : decode cX6_makeStep 65 = .ok (.getfield 182, 3) := by decide +kernel
theorem dX6_makeStep_68 : decode cX6_makeStep 68 = .ok (.invokevirtual 264, 3) := by decide +kernel
theorem dX6_makeStep_71 : decode cX6_makeStep 71 = .ok (.ifCond .eq 5, 3) := by decide +kernel
theorem dX6_makeStep_74 : decode cX6_makeStep 74 = .ok (.iconst 1, 1) := by decide +kernel
theorem dX6_makeStep_75 : decode cX6_makeStep 75 = .ok (.ireturn, 1) := by decide +kernel
theorem dX6_makeStep_76 : decode cX6_makeStep 76 = .ok (.iinc 1 1, 3) := by decide +kernel
theorem dX6_makeStep_79 : decode cX6_makeStep 79 = .ok (.goto (-36), 3) := by decide +kernel
theorem dX6_makeStep_82 : decode cX6_makeStep 82 = .ok (.iconst 0, 1) := by decide +kernel
theorem dX6_makeStep_83 : decode cX6_makeStep 83 = .ok (.ireturn, 1) := by decide +kernel
set_option maxRecDepth 20000 in
theorem ggX6_areMeshed_Jx4a65c_size_8abf5 : GoodIn wsX6_areMeshed wsJx4a65c_size_8abf5 := goodIn_r _ [7, 8, 39, 40, 41] (by decide +kernel) (by decide +kernel)
set_option maxRecDepth 20000 in
theorem gX6_areMeshed_Jx4a65c_size_8abf5 : GoodIn wsX6_areMeshed (wsV RX6 36 RJx4a65c yJx4a65c_size_8abf5 wsJx4a65c_size_8abf5) := goodIn_app (goodIn_of _ (by decide +kernel)) ggX6_areMeshed_Jx4a65c_size_8abf5
set_option maxRecDepth 20000 in
theorem ggX6_areMeshed_Jx4a65c_get_915e3 : GoodIn wsX6_areMeshed wsJx4a65c_get_915e3 := goodIn_r _ [12, 8, 13, 14, 15, 16, 17, 18, 19, 20, 21, 22, 23, 6, 24, 25, 39, 40, 41] (by decide +kernel) (by decide +kernel)
set_option maxRecDepth 20000 in
theorem gX6_areMeshed_Jx4a65c_get_915e3 : GoodIn wsX6_areMeshed (wsV RX6 59 RJx4a65c yJx4a65c_get_915e3 wsJx4a65c_get_915e3) := goodIn_app (goodIn_of _ (by decide +kernel)) ggX6_areMeshed_Jx4a65c_get_915e3
set_option maxRecDepth 20000 in
theorem ggX6_areMeshed_X2_isOf : GoodIn wsX6_areMeshed wsX2_isOf := goodIn_r _ [30, 31, 32, 42, 43, 44] (by decide +kernel) (by decide +kernel)
set_option maxRecDepth 20000 in
theorem gX6_areMeshed_X2_isOf : GoodIn wsX6_areMeshed (wsV RX6 267 RX2 yX2_isOf wsX2_isOf) := goodIn_app (goodIn_of _ (by decide +kernel)) ggX6_areMeshed_X2_isOf
theorem dX6_areMeshed_0 : decode cX6_areMeshed 0 = .ok (.iconst 0, 1) := by decide +kernel
theorem dX6_areMeshed_1 : decode cX6_areMeshed 1 = .ok (.istore_n 3, 1) := by decide +kernel
theorem dX6_areMeshed_2 : decode cX6_areMeshed 2 = .ok (.iload_n 3, 1) := by decide +kernel
theorem dX6_areMeshed_3 : decode cX6_areMeshed 3 = .ok (.aload_n 0, 1) := by decide +kernel
theorem dX6_areMeshed_4 : decode cX6_areMeshed 4 = .ok (.getfield 19, 3) := by decide +kernel
theorem dX6_areMeshed_7 : decode cX6_areMeshed 7 = .ok (.invokevirtual 36, 3) := by decide +kernel
theorem dX6_areMeshed_10 : decode cX6_areMeshed 10 = .ok (.if_icmp .ge 30, 3) := by decide +kernel
theorem dX6_areMeshed_13 : decode cX6_areMeshed 13 = .ok (.aload_n 0, 1) := by decide +kernel
theorem dX6_areMeshed_14 : decode cX6_areMeshed 14 = .ok (.getfield 19, 3) := by decide +kernel
theorem dX6_areMeshed_17 : decode cX6_areMeshed 17 = .ok (.iload_n 3, 1) := by decide +kernel
theorem dX6_areMeshed_18 : decode cX6_areMeshed 18 = .ok (.invokevirtual 59, 3) := by decide +kernel
theorem dX6_areMeshed_21 : decode cX6_areMeshed 21 = .ok (.checkcast 104, 3) := by decide +kernel
theorem dX6_areMeshed_24 : decode cX6_areMeshed 24 = .ok (.aload_n 1, 1) := by decide +kernel
theorem dX6_areMeshed_25 : decode cX6_areMeshed 25 = .ok (.aload_n 2, 1) := by decide +kernel
theorem dX6_areMeshed_26 : decode cX6_areMeshed 26 = .ok (.invokevirtual 267, 3) := by decide +kernel
theorem dX6_areMeshed_29 : decode cX6_areMeshed 29 = .ok (.ifCond .eq 5, 3) := by decide +kernel
theorem dX6_areMeshed_32 : decode cX6_areMeshed 32 = .ok (.iconst 1, 1) := by decide +kernel
theorem dX6_areMeshed_33 : decode cX6_areMeshed 33 = .ok (.ireturn, 1) := by decide +kernel
theorem dX6_areMeshed_34 : decode cX6_areMeshed 34 = .ok (.iinc 3 1, 3) := by decide +kernel
theorem dX6_areMeshed_37 : decode cX6_areMeshed 37 = .ok (.goto (-35), 3) := by decide +kernel
theorem dX6_areMeshed_40 : decode cX6_areMeshed 40 = .ok (.iconst 0, 1) := by decide +kernel
theorem dX6_areMeshed_41 : decode cX6_areMeshed 41 = .ok (.ireturn, 1) := by decide +kernel
set_option maxRecDepth 20000 in
theorem ggX6_doCollide_X1_overlaps : GoodIn wsX6_doCollide wsX1_overlaps := goodIn_r _ [5, 6, 7, 8, 9, 10, 11, 12, 4, 13, 14, 15, 16, 17, 18, 19, 20, 21, 22, 23, 61, 62, 63, 64, 65, 66, 67, 68, 69, 70] (by decide +kernel) (by decide +kernel)
set_option maxRecDepth 20000 in
theorem gX6_doCollide_X1_overlaps : GoodIn wsX6_doCollide (wsV RX6 270 RX1 yX1_overlaps wsX1_overlaps) := goodIn_app (goodIn_of _ (by decide +kernel)) ggX6_doCollide_X1_overlaps
set_option maxRecDepth 20000 in
theorem ggX6_doCollide_X6_areMeshed : GoodIn wsX6_doCollide wsX6_areMeshed := goodIn_r _ [28, 29, 30, 31, 32, 33, 34, 35, 36, 37, 38, 39, 40, 41, 42, 43, 44, 45, 46, 47, 48, 49, 50, 51, 52, 53, 54, 55, 56, 57, 58, 59, 60, 71, 72, 73, 74, 75, 76, 77, 78, 79, 80, 81, 82] (by decide +kernel) (by decide +kernel)
set_option maxRecDepth 20000 in
theorem gX6_doCollide_X6_areMeshed : GoodIn wsX6_doCollide (wsV RX6 96 RX6 yX6_areMeshed wsX6_areMeshed) := goodIn_app (goodIn_of _ (by decide +kernel)) ggX6_doCollide_X6_areMeshed
theorem dX6_doCollide_0 : decode cX6_doCollide 0 = .ok (.aload_n 1, 1) := by decide +kernel
theorem dX6_doCollide_1 : decode cX6_doCollide 1 = .ok (.aload_n 2, 1) := by decide +kernel
theorem dX6_doCollide_2 : decode cX6_doCollide 2 = .ok (.invokevirtual 270, 3) := by decide +kernel
theorem dX6_doCollide_5 : decode cX6_doCollide 5 = .ok (.ifCond .eq 16, 3) := by decide +kernel
theorem dX6_doCollide_8 : decode cX6_doCollide 8 = .ok (.aload_n 0, 1) := by decide +kernel
theorem dX6_doCollide_9 : decode cX6_doCollide 9 = .ok (.aload_n 1, 1) := by decide +kernel
theorem dX6_doCollide_10 : decode cX6_doCollide 10 = .ok (.aload_n 2, 1) := by decide +kernel
theorem dX6_doCollide_11 : decode cX6_doCollide 11 = .ok (.invokevirtual 96, 3) := by decide +kernel
theorem dX6_doCollide_14 : decode cX6_doCollide 14 = .ok (.ifCond .ne 7, 3) := by decide +kernel
theorem dX6_doCollide_17 : decode cX6_doCollide 17 = .ok (.iconst 1, 1) := by decide +kernel
theorem dX6_doCollide_18 : decode cX6_doCollide 18 = .ok (.goto 4, 3) := by decide +kernel
theorem dX6_doCollide_21 : decode cX6_doCollide 21 = .ok (.iconst 0, 1) := by decide +kernel
theorem dX6_doCollide_22 : decode cX6_doCollide 22 = .ok (.ireturn, 1) := by decide +kernel
set_option maxRecDepth 20000 in
theorem ggX6_isBetterPair_X6_missOf : GoodIn wsX6_isBetterPair wsX6_missOf := goodIn_r _ [4, 5, 6, 7, 8] (by decide +kernel) (by decide +kernel)
set_option maxRecDepth 20000 in
theorem gX6_isBetterPair_X6_missOf : GoodIn wsX6_isBetterPair (va_wsS RX6 273 yX6_missOf wsX6_missOf) := goodIn_app (goodIn_of _ (by decide +kernel)) ggX6_isBetterPair_X6_missOf
theorem dX6_isBetterPair_0 : decode cX6_isBetterPair 0 = .ok (.iload_n 0, 1) := by decide +kernel
theorem dX6_isBetterPair_1 : decode cX6_isBetterPair 1 = .ok (.iload_n 1, 1) := by decide +kernel
theorem dX6_isBetterPair_2 : decode cX6_isBetterPair 2 = .ok (.iload 4, 2) := by decide +kernel
theorem dX6_isBetterPair_4 : decode cX6_isBetterPair 4 = .ok (.iload 5, 2) := by decide +kernel
theorem dX6_isBetterPair_6 : decode cX6_isBetterPair 6 = .ok (.invokestatic 273, 3) := by decide +kernel
theorem dX6_isBetterPair_9 : decode cX6_isBetterPair 9 = .ok (.i2l, 1) := by decide +kernel
theorem dX6_isBetterPair_10 : decode cX6_isBetterPair 10 = .ok (.iload_n 3, 1) := by decide +kernel
theorem dX6_isBetterPair_11 : decode cX6_isBetterPair 11 = .ok (.i2l, 1) := by decide +kernel
theorem dX6_isBetterPair_12 : decode cX6_isBetterPair 12 = .ok (.lmul, 1) := by decide +kernel
theorem dX6_isBetterPair_13 : decode cX6_isBetterPair 13 = .ok (.lstore 6, 2) := by decide +kernel
theorem dX6_isBetterPair_15 : decode cX6_isBetterPair 15 = .ok (.iload_n 2, 1) := by decide +kernel
theorem dX6_isBetterPair_16 : decode cX6_isBetterPair 16 = .ok (.iload_n 3, 1) := by decide +kernel
theorem dX6_isBetterPair_17 : decode cX6_isBetterPair 17 = .ok (.iload 4, 2) := by decide +kernel
theorem dX6_isBetterPair_19 : decode cX6_isBetterPair 19 = .ok (.iload 5, 2) := by decide +kernel
theorem dX6_isBetterPair_21 : decode cX6_isBetterPair 21 = .ok (.invokestatic 273, 3) := by decide +kernel
theorem dX6_isBetterPair_24 : decode cX6_isBetterPair 24 = .ok (.i2l, 1) := by decide +kernel
theorem dX6_isBetterPair_25 : decode cX6_isBetterPair 25 = .ok (.iload_n 1, 1) := by decide +kernel
theorem dX6_isBetterPair_26 : decode cX6_isBetterPair 26 = .ok (.i2l, 1) := by decide +kernel
theorem dX6_isBetterPair_27 : decode cX6_isBetterPair 27 = .ok (.lmul, 1) := by decide +kernel
theorem dX6_isBetterPair_28 : decode cX6_isBetterPair 28 = .ok (.lstore 8, 2) := by decide +kernel
theorem dX6_isBetterPair_30 : decode cX6_isBetterPair 30 = .ok (.lload 6, 2) := by decide +kernel
theorem dX6_isBetterPair_32 : decode cX6_isBetterPair 32 = .ok (.lload 8, 2) := by decide +kernel
theorem dX6_isBetterPair_34 : decode cX6_isBetterPair 34 = .ok (.lcmp, 1) := by decide +kernel
theorem dX6_isBetterPair_35 : decode cX6_isBetterPair 35 = .ok (.ifCond .eq 17, 3) := by decide +kernel
theorem dX6_isBetterPair_38 : decode cX6_isBetterPair 38 = .ok (.lload 6, 2) := by decide +kernel
theorem dX6_isBetterPair_40 : decode cX6_isBetterPair 40 = .ok (.lload 8, 2) := by decide +kernel
theorem dX6_isBetterPair_42 : decode cX6_isBetterPair 42 = .ok (.lcmp, 1) := by decide +kernel
theorem dX6_isBetterPair_43 : decode cX6_isBetterPair 43 = .ok (.ifCond .ge 7, 3) := by decide +kernel
theorem dX6_isBetterPair_46 : decode cX6_isBetterPair 46 = .ok (.iconst 1, 1) := by decide +kernel
theorem dX6_isBetterPair_47 : decode cX6_isBetterPair 47 = .ok (.goto 4, 3) := by decide +kernel
theorem dX6_isBetterPair_50 : decode cX6_isBetterPair 50 = .ok (.iconst 0, 1) := by decide +kernel
theorem dX6_isBetterPair_51 : decode cX6_isBetterPair 51 = .ok (.ireturn, 1) := by decide +kernel
theorem dX6_isBetterPair_52 : decode cX6_isBetterPair 52 = .ok (.iload_n 0, 1) := by decide +kernel
theorem dX6_isBetterPair_53 : decode cX6_isBetterPair 53 = .ok (.iload_n 1, 1) := by decide +kernel
theorem dX6_isBetterPair_54 : decode cX6_isBetterPair 54 = .ok (.iadd, 1) := by decide +kernel
theorem dX6_isBetterPair_55 : decode cX6_isBetterPair 55 = .ok (.iload_n 2, 1) := by decide +kernel
theorem dX6_isBetterPair_56 : decode cX6_isBetterPair 56 = .ok (.iload_n 3, 1) := by decide +kernel
theorem dX6_isBetterPair_57 : decode cX6_isBetterPair 57 = .ok (.iadd, 1) := by decide +kernel
theorem dX6_isBetterPair_58 : decode cX6_isBetterPair 58 = .ok (.if_icmp .eq 18, 3) := by decide +kernel
theorem dX6_isBetterPair_61 : decode cX6_isBetterPair 61 = .ok (.iload_n 0, 1) := by decide +kernel
theorem dX6_isBetterPair_62 : decode cX6_isBetterPair 62 = .ok (.iload_n 1, 1) := by decide +kernel
theorem dX6_isBetterPair_63 : decode cX6_isBetterPair 63 = .ok (.iadd, 1) := by decide +kernel
theorem dX6_isBetterPair_64 : decode cX6_isBetterPair 64 = .ok (.iload_n 2, 1) := by decide +kernel
theorem dX6_isBetterPair_65 : decode cX6_isBetterPair 65 = .ok (.iload_n 3, 1) := by decide +kernel
theorem dX6_isBetterPair_66 : decode cX6_isBetterPair 66 = .ok (.iadd, 1) := by decide +kernel
theorem dX6_isBetterPair_67 : decode cX6_isBetterPair 67 = .ok (.if_icmp .ge 7, 3) := by decide +kernel
theorem dX6_isBetterPair_70 : decode cX6_isBetterPair 70 = .ok (.iconst 1, 1) := by decide +kernel
theorem dX6_isBetterPair_71 : decode cX6_isBetterPair 71 = .ok (.goto 4, 3) := by decide +kernel
theorem dX6_isBetterPair_74 : decode cX6_isBetterPair 74 = .ok (.iconst 0, 1) := by decide +kernel
theorem dX6_isBetterPair_75 : decode cX6_isBetterPair 75 = .ok (.ireturn, 1) := by decide +kernel
theorem dX6_isBetterPair_76 : decode cX6_isBetterPair 76 = .ok (.iload_n 0, 1) := by decide +kernel
theorem dX6_isBetterPair_77 : decode cX6_isBetterPair 77 = .ok (.iload_n 2, 1) := by decide +kernel
theorem dX6_isBetterPair_78 : decode cX6_isBetterPair 78 = .ok (.if_icmp .ge 7, 3) := by decide +kernel
theorem dX6_isBetterPair_81 : decode cX6_isBetterPair 81 = .ok (.iconst 1, 1) := by decide +kernel
theorem dX6_isBetterPair_82 : decode cX6_isBetterPair 82 = .ok (.goto 4, 3) := by decide +kernel
theorem dX6_isBetterPair_85 : decode cX6_isBetterPair 85 = .ok (.iconst 0, 1) := by decide +kernel
theorem dX6_isBetterPair_86 : decode cX6_isBetterPair 86 = .ok (.ireturn, 1) := by decide +kernel
theorem dX6_missOf_0 : decode cX6_missOf 0 = .ok (.iload_n 0, 1) := by decide +kernel
theorem dX6_missOf_1 : decode cX6_missOf 1 = .ok (.iload_n 3, 1) := by decide +kernel
theorem dX6_missOf_2 : decode cX6_missOf 2 = .ok (.imul, 1) := by decide +kernel
theorem dX6_missOf_3 : decode cX6_missOf 3 = .ok (.iload_n 1, 1) := by decide +kernel
theorem dX6_missOf_4 : decode cX6_missOf 4 = .ok (.iload_n 2, 1) := by decide +kernel
theorem dX6_missOf_5 : decode cX6_missOf 5 = .ok (.imul, 1) := by decide +kernel
theorem dX6_missOf_6 : decode cX6_missOf 6 = .ok (.isub, 1) := by decide +kernel
theorem dX6_missOf_7 : decode cX6_missOf 7 = .ok (.invokestatic 277, 3) := by decide +kernel
theorem dX6_missOf_10 : decode cX6_missOf 10 = .ok (.ireturn, 1) := by decide +kernel
theorem dX6_mixed_0 : decode cX6_mixed 0 = .ok (.lload_n 0, 1) := by decide +kernel
theorem dX6_mixed_1 : decode cX6_mixed 1 = .ok (.ldc2_w 280, 3) := by decide +kernel
theorem dX6_mixed_4 : decode cX6_mixed 4 = .ok (.lmul, 1) := by decide +kernel
theorem dX6_mixed_5 : decode cX6_mixed 5 = .ok (.lload_n 2, 1) := by decide +kernel
theorem dX6_mixed_6 : decode cX6_mixed 6 = .ok (.ladd, 1) := by decide +kernel
theorem dX6_mixed_7 : decode cX6_mixed 7 = .ok (.lreturn, 1) := by decide +kernel
set_option maxRecDepth 20000 in
theorem ggX6_mixedShaft_X6_mixed : GoodIn wsX6_mixedShaft wsX6_mixed := goodIn_r _ [11, 12] (by decide +kernel) (by decide +kernel)
set_option maxRecDepth 20000 in
theorem gX6_mixedShaft_X6_mixed : GoodIn wsX6_mixedShaft (va_wsS RX6 229 yX6_mixed wsX6_mixed) := goodIn_app (goodIn_of _ (by decide +kernel)) ggX6_mixedShaft_X6_mixed
set_option maxRecDepth 20000 in
theorem ggX6_mixedShaft_X4_hasSpeed : GoodIn wsX6_mixedShaft wsX4_hasSpeed := goodIn_r _ [17, 18, 19, 20, 21, 22, 23] (by decide +kernel) (by decide +kernel)
set_option maxRecDepth 20000 in
theorem gX6_mixedShaft_X4_hasSpeed : GoodIn wsX6_mixedShaft (wsV RX6 153 RX4 yX4_hasSpeed wsX4_hasSpeed) := goodIn_app (goodIn_of _ (by decide +kernel)) ggX6_mixedShaft_X4_hasSpeed
theorem dX6_mixedShaft_0 : decode cX6_mixedShaft 0 = .ok (.lload_n 0, 1) := by decide +kernel
theorem dX6_mixedShaft_1 : decode cX6_mixedShaft 1 = .ok (.aload_n 2, 1) := by decide +kernel
theorem dX6_mixedShaft_2 : decode cX6_mixedShaft 2 = .ok (.getfield 67, 3) := by decide +kernel
theorem dX6_mixedShaft_5 : decode cX6_mixedShaft 5 = .ok (.i2l, 1) := by decide +kernel
theorem dX6_mixedShaft_6 : decode cX6_mixedShaft 6 = .ok (.invokestatic 229, 3) := by decide +kernel
theorem dX6_mixedShaft_9 : decode cX6_mixedShaft 9 = .ok (.lstore_n 3, 1) := by decide +kernel
theorem dX6_mixedShaft_10 : decode cX6_mixedShaft 10 = .ok (.lload_n 3, 1) := by decide +kernel
theorem dX6_mixedShaft_11 : decode cX6_mixedShaft 11 = .ok (.aload_n 2, 1) := by decide +kernel
theorem dX6_mixedShaft_12 : decode cX6_mixedShaft 12 = .ok (.getfield 70, 3) := by decide +kernel
theorem dX6_mixedShaft_15 : decode cX6_mixedShaft 15 = .ok (.i2l, 1) := by decide +kernel
