theorem dX5_ask_52 : decode cX5_ask 52 = .ok (.getfield 74, 3) := by decide +kernel
theorem dX5_ask_55 : decode cX5_ask 55 = .ok (.lmul, 1) := by decide +kernel
theorem dX5_ask_56 : decode cX5_ask 56 = .ok (.aload 9, 2) := by decide +kernel
theorem dX5_ask_58 : decode cX5_ask 58 = .ok (.getfield 78, 3) := by decide +kernel
theorem dX5_ask_61 : decode cX5_ask 61 = .ok (.i2l, 1) := by decide +kernel
theorem dX5_ask_62 : decode cX5_ask 62 = .ok (.aload 10, 2) := by decide +kernel
theorem dX5_ask_64 : decode cX5_ask 64 = .ok (.getfield 81, 3) := by decide +kernel
theorem dX5_ask_67 : decode cX5_ask 67 = .ok (.lmul, 1) := by decide +kernel
theorem dX5_ask_68 : decode cX5_ask 68 = .ok (.lload 4, 2) := by decide +kernel
theorem dX5_ask_70 : decode cX5_ask 70 = .ok (.lmul, 1) := by decide +kernel
theorem dX5_ask_71 : decode cX5_ask 71 = .ok (.ladd, 1) := by decide +kernel
theorem dX5_ask_72 : decode cX5_ask 72 = .ok (.lstore_n 2, 1) := by decide +kernel
theorem dX5_ask_73 : decode cX5_ask 73 = .ok (.lload 4, 2) := by decide +kernel
theorem dX5_ask_75 : decode cX5_ask 75 = .ok (.aload 10, 2) := by decide +kernel
theorem dX5_ask_77 : decode cX5_ask 77 = .ok (.getfield 74, 3) := by decide +kernel
theorem dX5_ask_80 : decode cX5_ask 80 = .ok (.lmul, 1) := by decide +kernel
theorem dX5_ask_81 : decode cX5_ask 81 = .ok (.lstore 4, 2) := by decide +kernel
theorem dX5_ask_83 : decode cX5_ask 83 = .ok (.iinc 8 1, 3) := by decide +kernel
theorem dX5_ask_86 : decode cX5_ask 86 = .ok (.goto (-67), 3) := by decide +kernel
theorem dX5_ask_89 : decode cX5_ask 89 = .ok (.aload_n 0, 1) := by decide +kernel
theorem dX5_ask_90 : decode cX5_ask 90 = .ok (.getfield 18, 3) := by decide +kernel
theorem dX5_ask_93 : decode cX5_ask 93 = .ok (.lload_n 2, 1) := by decide +kernel
theorem dX5_ask_94 : decode cX5_ask 94 = .ok (.lneg, 1) := by decide +kernel
theorem dX5_ask_95 : decode cX5_ask 95 = .ok (.aload_n 1, 1) := by decide +kernel
theorem dX5_ask_96 : decode cX5_ask 96 = .ok (.getfield 78, 3) := by decide +kernel
theorem dX5_ask_99 : decode cX5_ask 99 = .ok (.i2l, 1) := by decide +kernel
theorem dX5_ask_100 : decode cX5_ask 100 = .ok (.lload 4, 2) := by decide +kernel
theorem dX5_ask_102 : decode cX5_ask 102 = .ok (.lmul, 1) := by decide +kernel
theorem dX5_ask_103 : decode cX5_ask 103 = .ok (.invokevirtual 84, 3) := by decide +kernel
theorem dX5_ask_106 : decode cX5_ask 106 = .ok (.return_, 1) := by decide +kernel
set_option maxRecDepth 20000 in
theorem ggX6_init_Jx4a65c_init_da8c8 : GoodIn wsX6_init wsJx4a65c_init_da8c8 := goodIn_r _ [15, 16, 17, 18, 19, 20, 21, 22, 23, 24, 25, 26, 27, 2, 3, 28, 29, 30] (by decide +kernel) (by decide +kernel)
set_option maxRecDepth 20000 in
theorem gX6_init_Jx4a65c_init_da8c8 : GoodIn wsX6_init (wsJx4a65c_init_da8c8) := ggX6_init_Jx4a65c_init_da8c8
theorem dX6_init_0 : decode cX6_init 0 = .ok (.aload_n 0, 1) := by decide +kernel
theorem dX6_init_1 : decode cX6_init 1 = .ok (.invokespecial 3, 3) := by decide +kernel
theorem dX6_init_4 : decode cX6_init 4 = .ok (.aload_n 0, 1) := by decide +kernel
theorem dX6_init_5 : decode cX6_init 5 = .ok (.new 9, 3) := by decide +kernel
theorem dX6_init_8 : decode cX6_init 8 = .ok (.dup, 1) := by decide +kernel
theorem dX6_init_9 : decode cX6_init 9 = .ok (.invokespecial 11, 3) := by decide +kernel
theorem dX6_init_12 : decode cX6_init 12 = .ok (.putfield 12, 3) := by decide +kernel
theorem dX6_init_15 : decode cX6_init 15 = .ok (.aload_n 0, 1) := by decide +kernel
theorem dX6_init_16 : decode cX6_init 16 = .ok (.new 9, 3) := by decide +kernel
theorem dX6_init_19 : decode cX6_init 19 = .ok (.dup, 1) := by decide +kernel
theorem dX6_init_20 : decode cX6_init 20 = .ok (.invokespecial 11, 3) := by decide +kernel
theorem dX6_init_23 : decode cX6_init 23 = .ok (.putfield 16, 3) := by decide +kernel
theorem dX6_init_26 : decode cX6_init 26 = .ok (.aload_n 0, 1) := by decide +kernel
theorem dX6_init_27 : decode cX6_init 27 = .ok (.new 9, 3) := by decide +kernel
theorem dX6_init_30 : decode cX6_init 30 = .ok (.dup, 1) := by decide +kernel
theorem dX6_init_31 : decode cX6_init 31 = .ok (.invokespecial 11, 3) := by decide +kernel
theorem dX6_init_34 : decode cX6_init 34 = .ok (.putfield 19, 3) := by decide +kernel
theorem dX6_init_37 : decode cX6_init 37 = .ok (.aload_n 0, 1) := by decide +kernel
theorem dX6_init_38 : decode cX6_init 38 = .ok (.new 9, 3) := by decide +kernel
theorem dX6_init_41 : decode cX6_init 41 = .ok (.dup, 1) := by decide +kernel
theorem dX6_init_42 : decode cX6_init 42 = .ok (.invokespecial 11, 3) := by decide +kernel
theorem dX6_init_45 : decode cX6_init 45 = .ok (.putfield 22, 3) := by decide +kernel
theorem dX6_init_48 : decode cX6_init 48 = .ok (.aload_n 0, 1) := by decide +kernel
theorem dX6_init_49 : decode cX6_init 49 = .ok (.iconst (-1), 1) := by decide +kernel
theorem dX6_init_50 : decode cX6_init 50 = .ok (.putfield 25, 3) := by decide +kernel
theorem dX6_init_53 : decode cX6_init 53 = .ok (.aload_n 0, 1) := by decide +kernel
theorem dX6_init_54 : decode cX6_init 54 = .ok (.iconst 0, 1) := by decide +kernel
theorem dX6_init_55 : decode cX6_init 55 = .ok (.putfield 29, 3) := by decide +kernel
theorem dX6_init_58 : decode cX6_init 58 = .ok (.return_, 1) := by decide +kernel
set_option maxRecDepth 20000 in
theorem ggX6_addShaft_X6_requirePlace : GoodIn wsX6_addShaft wsX6_requirePlace := goodIn_ca (goodIn_r _ [10, 11, 12, 13, 14, 9, 15] (by decide +kernel) (by decide +kernel)) (goodIn_sub (fun _ h => List.mem_cons_of_mem _ (List.mem_append_right _ h)) (by decide +kernel))
set_option maxRecDepth 20000 in
theorem gX6_addShaft_X6_requirePlace : GoodIn wsX6_addShaft (va_wsS RX6 32 yX6_requirePlace wsX6_requirePlace) := goodIn_app (goodIn_of _ (by decide +kernel)) ggX6_addShaft_X6_requirePlace
set_option maxRecDepth 20000 in
theorem ggX6_addShaft_Jx4a65c_size_8abf5 : GoodIn wsX6_addShaft wsJx4a65c_size_8abf5 := goodIn_r _ [20, 21, 107, 108, 109] (by decide +kernel) (by decide +kernel)
set_option maxRecDepth 20000 in
theorem gX6_addShaft_Jx4a65c_size_8abf5 : GoodIn wsX6_addShaft (wsV RX6 36 RJx4a65c yJx4a65c_size_8abf5 wsJx4a65c_size_8abf5) := goodIn_app (goodIn_of _ (by decide +kernel)) ggX6_addShaft_Jx4a65c_size_8abf5
set_option maxRecDepth 20000 in
theorem ggX6_addShaft_X4_init : GoodIn wsX6_addShaft wsX4_init := goodIn_r _ [24, 25, 26, 27, 28, 29, 30, 31, 32, 33, 34, 35, 36, 37, 38, 39, 40, 41, 102, 103, 104, 105, 106, 110, 111] (by decide +kernel) (by decide +kernel)
set_option maxRecDepth 20000 in
theorem gX6_addShaft_X4_init : GoodIn wsX6_addShaft (wsX4_init) := ggX6_addShaft_X4_init
set_option maxRecDepth 20000 in
theorem ggX6_addShaft_Jx4a65c_add_9ea2d : GoodIn wsX6_addShaft wsJx4a65c_add_9ea2d := goodIn_r _ [45, 46, 47, 48, 21, 49, 50, 51, 19, 52, 53, 54, 55, 56, 57, 58, 59, 60, 61, 62, 63, 64, 65, 66, 67, 68, 69, 70, 71, 72, 73, 74, 75, 76, 77, 78, 79, 80, 81, 82, 83, 84, 85, 86, 87, 88, 89, 90, 91, 92, 93, 94, 95, 107, 108, 109] (by decide +kernel) (by decide +kernel)
set_option maxRecDepth 20000 in
theorem gX6_addShaft_Jx4a65c_add_9ea2d : GoodIn wsX6_addShaft (wsV RX6 51 RJx4a65c yJx4a65c_add_9ea2d wsJx4a65c_add_9ea2d) := goodIn_app (goodIn_of _ (by decide +kernel)) ggX6_addShaft_Jx4a65c_add_9ea2d
theorem dX6_addShaft_0 : decode cX6_addShaft 0 = .ok (.iload_n 1, 1) := by decide +kernel
theorem dX6_addShaft_1 : decode cX6_addShaft 1 = .ok (.iload_n 2, 1) := by decide +kernel
theorem dX6_addShaft_2 : decode cX6_addShaft 2 = .ok (.invokestatic 32, 3) := by decide +kernel
theorem dX6_addShaft_5 : decode cX6_addShaft 5 = .ok (.aload_n 0, 1) := by decide +kernel
theorem dX6_addShaft_6 : decode cX6_addShaft 6 = .ok (.getfield 12, 3) := by decide +kernel
theorem dX6_addShaft_9 : decode cX6_addShaft 9 = .ok (.invokevirtual 36, 3) := by decide +kernel
theorem dX6_addShaft_12 : decode cX6_addShaft 12 = .ok (.bipush 10, 2) := by decide +kernel
theorem dX6_addShaft_14 : decode cX6_addShaft 14 = .ok (.if_icmp .lt 13, 3) := by decide +kernel
theorem dX6_addShaft_17 : decode cX6_addShaft 17 = .ok (.new 40, 3) := by decide +kernel
theorem dX6_addShaft_20 : decode cX6_addShaft 20 = .ok (.dup, 1) := by decide +kernel
theorem dX6_addShaft_21 : decode cX6_addShaft 21 = .ok (.ldc 42, 2) := by decide +kernel
theorem dX6_addShaft_23 : decode cX6_addShaft 23 = .ok (.invokespecial 44, 3) := by decide +kernel
theorem dX6_addShaft_26 : decode cX6_addShaft 26 = .ok (.athrow, 1) := by decide +kernel
theorem dX6_addShaft_27 : decode cX6_addShaft 27 = .ok (.aload_n 0, 1) := by decide +kernel
theorem dX6_addShaft_28 : decode cX6_addShaft 28 = .ok (.getfield 12, 3) := by decide +kernel
theorem dX6_addShaft_31 : decode cX6_addShaft 31 = .ok (.new 47, 3) := by decide +kernel
theorem dX6_addShaft_34 : decode cX6_addShaft 34 = .ok (.dup, 1) := by decide +kernel
theorem dX6_addShaft_35 : decode cX6_addShaft 35 = .ok (.iload_n 1, 1) := by decide +kernel
theorem dX6_addShaft_36 : decode cX6_addShaft 36 = .ok (.iload_n 2, 1) := by decide +kernel
theorem dX6_addShaft_37 : decode cX6_addShaft 37 = .ok (.invokespecial 49, 3) := by decide +kernel
theorem dX6_addShaft_40 : decode cX6_addShaft 40 = .ok (.invokevirtual 51, 3) := by decide +kernel
theorem dX6_addShaft_43 : decode cX6_addShaft 43 = .ok (.pop, 1) := by decide +kernel
theorem dX6_addShaft_44 : decode cX6_addShaft 44 = .ok (.aload_n 0, 1) := by decide +kernel
theorem dX6_addShaft_45 : decode cX6_addShaft 45 = .ok (.getfield 12, 3) := by decide +kernel
theorem dX6_addShaft_48 : decode cX6_addShaft 48 = .ok (.invokevirtual 36, 3) := by decide +kernel
theorem dX6_addShaft_51 : decode cX6_addShaft 51 = .ok (.iconst 1, 1) := by decide +kernel
theorem dX6_addShaft_52 : decode cX6_addShaft 52 = .ok (.isub, 1) := by decide +kernel
theorem dX6_addShaft_53 : decode cX6_addShaft 53 = .ok (.ireturn, 1) := by decide +kernel
set_option maxRecDepth 20000 in
theorem ggX6_move_X6_requireShaft : GoodIn wsX6_move wsX6_requireShaft := goodIn_ca (goodIn_r _ [9, 10, 11, 1, 12, 13, 14, 15, 16, 17, 18, 19, 8, 20, 50, 51, 52, 53, 54, 55, 61, 62, 63] (by decide +kernel) (by decide +kernel)) (goodIn_sub (fun _ h => List.mem_cons_of_mem _ (List.mem_append_left _ (List.mem_append_right _ h))) (by decide +kernel))
set_option maxRecDepth 20000 in
theorem gX6_move_X6_requireShaft : GoodIn wsX6_move (wsV RX6 55 RX6 yX6_requireShaft wsX6_requireShaft) := goodIn_app (goodIn_of _ (by decide +kernel)) ggX6_move_X6_requireShaft
set_option maxRecDepth 20000 in
theorem ggX6_move_X6_requirePlace : GoodIn wsX6_move wsX6_requirePlace := goodIn_ca (goodIn_r _ [23, 24, 25, 18, 19, 8, 20] (by decide +kernel) (by decide +kernel)) (goodIn_sub (fun _ h => List.mem_cons_of_mem _ (List.mem_append_right _ h)) (by decide +kernel))
set_option maxRecDepth 20000 in
theorem gX6_move_X6_requirePlace : GoodIn wsX6_move (va_wsS RX6 32 yX6_requirePlace wsX6_requirePlace) := goodIn_app (goodIn_of _ (by decide +kernel)) ggX6_move_X6_requirePlace
set_option maxRecDepth 20000 in
theorem ggX6_move_Jx4a65c_get_915e3 : GoodIn wsX6_move wsJx4a65c_get_915e3 := goodIn_r _ [29, 17, 30, 31, 32, 33, 34, 35, 36, 37, 38, 39, 40, 15, 41, 42, 61, 62, 63] (by decide +kernel) (by decide +kernel)
set_option maxRecDepth 20000 in
theorem gX6_move_Jx4a65c_get_915e3 : GoodIn wsX6_move (wsV RX6 59 RJx4a65c yJx4a65c_get_915e3 wsJx4a65c_get_915e3) := goodIn_app (goodIn_of _ (by decide +kernel)) ggX6_move_Jx4a65c_get_915e3
set_option maxRecDepth 20000 in
theorem ggX6_move_X4_squareTo : GoodIn wsX6_move wsX4_squareTo := goodIn_r _ [47, 48, 49, 56, 57, 58, 59, 60] (by decide +kernel) (by decide +kernel)
set_option maxRecDepth 20000 in
theorem gX6_move_X4_squareTo : GoodIn wsX6_move (wsV RX6 63 RX4 yX4_squareTo wsX4_squareTo) := goodIn_app (goodIn_of _ (by decide +kernel)) ggX6_move_X4_squareTo
theorem dX6_move_0 : decode cX6_move 0 = .ok (.aload_n 0, 1) := by decide +kernel
theorem dX6_move_1 : decode cX6_move 1 = .ok (.iload_n 1, 1) := by decide +kernel
theorem dX6_move_2 : decode cX6_move 2 = .ok (.invokevirtual 55, 3) := by decide +kernel
theorem dX6_move_5 : decode cX6_move 5 = .ok (.iload_n 2, 1) := by decide +kernel
theorem dX6_move_6 : decode cX6_move 6 = .ok (.iload_n 3, 1) := by decide +kernel
theorem dX6_move_7 : decode cX6_move 7 = .ok (.invokestatic 32, 3) := by decide +kernel
theorem dX6_move_10 : decode cX6_move 10 = .ok (.aload_n 0, 1) := by decide +kernel
theorem dX6_move_11 : decode cX6_move 11 = .ok (.getfield 12, 3) := by decide +kernel
theorem dX6_move_14 : decode cX6_move 14 = .ok (.iload_n 1, 1) := by decide +kernel
theorem dX6_move_15 : decode cX6_move 15 = .ok (.invokevirtual 59, 3) := by decide +kernel
theorem dX6_move_18 : decode cX6_move 18 = .ok (.checkcast 47, 3) := by decide +kernel
theorem dX6_move_21 : decode cX6_move 21 = .ok (.astore 4, 2) := by decide +kernel
theorem dX6_move_23 : decode cX6_move 23 = .ok (.aload 4, 2) := by decide +kernel
theorem dX6_move_25 : decode cX6_move 25 = .ok (.iload_n 2, 1) := by decide +kernel
theorem dX6_move_26 : decode cX6_move 26 = .ok (.iload_n 3, 1) := by decide +kernel
theorem dX6_move_27 : decode cX6_move 27 = .ok (.invokevirtual 63, 3) := by decide +kernel
theorem dX6_move_30 : decode cX6_move 30 = .ok (.istore 5, 2) := by decide +kernel
theorem dX6_move_32 : decode cX6_move 32 = .ok (.aload 4, 2) := by decide +kernel
theorem dX6_move_34 : decode cX6_move 34 = .ok (.iload_n 2, 1) := by decide +kernel
theorem dX6_move_35 : decode cX6_move 35 = .ok (.putfield 67, 3) := by decide +kernel
theorem dX6_move_38 : decode cX6_move 38 = .ok (.aload 4, 2) := by decide +kernel
theorem dX6_move_40 : decode cX6_move 40 = .ok (.iload_n 3, 1) := by decide +kernel
theorem dX6_move_41 : decode cX6_move 41 = .ok (.putfield 70, 3) := by decide +kernel
theorem dX6_move_44 : decode cX6_move 44 = .ok (.iload 5, 2) := by decide +kernel
theorem dX6_move_46 : decode cX6_move 46 = .ok (.ireturn, 1) := by decide +kernel
set_option maxRecDepth 20000 in
theorem ggX6_addGear_X6_requireShaft : GoodIn wsX6_addGear wsX6_requireShaft := goodIn_ca (goodIn_r _ [15, 16, 17, 9, 18, 19, 20, 21, 22, 23, 24, 25, 14, 26, 108, 109, 110, 111, 112, 113, 119, 120, 121] (by decide +kernel) (by decide +kernel)) (goodIn_sub (fun _ h => List.mem_cons_of_mem _ (List.mem_append_right _ h)) (by decide +kernel))
set_option maxRecDepth 20000 in
theorem gX6_addGear_X6_requireShaft : GoodIn wsX6_addGear (wsV RX6 55 RX6 yX6_requireShaft wsX6_requireShaft) := goodIn_app (goodIn_of _ (by decide +kernel)) ggX6_addGear_X6_requireShaft
set_option maxRecDepth 20000 in
theorem ggX6_addGear_X6_isWithin : GoodIn wsX6_addGear wsX6_isWithin := goodIn_r _ [26] (by decide +kernel) (by decide +kernel)
set_option maxRecDepth 20000 in
theorem gX6_addGear_X6_isWithin : GoodIn wsX6_addGear (va_wsS RX6 73 yX6_isWithin wsX6_isWithin) := goodIn_app (goodIn_of _ (by decide +kernel)) ggX6_addGear_X6_isWithin
set_option maxRecDepth 20000 in
theorem ggX6_addGear_Jx4a65c_size_8abf5 : GoodIn wsX6_addGear wsJx4a65c_size_8abf5 := goodIn_r _ [22, 23, 119, 120, 121] (by decide +kernel) (by decide +kernel)
set_option maxRecDepth 20000 in
theorem gX6_addGear_Jx4a65c_size_8abf5 : GoodIn wsX6_addGear (wsV RX6 36 RJx4a65c yJx4a65c_size_8abf5 wsJx4a65c_size_8abf5) := goodIn_app (goodIn_of _ (by decide +kernel)) ggX6_addGear_Jx4a65c_size_8abf5
set_option maxRecDepth 20000 in
theorem ggX6_addGear_Jx4a65c_get_915e3 : GoodIn wsX6_addGear wsJx4a65c_get_915e3 := goodIn_r _ [30, 23, 31, 32, 33, 34, 35, 36, 37, 38, 39, 40, 41, 21, 42, 43, 119, 120, 121] (by decide +kernel) (by decide +kernel)
set_option maxRecDepth 20000 in
theorem gX6_addGear_Jx4a65c_get_915e3 : GoodIn wsX6_addGear (wsV RX6 59 RJx4a65c yJx4a65c_get_915e3 wsJx4a65c_get_915e3) := goodIn_app (goodIn_of _ (by decide +kernel)) ggX6_addGear_Jx4a65c_get_915e3
set_option maxRecDepth 20000 in
theorem ggX6_addGear_X1_init : GoodIn wsX6_addGear wsX1_init := goodIn_r _ [46, 47, 48, 49, 50, 51, 52, 53, 54, 114, 115, 116, 117, 118] (by decide +kernel) (by decide +kernel)
set_option maxRecDepth 20000 in
theorem gX6_addGear_X1_init : GoodIn wsX6_addGear (wsX1_init) := ggX6_addGear_X1_init
set_option maxRecDepth 20000 in
theorem ggX6_addGear_Jx4a65c_add_9ea2d : GoodIn wsX6_addGear wsJx4a65c_add_9ea2d := goodIn_r _ [58, 59, 60, 43, 23, 61, 62, 63, 21, 64, 65, 66, 67, 68, 69, 70, 71, 72, 73, 74, 75, 76, 77, 78, 79, 80, 81, 82, 83, 84, 85, 86, 87, 88, 89, 90, 91, 92, 93, 94, 95, 96, 97, 98, 99, 100, 101, 102, 103, 104, 105, 106, 107, 119, 120, 121] (by decide +kernel) (by decide +kernel)
set_option maxRecDepth 20000 in
theorem gX6_addGear_Jx4a65c_add_9ea2d : GoodIn wsX6_addGear (wsV RX6 51 RJx4a65c yJx4a65c_add_9ea2d wsJx4a65c_add_9ea2d) := goodIn_app (goodIn_of _ (by decide +kernel)) ggX6_addGear_Jx4a65c_add_9ea2d
theorem dX6_addGear_0 : decode cX6_addGear 0 = .ok (.aload_n 0, 1) := by decide +kernel
theorem dX6_addGear_1 : decode cX6_addGear 1 = .ok (.iload_n 1, 1) := by decide +kernel
theorem dX6_addGear_2 : decode cX6_addGear 2 = .ok (.invokevirtual 55, 3) := by decide +kernel
theorem dX6_addGear_5 : decode cX6_addGear 5 = .ok (.iload_n 2, 1) := by decide +kernel
theorem dX6_addGear_6 : decode cX6_addGear 6 = .ok (.bipush 8, 2) := by decide +kernel
theorem dX6_addGear_8 : decode cX6_addGear 8 = .ok (.sipush 200, 3) := by decide +kernel
theorem dX6_addGear_11 : decode cX6_addGear 11 = .ok (.invokestatic 73, 3) := by decide +kernel
theorem dX6_addGear_14 : decode cX6_addGear 14 = .ok (.ifCond .eq 23, 3) := by decide +kernel
theorem dX6_addGear_17 : decode cX6_addGear 17 = .ok (.iload_n 3, 1) := by decide +kernel
theorem dX6_addGear_18 : decode cX6_addGear 18 = .ok (.iconst 1, 1) := by decide +kernel
theorem dX6_addGear_19 : decode cX6_addGear 19 = .ok (.bipush 10, 2) := by decide +kernel
theorem dX6_addGear_21 : decode cX6_addGear 21 = .ok (.invokestatic 73, 3) := by decide +kernel
theorem dX6_addGear_24 : decode cX6_addGear 24 = .ok (.ifCond .eq 13, 3) := by decide +kernel
theorem dX6_addGear_27 : decode cX6_addGear 27 = .ok (.iload 4, 2) := by decide +kernel
theorem dX6_addGear_29 : decode cX6_addGear 29 = .ok (.iconst 0, 1) := by decide +kernel
theorem dX6_addGear_30 : decode cX6_addGear 30 = .ok (.iconst 5, 1) := by decide +kernel
theorem dX6_addGear_31 : decode cX6_addGear 31 = .ok (.invokestatic 73, 3) := by decide +kernel
theorem dX6_addGear_34 : decode cX6_addGear 34 = .ok (.ifCond .ne 13, 3) := by decide +kernel
theorem dX6_addGear_37 : decode cX6_addGear 37 = .ok (.new 77, 3) := by decide +kernel
theorem dX6_addGear_40 : decode cX6_addGear 40 = .ok (.dup, 1) := by decide +kernel
theorem dX6_addGear_41 : decode cX6_addGear 41 = .ok (.ldc 79, 2) := by decide +kernel
theorem dX6_addGear_43 : decode cX6_addGear 43 = .ok (.invokespecial 81, 3) := by decide +kernel
theorem dX6_addGear_46 : decode cX6_addGear 46 = .ok (.athrow, 1) := by decide +kernel
theorem dX6_addGear_47 : decode cX6_addGear 47 = .ok (.aload_n 0, 1) := by decide +kernel
theorem dX6_addGear_48 : decode cX6_addGear 48 = .ok (.getfield 16, 3) := by decide +kernel
theorem dX6_addGear_51 : decode cX6_addGear 51 = .ok (.invokevirtual 36, 3) := by decide +kernel
theorem dX6_addGear_54 : decode cX6_addGear 54 = .ok (.bipush 16, 2) := by decide +kernel
theorem dX6_addGear_56 : decode cX6_addGear 56 = .ok (.if_icmp .lt 13, 3) := by decide +kernel
theorem dX6_addGear_59 : decode cX6_addGear 59 = .ok (.new 40, 3) := by decide +kernel
theorem dX6_addGear_62 : decode cX6_addGear 62 = .ok (.dup, 1) := by decide +kernel
theorem dX6_addGear_63 : decode cX6_addGear 63 = .ok (.ldc 82, 2) := by decide +kernel
theorem dX6_addGear_65 : decode cX6_addGear 65 = .ok (.invokespecial 44, 3) := by decide +kernel
theorem dX6_addGear_68 : decode cX6_addGear 68 = .ok (.athrow, 1) := by decide +kernel
theorem dX6_addGear_69 : decode cX6_addGear 69 = .ok (.aload_n 0, 1) := by decide +kernel
theorem dX6_addGear_70 : decode cX6_addGear 70 = .ok (.getfield 16, 3) := by decide +kernel
theorem dX6_addGear_73 : decode cX6_addGear 73 = .ok (.new 84, 3) := by decide +kernel
theorem dX6_addGear_76 : decode cX6_addGear 76 = .ok (.dup, 1) := by decide +kernel
theorem dX6_addGear_77 : decode cX6_addGear 77 = .ok (.aload_n 0, 1) := by decide +kernel
theorem dX6_addGear_78 : decode cX6_addGear 78 = .ok (.getfield 12, 3) := by decide +kernel
theorem dX6_addGear_81 : decode cX6_addGear 81 = .ok (.iload_n 1, 1) := by decide +kernel
theorem dX6_addGear_82 : decode cX6_addGear 82 = .ok (.invokevirtual 59, 3) := by decide +kernel
theorem dX6_addGear_85 : decode cX6_addGear 85 = .ok (.checkcast 47, 3) := by decide +kernel
theorem dX6_addGear_88 : decode cX6_addGear 88 = .ok (.iload_n 2, 1) := by decide +kernel
theorem dX6_addGear_89 : decode cX6_addGear 89 = .ok (.iload_n 3, 1) := by decide +kernel
theorem dX6_addGear_90 : decode cX6_addGear 90 = .ok (.iload 4, 2) := by decide +kernel
theorem dX6_addGear_92 : decode cX6_addGear 92 = .ok (.iload 5, 2) := by decide +kernel
theorem dX6_addGear_94 : decode cX6_addGear 94 = .ok (.invokespecial 86, 3) := by decide +kernel
theorem dX6_addGear_97 : decode cX6_addGear 97 = .ok (.invokevirtual 51, 3) := by decide +kernel
theorem dX6_addGear_100 : decode cX6_addGear 100 = .ok (.pop, 1) := by decide +kernel
theorem dX6_addGear_101 : decode cX6_addGear 101 = .ok (.aload_n 0, 1) := by decide +kernel
theorem dX6_addGear_102 : decode cX6_addGear 102 = .ok (.getfield 16, 3) := by decide +kernel
theorem dX6_addGear_105 : decode cX6_addGear 105 = .ok (.invokevirtual 36, 3) := by decide +kernel
theorem dX6_addGear_108 : decode cX6_addGear 108 = .ok (.iconst 1, 1) := by decide +kernel
theorem dX6_addGear_109 : decode cX6_addGear 109 = .ok (.isub, 1) := by decide +kernel
theorem dX6_addGear_110 : decode cX6_addGear 110 = .ok (.ireturn, 1) := by decide +kernel
set_option maxRecDepth 20000 in
theorem ggX6_mesh_X6_requireGear : GoodIn wsX6_mesh wsX6_requireGear := goodIn_ca (goodIn_r _ [15, 16, 17, 5, 18, 19, 20, 21, 22, 23, 24, 25, 14, 26, 230, 231, 232, 233, 234, 235, 239, 240, 241] (by decide +kernel) (by decide +kernel)) (goodIn_sub (fun _ h => List.mem_cons_of_mem _ (List.mem_append_right _ h)) (by decide +kernel))
set_option maxRecDepth 20000 in
theorem gX6_mesh_X6_requireGear : GoodIn wsX6_mesh (wsV RX6 89 RX6 yX6_requireGear wsX6_requireGear) := goodIn_app (goodIn_of _ (by decide +kernel)) ggX6_mesh_X6_requireGear
set_option maxRecDepth 20000 in
theorem ggX6_mesh_Jx4a65c_get_915e3 : GoodIn wsX6_mesh wsJx4a65c_get_915e3 := goodIn_r _ [30, 23, 31, 32, 33, 34, 35, 36, 37, 38, 39, 40, 41, 21, 42, 43, 239, 240, 241] (by decide +kernel) (by decide +kernel)
set_option maxRecDepth 20000 in
theorem gX6_mesh_Jx4a65c_get_915e3 : GoodIn wsX6_mesh (wsV RX6 59 RJx4a65c yJx4a65c_get_915e3 wsJx4a65c_get_915e3) := goodIn_app (goodIn_of _ (by decide +kernel)) ggX6_mesh_Jx4a65c_get_915e3
set_option maxRecDepth 20000 in
theorem ggX6_mesh_X1_suits : GoodIn wsX6_mesh wsX1_suits := goodIn_r _ [48, 49, 50, 51, 52, 53, 242, 243, 244, 245, 246] (by decide +kernel) (by decide +kernel)
set_option maxRecDepth 20000 in
theorem gX6_mesh_X1_suits : GoodIn wsX6_mesh (wsV RX6 92 RX1 yX1_suits wsX1_suits) := goodIn_app (goodIn_of _ (by decide +kernel)) ggX6_mesh_X1_suits
set_option maxRecDepth 20000 in
theorem ggX6_mesh_X6_areMeshed : GoodIn wsX6_mesh wsX6_areMeshed := goodIn_r _ [57, 7, 58, 18, 19, 20, 21, 22, 23, 27, 28, 29, 30, 31, 32, 33, 34, 35, 36, 37, 38, 39, 40, 41, 42, 43, 59, 60, 61, 10, 62, 63, 64, 230, 231, 232, 233, 234, 235, 239, 240, 241, 236, 237, 238] (by decide +kernel) (by decide +kernel)
set_option maxRecDepth 20000 in
theorem gX6_mesh_X6_areMeshed : GoodIn wsX6_mesh (wsV RX6 96 RX6 yX6_areMeshed wsX6_areMeshed) := goodIn_app (goodIn_of _ (by decide +kernel)) ggX6_mesh_X6_areMeshed
set_option maxRecDepth 20000 in
theorem ggX6_mesh_Jx4a65c_size_8abf5 : GoodIn wsX6_mesh wsJx4a65c_size_8abf5 := goodIn_r _ [22, 23, 239, 240, 241] (by decide +kernel) (by decide +kernel)
set_option maxRecDepth 20000 in
theorem gX6_mesh_Jx4a65c_size_8abf5 : GoodIn wsX6_mesh (wsV RX6 36 RJx4a65c yJx4a65c_size_8abf5 wsJx4a65c_size_8abf5) := goodIn_app (goodIn_of _ (by decide +kernel)) ggX6_mesh_Jx4a65c_size_8abf5
set_option maxRecDepth 20000 in
theorem ggX6_mesh_X2_init : GoodIn wsX6_mesh wsX2_init := goodIn_r _ [67, 68, 69, 70, 63, 64, 71, 72, 73, 74, 75, 76, 77, 78, 79, 80, 81, 82, 83, 84, 85, 86, 87, 88, 89, 90, 91, 92, 93, 94, 95, 96, 97, 98, 99, 100, 101, 102, 236, 237, 238, 242, 243, 244, 245, 246, 247, 248, 249, 250, 251, 252, 253] (by decide +kernel) (by decide +kernel)
set_option maxRecDepth 20000 in
theorem gX6_mesh_X2_init : GoodIn wsX6_mesh (wsX2_init) := ggX6_mesh_X2_init
set_option maxRecDepth 20000 in
theorem ggX6_mesh_Jx4a65c_add_9ea2d : GoodIn wsX6_mesh wsJx4a65c_add_9ea2d := goodIn_r _ [106, 107, 108, 43, 23, 109, 110, 111, 21, 112, 113, 114, 115, 116, 117, 118, 119, 120, 121, 122, 123, 124, 125, 126, 127, 128, 129, 130, 131, 132, 133, 134, 135, 136, 137, 138, 139, 140, 141, 142, 143, 144, 145, 146, 147, 148, 149, 150, 151, 152, 153, 154, 155, 239, 240, 241] (by decide +kernel) (by decide +kernel)
set_option maxRecDepth 20000 in
theorem gX6_mesh_Jx4a65c_add_9ea2d : GoodIn wsX6_mesh (wsV RX6 51 RJx4a65c yJx4a65c_add_9ea2d wsJx4a65c_add_9ea2d) := goodIn_app (goodIn_of _ (by decide +kernel)) ggX6_mesh_Jx4a65c_add_9ea2d
set_option maxRecDepth 20000 in
theorem ggX6_mesh_X6_tellSpeeds : GoodIn wsX6_mesh wsX6_tellSpeeds := goodIn_r _ [159, 160, 161, 162, 163, 7, 58, 164, 165, 166, 167, 168, 18, 19, 20, 21, 22, 23, 27, 28, 29, 30, 31, 32, 33, 34, 35, 36, 37, 38, 39, 40, 41, 42, 43, 169, 170, 171, 172, 173, 174, 175, 176, 177, 178, 179, 94, 180, 181, 182, 124, 183, 101, 102, 184, 185, 186, 187, 188, 189, 14, 190, 191, 192, 193, 75, 194, 96, 95, 195, 196, 197, 198, 199, 91, 200, 201, 202, 203, 204, 205, 206, 207, 208, 209, 210, 211, 212, 213, 214, 215, 216, 217, 218, 219, 220, 221, 222, 223, 123, 125, 224, 225, 226, 227, 228, 229, 230, 231, 232, 233, 234, 235, 236, 237, 238, 247, 248, 249, 254, 255, 239, 240, 241, 256, 257, 258, 259, 260, 252, 253, 250, 251] (by decide +kernel) (by decide +kernel)
set_option maxRecDepth 20000 in
theorem gX6_mesh_X6_tellSpeeds : GoodIn wsX6_mesh (wsV RX6 109 RX6 yX6_tellSpeeds wsX6_tellSpeeds) := goodIn_app (goodIn_of _ (by decide +kernel)) ggX6_mesh_X6_tellSpeeds
theorem dX6_mesh_0 : decode cX6_mesh 0 = .ok (.aload_n 0, 1) := by decide +kernel
theorem dX6_mesh_1 : decode cX6_mesh 1 = .ok (.iload_n 1, 1) := by decide +kernel
theorem dX6_mesh_2 : decode cX6_mesh 2 = .ok (.invokevirtual 89, 3) := by decide +kernel
theorem dX6_mesh_5 : decode cX6_mesh 5 = .ok (.aload_n 0, 1) := by decide +kernel
theorem dX6_mesh_6 : decode cX6_mesh 6 = .ok (.iload_n 2, 1) := by decide +kernel
theorem dX6_mesh_7 : decode cX6_mesh 7 = .ok (.invokevirtual 89, 3) := by decide +kernel
theorem dX6_mesh_10 : decode cX6_mesh 10 = .ok (.aload_n 0, 1) := by decide +kernel
theorem dX6_mesh_11 : decode cX6_mesh 11 = .ok (.getfield 16, 3) := by decide +kernel
theorem dX6_mesh_14 : decode cX6_mesh 14 = .ok (.iload_n 1, 1) := by decide +kernel
theorem dX6_mesh_15 : decode cX6_mesh 15 = .ok (.invokevirtual 59, 3) := by decide +kernel
theorem dX6_mesh_18 : decode cX6_mesh 18 = .ok (.checkcast 84, 3) := by decide +kernel
theorem dX6_mesh_21 : decode cX6_mesh 21 = .ok (.astore_n 3, 1) := by decide +kernel
theorem dX6_mesh_22 : decode cX6_mesh 22 = .ok (.aload_n 0, 1) := by decide +kernel
theorem dX6_mesh_23 : decode cX6_mesh 23 = .ok (.getfield 16, 3) := by decide +kernel
theorem dX6_mesh_26 : decode cX6_mesh 26 = .ok (.iload_n 2, 1) := by decide +kernel
theorem dX6_mesh_27 : decode cX6_mesh 27 = .ok (.invokevirtual 59, 3) := by decide +kernel
theorem dX6_mesh_30 : decode cX6_mesh 30 = .ok (.checkcast 84, 3) := by decide +kernel
theorem dX6_mesh_33 : decode cX6_mesh 33 = .ok (.astore 4, 2) := by decide +kernel
theorem dX6_mesh_35 : decode cX6_mesh 35 = .ok (.aload_n 3, 1) := by decide +kernel
theorem dX6_mesh_36 : decode cX6_mesh 36 = .ok (.aload 4, 2) := by decide +kernel
theorem dX6_mesh_38 : decode cX6_mesh 38 = .ok (.invokevirtual 92, 3) := by decide +kernel
theorem dX6_mesh_41 : decode cX6_mesh 41 = .ok (.ifCond .eq 13, 3) := by decide +kernel
theorem dX6_mesh_44 : decode cX6_mesh 44 = .ok (.aload_n 0, 1) := by decide +kernel
theorem dX6_mesh_45 : decode cX6_mesh 45 = .ok (.aload_n 3, 1) := by decide +kernel
theorem dX6_mesh_46 : decode cX6_mesh 46 = .ok (.aload 4, 2) := by decide +kernel
theorem dX6_mesh_48 : decode cX6_mesh 48 = .ok (.invokevirtual 96, 3) := by decide +kernel
theorem dX6_mesh_51 : decode cX6_mesh 51 = .ok (.ifCond .eq 13, 3) := by decide +kernel
theorem dX6_mesh_54 : decode cX6_mesh 54 = .ok (.new 77, 3) := by decide +kernel
theorem dX6_mesh_57 : decode cX6_mesh 57 = .ok (.dup, 1) := by decide +kernel
theorem dX6_mesh_58 : decode cX6_mesh 58 = .ok (.ldc 100, 2) := by decide +kernel
theorem dX6_mesh_60 : decode cX6_mesh 60 = .ok (.invokespecial 81, 3) := by decide +kernel
theorem dX6_mesh_63 : decode cX6_mesh 63 = .ok (.athrow, 1) := by decide +kernel
theorem dX6_mesh_64 : decode cX6_mesh 64 = .ok (.aload_n 0, 1) := by decide +kernel
theorem dX6_mesh_65 : decode cX6_mesh 65 = .ok (.getfield 19, 3) := by decide +kernel
theorem dX6_mesh_68 : decode cX6_mesh 68 = .ok (.invokevirtual 36, 3) := by decide +kernel
theorem dX6_mesh_71 : decode cX6_mesh 71 = .ok (.bipush 16, 2) := by decide +kernel
theorem dX6_mesh_73 : decode cX6_mesh 73 = .ok (.if_icmp .lt 13, 3) := by decide +kernel
theorem dX6_mesh_76 : decode cX6_mesh 76 = .ok (.new 40, 3) := by decide +kernel
theorem dX6_mesh_79 : decode cX6_mesh 79 = .ok (.dup, 1) := by decide +kernel
theorem dX6_mesh_80 : decode cX6_mesh 80 = .ok (.ldc 102, 2) := by decide +kernel
theorem dX6_mesh_82 : decode cX6_mesh 82 = .ok (.invokespecial 44, 3) := by decide +kernel
theorem dX6_mesh_85 : decode cX6_mesh 85 = .ok (.athrow, 1) := by decide +kernel
theorem dX6_mesh_86 : decode cX6_mesh 86 = .ok (.aload_n 0, 1) := by decide +kernel
theorem dX6_mesh_87 : decode cX6_mesh 87 = .ok (.getfield 19, 3) := by decide +kernel
theorem dX6_mesh_90 : decode cX6_mesh 90 = .ok (.new 104, 3) := by decide +kernel
theorem dX6_mesh_93 : decode cX6_mesh 93 = .ok (.dup, 1) := by decide +kernel
theorem dX6_mesh_94 : decode cX6_mesh 94 = .ok (.aload_n 3, 1) := by decide +kernel
theorem dX6_mesh_95 : decode cX6_mesh 95 = .ok (.aload 4, 2) := by decide +kernel
theorem dX6_mesh_97 : decode cX6_mesh 97 = .ok (.invokespecial 106, 3) := by decide +kernel
theorem dX6_mesh_100 : decode cX6_mesh 100 = .ok (.invokevirtual 51, 3) := by decide +kernel
theorem dX6_mesh_103 : decode cX6_mesh 103 = .ok (.pop, 1) := by decide +kernel
theorem dX6_mesh_104 : decode cX6_mesh 104 = .ok (.aload_n 0, 1) := by decide +kernel
theorem dX6_mesh_105 : decode cX6_mesh 105 = .ok (.invokevirtual 109, 3) := by decide +kernel
theorem dX6_mesh_108 : decode cX6_mesh 108 = .ok (.aload_n 0, 1) := by decide +kernel
theorem dX6_mesh_109 : decode cX6_mesh 109 = .ok (.getfield 19, 3) := by decide +kernel
theorem dX6_mesh_112 : decode cX6_mesh 112 = .ok (.invokevirtual 36, 3) := by decide +kernel
theorem dX6_mesh_115 : decode cX6_mesh 115 = .ok (.iconst 1, 1) := by decide +kernel
theorem dX6_mesh_116 : decode cX6_mesh 116 = .ok (.isub, 1) := by decide +kernel
theorem dX6_mesh_117 : decode cX6_mesh 117 = .ok (.ireturn, 1) := by decide +kernel
set_option maxRecDepth 20000 in
theorem ggX6_unmesh_Jx4a65c_isEmpty_aae02 : GoodIn wsX6_unmesh wsJx4a65c_isEmpty_aae02 := goodIn_r _ [8, 9, 137, 138, 139] (by decide +kernel) (by decide +kernel)
set_option maxRecDepth 20000 in
theorem gX6_unmesh_Jx4a65c_isEmpty_aae02 : GoodIn wsX6_unmesh (wsV RX6 112 RJx4a65c yJx4a65c_isEmpty_aae02 wsJx4a65c_isEmpty_aae02) := goodIn_app (goodIn_of _ (by decide +kernel)) ggX6_unmesh_Jx4a65c_isEmpty_aae02
set_option maxRecDepth 20000 in
theorem ggX6_unmesh_Jx4a65c_size_8abf5 : GoodIn wsX6_unmesh wsJx4a65c_size_8abf5 := goodIn_r _ [13, 9, 137, 138, 139] (by decide +kernel) (by decide +kernel)
set_option maxRecDepth 20000 in
theorem gX6_unmesh_Jx4a65c_size_8abf5 : GoodIn wsX6_unmesh (wsV RX6 36 RJx4a65c yJx4a65c_size_8abf5 wsJx4a65c_size_8abf5) := goodIn_app (goodIn_of _ (by decide +kernel)) ggX6_unmesh_Jx4a65c_size_8abf5
set_option maxRecDepth 20000 in
theorem ggX6_unmesh_Jx4a65c_remove_915e3 : GoodIn wsX6_unmesh wsJx4a65c_remove_915e3 := goodIn_r _ [17, 9, 18, 19, 20, 21, 22, 23, 24, 25, 26, 27, 28, 29, 7, 30, 31, 32, 33, 34, 35, 36, 137, 138, 139] (by decide +kernel) (by decide +kernel)
set_option maxRecDepth 20000 in
theorem gX6_unmesh_Jx4a65c_remove_915e3 : GoodIn wsX6_unmesh (wsV RX6 118 RJx4a65c yJx4a65c_remove_915e3 wsJx4a65c_remove_915e3) := goodIn_app (goodIn_of _ (by decide +kernel)) ggX6_unmesh_Jx4a65c_remove_915e3
set_option maxRecDepth 20000 in
theorem ggX6_unmesh_X6_tellSpeeds : GoodIn wsX6_unmesh wsX6_tellSpeeds := goodIn_r _ [41, 42, 43, 44, 45, 3, 46, 47, 48, 49, 50, 51, 10, 11, 12, 7, 13, 9, 52, 53, 54, 55, 19, 20, 21, 22, 23, 24, 25, 26, 56, 57, 58, 59, 18, 60, 61, 62, 63, 64, 65, 66, 67, 68, 69, 70, 71, 72, 73, 74, 75, 76, 77, 78, 79, 80, 81, 82, 83, 84, 40, 85, 86, 87, 88, 89, 90, 91, 92, 93, 94, 95, 96, 97, 98, 99, 100, 101, 102, 103, 104, 105, 106, 107, 108, 109, 110, 111, 112, 113, 114, 115, 116, 117, 118, 119, 120, 121, 122, 123, 124, 125, 126, 127, 128, 129, 130, 131, 132, 133, 134, 135, 136, 140, 141, 142, 143, 144, 145, 146, 147, 137, 138, 139, 148, 149, 150, 151, 152, 153, 154, 155, 156] (by decide +kernel) (by decide +kernel)
set_option maxRecDepth 20000 in
theorem gX6_unmesh_X6_tellSpeeds : GoodIn wsX6_unmesh (wsV RX6 109 RX6 yX6_tellSpeeds wsX6_tellSpeeds) := goodIn_app (goodIn_of _ (by decide +kernel)) ggX6_unmesh_X6_tellSpeeds
theorem dX6_unmesh_0 : decode cX6_unmesh 0 = .ok (.aload_n 0, 1) := by decide +kernel
theorem dX6_unmesh_1 : decode cX6_unmesh 1 = .ok (.getfield 19, 3) := by decide +kernel
theorem dX6_unmesh_4 : decode cX6_unmesh 4 = .ok (.invokevirtual 112, 3) := by decide +kernel
theorem dX6_unmesh_7 : decode cX6_unmesh 7 = .ok (.ifCond .eq 13, 3) := by decide +kernel
theorem dX6_unmesh_10 : decode cX6_unmesh 10 = .ok (.new 40, 3) := by decide +kernel
theorem dX6_unmesh_13 : decode cX6_unmesh 13 = .ok (.dup, 1) := by decide +kernel
theorem dX6_unmesh_14 : decode cX6_unmesh 14 = .ok (.ldc 116, 2) := by decide +kernel
theorem dX6_unmesh_16 : decode cX6_unmesh 16 = .ok (.invokespecial 44, 3) := by decide +kernel
theorem dX6_unmesh_19 : decode cX6_unmesh 19 = .ok (.athrow, 1) := by decide +kernel
theorem dX6_unmesh_20 : decode cX6_unmesh 20 = .ok (.aload_n 0, 1) := by decide +kernel
theorem dX6_unmesh_21 : decode cX6_unmesh 21 = .ok (.getfield 19, 3) := by decide +kernel
theorem dX6_unmesh_24 : decode cX6_unmesh 24 = .ok (.aload_n 0, 1) := by decide +kernel
theorem dX6_unmesh_25 : decode cX6_unmesh 25 = .ok (.getfield 19, 3) := by decide +kernel
theorem dX6_unmesh_28 : decode cX6_unmesh 28 = .ok (.invokevirtual 36, 3) := by decide +kernel
theorem dX6_unmesh_31 : decode cX6_unmesh 31 = .ok (.iconst 1, 1) := by decide +kernel
theorem dX6_unmesh_32 : decode cX6_unmesh 32 = .ok (.isub, 1) := by decide +kernel
theorem dX6_unmesh_33 : decode cX6_unmesh 33 = .ok (.invokevirtual 118, 3) := by decide +kernel
theorem dX6_unmesh_36 : decode cX6_unmesh 36 = .ok (.pop, 1) := by decide +kernel
theorem dX6_unmesh_37 : decode cX6_unmesh 37 = .ok (.aload_n 0, 1) := by decide +kernel
theorem dX6_unmesh_38 : decode cX6_unmesh 38 = .ok (.invokevirtual 109, 3) := by decide +kernel
theorem dX6_unmesh_41 : decode cX6_unmesh 41 = .ok (.aload_n 0, 1) := by decide +kernel
theorem dX6_unmesh_42 : decode cX6_unmesh 42 = .ok (.getfield 19, 3) := by decide +kernel
theorem dX6_unmesh_45 : decode cX6_unmesh 45 = .ok (.invokevirtual 36, 3) := by decide +kernel
theorem dX6_unmesh_48 : decode cX6_unmesh 48 = .ok (.ireturn, 1) := by decide +kernel
set_option maxRecDepth 20000 in
theorem ggX6_addPlanets_X6_requireShaft : GoodIn wsX6_addPlanets wsX6_requireShaft := goodIn_ca (goodIn_r _ [15, 16, 17, 9, 18, 19, 20, 21, 22, 23, 24, 25, 14, 26, 206, 207, 208, 209, 210, 211, 214, 215, 216] (by decide +kernel) (by decide +kernel)) (goodIn_sub (fun _ h => List.mem_cons_of_mem _ (List.mem_append_right _ h)) (by decide +kernel))
set_option maxRecDepth 20000 in
theorem gX6_addPlanets_X6_requireShaft : GoodIn wsX6_addPlanets (wsV RX6 55 RX6 yX6_requireShaft wsX6_requireShaft) := goodIn_app (goodIn_of _ (by decide +kernel)) ggX6_addPlanets_X6_requireShaft
set_option maxRecDepth 20000 in
theorem ggX6_addPlanets_X6_isWithin : GoodIn wsX6_addPlanets wsX6_isWithin := goodIn_r _ [26] (by decide +kernel) (by decide +kernel)
set_option maxRecDepth 20000 in
theorem gX6_addPlanets_X6_isWithin : GoodIn wsX6_addPlanets (va_wsS RX6 73 yX6_isWithin wsX6_isWithin) := goodIn_app (goodIn_of _ (by decide +kernel)) ggX6_addPlanets_X6_isWithin
set_option maxRecDepth 20000 in
theorem ggX6_addPlanets_Jx4a65c_size_8abf5 : GoodIn wsX6_addPlanets wsJx4a65c_size_8abf5 := goodIn_r _ [22, 23, 214, 215, 216] (by decide +kernel) (by decide +kernel)
set_option maxRecDepth 20000 in
theorem gX6_addPlanets_Jx4a65c_size_8abf5 : GoodIn wsX6_addPlanets (wsV RX6 36 RJx4a65c yJx4a65c_size_8abf5 wsJx4a65c_size_8abf5) := goodIn_app (goodIn_of _ (by decide +kernel)) ggX6_addPlanets_Jx4a65c_size_8abf5
set_option maxRecDepth 20000 in
theorem ggX6_addPlanets_Jx4a65c_get_915e3 : GoodIn wsX6_addPlanets wsJx4a65c_get_915e3 := goodIn_r _ [30, 23, 31, 32, 33, 34, 35, 36, 37, 38, 39, 40, 41, 21, 42, 43, 214, 215, 216] (by decide +kernel) (by decide +kernel)
set_option maxRecDepth 20000 in
theorem gX6_addPlanets_Jx4a65c_get_915e3 : GoodIn wsX6_addPlanets (wsV RX6 59 RJx4a65c yJx4a65c_get_915e3 wsJx4a65c_get_915e3) := goodIn_app (goodIn_of _ (by decide +kernel)) ggX6_addPlanets_Jx4a65c_get_915e3
set_option maxRecDepth 20000 in
theorem ggX6_addPlanets_X3_init : GoodIn wsX6_addPlanets wsX3_init := goodIn_r _ [46, 47, 48, 49, 50, 51, 52, 53, 54, 55, 56, 57, 58, 59, 60, 61, 62, 63, 64, 65, 66, 67, 68, 69, 70, 71, 72, 73, 74, 75, 76, 77, 78, 79, 212, 213, 217, 218, 219, 220, 221, 222, 223] (by decide +kernel) (by decide +kernel)
set_option maxRecDepth 20000 in
theorem gX6_addPlanets_X3_init : GoodIn wsX6_addPlanets (wsX3_init) := ggX6_addPlanets_X3_init
set_option maxRecDepth 20000 in
theorem ggX6_addPlanets_Jx4a65c_add_9ea2d : GoodIn wsX6_addPlanets wsJx4a65c_add_9ea2d := goodIn_r _ [83, 84, 85, 43, 23, 86, 87, 88, 21, 89, 90, 91, 92, 93, 94, 95, 96, 97, 98, 99, 100, 101, 102, 103, 104, 105, 106, 107, 108, 109, 110, 111, 112, 113, 114, 115, 116, 117, 118, 119, 120, 121, 122, 123, 124, 125, 126, 127, 128, 129, 130, 131, 132, 214, 215, 216] (by decide +kernel) (by decide +kernel)
set_option maxRecDepth 20000 in
theorem gX6_addPlanets_Jx4a65c_add_9ea2d : GoodIn wsX6_addPlanets (wsV RX6 51 RJx4a65c yJx4a65c_add_9ea2d wsJx4a65c_add_9ea2d) := goodIn_app (goodIn_of _ (by decide +kernel)) ggX6_addPlanets_Jx4a65c_add_9ea2d
set_option maxRecDepth 20000 in
theorem ggX6_addPlanets_X6_tellSpeeds : GoodIn wsX6_addPlanets wsX6_tellSpeeds := goodIn_r _ [136, 9, 10, 137, 138, 139, 140, 141, 142, 5, 143, 144, 18, 19, 20, 21, 22, 23, 27, 28, 29, 30, 31, 32, 33, 34, 35, 36, 37, 38, 39, 40, 41, 42, 43, 145, 146, 147, 148, 149, 150, 151, 152, 153, 154, 155, 71, 156, 157, 158, 101, 159, 78, 79, 160, 161, 162, 163, 164, 165, 14, 166, 167, 168, 169, 53, 170, 73, 72, 171, 172, 173, 174, 175, 68, 176, 177, 178, 179, 180, 181, 182, 183, 184, 185, 186, 187, 188, 189, 190, 191, 192, 193, 194, 195, 196, 197, 198, 199, 100, 102, 200, 201, 202, 203, 204, 205, 206, 207, 208, 209, 210, 211, 224, 225, 226, 217, 218, 219, 212, 213, 214, 215, 216, 227, 228, 229, 230, 231, 222, 223, 220, 221] (by decide +kernel) (by decide +kernel)
set_option maxRecDepth 20000 in
theorem gX6_addPlanets_X6_tellSpeeds : GoodIn wsX6_addPlanets (wsV RX6 109 RX6 yX6_tellSpeeds wsX6_tellSpeeds) := goodIn_app (goodIn_of _ (by decide +kernel)) ggX6_addPlanets_X6_tellSpeeds
theorem dX6_addPlanets_0 : decode cX6_addPlanets 0 = .ok (.aload_n 0, 1) := by decide +kernel
theorem dX6_addPlanets_1 : decode cX6_addPlanets 1 = .ok (.iload_n 1, 1) := by decide +kernel
theorem dX6_addPlanets_2 : decode cX6_addPlanets 2 = .ok (.invokevirtual 55, 3) := by decide +kernel
theorem dX6_addPlanets_5 : decode cX6_addPlanets 5 = .ok (.aload_n 0, 1) := by decide +kernel
theorem dX6_addPlanets_6 : decode cX6_addPlanets 6 = .ok (.iload_n 2, 1) := by decide +kernel
theorem dX6_addPlanets_7 : decode cX6_addPlanets 7 = .ok (.invokevirtual 55, 3) := by decide +kernel
theorem dX6_addPlanets_10 : decode cX6_addPlanets 10 = .ok (.aload_n 0, 1) := by decide +kernel
theorem dX6_addPlanets_11 : decode cX6_addPlanets 11 = .ok (.iload_n 3, 1) := by decide +kernel
theorem dX6_addPlanets_12 : decode cX6_addPlanets 12 = .ok (.invokevirtual 55, 3) := by decide +kernel
theorem dX6_addPlanets_15 : decode cX6_addPlanets 15 = .ok (.iload_n 1, 1) := by decide +kernel
theorem dX6_addPlanets_16 : decode cX6_addPlanets 16 = .ok (.iload_n 2, 1) := by decide +kernel
theorem dX6_addPlanets_17 : decode cX6_addPlanets 17 = .ok (.if_icmp .eq 13, 3) := by decide +kernel
theorem dX6_addPlanets_20 : decode cX6_addPlanets 20 = .ok (.iload_n 1, 1) := by decide +kernel
theorem dX6_addPlanets_21 : decode cX6_addPlanets 21 = .ok (.iload_n 3, 1) := by decide +kernel
theorem dX6_addPlanets_22 : decode cX6_addPlanets 22 = .ok (.if_icmp .eq 8, 3) := by decide +kernel
theorem dX6_addPlanets_25 : decode cX6_addPlanets 25 = .ok (.iload_n 2, 1) := by decide +kernel
theorem dX6_addPlanets_26 : decode cX6_addPlanets 26 = .ok (.iload_n 3, 1) := by decide +kernel
theorem dX6_addPlanets_27 : decode cX6_addPlanets 27 = .ok (.if_icmp .ne 13, 3) := by decide +kernel
theorem dX6_addPlanets_30 : decode cX6_addPlanets 30 = .ok (.new 77, 3) := by decide +kernel
theorem dX6_addPlanets_33 : decode cX6_addPlanets 33 = .ok (.dup, 1) := by decide +kernel
theorem dX6_addPlanets_34 : decode cX6_addPlanets 34 = .ok (.ldc 121, 2) := by decide +kernel
theorem dX6_addPlanets_36 : decode cX6_addPlanets 36 = .ok (.invokespecial 81, 3) := by decide +kernel
theorem dX6_addPlanets_39 : decode cX6_addPlanets 39 = .ok (.athrow, 1) := by decide +kernel
theorem dX6_addPlanets_40 : decode cX6_addPlanets 40 = .ok (.iload 4, 2) := by decide +kernel
theorem dX6_addPlanets_42 : decode cX6_addPlanets 42 = .ok (.bipush 8, 2) := by decide +kernel
theorem dX6_addPlanets_44 : decode cX6_addPlanets 44 = .ok (.bipush 100, 2) := by decide +kernel
theorem dX6_addPlanets_46 : decode cX6_addPlanets 46 = .ok (.invokestatic 73, 3) := by decide +kernel
theorem dX6_addPlanets_49 : decode cX6_addPlanets 49 = .ok (.ifCond .eq 15, 3) := by decide +kernel
theorem dX6_addPlanets_52 : decode cX6_addPlanets 52 = .ok (.iload 5, 2) := by decide +kernel
theorem dX6_addPlanets_54 : decode cX6_addPlanets 54 = .ok (.bipush 8, 2) := by decide +kernel
theorem dX6_addPlanets_56 : decode cX6_addPlanets 56 = .ok (.bipush 100, 2) := by decide +kernel
theorem dX6_addPlanets_58 : decode cX6_addPlanets 58 = .ok (.invokestatic 73, 3) := by decide +kernel
theorem dX6_addPlanets_61 : decode cX6_addPlanets 61 = .ok (.ifCond .ne 13, 3) := by decide +kernel
theorem dX6_addPlanets_64 : decode cX6_addPlanets 64 = .ok (.new 77, 3) := by decide +kernel
theorem dX6_addPlanets_67 : decode cX6_addPlanets 67 = .ok (.dup, 1) := by decide +kernel
theorem dX6_addPlanets_68 : decode cX6_addPlanets 68 = .ok (.ldc 123, 2) := by decide +kernel
theorem dX6_addPlanets_70 : decode cX6_addPlanets 70 = .ok (.invokespecial 81, 3) := by decide +kernel
theorem dX6_addPlanets_73 : decode cX6_addPlanets 73 = .ok (.athrow, 1) := by decide +kernel
theorem dX6_addPlanets_74 : decode cX6_addPlanets 74 = .ok (.aload_n 0, 1) := by decide +kernel
theorem dX6_addPlanets_75 : decode cX6_addPlanets 75 = .ok (.getfield 22, 3) := by decide +kernel
theorem dX6_addPlanets_78 : decode cX6_addPlanets 78 = .ok (.invokevirtual 36, 3) := by decide +kernel
theorem dX6_addPlanets_81 : decode cX6_addPlanets 81 = .ok (.iconst 4, 1) := by decide +kernel
theorem dX6_addPlanets_82 : decode cX6_addPlanets 82 = .ok (.if_icmp .lt 13, 3) := by decide +kernel
theorem dX6_addPlanets_85 : decode cX6_addPlanets 85 = .ok (.new 40, 3) := by decide +kernel
theorem dX6_addPlanets_88 : decode cX6_addPlanets 88 = .ok (.dup, 1) := by decide +kernel
theorem dX6_addPlanets_89 : decode cX6_addPlanets 89 = .ok (.ldc 125, 2) := by decide +kernel
theorem dX6_addPlanets_91 : decode cX6_addPlanets 91 = .ok (.invokespecial 44, 3) := by decide +kernel
theorem dX6_addPlanets_94 : decode cX6_addPlanets 94 = .ok (.athrow, 1) := by decide +kernel
theorem dX6_addPlanets_95 : decode cX6_addPlanets 95 = .ok (.aload_n 0, 1) := by decide +kernel
theorem dX6_addPlanets_96 : decode cX6_addPlanets 96 = .ok (.getfield 22, 3) := by decide +kernel
theorem dX6_addPlanets_99 : decode cX6_addPlanets 99 = .ok (.new 127, 3) := by decide +kernel
theorem dX6_addPlanets_102 : decode cX6_addPlanets 102 = .ok (.dup, 1) := by decide +kernel
theorem dX6_addPlanets_103 : decode cX6_addPlanets 103 = .ok (.aload_n 0, 1) := by decide +kernel
theorem dX6_addPlanets_104 : decode cX6_addPlanets 104 = .ok (.getfield 12, 3) := by decide +kernel
theorem dX6_addPlanets_107 : decode cX6_addPlanets 107 = .ok (.iload_n 1, 1) := by decide +kernel
theorem dX6_addPlanets_108 : decode cX6_addPlanets 108 = .ok (.invokevirtual 59, 3) := by decide +kernel
theorem dX6_addPlanets_111 : decode cX6_addPlanets 111 = .ok (.checkcast 47, 3) := by decide +kernel
theorem dX6_addPlanets_114 : decode cX6_addPlanets 114 = .ok (.aload_n 0, 1) := by decide +kernel
theorem dX6_addPlanets_115 : decode cX6_addPlanets 115 = .ok (.getfield 12, 3) := by decide +kernel
theorem dX6_addPlanets_118 : decode cX6_addPlanets 118 = .ok (.iload_n 2, 1) := by decide +kernel
theorem dX6_addPlanets_119 : decode cX6_addPlanets 119 = .ok (.invokevirtual 59, 3) := by decide +kernel
theorem dX6_addPlanets_122 : decode cX6_addPlanets 122 = .ok (.checkcast 47, 3) := by decide +kernel
theorem dX6_addPlanets_125 : decode cX6_addPlanets 125 = .ok (.aload_n 0, 1) := by decide +kernel
theorem dX6_addPlanets_126 : decode cX6_addPlanets 126 = .ok (.getfield 12, 3) := by decide +kernel
theorem dX6_addPlanets_129 : decode cX6_addPlanets 129 = .ok (.iload_n 3, 1) := by decide +kernel
theorem dX6_addPlanets_130 : decode cX6_addPlanets 130 = .ok (.invokevirtual 59, 3) := by decide +kernel
theorem dX6_addPlanets_133 : decode cX6_addPlanets 133 = .ok (.checkcast 47, 3) := by decide +kernel
theorem dX6_addPlanets_136 : decode cX6_addPlanets 136 = .ok (.iload 4, 2) := by decide +kernel
theorem dX6_addPlanets_138 : decode cX6_addPlanets 138 = .ok (.iload 5, 2) := by decide +kernel
theorem dX6_addPlanets_140 : decode cX6_addPlanets 140 = .ok (.invokespecial 129, 3) := by decide +kernel
theorem dX6_addPlanets_143 : decode cX6_addPlanets 143 = .ok (.invokevirtual 51, 3) := by decide +kernel
theorem dX6_addPlanets_146 : decode cX6_addPlanets 146 = .ok (.pop, 1) := by decide +kernel
theorem dX6_addPlanets_147 : decode cX6_addPlanets 147 = .ok (.aload_n 0, 1) := by decide +kernel
theorem dX6_addPlanets_148 : decode cX6_addPlanets 148 = .ok (.invokevirtual 109, 3) := by decide +kernel
theorem dX6_addPlanets_151 : decode cX6_addPlanets 151 = .ok (.aload_n 0, 1) := by decide +kernel
theorem dX6_addPlanets_152 : decode cX6_addPlanets 152 = .ok (.getfield 22, 3) := by decide +kernel
theorem dX6_addPlanets_155 : decode cX6_addPlanets 155 = .ok (.invokevirtual 36, 3) := by decide +kernel
theorem dX6_addPlanets_158 : decode cX6_addPlanets 158 = .ok (.iconst 1, 1) := by decide +kernel
theorem dX6_addPlanets_159 : decode cX6_addPlanets 159 = .ok (.isub, 1) := by decide +kernel
theorem dX6_addPlanets_160 : decode cX6_addPlanets 160 = .ok (.ireturn, 1) := by decide +kernel
set_option maxRecDepth 20000 in
theorem ggX6_planets_Jx4a65c_size_8abf5 : GoodIn wsX6_planets wsJx4a65c_size_8abf5 := goodIn_r _ [11, 12, 46, 47, 48] (by decide +kernel) (by decide +kernel)
set_option maxRecDepth 20000 in
theorem gX6_planets_Jx4a65c_size_8abf5 : GoodIn wsX6_planets (wsV RX6 36 RJx4a65c yJx4a65c_size_8abf5 wsJx4a65c_size_8abf5) := goodIn_app (goodIn_of _ (by decide +kernel)) ggX6_planets_Jx4a65c_size_8abf5
set_option maxRecDepth 20000 in
theorem ggX6_planets_X6_isWithin : GoodIn wsX6_planets wsX6_isWithin := goodIn_r _ [16] (by decide +kernel) (by decide +kernel)
set_option maxRecDepth 20000 in
theorem gX6_planets_X6_isWithin : GoodIn wsX6_planets (va_wsS RX6 73 yX6_isWithin wsX6_isWithin) := goodIn_app (goodIn_of _ (by decide +kernel)) ggX6_planets_X6_isWithin
set_option maxRecDepth 20000 in
theorem ggX6_planets_Jx4a65c_get_915e3 : GoodIn wsX6_planets wsJx4a65c_get_915e3 := goodIn_r _ [20, 12, 21, 22, 23, 24, 25, 26, 27, 28, 29, 30, 31, 10, 32, 33, 46, 47, 48] (by decide +kernel) (by decide +kernel)
set_option maxRecDepth 20000 in
theorem gX6_planets_Jx4a65c_get_915e3 : GoodIn wsX6_planets (wsV RX6 59 RJx4a65c yJx4a65c_get_915e3 wsJx4a65c_get_915e3) := goodIn_app (goodIn_of _ (by decide +kernel)) ggX6_planets_Jx4a65c_get_915e3
set_option maxRecDepth 20000 in
theorem ggX6_planets_X3_mostPlanets : GoodIn wsX6_planets wsX3_mostPlanets := goodIn_r _ [38, 39, 49, 50] (by decide +kernel) (by decide +kernel)
set_option maxRecDepth 20000 in
theorem gX6_planets_X3_mostPlanets : GoodIn wsX6_planets (wsV RX6 139 RX3 yX3_mostPlanets wsX3_mostPlanets) := goodIn_app (goodIn_of _ (by decide +kernel)) ggX6_planets_X3_mostPlanets
theorem dX6_planets_0 : decode cX6_planets 0 = .ok (.iload_n 1, 1) := by decide +kernel
theorem dX6_planets_1 : decode cX6_planets 1 = .ok (.iconst 0, 1) := by decide +kernel
theorem dX6_planets_2 : decode cX6_planets 2 = .ok (.aload_n 0, 1) := by decide +kernel
theorem dX6_planets_3 : decode cX6_planets 3 = .ok (.getfield 22, 3) := by decide +kernel
theorem dX6_planets_6 : decode cX6_planets 6 = .ok (.invokevirtual 36, 3) := by decide +kernel
theorem dX6_planets_9 : decode cX6_planets 9 = .ok (.iconst 1, 1) := by decide +kernel
theorem dX6_planets_10 : decode cX6_planets 10 = .ok (.isub, 1) := by decide +kernel
theorem dX6_planets_11 : decode cX6_planets 11 = .ok (.invokestatic 73, 3) := by decide +kernel
theorem dX6_planets_14 : decode cX6_planets 14 = .ok (.ifCond .ne 13, 3) := by decide +kernel
theorem dX6_planets_17 : decode cX6_planets 17 = .ok (.new 132, 3) := by decide +kernel
theorem dX6_planets_20 : decode cX6_planets 20 = .ok (.dup, 1) := by decide +kernel
theorem dX6_planets_21 : decode cX6_planets 21 = .ok (.ldc 134, 2) := by decide +kernel
theorem dX6_planets_23 : decode cX6_planets 23 = .ok (.invokespecial 136, 3) := by decide +kernel
theorem dX6_planets_26 : decode cX6_planets 26 = .ok (.athrow, 1) := by decide +kernel
theorem dX6_planets_27 : decode cX6_planets 27 = .ok (.iload_n 2, 1) := by decide +kernel
theorem dX6_planets_28 : decode cX6_planets 28 = .ok (.iconst 1, 1) := by decide +kernel
theorem dX6_planets_29 : decode cX6_planets 29 = .ok (.bipush 12, 2) := by decide +kernel
theorem dX6_planets_31 : decode cX6_planets 31 = .ok (.invokestatic 73, 3) := by decide +kernel
theorem dX6_planets_34 : decode cX6_planets 34 = .ok (.ifCond .ne 13, 3) := by decide +kernel
theorem dX6_planets_37 : decode cX6_planets 37 = .ok (.new 77, 3) := by decide +kernel
theorem dX6_planets_40 : decode cX6_planets 40 = .ok (.dup, 1) := by decide +kernel
theorem dX6_planets_41 : decode cX6_planets 41 = .ok (.ldc 137, 2) := by decide +kernel
theorem dX6_planets_43 : decode cX6_planets 43 = .ok (.invokespecial 81, 3) := by decide +kernel
theorem dX6_planets_46 : decode cX6_planets 46 = .ok (.athrow, 1) := by decide +kernel
theorem dX6_planets_47 : decode cX6_planets 47 = .ok (.aload_n 0, 1) := by decide +kernel
theorem dX6_planets_48 : decode cX6_planets 48 = .ok (.getfield 22, 3) := by decide +kernel
theorem dX6_planets_51 : decode cX6_planets 51 = .ok (.iload_n 1, 1) := by decide +kernel
theorem dX6_planets_52 : decode cX6_planets 52 = .ok (.invokevirtual 59, 3) := by decide +kernel
theorem dX6_planets_55 : decode cX6_planets 55 = .ok (.checkcast 127, 3) := by decide +kernel
theorem dX6_planets_58 : decode cX6_planets 58 = .ok (.iload_n 2, 1) := by decide +kernel
theorem dX6_planets_59 : decode cX6_planets 59 = .ok (.invokevirtual 139, 3) := by decide +kernel
theorem dX6_planets_62 : decode cX6_planets 62 = .ok (.ireturn, 1) := by decide +kernel
set_option maxRecDepth 20000 in
theorem ggX6_count_Jx4a65c_size_8abf5 : GoodIn wsX6_count wsJx4a65c_size_8abf5 := goodIn_r _ [11, 12, 19, 20, 21] (by decide +kernel) (by decide +kernel)
set_option maxRecDepth 20000 in
theorem gX6_count_Jx4a65c_size_8abf5 : GoodIn wsX6_count (wsV RX6 36 RJx4a65c yJx4a65c_size_8abf5 wsJx4a65c_size_8abf5) := goodIn_app (goodIn_of _ (by decide +kernel)) ggX6_count_Jx4a65c_size_8abf5
theorem dX6_count_0 : decode cX6_count 0 = .ok (.iload_n 1, 1) := by decide +kernel
theorem dX6_count_1 : decode cX6_count 1 = .ok (.tableswitch 63 0 3 #[31, 39, 47, 55], 31) := by decide +kernel
theorem dX6_count_32 : decode cX6_count 32 = .ok (.aload_n 0, 1) := by decide +kernel
theorem dX6_count_33 : decode cX6_count 33 = .ok (.getfield 12, 3) := by decide +kernel
theorem dX6_count_36 : decode cX6_count 36 = .ok (.invokevirtual 36, 3) := by decide +kernel
theorem dX6_count_39 : decode cX6_count 39 = .ok (.ireturn, 1) := by decide +kernel
theorem dX6_count_40 : decode cX6_count 40 = .ok (.aload_n 0, 1) := by decide +kernel
theorem dX6_count_41 : decode cX6_count 41 = .ok (.getfield 16, 3) := by decide +kernel
theorem dX6_count_44 : decode cX6_count 44 = .ok (.invokevirtual 36, 3) := by decide +kernel
theorem dX6_count_47 : decode cX6_count 47 = .ok (.ireturn, 1) := by decide +kernel
theorem dX6_count_48 : decode cX6_count 48 = .ok (.aload_n 0, 1) := by decide +kernel
theorem dX6_count_49 : decode cX6_count 49 = .ok (.getfield 19, 3) := by decide +kernel
theorem dX6_count_52 : decode cX6_count 52 = .ok (.invokevirtual 36, 3) := by decide +kernel
theorem dX6_count_55 : decode cX6_count 55 = .ok (.ireturn, 1) := by decide +kernel
theorem dX6_count_56 : decode cX6_count 56 = .ok (.aload_n 0, 1) := by decide +kernel
theorem dX6_count_57 : decode cX6_count 57 = .ok (.getfield 22, 3) := by decide +kernel
theorem dX6_count_60 : decode cX6_count 60 = .ok (.invokevirtual 36, 3) := by decide +kernel
theorem dX6_count_63 : decode cX6_count 63 = .ok (.ireturn, 1) := by decide +kernel
theorem dX6_count_64 : decode cX6_count 64 = .ok (.new 132, 3) := by decide +kernel
theorem dX6_count_67 : decode cX6_count 67 = .ok (.dup, 1) := by decide +kernel
theorem dX6_count_68 : decode cX6_count 68 = .ok (.ldc 143, 2) := by decide +kernel
theorem dX6_count_70 : decode cX6_count 70 = .ok (.invokespecial 136, 3) := by decide +kernel
theorem dX6_count_73 : decode cX6_count 73 = .ok (.athrow, 1) := by decide +kernel
set_option maxRecDepth 20000 in
theorem ggX6_drive_X6_requireShaft : GoodIn wsX6_drive wsX6_requireShaft := goodIn_ca (goodIn_r _ [12, 13, 14, 5, 15, 16, 17, 18, 19, 20, 21, 22, 11, 23, 123, 124, 125, 126, 127, 128, 134, 135, 136] (by decide +kernel) (by decide +kernel)) (goodIn_sub (fun _ h => List.mem_cons_of_mem _ (List.mem_append_right _ h)) (by decide +kernel))
set_option maxRecDepth 20000 in
theorem gX6_drive_X6_requireShaft : GoodIn wsX6_drive (wsV RX6 55 RX6 yX6_requireShaft wsX6_requireShaft) := goodIn_app (goodIn_of _ (by decide +kernel)) ggX6_drive_X6_requireShaft
set_option maxRecDepth 20000 in
theorem ggX6_drive_X6_isWithin : GoodIn wsX6_drive wsX6_isWithin := goodIn_r _ [23] (by decide +kernel) (by decide +kernel)
set_option maxRecDepth 20000 in
theorem gX6_drive_X6_isWithin : GoodIn wsX6_drive (va_wsS RX6 73 yX6_isWithin wsX6_isWithin) := goodIn_app (goodIn_of _ (by decide +kernel)) ggX6_drive_X6_isWithin
set_option maxRecDepth 20000 in
theorem ggX6_drive_Jx4a65c_get_915e3 : GoodIn wsX6_drive wsJx4a65c_get_915e3 := goodIn_r _ [27, 20, 28, 29, 30, 31, 32, 33, 34, 35, 36, 37, 38, 18, 39, 40, 134, 135, 136] (by decide +kernel) (by decide +kernel)
set_option maxRecDepth 20000 in
theorem gX6_drive_Jx4a65c_get_915e3 : GoodIn wsX6_drive (wsV RX6 59 RJx4a65c yJx4a65c_get_915e3 wsJx4a65c_get_915e3) := goodIn_app (goodIn_of _ (by decide +kernel)) ggX6_drive_Jx4a65c_get_915e3
set_option maxRecDepth 20000 in
theorem ggX6_drive_X6_tellSpeeds : GoodIn wsX6_drive wsX6_tellSpeeds := goodIn_r _ [44, 5, 6, 3, 4, 45, 46, 47, 48, 49, 50, 51, 15, 16, 17, 18, 19, 20, 24, 25, 26, 27, 28, 29, 30, 31, 32, 33, 34, 35, 36, 37, 38, 39, 40, 52, 53, 54, 55, 56, 57, 58, 59, 60, 61, 62, 63, 64, 65, 66, 67, 68, 69, 70, 71, 72, 73, 74, 75, 76, 11, 77, 78, 79, 80, 81, 82, 83, 84, 85, 86, 87, 88, 89, 90, 91, 92, 93, 94, 95, 96, 97, 98, 99, 100, 101, 102, 103, 104, 105, 106, 107, 108, 109, 110, 111, 112, 113, 114, 115, 116, 117, 118, 119, 120, 121, 122, 123, 124, 125, 126, 127, 128, 137, 138, 139, 140, 141, 142, 143, 144, 134, 135, 136, 129, 130, 131, 132, 133, 145, 146, 147, 148] (by decide +kernel) (by decide +kernel)
set_option maxRecDepth 20000 in
theorem gX6_drive_X6_tellSpeeds : GoodIn wsX6_drive (wsV RX6 109 RX6 yX6_tellSpeeds wsX6_tellSpeeds) := goodIn_app (goodIn_of _ (by decide +kernel)) ggX6_drive_X6_tellSpeeds
theorem dX6_drive_0 : decode cX6_drive 0 = .ok (.aload_n 0, 1) := by decide +kernel
theorem dX6_drive_1 : decode cX6_drive 1 = .ok (.iload_n 1, 1) := by decide +kernel
theorem dX6_drive_2 : decode cX6_drive 2 = .ok (.invokevirtual 55, 3) := by decide +kernel
theorem dX6_drive_5 : decode cX6_drive 5 = .ok (.iload_n 2, 1) := by decide +kernel
theorem dX6_drive_6 : decode cX6_drive 6 = .ok (.sipush (-1000), 3) := by decide +kernel
theorem dX6_drive_9 : decode cX6_drive 9 = .ok (.sipush 1000, 3) := by decide +kernel
theorem dX6_drive_12 : decode cX6_drive 12 = .ok (.invokestatic 73, 3) := by decide +kernel
theorem dX6_drive_15 : decode cX6_drive 15 = .ok (.ifCond .ne 13, 3) := by decide +kernel
theorem dX6_drive_18 : decode cX6_drive 18 = .ok (.new 77, 3) := by decide +kernel
theorem dX6_drive_21 : decode cX6_drive 21 = .ok (.dup, 1) := by decide +kernel
theorem dX6_drive_22 : decode cX6_drive 22 = .ok (.ldc 145, 2) := by decide +kernel
theorem dX6_drive_24 : decode cX6_drive 24 = .ok (.invokespecial 81, 3) := by decide +kernel
theorem dX6_drive_27 : decode cX6_drive 27 = .ok (.athrow, 1) := by decide +kernel
theorem dX6_drive_28 : decode cX6_drive 28 = .ok (.aload_n 0, 1) := by decide +kernel
theorem dX6_drive_29 : decode cX6_drive 29 = .ok (.getfield 25, 3) := by decide +kernel
theorem dX6_drive_32 : decode cX6_drive 32 = .ok (.istore_n 3, 1) := by decide +kernel
theorem dX6_drive_33 : decode cX6_drive 33 = .ok (.aload_n 0, 1) := by decide +kernel
theorem dX6_drive_34 : decode cX6_drive 34 = .ok (.iload_n 1, 1) := by decide +kernel
theorem dX6_drive_35 : decode cX6_drive 35 = .ok (.putfield 25, 3) := by decide +kernel
theorem dX6_drive_38 : decode cX6_drive 38 = .ok (.aload_n 0, 1) := by decide +kernel
theorem dX6_drive_39 : decode cX6_drive 39 = .ok (.iload_n 2, 1) := by decide +kernel
theorem dX6_drive_40 : decode cX6_drive 40 = .ok (.putfield 29, 3) := by decide +kernel
theorem dX6_drive_43 : decode cX6_drive 43 = .ok (.aload_n 0, 1) := by decide +kernel
theorem dX6_drive_44 : decode cX6_drive 44 = .ok (.getfield 12, 3) := by decide +kernel
theorem dX6_drive_47 : decode cX6_drive 47 = .ok (.iload_n 1, 1) := by decide +kernel
theorem dX6_drive_48 : decode cX6_drive 48 = .ok (.invokevirtual 59, 3) := by decide +kernel
theorem dX6_drive_51 : decode cX6_drive 51 = .ok (.checkcast 47, 3) := by decide +kernel
theorem dX6_drive_54 : decode cX6_drive 54 = .ok (.iconst 0, 1) := by decide +kernel
theorem dX6_drive_55 : decode cX6_drive 55 = .ok (.putfield 147, 3) := by decide +kernel
theorem dX6_drive_58 : decode cX6_drive 58 = .ok (.aload_n 0, 1) := by decide +kernel
theorem dX6_drive_59 : decode cX6_drive 59 = .ok (.invokevirtual 109, 3) := by decide +kernel
theorem dX6_drive_62 : decode cX6_drive 62 = .ok (.iload_n 3, 1) := by decide +kernel
theorem dX6_drive_63 : decode cX6_drive 63 = .ok (.ireturn, 1) := by decide +kernel
set_option maxRecDepth 20000 in
theorem ggX6_hold_X6_requireShaft : GoodIn wsX6_hold wsX6_requireShaft := goodIn_ca (goodIn_r _ [11, 12, 13, 4, 14, 15, 16, 17, 18, 19, 20, 21, 10, 22, 123, 124, 125, 126, 127, 128, 134, 135, 136] (by decide +kernel) (by decide +kernel)) (goodIn_sub (fun _ h => List.mem_cons_of_mem _ (List.mem_append_right _ h)) (by decide +kernel))
set_option maxRecDepth 20000 in
theorem gX6_hold_X6_requireShaft : GoodIn wsX6_hold (wsV RX6 55 RX6 yX6_requireShaft wsX6_requireShaft) := goodIn_app (goodIn_of _ (by decide +kernel)) ggX6_hold_X6_requireShaft
set_option maxRecDepth 20000 in
theorem ggX6_hold_Jx4a65c_get_915e3 : GoodIn wsX6_hold wsJx4a65c_get_915e3 := goodIn_r _ [26, 19, 27, 28, 29, 30, 31, 32, 33, 34, 35, 36, 37, 17, 38, 39, 134, 135, 136] (by decide +kernel) (by decide +kernel)
set_option maxRecDepth 20000 in
theorem gX6_hold_Jx4a65c_get_915e3 : GoodIn wsX6_hold (wsV RX6 59 RJx4a65c yJx4a65c_get_915e3 wsJx4a65c_get_915e3) := goodIn_app (goodIn_of _ (by decide +kernel)) ggX6_hold_Jx4a65c_get_915e3
set_option maxRecDepth 20000 in
theorem ggX6_hold_X6_tellSpeeds : GoodIn wsX6_hold wsX6_tellSpeeds := goodIn_r _ [43, 4, 5, 3, 44, 45, 46, 47, 48, 49, 50, 51, 14, 15, 16, 17, 18, 19, 23, 24, 25, 26, 27, 28, 29, 30, 31, 32, 33, 34, 35, 36, 37, 38, 39, 52, 53, 54, 55, 56, 57, 58, 59, 60, 61, 62, 63, 64, 65, 66, 67, 68, 69, 70, 71, 72, 73, 74, 75, 76, 10, 77, 78, 79, 80, 81, 82, 83, 84, 85, 86, 87, 88, 89, 90, 91, 92, 93, 94, 95, 96, 97, 98, 99, 100, 101, 102, 103, 104, 105, 106, 107, 108, 109, 110, 111, 112, 113, 114, 115, 116, 117, 118, 119, 120, 121, 122, 123, 124, 125, 126, 127, 128, 137, 138, 139, 140, 141, 142, 143, 144, 134, 135, 136, 129, 130, 131, 132, 133, 145, 146, 147, 148] (by decide +kernel) (by decide +kernel)
set_option maxRecDepth 20000 in
theorem gX6_hold_X6_tellSpeeds : GoodIn wsX6_hold (wsV RX6 109 RX6 yX6_tellSpeeds wsX6_tellSpeeds) := goodIn_app (goodIn_of _ (by decide +kernel)) ggX6_hold_X6_tellSpeeds
theorem dX6_hold_0 : decode cX6_hold 0 = .ok (.aload_n 0, 1) := by decide +kernel
theorem dX6_hold_1 : decode cX6_hold 1 = .ok (.iload_n 1, 1) := by decide +kernel
theorem dX6_hold_2 : decode cX6_hold 2 = .ok (.invokevirtual 55, 3) := by decide +kernel
theorem dX6_hold_5 : decode cX6_hold 5 = .ok (.iload_n 1, 1) := by decide +kernel
theorem dX6_hold_6 : decode cX6_hold 6 = .ok (.aload_n 0, 1) := by decide +kernel
theorem dX6_hold_7 : decode cX6_hold 7 = .ok (.getfield 25, 3) := by decide +kernel
theorem dX6_hold_10 : decode cX6_hold 10 = .ok (.if_icmp .ne 13, 3) := by decide +kernel
theorem dX6_hold_13 : decode cX6_hold 13 = .ok (.new 40, 3) := by decide +kernel
theorem dX6_hold_16 : decode cX6_hold 16 = .ok (.dup, 1) := by decide +kernel
theorem dX6_hold_17 : decode cX6_hold 17 = .ok (.ldc 151, 2) := by decide +kernel
theorem dX6_hold_19 : decode cX6_hold 19 = .ok (.invokespecial 44, 3) := by decide +kernel
theorem dX6_hold_22 : decode cX6_hold 22 = .ok (.athrow, 1) := by decide +kernel
theorem dX6_hold_23 : decode cX6_hold 23 = .ok (.aload_n 0, 1) := by decide +kernel
theorem dX6_hold_24 : decode cX6_hold 24 = .ok (.getfield 12, 3) := by decide +kernel
theorem dX6_hold_27 : decode cX6_hold 27 = .ok (.iload_n 1, 1) := by decide +kernel
theorem dX6_hold_28 : decode cX6_hold 28 = .ok (.invokevirtual 59, 3) := by decide +kernel
theorem dX6_hold_31 : decode cX6_hold 31 = .ok (.checkcast 47, 3) := by decide +kernel
theorem dX6_hold_34 : decode cX6_hold 34 = .ok (.astore_n 3, 1) := by decide +kernel
theorem dX6_hold_35 : decode cX6_hold 35 = .ok (.aload_n 3, 1) := by decide +kernel
theorem dX6_hold_36 : decode cX6_hold 36 = .ok (.getfield 147, 3) := by decide +kernel
theorem dX6_hold_39 : decode cX6_hold 39 = .ok (.istore 4, 2) := by decide +kernel
theorem dX6_hold_41 : decode cX6_hold 41 = .ok (.aload_n 3, 1) := by decide +kernel
theorem dX6_hold_42 : decode cX6_hold 42 = .ok (.iload_n 2, 1) := by decide +kernel
theorem dX6_hold_43 : decode cX6_hold 43 = .ok (.putfield 147, 3) := by decide +kernel
theorem dX6_hold_46 : decode cX6_hold 46 = .ok (.aload_n 0, 1) := by decide +kernel
theorem dX6_hold_47 : decode cX6_hold 47 = .ok (.invokevirtual 109, 3) := by decide +kernel
theorem dX6_hold_50 : decode cX6_hold 50 = .ok (.iload 4, 2) := by decide +kernel
theorem dX6_hold_52 : decode cX6_hold 52 = .ok (.ireturn, 1) := by decide +kernel
set_option maxRecDepth 20000 in
theorem ggX6_isTold_X6_requireShaft : GoodIn wsX6_isTold wsX6_requireShaft := goodIn_ca (goodIn_r _ [7, 8, 9, 1, 10, 11, 12, 13, 14, 15, 16, 17, 6, 18, 42, 43, 44, 45, 46, 47, 48, 49, 50] (by decide +kernel) (by decide +kernel)) (goodIn_sub (fun _ h => List.mem_cons_of_mem _ (List.mem_append_right _ h)) (by decide +kernel))
set_option maxRecDepth 20000 in
theorem gX6_isTold_X6_requireShaft : GoodIn wsX6_isTold (wsV RX6 55 RX6 yX6_requireShaft wsX6_requireShaft) := goodIn_app (goodIn_of _ (by decide +kernel)) ggX6_isTold_X6_requireShaft
set_option maxRecDepth 20000 in
theorem ggX6_isTold_Jx4a65c_get_915e3 : GoodIn wsX6_isTold wsJx4a65c_get_915e3 := goodIn_r _ [22, 15, 23, 24, 25, 26, 27, 28, 29, 30, 31, 32, 33, 13, 34, 35, 48, 49, 50] (by decide +kernel) (by decide +kernel)
set_option maxRecDepth 20000 in
theorem gX6_isTold_Jx4a65c_get_915e3 : GoodIn wsX6_isTold (wsV RX6 59 RJx4a65c yJx4a65c_get_915e3 wsJx4a65c_get_915e3) := goodIn_app (goodIn_of _ (by decide +kernel)) ggX6_isTold_Jx4a65c_get_915e3
set_option maxRecDepth 20000 in
theorem ggX6_isTold_X4_hasSpeed : GoodIn wsX6_isTold wsX4_hasSpeed := goodIn_r _ [40, 41, 51, 52, 53, 54, 55] (by decide +kernel) (by decide +kernel)
set_option maxRecDepth 20000 in
theorem gX6_isTold_X4_hasSpeed : GoodIn wsX6_isTold (wsV RX6 153 RX4 yX4_hasSpeed wsX4_hasSpeed) := goodIn_app (goodIn_of _ (by decide +kernel)) ggX6_isTold_X4_hasSpeed
theorem dX6_isTold_0 : decode cX6_isTold 0 = .ok (.aload_n 0, 1) := by decide +kernel
theorem dX6_isTold_1 : decode cX6_isTold 1 = .ok (.iload_n 1, 1) := by decide +kernel
theorem dX6_isTold_2 : decode cX6_isTold 2 = .ok (.invokevirtual 55, 3) := by decide +kernel
theorem dX6_isTold_5 : decode cX6_isTold 5 = .ok (.aload_n 0, 1) := by decide +kernel
theorem dX6_isTold_6 : decode cX6_isTold 6 = .ok (.getfield 12, 3) := by decide +kernel
theorem dX6_isTold_9 : decode cX6_isTold 9 = .ok (.iload_n 1, 1) := by decide +kernel
theorem dX6_isTold_10 : decode cX6_isTold 10 = .ok (.invokevirtual 59, 3) := by decide +kernel
theorem dX6_isTold_13 : decode cX6_isTold 13 = .ok (.checkcast 47, 3) := by decide +kernel
theorem dX6_isTold_16 : decode cX6_isTold 16 = .ok (.invokevirtual 153, 3) := by decide +kernel
theorem dX6_isTold_19 : decode cX6_isTold 19 = .ok (.ireturn, 1) := by decide +kernel
set_option maxRecDepth 20000 in
theorem ggX6_speed_X6_requireShaft : GoodIn wsX6_speed wsX6_requireShaft := goodIn_ca (goodIn_r _ [10, 11, 12, 1, 13, 14, 15, 16, 17, 18, 19, 20, 9, 21, 51, 52, 53, 54, 55, 56, 64, 65, 66] (by decide +kernel) (by decide +kernel)) (goodIn_sub (fun _ h => List.mem_cons_of_mem _ (List.mem_append_left _ (List.mem_append_right _ h))) (by decide +kernel))
set_option maxRecDepth 20000 in
theorem gX6_speed_X6_requireShaft : GoodIn wsX6_speed (wsV RX6 55 RX6 yX6_requireShaft wsX6_requireShaft) := goodIn_app (goodIn_of _ (by decide +kernel)) ggX6_speed_X6_requireShaft
set_option maxRecDepth 20000 in
theorem ggX6_speed_X6_requireSpeed : GoodIn wsX6_speed wsX6_requireSpeed := goodIn_ca (goodIn_r _ [25, 26, 27, 1, 2, 28, 29, 30, 16, 31, 18, 32, 33, 34, 35, 36, 37, 38, 39, 40, 41, 42, 43, 44, 45, 46, 47, 48, 49, 50, 51, 52, 53, 54, 55, 56, 64, 65, 66, 57, 58, 59, 60, 61] (by decide +kernel) (by decide +kernel)) (goodIn_sub (fun _ h => List.mem_cons_of_mem _ (List.mem_append_right _ h)) (by decide +kernel))
set_option maxRecDepth 20000 in
theorem gX6_speed_X6_requireSpeed : GoodIn wsX6_speed (wsV RX6 156 RX6 yX6_requireSpeed wsX6_requireSpeed) := goodIn_app (goodIn_of _ (by decide +kernel)) ggX6_speed_X6_requireSpeed
set_option maxRecDepth 20000 in
theorem ggX6_speed_Jx4a65c_get_915e3 : GoodIn wsX6_speed wsJx4a65c_get_915e3 := goodIn_r _ [31, 18, 32, 33, 34, 35, 36, 37, 38, 39, 40, 41, 42, 16, 43, 44, 64, 65, 66] (by decide +kernel) (by decide +kernel)
set_option maxRecDepth 20000 in
theorem gX6_speed_Jx4a65c_get_915e3 : GoodIn wsX6_speed (wsV RX6 59 RJx4a65c yJx4a65c_get_915e3 wsJx4a65c_get_915e3) := goodIn_app (goodIn_of _ (by decide +kernel)) ggX6_speed_Jx4a65c_get_915e3
theorem dX6_speed_0 : decode cX6_speed 0 = .ok (.aload_n 0, 1) := by decide +kernel
theorem dX6_speed_1 : decode cX6_speed 1 = .ok (.iload_n 1, 1) := by decide +kernel
theorem dX6_speed_2 : decode cX6_speed 2 = .ok (.invokevirtual 55, 3) := by decide +kernel
theorem dX6_speed_5 : decode cX6_speed 5 = .ok (.aload_n 0, 1) := by decide +kernel
theorem dX6_speed_6 : decode cX6_speed 6 = .ok (.iload_n 1, 1) := by decide +kernel
theorem dX6_speed_7 : decode cX6_speed 7 = .ok (.invokevirtual 156, 3) := by decide +kernel
theorem dX6_speed_10 : decode cX6_speed 10 = .ok (.aload_n 0, 1) := by decide +kernel
theorem dX6_speed_11 : decode cX6_speed 11 = .ok (.getfield 12, 3) := by decide +kernel
theorem dX6_speed_14 : decode cX6_speed 14 = .ok (.iload_n 1, 1) := by decide +kernel
theorem dX6_speed_15 : decode cX6_speed 15 = .ok (.invokevirtual 59, 3) := by decide +kernel
theorem dX6_speed_18 : decode cX6_speed 18 = .ok (.checkcast 47, 3) := by decide +kernel
theorem dX6_speed_21 : decode cX6_speed 21 = .ok (.getfield 159, 3) := by decide +kernel
theorem dX6_speed_24 : decode cX6_speed 24 = .ok (.astore_n 3, 1) := by decide +kernel
theorem dX6_speed_25 : decode cX6_speed 25 = .ok (.iload_n 2, 1) := by decide +kernel
theorem dX6_speed_26 : decode cX6_speed 26 = .ok (.ifCond .eq 10, 3) := by decide +kernel
theorem dX6_speed_29 : decode cX6_speed 29 = .ok (.aload_n 3, 1) := by decide +kernel
theorem dX6_speed_30 : decode cX6_speed 30 = .ok (.getfield 163, 3) := by decide +kernel
theorem dX6_speed_33 : decode cX6_speed 33 = .ok (.goto 7, 3) := by decide +kernel
theorem dX6_speed_36 : decode cX6_speed 36 = .ok (.aload_n 3, 1) := by decide +kernel
theorem dX6_speed_37 : decode cX6_speed 37 = .ok (.getfield 169, 3) := by decide +kernel
theorem dX6_speed_40 : decode cX6_speed 40 = .ok (.l2i, 1) := by decide +kernel
theorem dX6_speed_41 : decode cX6_speed 41 = .ok (.ireturn, 1) := by decide +kernel
set_option maxRecDepth 20000 in
theorem ggX6_stage_X6_requireShaft : GoodIn wsX6_stage wsX6_requireShaft := goodIn_ca (goodIn_r _ [8, 9, 10, 1, 11, 12, 13, 14, 15, 16, 17, 18, 7, 19, 37, 38, 39, 40, 41, 42, 48, 49, 50] (by decide +kernel) (by decide +kernel)) (goodIn_sub (fun _ h => List.mem_cons_of_mem _ (List.mem_append_right _ h)) (by decide +kernel))
set_option maxRecDepth 20000 in
theorem gX6_stage_X6_requireShaft : GoodIn wsX6_stage (wsV RX6 55 RX6 yX6_requireShaft wsX6_requireShaft) := goodIn_app (goodIn_of _ (by decide +kernel)) ggX6_stage_X6_requireShaft
set_option maxRecDepth 20000 in
theorem ggX6_stage_Jx4a65c_get_915e3 : GoodIn wsX6_stage wsJx4a65c_get_915e3 := goodIn_r _ [23, 16, 24, 25, 26, 27, 28, 29, 30, 31, 32, 33, 34, 14, 35, 36, 48, 49, 50] (by decide +kernel) (by decide +kernel)
set_option maxRecDepth 20000 in
theorem gX6_stage_Jx4a65c_get_915e3 : GoodIn wsX6_stage (wsV RX6 59 RJx4a65c yJx4a65c_get_915e3 wsJx4a65c_get_915e3) := goodIn_app (goodIn_of _ (by decide +kernel)) ggX6_stage_Jx4a65c_get_915e3
theorem dX6_stage_0 : decode cX6_stage 0 = .ok (.aload_n 0, 1) := by decide +kernel
theorem dX6_stage_1 : decode cX6_stage 1 = .ok (.iload_n 1, 1) := by decide +kernel
theorem dX6_stage_2 : decode cX6_stage 2 = .ok (.invokevirtual 55, 3) := by decide +kernel
theorem dX6_stage_5 : decode cX6_stage 5 = .ok (.aload_n 0, 1) := by decide +kernel
theorem dX6_stage_6 : decode cX6_stage 6 = .ok (.getfield 12, 3) := by decide +kernel
theorem dX6_stage_9 : decode cX6_stage 9 = .ok (.iload_n 1, 1) := by decide +kernel
theorem dX6_stage_10 : decode cX6_stage 10 = .ok (.invokevirtual 59, 3) := by decide +kernel
theorem dX6_stage_13 : decode cX6_stage 13 = .ok (.checkcast 47, 3) := by decide +kernel
theorem dX6_stage_16 : decode cX6_stage 16 = .ok (.getfield 172, 3) := by decide +kernel
theorem dX6_stage_19 : decode cX6_stage 19 = .ok (.ireturn, 1) := by decide +kernel
set_option maxRecDepth 20000 in
theorem ggX6_ratio_X6_requireShaft : GoodIn wsX6_ratio wsX6_requireShaft := goodIn_ca (goodIn_r _ [8, 9, 10, 1, 11, 12, 13, 14, 15, 16, 17, 18, 7, 19, 61, 62, 63, 64, 65, 66, 72, 73, 74] (by decide +kernel) (by decide +kernel)) (goodIn_sub (fun _ h => List.mem_cons_of_mem _ (List.mem_append_left _ (List.mem_append_right _ h))) (by decide +kernel))
set_option maxRecDepth 20000 in
theorem gX6_ratio_X6_requireShaft : GoodIn wsX6_ratio (wsV RX6 55 RX6 yX6_requireShaft wsX6_requireShaft) := goodIn_app (goodIn_of _ (by decide +kernel)) ggX6_ratio_X6_requireShaft
set_option maxRecDepth 20000 in
theorem ggX6_ratio_X6_requireSpeed : GoodIn wsX6_ratio wsX6_requireSpeed := goodIn_ca (goodIn_r _ [23, 24, 25, 1, 2, 26, 27, 28, 14, 29, 16, 30, 31, 32, 33, 34, 35, 36, 37, 38, 39, 40, 41, 42, 43, 44, 45, 46, 47, 48, 61, 62, 63, 64, 65, 66, 72, 73, 74, 67, 68, 69, 70, 71] (by decide +kernel) (by decide +kernel)) (goodIn_sub (fun _ h => List.mem_cons_of_mem _ (List.mem_append_right _ h)) (by decide +kernel))
set_option maxRecDepth 20000 in
theorem gX6_ratio_X6_requireSpeed : GoodIn wsX6_ratio (wsV RX6 156 RX6 yX6_requireSpeed wsX6_requireSpeed) := goodIn_app (goodIn_of _ (by decide +kernel)) ggX6_ratio_X6_requireSpeed
set_option maxRecDepth 20000 in
theorem ggX6_ratio_X6_requireTurning : GoodIn wsX6_ratio wsX6_requireTurning := goodIn_ca (goodIn_r _ [52, 24, 25, 1, 2, 3, 53, 20, 21, 22, 7, 23, 26, 27, 28, 14, 29, 16, 30, 31, 32, 33, 34, 35, 36, 37, 38, 39, 40, 41, 42, 43, 44, 45, 46, 47, 48, 61, 62, 63, 64, 65, 66, 67, 68, 69, 70, 71, 75, 76, 72, 73, 74] (by decide +kernel) (by decide +kernel)) (goodIn_sub (fun _ h => List.mem_cons_of_mem _ (List.mem_append_right _ h)) (by decide +kernel))
set_option maxRecDepth 20000 in
theorem gX6_ratio_X6_requireTurning : GoodIn wsX6_ratio (wsV RX6 175 RX6 yX6_requireTurning wsX6_requireTurning) := goodIn_app (goodIn_of _ (by decide +kernel)) ggX6_ratio_X6_requireTurning
set_option maxRecDepth 20000 in
theorem ggX6_ratio_Jx4a65c_get_915e3 : GoodIn wsX6_ratio wsJx4a65c_get_915e3 := goodIn_r _ [29, 16, 30, 31, 32, 33, 34, 35, 36, 37, 38, 39, 40, 14, 41, 42, 72, 73, 74] (by decide +kernel) (by decide +kernel)
set_option maxRecDepth 20000 in
theorem gX6_ratio_Jx4a65c_get_915e3 : GoodIn wsX6_ratio (wsV RX6 59 RJx4a65c yJx4a65c_get_915e3 wsJx4a65c_get_915e3) := goodIn_app (goodIn_of _ (by decide +kernel)) ggX6_ratio_Jx4a65c_get_915e3
set_option maxRecDepth 20000 in
theorem ggX6_ratio_X0_asDouble : GoodIn wsX6_ratio wsX0_asDouble := goodIn_r _ [58, 59, 60, 75, 76] (by decide +kernel) (by decide +kernel)
set_option maxRecDepth 20000 in
theorem gX6_ratio_X0_asDouble : GoodIn wsX6_ratio (wsV RX6 178 RX0 yX0_asDouble wsX0_asDouble) := goodIn_app (goodIn_of _ (by decide +kernel)) ggX6_ratio_X0_asDouble
theorem dX6_ratio_0 : decode cX6_ratio 0 = .ok (.aload_n 0, 1) := by decide +kernel
theorem dX6_ratio_1 : decode cX6_ratio 1 = .ok (.iload_n 1, 1) := by decide +kernel
theorem dX6_ratio_2 : decode cX6_ratio 2 = .ok (.invokevirtual 55, 3) := by decide +kernel
theorem dX6_ratio_5 : decode cX6_ratio 5 = .ok (.aload_n 0, 1) := by decide +kernel
theorem dX6_ratio_6 : decode cX6_ratio 6 = .ok (.iload_n 2, 1) := by decide +kernel
theorem dX6_ratio_7 : decode cX6_ratio 7 = .ok (.invokevirtual 55, 3) := by decide +kernel
theorem dX6_ratio_10 : decode cX6_ratio 10 = .ok (.aload_n 0, 1) := by decide +kernel
theorem dX6_ratio_11 : decode cX6_ratio 11 = .ok (.iload_n 1, 1) := by decide +kernel
theorem dX6_ratio_12 : decode cX6_ratio 12 = .ok (.invokevirtual 156, 3) := by decide +kernel
theorem dX6_ratio_15 : decode cX6_ratio 15 = .ok (.aload_n 0, 1) := by decide +kernel
theorem dX6_ratio_16 : decode cX6_ratio 16 = .ok (.iload_n 2, 1) := by decide +kernel
theorem dX6_ratio_17 : decode cX6_ratio 17 = .ok (.invokevirtual 175, 3) := by decide +kernel
theorem dX6_ratio_20 : decode cX6_ratio 20 = .ok (.aload_n 0, 1) := by decide +kernel
theorem dX6_ratio_21 : decode cX6_ratio 21 = .ok (.getfield 12, 3) := by decide +kernel
theorem dX6_ratio_24 : decode cX6_ratio 24 = .ok (.iload_n 1, 1) := by decide +kernel
theorem dX6_ratio_25 : decode cX6_ratio 25 = .ok (.invokevirtual 59, 3) := by decide +kernel
theorem dX6_ratio_28 : decode cX6_ratio 28 = .ok (.checkcast 47, 3) := by decide +kernel
theorem dX6_ratio_31 : decode cX6_ratio 31 = .ok (.getfield 159, 3) := by decide +kernel
theorem dX6_ratio_34 : decode cX6_ratio 34 = .ok (.invokevirtual 178, 3) := by decide +kernel
theorem dX6_ratio_37 : decode cX6_ratio 37 = .ok (.aload_n 0, 1) := by decide +kernel
theorem dX6_ratio_38 : decode cX6_ratio 38 = .ok (.getfield 12, 3) := by decide +kernel
theorem dX6_ratio_41 : decode cX6_ratio 41 = .ok (.iload_n 2, 1) := by decide +kernel
theorem dX6_ratio_42 : decode cX6_ratio 42 = .ok (.invokevirtual 59, 3) := by decide +kernel
theorem dX6_ratio_45 : decode cX6_ratio 45 = .ok (.checkcast 47, 3) := by decide +kernel
theorem dX6_ratio_48 : decode cX6_ratio 48 = .ok (.getfield 159, 3) := by decide +kernel
theorem dX6_ratio_51 : decode cX6_ratio 51 = .ok (.invokevirtual 178, 3) := by decide +kernel
theorem dX6_ratio_54 : decode cX6_ratio 54 = .ok (.ddiv, 1) := by decide +kernel
theorem dX6_ratio_55 : decode cX6_ratio 55 = .ok (.dreturn, 1) := by decide +kernel
set_option maxRecDepth 20000 in
theorem ggX6_broken_Jx4a65c_size_8abf5 : GoodIn wsX6_broken wsJx4a65c_size_8abf5 := goodIn_r _ [11, 12, 81, 82, 83] (by decide +kernel) (by decide +kernel)
set_option maxRecDepth 20000 in
theorem gX6_broken_Jx4a65c_size_8abf5 : GoodIn wsX6_broken (wsV RX6 36 RJx4a65c yJx4a65c_size_8abf5 wsJx4a65c_size_8abf5) := goodIn_app (goodIn_of _ (by decide +kernel)) ggX6_broken_Jx4a65c_size_8abf5
set_option maxRecDepth 20000 in
theorem ggX6_broken_Jx4a65c_get_915e3 : GoodIn wsX6_broken wsJx4a65c_get_915e3 := goodIn_r _ [16, 12, 17, 18, 19, 20, 21, 22, 23, 24, 25, 26, 27, 10, 28, 29, 81, 82, 83] (by decide +kernel) (by decide +kernel)
set_option maxRecDepth 20000 in
theorem gX6_broken_Jx4a65c_get_915e3 : GoodIn wsX6_broken (wsV RX6 59 RJx4a65c yJx4a65c_get_915e3 wsJx4a65c_get_915e3) := goodIn_app (goodIn_of _ (by decide +kernel)) ggX6_broken_Jx4a65c_get_915e3
set_option maxRecDepth 20000 in
theorem ggX6_broken_X5_isBroken : GoodIn wsX6_broken wsX5_isBroken := goodIn_r _ [34, 35, 36, 37, 38, 39, 40, 41, 42, 43, 44, 45, 46, 47, 33, 48, 49, 50, 51, 52, 53, 54, 55, 56, 57, 58, 59, 60, 61, 62, 63, 64, 65, 66, 67, 68, 69, 84, 85, 86, 87, 88, 89, 90, 91, 92, 93, 94, 95] (by decide +kernel) (by decide +kernel)
set_option maxRecDepth 20000 in
theorem gX6_broken_X5_isBroken : GoodIn wsX6_broken (wsV RX6 186 RX5 yX5_isBroken wsX5_isBroken) := goodIn_app (goodIn_of _ (by decide +kernel)) ggX6_broken_X5_isBroken
theorem dX6_broken_0 : decode cX6_broken 0 = .ok (.iconst 0, 1) := by decide +kernel
theorem dX6_broken_1 : decode cX6_broken 1 = .ok (.istore_n 2, 1) := by decide +kernel
theorem dX6_broken_2 : decode cX6_broken 2 = .ok (.iload_n 1, 1) := by decide +kernel
theorem dX6_broken_3 : decode cX6_broken 3 = .ok (.ifCond .eq 55, 3) := by decide +kernel
theorem dX6_broken_6 : decode cX6_broken 6 = .ok (.iconst 0, 1) := by decide +kernel
theorem dX6_broken_7 : decode cX6_broken 7 = .ok (.istore_n 3, 1) := by decide +kernel
theorem dX6_broken_8 : decode cX6_broken 8 = .ok (.iload_n 3, 1) := by decide +kernel
theorem dX6_broken_9 : decode cX6_broken 9 = .ok (.aload_n 0, 1) := by decide +kernel
theorem dX6_broken_10 : decode cX6_broken 10 = .ok (.getfield 22, 3) := by decide +kernel
theorem dX6_broken_13 : decode cX6_broken 13 = .ok (.invokevirtual 36, 3) := by decide +kernel
theorem dX6_broken_16 : decode cX6_broken 16 = .ok (.if_icmp .ge 39, 3) := by decide +kernel
theorem dX6_broken_19 : decode cX6_broken 19 = .ok (.iload_n 2, 1) := by decide +kernel
theorem dX6_broken_20 : decode cX6_broken 20 = .ok (.aload_n 0, 1) := by decide +kernel
theorem dX6_broken_21 : decode cX6_broken 21 = .ok (.getfield 22, 3) := by decide +kernel
theorem dX6_broken_24 : decode cX6_broken 24 = .ok (.iload_n 3, 1) := by decide +kernel
theorem dX6_broken_25 : decode cX6_broken 25 = .ok (.invokevirtual 59, 3) := by decide +kernel
theorem dX6_broken_28 : decode cX6_broken 28 = .ok (.checkcast 127, 3) := by decide +kernel
theorem dX6_broken_31 : decode cX6_broken 31 = .ok (.getfield 182, 3) := by decide +kernel
theorem dX6_broken_34 : decode cX6_broken 34 = .ok (.invokevirtual 186, 3) := by decide +kernel
theorem dX6_broken_37 : decode cX6_broken 37 = .ok (.ifCond .eq 9, 3) := by decide +kernel
theorem dX6_broken_40 : decode cX6_broken 40 = .ok (.iconst 1, 1) := by decide +kernel
theorem dX6_broken_41 : decode cX6_broken 41 = .ok (.iload_n 3, 1) := by decide +kernel
theorem dX6_broken_42 : decode cX6_broken 42 = .ok (.ishl, 1) := by decide +kernel
theorem dX6_broken_43 : decode cX6_broken 43 = .ok (.goto 4, 3) := by decide +kernel
theorem dX6_broken_46 : decode cX6_broken 46 = .ok (.iconst 0, 1) := by decide +kernel
theorem dX6_broken_47 : decode cX6_broken 47 = .ok (.ior, 1) := by decide +kernel
theorem dX6_broken_48 : decode cX6_broken 48 = .ok (.istore_n 2, 1) := by decide +kernel
theorem dX6_broken_49 : decode cX6_broken 49 = .ok (.iinc 3 1, 3) := by decide +kernel
theorem dX6_broken_52 : decode cX6_broken 52 = .ok (.goto (-44), 3) := by decide +kernel
theorem dX6_broken_55 : decode cX6_broken 55 = .ok (.goto 52, 3) := by decide +kernel
theorem dX6_broken_58 : decode cX6_broken 58 = .ok (.iconst 0, 1) := by decide +kernel
theorem dX6_broken_59 : decode cX6_broken 59 = .ok (.istore_n 3, 1) := by decide +kernel
theorem dX6_broken_60 : decode cX6_broken 60 = .ok (.iload_n 3, 1) := by decide +kernel
theorem dX6_broken_61 : decode cX6_broken 61 = .ok (.aload_n 0, 1) := by decide +kernel
theorem dX6_broken_62 : decode cX6_broken 62 = .ok (.getfield 19, 3) := by decide +kernel
theorem dX6_broken_65 : decode cX6_broken 65 = .ok (.invokevirtual 36, 3) := by decide +kernel
theorem dX6_broken_68 : decode cX6_broken 68 = .ok (.if_icmp .ge 39, 3) := by decide +kernel
theorem dX6_broken_71 : decode cX6_broken 71 = .ok (.iload_n 2, 1) := by decide +kernel
theorem dX6_broken_72 : decode cX6_broken 72 = .ok (.aload_n 0, 1) := by decide +kernel
theorem dX6_broken_73 : decode cX6_broken 73 = .ok (.getfield 19, 3) := by decide +kernel
theorem dX6_broken_76 : decode cX6_broken 76 = .ok (.iload_n 3, 1) := by decide +kernel
theorem dX6_broken_77 : decode cX6_broken 77 = .ok (.invokevirtual 59, 3) := by decide +kernel
theorem dX6_broken_80 : decode cX6_broken 80 = .ok (.checkcast 104, 3) := by decide +kernel
theorem dX6_broken_83 : decode cX6_broken 83 = .ok (.getfield 191, 3) := by decide +kernel
theorem dX6_broken_86 : decode cX6_broken 86 = .ok (.invokevirtual 186, 3) := by decide +kernel
theorem dX6_broken_89 : decode cX6_broken 89 = .ok (.ifCond .eq 9, 3) := by decide +kernel
theorem dX6_broken_92 : decode cX6_broken 92 = .ok (.iconst 1, 1) := by decide +kernel
theorem dX6_broken_93 : decode cX6_broken 93 = .ok (.iload_n 3, 1) := by decide +kernel
theorem dX6_broken_94 : decode cX6_broken 94 = .ok (.ishl, 1) := by decide +kernel
theorem dX6_broken_95 : decode cX6_broken 95 = .ok (.goto 4, 3) := by decide +kernel
theorem dX6_broken_98 : decode cX6_broken 98 = .ok (.iconst 0, 1) := by decide +kernel
theorem dX6_broken_99 : decode cX6_broken 99 = .ok (.ior, 1) := by decide +kernel
theorem dX6_broken_100 : decode cX6_broken 100 = .ok (.istore_n 2, 1) := by decide +kernel
theorem dX6_broken_101 : decode cX6_broken 101 = .ok (.iinc 3 1, 3) := by decide +kernel
theorem dX6_broken_104 : decode cX6_broken 104 = .ok (.goto (-44), 3) := by decide +kernel
theorem dX6_broken_107 : decode cX6_broken 107 = .ok (.iload_n 2, 1) := by decide +kernel
