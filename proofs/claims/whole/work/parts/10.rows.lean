theorem dX7_distance_1 : decode cX7_distance 1 = .ok (.iconst 0, 1) := by decide +kernel
theorem dX7_distance_2 : decode cX7_distance 2 = .ok (.putfield 49, 3) := by decide +kernel
theorem dX7_distance_5 : decode cX7_distance 5 = .ok (.iload_n 1, 1) := by decide +kernel
theorem dX7_distance_6 : decode cX7_distance 6 = .ok (.iconst 0, 1) := by decide +kernel
theorem dX7_distance_7 : decode cX7_distance 7 = .ok (.aload_n 0, 1) := by decide +kernel
theorem dX7_distance_8 : decode cX7_distance 8 = .ok (.getfield 77, 3) := by decide +kernel
theorem dX7_distance_11 : decode cX7_distance 11 = .ok (.iconst 1, 1) := by decide +kernel
theorem dX7_distance_12 : decode cX7_distance 12 = .ok (.isub, 1) := by decide +kernel
theorem dX7_distance_13 : decode cX7_distance 13 = .ok (.invokestatic 55, 3) := by decide +kernel
theorem dX7_distance_16 : decode cX7_distance 16 = .ok (.ifCond .eq 11, 3) := by decide +kernel
theorem dX7_distance_19 : decode cX7_distance 19 = .ok (.aload_n 0, 1) := by decide +kernel
theorem dX7_distance_20 : decode cX7_distance 20 = .ok (.iload_n 1, 1) := by decide +kernel
theorem dX7_distance_21 : decode cX7_distance 21 = .ok (.invokevirtual 181, 3) := by decide +kernel
theorem dX7_distance_24 : decode cX7_distance 24 = .ok (.goto 8, 3) := by decide +kernel
theorem dX7_distance_27 : decode cX7_distance 27 = .ok (.aload_n 0, 1) := by decide +kernel
theorem dX7_distance_28 : decode cX7_distance 28 = .ok (.iconst 1, 1) := by decide +kernel
theorem dX7_distance_29 : decode cX7_distance 29 = .ok (.invokevirtual 66, 3) := by decide +kernel
theorem dX7_distance_32 : decode cX7_distance 32 = .ok (.ireturn, 1) := by decide +kernel
set_option maxRecDepth 20000 in
theorem ggX7_misfitting_X7_shaftOf : GoodIn wsX7_misfitting wsX7_shaftOf := goodIn_r _ [8, 9, 40, 41, 42, 43, 44, 45, 46, 47, 48, 49, 50, 51, 52, 53, 54, 55, 56, 57, 58, 59] (by decide +kernel) (by decide +kernel)
set_option maxRecDepth 20000 in
theorem gX7_misfitting_X7_shaftOf : GoodIn wsX7_misfitting (wsV RX7 80 RX7 yX7_shaftOf wsX7_shaftOf) := goodIn_app (goodIn_of _ (by decide +kernel)) ggX7_misfitting_X7_shaftOf
set_option maxRecDepth 20000 in
theorem ggX7_misfitting_X7_apart : GoodIn wsX7_misfitting wsX7_apart := goodIn_r _ [13, 14, 15, 16, 17, 7, 18, 40, 41, 42, 43, 44, 45, 46, 47, 48, 49, 50, 51, 52, 53, 54, 55, 56, 57, 58, 59] (by decide +kernel) (by decide +kernel)
set_option maxRecDepth 20000 in
theorem gX7_misfitting_X7_apart : GoodIn wsX7_misfitting (wsV RX7 184 RX7 yX7_apart wsX7_apart) := goodIn_app (goodIn_of _ (by decide +kernel)) ggX7_misfitting_X7_apart
set_option maxRecDepth 20000 in
theorem ggX7_misfitting_X7_distanceOf : GoodIn wsX7_misfitting wsX7_distanceOf := goodIn_r _ [22, 2, 3, 23, 24, 25, 26, 27, 28, 29, 7, 30, 9, 31, 32, 33, 34, 35, 36, 37, 38, 39, 40, 41, 42, 43, 44, 45, 46, 47, 48, 49, 50, 51, 52, 53, 54, 55, 56, 57, 58, 59] (by decide +kernel) (by decide +kernel)
set_option maxRecDepth 20000 in
theorem gX7_misfitting_X7_distanceOf : GoodIn wsX7_misfitting (wsV RX7 181 RX7 yX7_distanceOf wsX7_distanceOf) := goodIn_app (goodIn_of _ (by decide +kernel)) ggX7_misfitting_X7_distanceOf
set_option maxRecDepth 20000 in
theorem ggX7_misfitting_X7_square : GoodIn wsX7_misfitting wsX7_square := goodIn_r _ [18] (by decide +kernel) (by decide +kernel)
set_option maxRecDepth 20000 in
theorem gX7_misfitting_X7_square : GoodIn wsX7_misfitting (va_wsS RX7 74 yX7_square wsX7_square) := goodIn_app (goodIn_of _ (by decide +kernel)) ggX7_misfitting_X7_square
theorem dX7_misfitting_0 : decode cX7_misfitting 0 = .ok (.iconst 0, 1) := by decide +kernel
theorem dX7_misfitting_1 : decode cX7_misfitting 1 = .ok (.istore_n 1, 1) := by decide +kernel
theorem dX7_misfitting_2 : decode cX7_misfitting 2 = .ok (.iconst 0, 1) := by decide +kernel
theorem dX7_misfitting_3 : decode cX7_misfitting 3 = .ok (.istore_n 2, 1) := by decide +kernel
theorem dX7_misfitting_4 : decode cX7_misfitting 4 = .ok (.iload_n 2, 1) := by decide +kernel
theorem dX7_misfitting_5 : decode cX7_misfitting 5 = .ok (.aload_n 0, 1) := by decide +kernel
theorem dX7_misfitting_6 : decode cX7_misfitting 6 = .ok (.getfield 77, 3) := by decide +kernel
theorem dX7_misfitting_9 : decode cX7_misfitting 9 = .ok (.if_icmp .ge 50, 3) := by decide +kernel
theorem dX7_misfitting_12 : decode cX7_misfitting 12 = .ok (.aload_n 0, 1) := by decide +kernel
theorem dX7_misfitting_13 : decode cX7_misfitting 13 = .ok (.aload_n 0, 1) := by decide +kernel
theorem dX7_misfitting_14 : decode cX7_misfitting 14 = .ok (.aload_n 0, 1) := by decide +kernel
theorem dX7_misfitting_15 : decode cX7_misfitting 15 = .ok (.getfield 30, 3) := by decide +kernel
theorem dX7_misfitting_18 : decode cX7_misfitting 18 = .ok (.iload_n 2, 1) := by decide +kernel
theorem dX7_misfitting_19 : decode cX7_misfitting 19 = .ok (.iaload, 1) := by decide +kernel
theorem dX7_misfitting_20 : decode cX7_misfitting 20 = .ok (.invokevirtual 80, 3) := by decide +kernel
theorem dX7_misfitting_23 : decode cX7_misfitting 23 = .ok (.aload_n 0, 1) := by decide +kernel
theorem dX7_misfitting_24 : decode cX7_misfitting 24 = .ok (.aload_n 0, 1) := by decide +kernel
theorem dX7_misfitting_25 : decode cX7_misfitting 25 = .ok (.getfield 33, 3) := by decide +kernel
theorem dX7_misfitting_28 : decode cX7_misfitting 28 = .ok (.iload_n 2, 1) := by decide +kernel
theorem dX7_misfitting_29 : decode cX7_misfitting 29 = .ok (.iaload, 1) := by decide +kernel
theorem dX7_misfitting_30 : decode cX7_misfitting 30 = .ok (.invokevirtual 80, 3) := by decide +kernel
theorem dX7_misfitting_33 : decode cX7_misfitting 33 = .ok (.invokevirtual 184, 3) := by decide +kernel
theorem dX7_misfitting_36 : decode cX7_misfitting 36 = .ok (.aload_n 0, 1) := by decide +kernel
theorem dX7_misfitting_37 : decode cX7_misfitting 37 = .ok (.iload_n 2, 1) := by decide +kernel
theorem dX7_misfitting_38 : decode cX7_misfitting 38 = .ok (.invokevirtual 181, 3) := by decide +kernel
theorem dX7_misfitting_41 : decode cX7_misfitting 41 = .ok (.invokestatic 74, 3) := by decide +kernel
theorem dX7_misfitting_44 : decode cX7_misfitting 44 = .ok (.if_icmp .eq 9, 3) := by decide +kernel
theorem dX7_misfitting_47 : decode cX7_misfitting 47 = .ok (.iload_n 1, 1) := by decide +kernel
theorem dX7_misfitting_48 : decode cX7_misfitting 48 = .ok (.iconst 1, 1) := by decide +kernel
theorem dX7_misfitting_49 : decode cX7_misfitting 49 = .ok (.iload_n 2, 1) := by decide +kernel
theorem dX7_misfitting_50 : decode cX7_misfitting 50 = .ok (.ishl, 1) := by decide +kernel
theorem dX7_misfitting_51 : decode cX7_misfitting 51 = .ok (.ior, 1) := by decide +kernel
theorem dX7_misfitting_52 : decode cX7_misfitting 52 = .ok (.istore_n 1, 1) := by decide +kernel
theorem dX7_misfitting_53 : decode cX7_misfitting 53 = .ok (.iinc 2 1, 3) := by decide +kernel
theorem dX7_misfitting_56 : decode cX7_misfitting 56 = .ok (.goto (-52), 3) := by decide +kernel
theorem dX7_misfitting_59 : decode cX7_misfitting 59 = .ok (.iload_n 1, 1) := by decide +kernel
theorem dX7_misfitting_60 : decode cX7_misfitting 60 = .ok (.ireturn, 1) := by decide +kernel
set_option maxRecDepth 20000 in
theorem ggX7_misfits_X7_misfitting : GoodIn wsX7_misfits wsX7_misfitting := goodIn_r _ [6, 7, 8, 9, 10, 11, 12, 5, 13, 14, 15, 16, 17, 18, 19, 20, 21, 22, 23, 24, 25, 26, 27, 28, 29, 30, 31, 32, 33, 34, 35, 36, 37, 38, 39, 40, 41, 42, 43, 44, 45, 46, 47, 48, 49, 50, 51, 52, 53, 54, 55, 56, 57, 58, 59, 60, 61, 62, 63, 64] (by decide +kernel) (by decide +kernel)
set_option maxRecDepth 20000 in
theorem gX7_misfits_X7_misfitting : GoodIn wsX7_misfits (wsV RX7 187 RX7 yX7_misfitting wsX7_misfitting) := goodIn_app (goodIn_of _ (by decide +kernel)) ggX7_misfits_X7_misfitting
theorem dX7_misfits_0 : decode cX7_misfits 0 = .ok (.aload_n 0, 1) := by decide +kernel
theorem dX7_misfits_1 : decode cX7_misfits 1 = .ok (.iconst 0, 1) := by decide +kernel
theorem dX7_misfits_2 : decode cX7_misfits 2 = .ok (.putfield 49, 3) := by decide +kernel
theorem dX7_misfits_5 : decode cX7_misfits 5 = .ok (.aload_n 0, 1) := by decide +kernel
theorem dX7_misfits_6 : decode cX7_misfits 6 = .ok (.invokevirtual 187, 3) := by decide +kernel
theorem dX7_misfits_9 : decode cX7_misfits 9 = .ok (.ireturn, 1) := by decide +kernel
set_option maxRecDepth 20000 in
theorem ggX7_size_X7_module : GoodIn wsX7_size wsX7_module := goodIn_r _ [6, 7, 12, 13, 14, 15, 16, 17, 18, 19, 20, 21, 22, 23, 24, 25, 26, 27, 28, 29, 30, 31] (by decide +kernel) (by decide +kernel)
set_option maxRecDepth 20000 in
theorem gX7_size_X7_module : GoodIn wsX7_size (wsV RX7 86 RX7 yX7_module wsX7_module) := goodIn_app (goodIn_of _ (by decide +kernel)) ggX7_size_X7_module
set_option maxRecDepth 20000 in
theorem ggX7_size_X7_teeth : GoodIn wsX7_size wsX7_teeth := goodIn_r _ [11, 7, 12, 13, 14, 15, 16, 17, 18, 19, 20, 21, 22, 23, 24, 25, 26, 27, 28, 29, 30, 31] (by decide +kernel) (by decide +kernel)
set_option maxRecDepth 20000 in
theorem gX7_size_X7_teeth : GoodIn wsX7_size (wsV RX7 92 RX7 yX7_teeth wsX7_teeth) := goodIn_app (goodIn_of _ (by decide +kernel)) ggX7_size_X7_teeth
theorem dX7_size_0 : decode cX7_size 0 = .ok (.aload_n 0, 1) := by decide +kernel
theorem dX7_size_1 : decode cX7_size 1 = .ok (.iload_n 1, 1) := by decide +kernel
theorem dX7_size_2 : decode cX7_size 2 = .ok (.invokevirtual 86, 3) := by decide +kernel
theorem dX7_size_5 : decode cX7_size 5 = .ok (.aload_n 0, 1) := by decide +kernel
theorem dX7_size_6 : decode cX7_size 6 = .ok (.iload_n 1, 1) := by decide +kernel
theorem dX7_size_7 : decode cX7_size 7 = .ok (.invokevirtual 92, 3) := by decide +kernel
theorem dX7_size_10 : decode cX7_size 10 = .ok (.aload_n 0, 1) := by decide +kernel
theorem dX7_size_11 : decode cX7_size 11 = .ok (.getfield 27, 3) := by decide +kernel
theorem dX7_size_14 : decode cX7_size 14 = .ok (.iload_n 1, 1) := by decide +kernel
theorem dX7_size_15 : decode cX7_size 15 = .ok (.baload, 1) := by decide +kernel
theorem dX7_size_16 : decode cX7_size 16 = .ok (.ifCond .eq 8, 3) := by decide +kernel
theorem dX7_size_19 : decode cX7_size 19 = .ok (.bipush 6, 2) := by decide +kernel
theorem dX7_size_21 : decode cX7_size 21 = .ok (.goto 4, 3) := by decide +kernel
theorem dX7_size_24 : decode cX7_size 24 = .ok (.iconst 2, 1) := by decide +kernel
theorem dX7_size_25 : decode cX7_size 25 = .ok (.iadd, 1) := by decide +kernel
theorem dX7_size_26 : decode cX7_size 26 = .ok (.imul, 1) := by decide +kernel
theorem dX7_size_27 : decode cX7_size 27 = .ok (.ireturn, 1) := by decide +kernel
set_option maxRecDepth 20000 in
theorem ggX7_collisions_X7_shaftOf : GoodIn wsX7_collisions wsX7_shaftOf := goodIn_r _ [7, 8, 42, 43, 44, 45, 46, 47, 48, 49, 50, 51, 52, 53, 54, 55, 56, 57, 58, 59, 60, 61] (by decide +kernel) (by decide +kernel)
set_option maxRecDepth 20000 in
theorem gX7_collisions_X7_shaftOf : GoodIn wsX7_collisions (wsV RX7 80 RX7 yX7_shaftOf wsX7_shaftOf) := goodIn_app (goodIn_of _ (by decide +kernel)) ggX7_collisions_X7_shaftOf
set_option maxRecDepth 20000 in
theorem ggX7_collisions_X7_layer : GoodIn wsX7_collisions wsX7_layer := goodIn_r _ [12, 8, 42, 43, 44, 45, 46, 47, 48, 49, 50, 51, 52, 53, 54, 55, 56, 57, 58, 59, 60, 61] (by decide +kernel) (by decide +kernel)
set_option maxRecDepth 20000 in
theorem gX7_collisions_X7_layer : GoodIn wsX7_collisions (wsV RX7 83 RX7 yX7_layer wsX7_layer) := goodIn_app (goodIn_of _ (by decide +kernel)) ggX7_collisions_X7_layer
set_option maxRecDepth 20000 in
theorem ggX7_collisions_X7_areMeshed : GoodIn wsX7_collisions wsX7_areMeshed := goodIn_r _ [16, 17, 18, 19, 42, 43, 44, 45, 46, 47, 48, 49, 50, 51, 52, 53, 54, 55, 56, 57, 58, 59, 60, 61] (by decide +kernel) (by decide +kernel)
set_option maxRecDepth 20000 in
theorem gX7_collisions_X7_areMeshed : GoodIn wsX7_collisions (wsV RX7 89 RX7 yX7_areMeshed wsX7_areMeshed) := goodIn_app (goodIn_of _ (by decide +kernel)) ggX7_collisions_X7_areMeshed
set_option maxRecDepth 20000 in
theorem ggX7_collisions_X7_apart : GoodIn wsX7_collisions wsX7_apart := goodIn_r _ [23, 24, 25, 26, 27, 6, 28, 42, 43, 44, 45, 46, 47, 48, 49, 50, 51, 52, 53, 54, 55, 56, 57, 58, 59, 60, 61] (by decide +kernel) (by decide +kernel)
set_option maxRecDepth 20000 in
theorem gX7_collisions_X7_apart : GoodIn wsX7_collisions (wsV RX7 184 RX7 yX7_apart wsX7_apart) := goodIn_app (goodIn_of _ (by decide +kernel)) ggX7_collisions_X7_apart
set_option maxRecDepth 20000 in
theorem ggX7_collisions_X7_size : GoodIn wsX7_collisions wsX7_size := goodIn_r _ [32, 33, 34, 35, 36, 6, 37, 8, 38, 39, 40, 41, 42, 43, 44, 45, 46, 47, 48, 49, 50, 51, 52, 53, 54, 55, 56, 57, 58, 59, 60, 61] (by decide +kernel) (by decide +kernel)
set_option maxRecDepth 20000 in
theorem gX7_collisions_X7_size : GoodIn wsX7_collisions (wsV RX7 191 RX7 yX7_size wsX7_size) := goodIn_app (goodIn_of _ (by decide +kernel)) ggX7_collisions_X7_size
set_option maxRecDepth 20000 in
theorem ggX7_collisions_X7_square : GoodIn wsX7_collisions wsX7_square := goodIn_r _ [28] (by decide +kernel) (by decide +kernel)
set_option maxRecDepth 20000 in
theorem gX7_collisions_X7_square : GoodIn wsX7_collisions (va_wsS RX7 74 yX7_square wsX7_square) := goodIn_app (goodIn_of _ (by decide +kernel)) ggX7_collisions_X7_square
theorem dX7_collisions_0 : decode cX7_collisions 0 = .ok (.aload_n 0, 1) := by decide +kernel
theorem dX7_collisions_1 : decode cX7_collisions 1 = .ok (.iconst 0, 1) := by decide +kernel
theorem dX7_collisions_2 : decode cX7_collisions 2 = .ok (.putfield 49, 3) := by decide +kernel
theorem dX7_collisions_5 : decode cX7_collisions 5 = .ok (.iconst 0, 1) := by decide +kernel
theorem dX7_collisions_6 : decode cX7_collisions 6 = .ok (.istore_n 1, 1) := by decide +kernel
theorem dX7_collisions_7 : decode cX7_collisions 7 = .ok (.iconst 0, 1) := by decide +kernel
theorem dX7_collisions_8 : decode cX7_collisions 8 = .ok (.istore_n 2, 1) := by decide +kernel
theorem dX7_collisions_9 : decode cX7_collisions 9 = .ok (.iload_n 2, 1) := by decide +kernel
theorem dX7_collisions_10 : decode cX7_collisions 10 = .ok (.aload_n 0, 1) := by decide +kernel
theorem dX7_collisions_11 : decode cX7_collisions 11 = .ok (.getfield 59, 3) := by decide +kernel
theorem dX7_collisions_14 : decode cX7_collisions 14 = .ok (.if_icmp .ge 99, 3) := by decide +kernel
theorem dX7_collisions_17 : decode cX7_collisions 17 = .ok (.iconst 0, 1) := by decide +kernel
theorem dX7_collisions_18 : decode cX7_collisions 18 = .ok (.istore_n 3, 1) := by decide +kernel
theorem dX7_collisions_19 : decode cX7_collisions 19 = .ok (.iload_n 3, 1) := by decide +kernel
theorem dX7_collisions_20 : decode cX7_collisions 20 = .ok (.iload_n 2, 1) := by decide +kernel
theorem dX7_collisions_21 : decode cX7_collisions 21 = .ok (.if_icmp .ge 86, 3) := by decide +kernel
theorem dX7_collisions_24 : decode cX7_collisions 24 = .ok (.aload_n 0, 1) := by decide +kernel
theorem dX7_collisions_25 : decode cX7_collisions 25 = .ok (.iload_n 2, 1) := by decide +kernel
theorem dX7_collisions_26 : decode cX7_collisions 26 = .ok (.invokevirtual 80, 3) := by decide +kernel
theorem dX7_collisions_29 : decode cX7_collisions 29 = .ok (.aload_n 0, 1) := by decide +kernel
theorem dX7_collisions_30 : decode cX7_collisions 30 = .ok (.iload_n 3, 1) := by decide +kernel
theorem dX7_collisions_31 : decode cX7_collisions 31 = .ok (.invokevirtual 80, 3) := by decide +kernel
theorem dX7_collisions_34 : decode cX7_collisions 34 = .ok (.if_icmp .eq 67, 3) := by decide +kernel
theorem dX7_collisions_37 : decode cX7_collisions 37 = .ok (.aload_n 0, 1) := by decide +kernel
theorem dX7_collisions_38 : decode cX7_collisions 38 = .ok (.iload_n 2, 1) := by decide +kernel
theorem dX7_collisions_39 : decode cX7_collisions 39 = .ok (.invokevirtual 83, 3) := by decide +kernel
theorem dX7_collisions_42 : decode cX7_collisions 42 = .ok (.aload_n 0, 1) := by decide +kernel
theorem dX7_collisions_43 : decode cX7_collisions 43 = .ok (.iload_n 3, 1) := by decide +kernel
theorem dX7_collisions_44 : decode cX7_collisions 44 = .ok (.invokevirtual 83, 3) := by decide +kernel
theorem dX7_collisions_47 : decode cX7_collisions 47 = .ok (.if_icmp .ne 54, 3) := by decide +kernel
theorem dX7_collisions_50 : decode cX7_collisions 50 = .ok (.aload_n 0, 1) := by decide +kernel
theorem dX7_collisions_51 : decode cX7_collisions 51 = .ok (.iload_n 2, 1) := by decide +kernel
theorem dX7_collisions_52 : decode cX7_collisions 52 = .ok (.iload_n 3, 1) := by decide +kernel
theorem dX7_collisions_53 : decode cX7_collisions 53 = .ok (.invokevirtual 89, 3) := by decide +kernel
theorem dX7_collisions_56 : decode cX7_collisions 56 = .ok (.ifCond .eq 6, 3) := by decide +kernel
theorem dX7_collisions_59 : decode cX7_collisions 59 = .ok (.goto 42, 3) := by decide +kernel
theorem dX7_collisions_62 : decode cX7_collisions 62 = .ok (.iload_n 1, 1) := by decide +kernel
theorem dX7_collisions_63 : decode cX7_collisions 63 = .ok (.aload_n 0, 1) := by decide +kernel
theorem dX7_collisions_64 : decode cX7_collisions 64 = .ok (.aload_n 0, 1) := by decide +kernel
theorem dX7_collisions_65 : decode cX7_collisions 65 = .ok (.iload_n 2, 1) := by decide +kernel
theorem dX7_collisions_66 : decode cX7_collisions 66 = .ok (.invokevirtual 80, 3) := by decide +kernel
theorem dX7_collisions_69 : decode cX7_collisions 69 = .ok (.aload_n 0, 1) := by decide +kernel
theorem dX7_collisions_70 : decode cX7_collisions 70 = .ok (.iload_n 3, 1) := by decide +kernel
theorem dX7_collisions_71 : decode cX7_collisions 71 = .ok (.invokevirtual 80, 3) := by decide +kernel
theorem dX7_collisions_74 : decode cX7_collisions 74 = .ok (.invokevirtual 184, 3) := by decide +kernel
theorem dX7_collisions_77 : decode cX7_collisions 77 = .ok (.aload_n 0, 1) := by decide +kernel
theorem dX7_collisions_78 : decode cX7_collisions 78 = .ok (.iload_n 2, 1) := by decide +kernel
theorem dX7_collisions_79 : decode cX7_collisions 79 = .ok (.invokevirtual 191, 3) := by decide +kernel
theorem dX7_collisions_82 : decode cX7_collisions 82 = .ok (.aload_n 0, 1) := by decide +kernel
theorem dX7_collisions_83 : decode cX7_collisions 83 = .ok (.iload_n 3, 1) := by decide +kernel
theorem dX7_collisions_84 : decode cX7_collisions 84 = .ok (.invokevirtual 191, 3) := by decide +kernel
theorem dX7_collisions_87 : decode cX7_collisions 87 = .ok (.iadd, 1) := by decide +kernel
theorem dX7_collisions_88 : decode cX7_collisions 88 = .ok (.invokestatic 74, 3) := by decide +kernel
theorem dX7_collisions_91 : decode cX7_collisions 91 = .ok (.if_icmp .ge 7, 3) := by decide +kernel
theorem dX7_collisions_94 : decode cX7_collisions 94 = .ok (.iconst 1, 1) := by decide +kernel
theorem dX7_collisions_95 : decode cX7_collisions 95 = .ok (.goto 4, 3) := by decide +kernel
theorem dX7_collisions_98 : decode cX7_collisions 98 = .ok (.iconst 0, 1) := by decide +kernel
theorem dX7_collisions_99 : decode cX7_collisions 99 = .ok (.iadd, 1) := by decide +kernel
theorem dX7_collisions_100 : decode cX7_collisions 100 = .ok (.istore_n 1, 1) := by decide +kernel
theorem dX7_collisions_101 : decode cX7_collisions 101 = .ok (.iinc 3 1, 3) := by decide +kernel
theorem dX7_collisions_104 : decode cX7_collisions 104 = .ok (.goto (-85), 3) := by decide +kernel
theorem dX7_collisions_107 : decode cX7_collisions 107 = .ok (.iinc 2 1, 3) := by decide +kernel
theorem dX7_collisions_110 : decode cX7_collisions 110 = .ok (.goto (-101), 3) := by decide +kernel
theorem dX7_collisions_113 : decode cX7_collisions 113 = .ok (.iload_n 1, 1) := by decide +kernel
theorem dX7_collisions_114 : decode cX7_collisions 114 = .ok (.ireturn, 1) := by decide +kernel
set_option maxRecDepth 20000 in
theorem ggX7_suggest_X7_isIn : GoodIn wsX7_suggest wsX7_isIn := goodIn_r _ [12] (by decide +kernel) (by decide +kernel)
set_option maxRecDepth 20000 in
theorem gX7_suggest_X7_isIn : GoodIn wsX7_suggest (va_wsS RX7 55 yX7_isIn wsX7_isIn) := goodIn_app (goodIn_of _ (by decide +kernel)) ggX7_suggest_X7_isIn
set_option maxRecDepth 20000 in
theorem ggX7_suggest_X7_fail : GoodIn wsX7_suggest wsX7_fail := goodIn_r _ [16, 1, 23, 24, 25, 26, 27, 28, 29, 30, 31, 32, 33, 34, 35, 36, 37, 38, 39, 40, 41, 42] (by decide +kernel) (by decide +kernel)
set_option maxRecDepth 20000 in
theorem gX7_suggest_X7_fail : GoodIn wsX7_suggest (wsV RX7 66 RX7 yX7_fail wsX7_fail) := goodIn_app (goodIn_of _ (by decide +kernel)) ggX7_suggest_X7_fail
set_option maxRecDepth 20000 in
theorem ggX7_suggest_X7_off : GoodIn wsX7_suggest wsX7_off := goodIn_r _ [19, 20, 21, 4, 22] (by decide +kernel) (by decide +kernel)
set_option maxRecDepth 20000 in
theorem gX7_suggest_X7_off : GoodIn wsX7_suggest (va_wsS RX7 197 yX7_off wsX7_off) := goodIn_app (goodIn_of _ (by decide +kernel)) ggX7_suggest_X7_off
theorem dX7_suggest_0 : decode cX7_suggest 0 = .ok (.aload_n 0, 1) := by decide +kernel
theorem dX7_suggest_1 : decode cX7_suggest 1 = .ok (.iconst 0, 1) := by decide +kernel
theorem dX7_suggest_2 : decode cX7_suggest 2 = .ok (.putfield 49, 3) := by decide +kernel
theorem dX7_suggest_5 : decode cX7_suggest 5 = .ok (.iload_n 1, 1) := by decide +kernel
theorem dX7_suggest_6 : decode cX7_suggest 6 = .ok (.iconst 1, 1) := by decide +kernel
theorem dX7_suggest_7 : decode cX7_suggest 7 = .ok (.sipush 10000, 3) := by decide +kernel
theorem dX7_suggest_10 : decode cX7_suggest 10 = .ok (.invokestatic 55, 3) := by decide +kernel
theorem dX7_suggest_13 : decode cX7_suggest 13 = .ok (.ifCond .eq 31, 3) := by decide +kernel
theorem dX7_suggest_16 : decode cX7_suggest 16 = .ok (.iload_n 2, 1) := by decide +kernel
theorem dX7_suggest_17 : decode cX7_suggest 17 = .ok (.iconst 1, 1) := by decide +kernel
theorem dX7_suggest_18 : decode cX7_suggest 18 = .ok (.sipush 10000, 3) := by decide +kernel
theorem dX7_suggest_21 : decode cX7_suggest 21 = .ok (.invokestatic 55, 3) := by decide +kernel
theorem dX7_suggest_24 : decode cX7_suggest 24 = .ok (.ifCond .eq 20, 3) := by decide +kernel
theorem dX7_suggest_27 : decode cX7_suggest 27 = .ok (.iload_n 3, 1) := by decide +kernel
theorem dX7_suggest_28 : decode cX7_suggest 28 = .ok (.bipush 8, 2) := by decide +kernel
theorem dX7_suggest_30 : decode cX7_suggest 30 = .ok (.if_icmp .lt 14, 3) := by decide +kernel
theorem dX7_suggest_33 : decode cX7_suggest 33 = .ok (.iload 4, 2) := by decide +kernel
theorem dX7_suggest_35 : decode cX7_suggest 35 = .ok (.iload_n 3, 1) := by decide +kernel
theorem dX7_suggest_36 : decode cX7_suggest 36 = .ok (.bipush 120, 2) := by decide +kernel
theorem dX7_suggest_38 : decode cX7_suggest 38 = .ok (.invokestatic 55, 3) := by decide +kernel
theorem dX7_suggest_41 : decode cX7_suggest 41 = .ok (.ifCond .ne 9, 3) := by decide +kernel
theorem dX7_suggest_44 : decode cX7_suggest 44 = .ok (.aload_n 0, 1) := by decide +kernel
theorem dX7_suggest_45 : decode cX7_suggest 45 = .ok (.iconst 1, 1) := by decide +kernel
theorem dX7_suggest_46 : decode cX7_suggest 46 = .ok (.invokevirtual 66, 3) := by decide +kernel
theorem dX7_suggest_49 : decode cX7_suggest 49 = .ok (.ireturn, 1) := by decide +kernel
theorem dX7_suggest_50 : decode cX7_suggest 50 = .ok (.iconst (-1), 1) := by decide +kernel
theorem dX7_suggest_51 : decode cX7_suggest 51 = .ok (.istore 5, 2) := by decide +kernel
theorem dX7_suggest_53 : decode cX7_suggest 53 = .ok (.iconst (-1), 1) := by decide +kernel
theorem dX7_suggest_54 : decode cX7_suggest 54 = .ok (.istore 6, 2) := by decide +kernel
theorem dX7_suggest_56 : decode cX7_suggest 56 = .ok (.iconst 2, 1) := by decide +kernel
theorem dX7_suggest_57 : decode cX7_suggest 57 = .ok (.iload_n 3, 1) := by decide +kernel
theorem dX7_suggest_58 : decode cX7_suggest 58 = .ok (.imul, 1) := by decide +kernel
theorem dX7_suggest_59 : decode cX7_suggest 59 = .ok (.istore 7, 2) := by decide +kernel
theorem dX7_suggest_61 : decode cX7_suggest 61 = .ok (.iload 7, 2) := by decide +kernel
theorem dX7_suggest_63 : decode cX7_suggest 63 = .ok (.iconst 2, 1) := by decide +kernel
theorem dX7_suggest_64 : decode cX7_suggest 64 = .ok (.iload 4, 2) := by decide +kernel
theorem dX7_suggest_66 : decode cX7_suggest 66 = .ok (.imul, 1) := by decide +kernel
theorem dX7_suggest_67 : decode cX7_suggest 67 = .ok (.if_icmp .gt 94, 3) := by decide +kernel
theorem dX7_suggest_70 : decode cX7_suggest 70 = .ok (.iload_n 3, 1) := by decide +kernel
theorem dX7_suggest_71 : decode cX7_suggest 71 = .ok (.iload 7, 2) := by decide +kernel
theorem dX7_suggest_73 : decode cX7_suggest 73 = .ok (.iload 4, 2) := by decide +kernel
theorem dX7_suggest_75 : decode cX7_suggest 75 = .ok (.isub, 1) := by decide +kernel
theorem dX7_suggest_76 : decode cX7_suggest 76 = .ok (.invokestatic 145, 3) := by decide +kernel
theorem dX7_suggest_79 : decode cX7_suggest 79 = .ok (.istore 8, 2) := by decide +kernel
theorem dX7_suggest_81 : decode cX7_suggest 81 = .ok (.iload 8, 2) := by decide +kernel
theorem dX7_suggest_83 : decode cX7_suggest 83 = .ok (.iload 4, 2) := by decide +kernel
theorem dX7_suggest_85 : decode cX7_suggest 85 = .ok (.iload 7, 2) := by decide +kernel
theorem dX7_suggest_87 : decode cX7_suggest 87 = .ok (.iload_n 3, 1) := by decide +kernel
theorem dX7_suggest_88 : decode cX7_suggest 88 = .ok (.isub, 1) := by decide +kernel
theorem dX7_suggest_89 : decode cX7_suggest 89 = .ok (.invokestatic 194, 3) := by decide +kernel
theorem dX7_suggest_92 : decode cX7_suggest 92 = .ok (.if_icmp .gt 63, 3) := by decide +kernel
theorem dX7_suggest_95 : decode cX7_suggest 95 = .ok (.iload 7, 2) := by decide +kernel
theorem dX7_suggest_97 : decode cX7_suggest 97 = .ok (.iload 8, 2) := by decide +kernel
theorem dX7_suggest_99 : decode cX7_suggest 99 = .ok (.isub, 1) := by decide +kernel
theorem dX7_suggest_100 : decode cX7_suggest 100 = .ok (.istore 9, 2) := by decide +kernel
theorem dX7_suggest_102 : decode cX7_suggest 102 = .ok (.iload 5, 2) := by decide +kernel
theorem dX7_suggest_104 : decode cX7_suggest 104 = .ok (.iconst (-1), 1) := by decide +kernel
theorem dX7_suggest_105 : decode cX7_suggest 105 = .ok (.if_icmp .eq 36, 3) := by decide +kernel
theorem dX7_suggest_108 : decode cX7_suggest 108 = .ok (.iload 8, 2) := by decide +kernel
theorem dX7_suggest_110 : decode cX7_suggest 110 = .ok (.iload 9, 2) := by decide +kernel
theorem dX7_suggest_112 : decode cX7_suggest 112 = .ok (.iload_n 1, 1) := by decide +kernel
theorem dX7_suggest_113 : decode cX7_suggest 113 = .ok (.iload_n 2, 1) := by decide +kernel
theorem dX7_suggest_114 : decode cX7_suggest 114 = .ok (.invokestatic 197, 3) := by decide +kernel
theorem dX7_suggest_117 : decode cX7_suggest 117 = .ok (.iload 6, 2) := by decide +kernel
theorem dX7_suggest_119 : decode cX7_suggest 119 = .ok (.i2l, 1) := by decide +kernel
theorem dX7_suggest_120 : decode cX7_suggest 120 = .ok (.lmul, 1) := by decide +kernel
theorem dX7_suggest_121 : decode cX7_suggest 121 = .ok (.iload 5, 2) := by decide +kernel
theorem dX7_suggest_123 : decode cX7_suggest 123 = .ok (.iload 6, 2) := by decide +kernel
theorem dX7_suggest_125 : decode cX7_suggest 125 = .ok (.iload_n 1, 1) := by decide +kernel
theorem dX7_suggest_126 : decode cX7_suggest 126 = .ok (.iload_n 2, 1) := by decide +kernel
theorem dX7_suggest_127 : decode cX7_suggest 127 = .ok (.invokestatic 197, 3) := by decide +kernel
theorem dX7_suggest_130 : decode cX7_suggest 130 = .ok (.iload 9, 2) := by decide +kernel
theorem dX7_suggest_132 : decode cX7_suggest 132 = .ok (.i2l, 1) := by decide +kernel
theorem dX7_suggest_133 : decode cX7_suggest 133 = .ok (.lmul, 1) := by decide +kernel
theorem dX7_suggest_134 : decode cX7_suggest 134 = .ok (.lcmp, 1) := by decide +kernel
theorem dX7_suggest_135 : decode cX7_suggest 135 = .ok (.ifCond .lt 6, 3) := by decide +kernel
theorem dX7_suggest_138 : decode cX7_suggest 138 = .ok (.goto 11, 3) := by decide +kernel
theorem dX7_suggest_141 : decode cX7_suggest 141 = .ok (.iload 8, 2) := by decide +kernel
theorem dX7_suggest_143 : decode cX7_suggest 143 = .ok (.istore 5, 2) := by decide +kernel
theorem dX7_suggest_145 : decode cX7_suggest 145 = .ok (.iload 9, 2) := by decide +kernel
theorem dX7_suggest_147 : decode cX7_suggest 147 = .ok (.istore 6, 2) := by decide +kernel
theorem dX7_suggest_149 : decode cX7_suggest 149 = .ok (.iinc 8 1, 3) := by decide +kernel
theorem dX7_suggest_152 : decode cX7_suggest 152 = .ok (.goto (-71), 3) := by decide +kernel
theorem dX7_suggest_155 : decode cX7_suggest 155 = .ok (.iinc 7 1, 3) := by decide +kernel
theorem dX7_suggest_158 : decode cX7_suggest 158 = .ok (.goto (-97), 3) := by decide +kernel
theorem dX7_suggest_161 : decode cX7_suggest 161 = .ok (.sipush 1000, 3) := by decide +kernel
theorem dX7_suggest_164 : decode cX7_suggest 164 = .ok (.iload 5, 2) := by decide +kernel
theorem dX7_suggest_166 : decode cX7_suggest 166 = .ok (.imul, 1) := by decide +kernel
theorem dX7_suggest_167 : decode cX7_suggest 167 = .ok (.iload 6, 2) := by decide +kernel
theorem dX7_suggest_169 : decode cX7_suggest 169 = .ok (.iadd, 1) := by decide +kernel
theorem dX7_suggest_170 : decode cX7_suggest 170 = .ok (.ireturn, 1) := by decide +kernel
theorem dX7_off_0 : decode cX7_off 0 = .ok (.iload_n 0, 1) := by decide +kernel
theorem dX7_off_1 : decode cX7_off 1 = .ok (.i2l, 1) := by decide +kernel
theorem dX7_off_2 : decode cX7_off 2 = .ok (.iload_n 3, 1) := by decide +kernel
theorem dX7_off_3 : decode cX7_off 3 = .ok (.i2l, 1) := by decide +kernel
theorem dX7_off_4 : decode cX7_off 4 = .ok (.lmul, 1) := by decide +kernel
theorem dX7_off_5 : decode cX7_off 5 = .ok (.iload_n 2, 1) := by decide +kernel
theorem dX7_off_6 : decode cX7_off 6 = .ok (.i2l, 1) := by decide +kernel
theorem dX7_off_7 : decode cX7_off 7 = .ok (.iload_n 1, 1) := by decide +kernel
theorem dX7_off_8 : decode cX7_off 8 = .ok (.i2l, 1) := by decide +kernel
theorem dX7_off_9 : decode cX7_off 9 = .ok (.lmul, 1) := by decide +kernel
theorem dX7_off_10 : decode cX7_off 10 = .ok (.lsub, 1) := by decide +kernel
theorem dX7_off_11 : decode cX7_off 11 = .ok (.invokestatic 107, 3) := by decide +kernel
theorem dX7_off_14 : decode cX7_off 14 = .ok (.lreturn, 1) := by decide +kernel
set_option maxRecDepth 20000 in
theorem ggX7_digest_X7_solve : GoodIn wsX7_digest wsX7_solve := goodIn_r _ [19, 3, 11, 7, 9, 20, 10, 8, 21, 13, 22, 23, 14, 24, 25, 26, 18, 27, 28, 29, 30, 31, 32, 33, 34, 35, 36, 37, 38, 39, 40, 41, 42, 43, 44, 45, 46, 47, 48, 49, 50, 51, 52, 53, 54, 55, 56, 57, 58, 59, 60, 61, 62, 63, 64, 65, 66, 67, 68, 69, 70, 71, 72, 73, 74, 75, 76, 77, 78, 79, 80, 115, 116, 117, 118, 119, 120, 121, 122, 123, 124, 125, 126, 127, 128, 129, 130, 131, 132, 133, 134] (by decide +kernel) (by decide +kernel)
set_option maxRecDepth 20000 in
theorem gX7_digest_X7_solve : GoodIn wsX7_digest (wsV RX7 158 RX7 yX7_solve wsX7_solve) := goodIn_app (goodIn_of _ (by decide +kernel)) ggX7_digest_X7_solve
set_option maxRecDepth 20000 in
theorem ggX7_digest_X7_hasSpeed : GoodIn wsX7_digest wsX7_hasSpeed := goodIn_r _ [32, 10, 115, 116, 117, 118, 119, 120, 121, 122, 123, 124, 125, 126, 127, 128, 129, 130, 131, 132, 133, 134] (by decide +kernel) (by decide +kernel)
set_option maxRecDepth 20000 in
theorem gX7_digest_X7_hasSpeed : GoodIn wsX7_digest (wsV RX7 126 RX7 yX7_hasSpeed wsX7_hasSpeed) := goodIn_app (goodIn_of _ (by decide +kernel)) ggX7_digest_X7_hasSpeed
set_option maxRecDepth 20000 in
theorem ggX7_digest_X7_brokenOnes : GoodIn wsX7_digest wsX7_brokenOnes := goodIn_r _ [84, 14, 13, 85, 86, 87, 18, 88, 69, 51, 52, 9, 10, 65, 66, 67, 68, 29, 30, 31, 32, 77, 78, 79, 80, 47, 48, 49, 50, 53, 54, 55, 56, 57, 58, 59, 89, 90, 91, 92, 22, 23, 24, 25, 26, 27, 28, 43, 44, 45, 46, 38, 39, 40, 41, 42, 115, 116, 117, 118, 119, 120, 121, 122, 123, 124, 125, 126, 127, 128, 129, 130, 131, 132, 133, 134] (by decide +kernel) (by decide +kernel)
set_option maxRecDepth 20000 in
theorem gX7_digest_X7_brokenOnes : GoodIn wsX7_digest (wsV RX7 171 RX7 yX7_brokenOnes wsX7_brokenOnes) := goodIn_app (goodIn_of _ (by decide +kernel)) ggX7_digest_X7_brokenOnes
set_option maxRecDepth 20000 in
theorem ggX7_digest_X7_misfitting : GoodIn wsX7_digest wsX7_misfitting := goodIn_r _ [96, 13, 22, 23, 24, 25, 26, 18, 27, 28, 97, 98, 99, 100, 5, 6, 101, 102, 103, 104, 105, 106, 107, 108, 109, 58, 110, 43, 44, 45, 46, 111, 112, 113, 114, 38, 39, 40, 41, 42, 115, 116, 117, 118, 119, 120, 121, 122, 123, 124, 125, 126, 127, 128, 129, 130, 131, 132, 133, 134] (by decide +kernel) (by decide +kernel)
set_option maxRecDepth 20000 in
theorem gX7_digest_X7_misfitting : GoodIn wsX7_digest (wsV RX7 187 RX7 yX7_misfitting wsX7_misfitting) := goodIn_app (goodIn_of _ (by decide +kernel)) ggX7_digest_X7_misfitting
theorem dX7_digest_0 : decode cX7_digest 0 = .ok (.aload_n 0, 1) := by decide +kernel
theorem dX7_digest_1 : decode cX7_digest 1 = .ok (.iconst 0, 1) := by decide +kernel
theorem dX7_digest_2 : decode cX7_digest 2 = .ok (.putfield 49, 3) := by decide +kernel
theorem dX7_digest_5 : decode cX7_digest 5 = .ok (.aload_n 0, 1) := by decide +kernel
theorem dX7_digest_6 : decode cX7_digest 6 = .ok (.invokevirtual 158, 3) := by decide +kernel
theorem dX7_digest_9 : decode cX7_digest 9 = .ok (.ldc2_w 201, 3) := by decide +kernel
theorem dX7_digest_12 : decode cX7_digest 12 = .ok (.aload_n 0, 1) := by decide +kernel
theorem dX7_digest_13 : decode cX7_digest 13 = .ok (.getfield 52, 3) := by decide +kernel
theorem dX7_digest_16 : decode cX7_digest 16 = .ok (.i2l, 1) := by decide +kernel
theorem dX7_digest_17 : decode cX7_digest 17 = .ok (.ladd, 1) := by decide +kernel
theorem dX7_digest_18 : decode cX7_digest 18 = .ok (.lstore_n 1, 1) := by decide +kernel
theorem dX7_digest_19 : decode cX7_digest 19 = .ok (.iconst 0, 1) := by decide +kernel
theorem dX7_digest_20 : decode cX7_digest 20 = .ok (.istore_n 3, 1) := by decide +kernel
theorem dX7_digest_21 : decode cX7_digest 21 = .ok (.iload_n 3, 1) := by decide +kernel
theorem dX7_digest_22 : decode cX7_digest 22 = .ok (.aload_n 0, 1) := by decide +kernel
theorem dX7_digest_23 : decode cX7_digest 23 = .ok (.getfield 52, 3) := by decide +kernel
theorem dX7_digest_26 : decode cX7_digest 26 = .ok (.if_icmp .ge 98, 3) := by decide +kernel
theorem dX7_digest_29 : decode cX7_digest 29 = .ok (.lload_n 1, 1) := by decide +kernel
theorem dX7_digest_30 : decode cX7_digest 30 = .ok (.ldc2_w 203, 3) := by decide +kernel
theorem dX7_digest_33 : decode cX7_digest 33 = .ok (.lmul, 1) := by decide +kernel
theorem dX7_digest_34 : decode cX7_digest 34 = .ok (.aload_n 0, 1) := by decide +kernel
theorem dX7_digest_35 : decode cX7_digest 35 = .ok (.getfield 9, 3) := by decide +kernel
theorem dX7_digest_38 : decode cX7_digest 38 = .ok (.iload_n 3, 1) := by decide +kernel
theorem dX7_digest_39 : decode cX7_digest 39 = .ok (.iaload, 1) := by decide +kernel
theorem dX7_digest_40 : decode cX7_digest 40 = .ok (.i2l, 1) := by decide +kernel
theorem dX7_digest_41 : decode cX7_digest 41 = .ok (.ladd, 1) := by decide +kernel
theorem dX7_digest_42 : decode cX7_digest 42 = .ok (.ldc2_w 203, 3) := by decide +kernel
theorem dX7_digest_45 : decode cX7_digest 45 = .ok (.lmul, 1) := by decide +kernel
theorem dX7_digest_46 : decode cX7_digest 46 = .ok (.aload_n 0, 1) := by decide +kernel
theorem dX7_digest_47 : decode cX7_digest 47 = .ok (.getfield 13, 3) := by decide +kernel
theorem dX7_digest_50 : decode cX7_digest 50 = .ok (.iload_n 3, 1) := by decide +kernel
theorem dX7_digest_51 : decode cX7_digest 51 = .ok (.iaload, 1) := by decide +kernel
theorem dX7_digest_52 : decode cX7_digest 52 = .ok (.i2l, 1) := by decide +kernel
theorem dX7_digest_53 : decode cX7_digest 53 = .ok (.ladd, 1) := by decide +kernel
theorem dX7_digest_54 : decode cX7_digest 54 = .ok (.ldc2_w 203, 3) := by decide +kernel
theorem dX7_digest_57 : decode cX7_digest 57 = .ok (.lmul, 1) := by decide +kernel
theorem dX7_digest_58 : decode cX7_digest 58 = .ok (.aload_n 0, 1) := by decide +kernel
theorem dX7_digest_59 : decode cX7_digest 59 = .ok (.getfield 16, 3) := by decide +kernel
theorem dX7_digest_62 : decode cX7_digest 62 = .ok (.iload_n 3, 1) := by decide +kernel
theorem dX7_digest_63 : decode cX7_digest 63 = .ok (.baload, 1) := by decide +kernel
theorem dX7_digest_64 : decode cX7_digest 64 = .ok (.ifCond .eq 7, 3) := by decide +kernel
theorem dX7_digest_67 : decode cX7_digest 67 = .ok (.lconst 1, 1) := by decide +kernel
theorem dX7_digest_68 : decode cX7_digest 68 = .ok (.goto 4, 3) := by decide +kernel
theorem dX7_digest_71 : decode cX7_digest 71 = .ok (.lconst 0, 1) := by decide +kernel
theorem dX7_digest_72 : decode cX7_digest 72 = .ok (.ladd, 1) := by decide +kernel
theorem dX7_digest_73 : decode cX7_digest 73 = .ok (.ldc2_w 203, 3) := by decide +kernel
theorem dX7_digest_76 : decode cX7_digest 76 = .ok (.lmul, 1) := by decide +kernel
theorem dX7_digest_77 : decode cX7_digest 77 = .ok (.aload_n 0, 1) := by decide +kernel
theorem dX7_digest_78 : decode cX7_digest 78 = .ok (.getfield 46, 3) := by decide +kernel
theorem dX7_digest_81 : decode cX7_digest 81 = .ok (.iload_n 3, 1) := by decide +kernel
theorem dX7_digest_82 : decode cX7_digest 82 = .ok (.iaload, 1) := by decide +kernel
theorem dX7_digest_83 : decode cX7_digest 83 = .ok (.i2l, 1) := by decide +kernel
theorem dX7_digest_84 : decode cX7_digest 84 = .ok (.ladd, 1) := by decide +kernel
theorem dX7_digest_85 : decode cX7_digest 85 = .ok (.lstore_n 1, 1) := by decide +kernel
theorem dX7_digest_86 : decode cX7_digest 86 = .ok (.aload_n 0, 1) := by decide +kernel
theorem dX7_digest_87 : decode cX7_digest 87 = .ok (.iload_n 3, 1) := by decide +kernel
theorem dX7_digest_88 : decode cX7_digest 88 = .ok (.invokevirtual 126, 3) := by decide +kernel
theorem dX7_digest_91 : decode cX7_digest 91 = .ok (.ifCond .eq 27, 3) := by decide +kernel
theorem dX7_digest_94 : decode cX7_digest 94 = .ok (.lload_n 1, 1) := by decide +kernel
theorem dX7_digest_95 : decode cX7_digest 95 = .ok (.ldc2_w 203, 3) := by decide +kernel
theorem dX7_digest_98 : decode cX7_digest 98 = .ok (.lmul, 1) := by decide +kernel
theorem dX7_digest_99 : decode cX7_digest 99 = .ok (.aload_n 0, 1) := by decide +kernel
theorem dX7_digest_100 : decode cX7_digest 100 = .ok (.getfield 39, 3) := by decide +kernel
theorem dX7_digest_103 : decode cX7_digest 103 = .ok (.iload_n 3, 1) := by decide +kernel
theorem dX7_digest_104 : decode cX7_digest 104 = .ok (.laload, 1) := by decide +kernel
theorem dX7_digest_105 : decode cX7_digest 105 = .ok (.ladd, 1) := by decide +kernel
theorem dX7_digest_106 : decode cX7_digest 106 = .ok (.ldc2_w 203, 3) := by decide +kernel
theorem dX7_digest_109 : decode cX7_digest 109 = .ok (.lmul, 1) := by decide +kernel
theorem dX7_digest_110 : decode cX7_digest 110 = .ok (.aload_n 0, 1) := by decide +kernel
theorem dX7_digest_111 : decode cX7_digest 111 = .ok (.getfield 43, 3) := by decide +kernel
theorem dX7_digest_114 : decode cX7_digest 114 = .ok (.iload_n 3, 1) := by decide +kernel
theorem dX7_digest_115 : decode cX7_digest 115 = .ok (.laload, 1) := by decide +kernel
theorem dX7_digest_116 : decode cX7_digest 116 = .ok (.ladd, 1) := by decide +kernel
theorem dX7_digest_117 : decode cX7_digest 117 = .ok (.lstore_n 1, 1) := by decide +kernel
theorem dX7_digest_118 : decode cX7_digest 118 = .ok (.iinc 3 1, 3) := by decide +kernel
theorem dX7_digest_121 : decode cX7_digest 121 = .ok (.goto (-100), 3) := by decide +kernel
theorem dX7_digest_124 : decode cX7_digest 124 = .ok (.lload_n 1, 1) := by decide +kernel
theorem dX7_digest_125 : decode cX7_digest 125 = .ok (.ldc2_w 203, 3) := by decide +kernel
theorem dX7_digest_128 : decode cX7_digest 128 = .ok (.lmul, 1) := by decide +kernel
theorem dX7_digest_129 : decode cX7_digest 129 = .ok (.aload_n 0, 1) := by decide +kernel
theorem dX7_digest_130 : decode cX7_digest 130 = .ok (.getfield 20, 3) := by decide +kernel
theorem dX7_digest_133 : decode cX7_digest 133 = .ok (.i2l, 1) := by decide +kernel
theorem dX7_digest_134 : decode cX7_digest 134 = .ok (.ladd, 1) := by decide +kernel
theorem dX7_digest_135 : decode cX7_digest 135 = .ok (.ldc2_w 203, 3) := by decide +kernel
theorem dX7_digest_138 : decode cX7_digest 138 = .ok (.lmul, 1) := by decide +kernel
theorem dX7_digest_139 : decode cX7_digest 139 = .ok (.aload_n 0, 1) := by decide +kernel
theorem dX7_digest_140 : decode cX7_digest 140 = .ok (.getfield 59, 3) := by decide +kernel
theorem dX7_digest_143 : decode cX7_digest 143 = .ok (.i2l, 1) := by decide +kernel
theorem dX7_digest_144 : decode cX7_digest 144 = .ok (.ladd, 1) := by decide +kernel
theorem dX7_digest_145 : decode cX7_digest 145 = .ok (.ldc2_w 203, 3) := by decide +kernel
theorem dX7_digest_148 : decode cX7_digest 148 = .ok (.lmul, 1) := by decide +kernel
theorem dX7_digest_149 : decode cX7_digest 149 = .ok (.aload_n 0, 1) := by decide +kernel
theorem dX7_digest_150 : decode cX7_digest 150 = .ok (.getfield 77, 3) := by decide +kernel
theorem dX7_digest_153 : decode cX7_digest 153 = .ok (.i2l, 1) := by decide +kernel
theorem dX7_digest_154 : decode cX7_digest 154 = .ok (.ladd, 1) := by decide +kernel
theorem dX7_digest_155 : decode cX7_digest 155 = .ok (.ldc2_w 203, 3) := by decide +kernel
theorem dX7_digest_158 : decode cX7_digest 158 = .ok (.lmul, 1) := by decide +kernel
theorem dX7_digest_159 : decode cX7_digest 159 = .ok (.aload_n 0, 1) := by decide +kernel
theorem dX7_digest_160 : decode cX7_digest 160 = .ok (.getfield 101, 3) := by decide +kernel
theorem dX7_digest_163 : decode cX7_digest 163 = .ok (.i2l, 1) := by decide +kernel
theorem dX7_digest_164 : decode cX7_digest 164 = .ok (.ladd, 1) := by decide +kernel
theorem dX7_digest_165 : decode cX7_digest 165 = .ok (.lstore_n 1, 1) := by decide +kernel
theorem dX7_digest_166 : decode cX7_digest 166 = .ok (.lload_n 1, 1) := by decide +kernel
theorem dX7_digest_167 : decode cX7_digest 167 = .ok (.ldc2_w 203, 3) := by decide +kernel
theorem dX7_digest_170 : decode cX7_digest 170 = .ok (.lmul, 1) := by decide +kernel
theorem dX7_digest_171 : decode cX7_digest 171 = .ok (.aload_n 0, 1) := by decide +kernel
theorem dX7_digest_172 : decode cX7_digest 172 = .ok (.iconst 0, 1) := by decide +kernel
theorem dX7_digest_173 : decode cX7_digest 173 = .ok (.invokevirtual 171, 3) := by decide +kernel
theorem dX7_digest_176 : decode cX7_digest 176 = .ok (.i2l, 1) := by decide +kernel
theorem dX7_digest_177 : decode cX7_digest 177 = .ok (.ladd, 1) := by decide +kernel
theorem dX7_digest_178 : decode cX7_digest 178 = .ok (.ldc2_w 203, 3) := by decide +kernel
theorem dX7_digest_181 : decode cX7_digest 181 = .ok (.lmul, 1) := by decide +kernel
theorem dX7_digest_182 : decode cX7_digest 182 = .ok (.aload_n 0, 1) := by decide +kernel
theorem dX7_digest_183 : decode cX7_digest 183 = .ok (.iconst 1, 1) := by decide +kernel
theorem dX7_digest_184 : decode cX7_digest 184 = .ok (.invokevirtual 171, 3) := by decide +kernel
theorem dX7_digest_187 : decode cX7_digest 187 = .ok (.i2l, 1) := by decide +kernel
theorem dX7_digest_188 : decode cX7_digest 188 = .ok (.ladd, 1) := by decide +kernel
theorem dX7_digest_189 : decode cX7_digest 189 = .ok (.ldc2_w 203, 3) := by decide +kernel
theorem dX7_digest_192 : decode cX7_digest 192 = .ok (.lmul, 1) := by decide +kernel
theorem dX7_digest_193 : decode cX7_digest 193 = .ok (.aload_n 0, 1) := by decide +kernel
theorem dX7_digest_194 : decode cX7_digest 194 = .ok (.invokevirtual 187, 3) := by decide +kernel
theorem dX7_digest_197 : decode cX7_digest 197 = .ok (.i2l, 1) := by decide +kernel
theorem dX7_digest_198 : decode cX7_digest 198 = .ok (.ladd, 1) := by decide +kernel
theorem dX7_digest_199 : decode cX7_digest 199 = .ok (.lreturn, 1) := by decide +kernel
theorem dJ9_abs_0f7a4_0 : decode cJ9_abs_0f7a4 0 = .ok (.iload_n 0, 1) := by decide +kernel
theorem dJ9_abs_0f7a4_1 : decode cJ9_abs_0f7a4 1 = .ok (.ifCond .ge 8, 3) := by decide +kernel
theorem dJ9_abs_0f7a4_4 : decode cJ9_abs_0f7a4 4 = .ok (.iload_n 0, 1) := by decide +kernel
theorem dJ9_abs_0f7a4_5 : decode cJ9_abs_0f7a4 5 = .ok (.ineg, 1) := by decide +kernel
theorem dJ9_abs_0f7a4_6 : decode cJ9_abs_0f7a4 6 = .ok (.goto 4, 3) := by decide +kernel
theorem dJ9_abs_0f7a4_9 : decode cJ9_abs_0f7a4 9 = .ok (.iload_n 0, 1) := by decide +kernel
theorem dJ9_abs_0f7a4_10 : decode cJ9_abs_0f7a4 10 = .ok (.ireturn, 1) := by decide +kernel
theorem dJ9_abs_067f4_0 : decode cJ9_abs_067f4 0 = .ok (.lload_n 0, 1) := by decide +kernel
theorem dJ9_abs_067f4_1 : decode cJ9_abs_067f4 1 = .ok (.lconst 0, 1) := by decide +kernel
theorem dJ9_abs_067f4_2 : decode cJ9_abs_067f4 2 = .ok (.lcmp, 1) := by decide +kernel
theorem dJ9_abs_067f4_3 : decode cJ9_abs_067f4 3 = .ok (.ifCond .ge 8, 3) := by decide +kernel
theorem dJ9_abs_067f4_6 : decode cJ9_abs_067f4 6 = .ok (.lload_n 0, 1) := by decide +kernel
theorem dJ9_abs_067f4_7 : decode cJ9_abs_067f4 7 = .ok (.lneg, 1) := by decide +kernel
theorem dJ9_abs_067f4_8 : decode cJ9_abs_067f4 8 = .ok (.goto 4, 3) := by decide +kernel
theorem dJ9_abs_067f4_11 : decode cJ9_abs_067f4 11 = .ok (.lload_n 0, 1) := by decide +kernel
theorem dJ9_abs_067f4_12 : decode cJ9_abs_067f4 12 = .ok (.lreturn, 1) := by decide +kernel
theorem dJ9_max_7cf53_0 : decode cJ9_max_7cf53 0 = .ok (.iload_n 0, 1) := by decide +kernel
theorem dJ9_max_7cf53_1 : decode cJ9_max_7cf53 1 = .ok (.iload_n 1, 1) := by decide +kernel
theorem dJ9_max_7cf53_2 : decode cJ9_max_7cf53 2 = .ok (.if_icmp .lt 7, 3) := by decide +kernel
theorem dJ9_max_7cf53_5 : decode cJ9_max_7cf53 5 = .ok (.iload_n 0, 1) := by decide +kernel
theorem dJ9_max_7cf53_6 : decode cJ9_max_7cf53 6 = .ok (.goto 4, 3) := by decide +kernel
theorem dJ9_max_7cf53_9 : decode cJ9_max_7cf53 9 = .ok (.iload_n 1, 1) := by decide +kernel
theorem dJ9_max_7cf53_10 : decode cJ9_max_7cf53 10 = .ok (.ireturn, 1) := by decide +kernel
theorem dJ9_min_7cf53_0 : decode cJ9_min_7cf53 0 = .ok (.iload_n 0, 1) := by decide +kernel
theorem dJ9_min_7cf53_1 : decode cJ9_min_7cf53 1 = .ok (.iload_n 1, 1) := by decide +kernel
theorem dJ9_min_7cf53_2 : decode cJ9_min_7cf53 2 = .ok (.if_icmp .gt 7, 3) := by decide +kernel
theorem dJ9_min_7cf53_5 : decode cJ9_min_7cf53 5 = .ok (.iload_n 0, 1) := by decide +kernel
theorem dJ9_min_7cf53_6 : decode cJ9_min_7cf53 6 = .ok (.goto 4, 3) := by decide +kernel
theorem dJ9_min_7cf53_9 : decode cJ9_min_7cf53 9 = .ok (.iload_n 1, 1) := by decide +kernel
theorem dJ9_min_7cf53_10 : decode cJ9_min_7cf53 10 = .ok (.ireturn, 1) := by decide +kernel
theorem dJxa1e45_init_da8c8_0 : decode cJxa1e45_init_da8c8 0 = .ok (.aload_n 0, 1) := by decide +kernel
theorem dJxa1e45_init_da8c8_1 : decode cJxa1e45_init_da8c8 1 = .ok (.invokespecial 1, 3) := by decide +kernel
theorem dJxa1e45_init_da8c8_4 : decode cJxa1e45_init_da8c8 4 = .ok (.return_, 1) := by decide +kernel
set_option maxRecDepth 20000 in
theorem ggJxc12de_init_da8c8_Jxa1e45_init_da8c8 : GoodIn wsJxc12de_init_da8c8 wsJxa1e45_init_da8c8 := goodIn_r _ [5, 6, 7, 8] (by decide +kernel) (by decide +kernel)
set_option maxRecDepth 20000 in
theorem gJxc12de_init_da8c8_Jxa1e45_init_da8c8 : GoodIn wsJxc12de_init_da8c8 (wsJxa1e45_init_da8c8) := ggJxc12de_init_da8c8_Jxa1e45_init_da8c8
theorem dJxc12de_init_da8c8_0 : decode cJxc12de_init_da8c8 0 = .ok (.aload_n 0, 1) := by decide +kernel
theorem dJxc12de_init_da8c8_1 : decode cJxc12de_init_da8c8 1 = .ok (.invokespecial 1, 3) := by decide +kernel
theorem dJxc12de_init_da8c8_4 : decode cJxc12de_init_da8c8 4 = .ok (.aload_n 0, 1) := by decide +kernel
theorem dJxc12de_init_da8c8_5 : decode cJxc12de_init_da8c8 5 = .ok (.iconst 0, 1) := by decide +kernel
theorem dJxc12de_init_da8c8_6 : decode cJxc12de_init_da8c8 6 = .ok (.putfield 7, 3) := by decide +kernel
theorem dJxc12de_init_da8c8_9 : decode cJxc12de_init_da8c8 9 = .ok (.return_, 1) := by decide +kernel
set_option maxRecDepth 20000 in
theorem ggJx4a65c_init_da8c8_Jxc12de_init_da8c8 : GoodIn wsJx4a65c_init_da8c8 wsJxc12de_init_da8c8 := goodIn_r _ [6, 7, 8, 9, 10, 11, 12, 13, 14, 15, 16, 17] (by decide +kernel) (by decide +kernel)
set_option maxRecDepth 20000 in
theorem gJx4a65c_init_da8c8_Jxc12de_init_da8c8 : GoodIn wsJx4a65c_init_da8c8 (wsJxc12de_init_da8c8) := ggJx4a65c_init_da8c8_Jxc12de_init_da8c8
theorem dJx4a65c_init_da8c8_0 : decode cJx4a65c_init_da8c8 0 = .ok (.aload_n 0, 1) := by decide +kernel
theorem dJx4a65c_init_da8c8_1 : decode cJx4a65c_init_da8c8 1 = .ok (.invokespecial 1, 3) := by decide +kernel
theorem dJx4a65c_init_da8c8_4 : decode cJx4a65c_init_da8c8 4 = .ok (.aload_n 0, 1) := by decide +kernel
theorem dJx4a65c_init_da8c8_5 : decode cJx4a65c_init_da8c8 5 = .ok (.getstatic 39, 3) := by decide +kernel
theorem dJx4a65c_init_da8c8_8 : decode cJx4a65c_init_da8c8 8 = .ok (.putfield 9, 3) := by decide +kernel
theorem dJx4a65c_init_da8c8_11 : decode cJx4a65c_init_da8c8 11 = .ok (.return_, 1) := by decide +kernel
set_option maxRecDepth 20000 in
theorem ggJx4a65c_grow_92f84_J8_newLength_cabcc : GoodIn wsJx4a65c_grow_92f84 wsJ8_newLength_cabcc := goodIn_r _ [11, 12, 4, 5, 6, 13, 14, 15, 10, 16] (by decide +kernel) (by decide +kernel)
set_option maxRecDepth 20000 in
theorem gJx4a65c_grow_92f84_J8_newLength_cabcc : GoodIn wsJx4a65c_grow_92f84 (va_wsS RJx4a65c 73 yJ8_newLength_cabcc wsJ8_newLength_cabcc) := goodIn_app (goodIn_of _ (by decide +kernel)) ggJx4a65c_grow_92f84_J8_newLength_cabcc
set_option maxRecDepth 20000 in
theorem ggJx4a65c_grow_92f84_J7_copyOf_1904c : GoodIn wsJx4a65c_grow_92f84 wsJ7_copyOf_1904c := goodIn_r _ [20, 21, 22, 23, 24, 25, 26, 19, 27, 28, 29, 30, 31, 5, 32, 33, 34, 35, 36] (by decide +kernel) (by decide +kernel)
set_option maxRecDepth 20000 in
theorem gJx4a65c_grow_92f84_J7_copyOf_1904c : GoodIn wsJx4a65c_grow_92f84 (va_wsS RJx4a65c 66 yJ7_copyOf_1904c wsJ7_copyOf_1904c) := goodIn_app (goodIn_of _ (by decide +kernel)) ggJx4a65c_grow_92f84_J7_copyOf_1904c
theorem dJx4a65c_grow_92f84_0 : decode cJx4a65c_grow_92f84 0 = .ok (.aload_n 0, 1) := by decide +kernel
theorem dJx4a65c_grow_92f84_1 : decode cJx4a65c_grow_92f84 1 = .ok (.getfield 9, 3) := by decide +kernel
theorem dJx4a65c_grow_92f84_4 : decode cJx4a65c_grow_92f84 4 = .ok (.arraylength, 1) := by decide +kernel
theorem dJx4a65c_grow_92f84_5 : decode cJx4a65c_grow_92f84 5 = .ok (.istore_n 2, 1) := by decide +kernel
theorem dJx4a65c_grow_92f84_6 : decode cJx4a65c_grow_92f84 6 = .ok (.iload_n 2, 1) := by decide +kernel
theorem dJx4a65c_grow_92f84_7 : decode cJx4a65c_grow_92f84 7 = .ok (.ifCond .gt 13, 3) := by decide +kernel
theorem dJx4a65c_grow_92f84_10 : decode cJx4a65c_grow_92f84 10 = .ok (.aload_n 0, 1) := by decide +kernel
theorem dJx4a65c_grow_92f84_11 : decode cJx4a65c_grow_92f84 11 = .ok (.getfield 9, 3) := by decide +kernel
theorem dJx4a65c_grow_92f84_14 : decode cJx4a65c_grow_92f84 14 = .ok (.getstatic 39, 3) := by decide +kernel
theorem dJx4a65c_grow_92f84_17 : decode cJx4a65c_grow_92f84 17 = .ok (.if_acmp .eq 28, 3) := by decide +kernel
theorem dJx4a65c_grow_92f84_20 : decode cJx4a65c_grow_92f84 20 = .ok (.iload_n 2, 1) := by decide +kernel
theorem dJx4a65c_grow_92f84_21 : decode cJx4a65c_grow_92f84 21 = .ok (.iload_n 1, 1) := by decide +kernel
theorem dJx4a65c_grow_92f84_22 : decode cJx4a65c_grow_92f84 22 = .ok (.iload_n 2, 1) := by decide +kernel
theorem dJx4a65c_grow_92f84_23 : decode cJx4a65c_grow_92f84 23 = .ok (.isub, 1) := by decide +kernel
theorem dJx4a65c_grow_92f84_24 : decode cJx4a65c_grow_92f84 24 = .ok (.iload_n 2, 1) := by decide +kernel
theorem dJx4a65c_grow_92f84_25 : decode cJx4a65c_grow_92f84 25 = .ok (.iconst 1, 1) := by decide +kernel
theorem dJx4a65c_grow_92f84_26 : decode cJx4a65c_grow_92f84 26 = .ok (.ishr, 1) := by decide +kernel
theorem dJx4a65c_grow_92f84_27 : decode cJx4a65c_grow_92f84 27 = .ok (.invokestatic 73, 3) := by decide +kernel
theorem dJx4a65c_grow_92f84_30 : decode cJx4a65c_grow_92f84 30 = .ok (.istore_n 3, 1) := by decide +kernel
theorem dJx4a65c_grow_92f84_31 : decode cJx4a65c_grow_92f84 31 = .ok (.aload_n 0, 1) := by decide +kernel
theorem dJx4a65c_grow_92f84_32 : decode cJx4a65c_grow_92f84 32 = .ok (.aload_n 0, 1) := by decide +kernel
theorem dJx4a65c_grow_92f84_33 : decode cJx4a65c_grow_92f84 33 = .ok (.getfield 9, 3) := by decide +kernel
theorem dJx4a65c_grow_92f84_36 : decode cJx4a65c_grow_92f84 36 = .ok (.iload_n 3, 1) := by decide +kernel
theorem dJx4a65c_grow_92f84_37 : decode cJx4a65c_grow_92f84 37 = .ok (.invokestatic 66, 3) := by decide +kernel
theorem dJx4a65c_grow_92f84_40 : decode cJx4a65c_grow_92f84 40 = .ok (.dup_x1, 1) := by decide +kernel
theorem dJx4a65c_grow_92f84_41 : decode cJx4a65c_grow_92f84 41 = .ok (.putfield 9, 3) := by decide +kernel
theorem dJx4a65c_grow_92f84_44 : decode cJx4a65c_grow_92f84 44 = .ok (.areturn, 1) := by decide +kernel
theorem dJx4a65c_grow_92f84_45 : decode cJx4a65c_grow_92f84 45 = .ok (.aload_n 0, 1) := by decide +kernel
theorem dJx4a65c_grow_92f84_46 : decode cJx4a65c_grow_92f84 46 = .ok (.bipush 10, 2) := by decide +kernel
theorem dJx4a65c_grow_92f84_48 : decode cJx4a65c_grow_92f84 48 = .ok (.iload_n 1, 1) := by decide +kernel
theorem dJx4a65c_grow_92f84_49 : decode cJx4a65c_grow_92f84 49 = .ok (.invokestatic 79, 3) := by decide +kernel
theorem dJx4a65c_grow_92f84_52 : decode cJx4a65c_grow_92f84 52 = .ok (.anewarray 7, 3) := by decide +kernel
theorem dJx4a65c_grow_92f84_55 : decode cJx4a65c_grow_92f84 55 = .ok (.dup_x1, 1) := by decide +kernel
theorem dJx4a65c_grow_92f84_56 : decode cJx4a65c_grow_92f84 56 = .ok (.putfield 9, 3) := by decide +kernel
theorem dJx4a65c_grow_92f84_59 : decode cJx4a65c_grow_92f84 59 = .ok (.areturn, 1) := by decide +kernel
set_option maxRecDepth 20000 in
theorem ggJx4a65c_grow_d5877_Jx4a65c_grow_92f84 : GoodIn wsJx4a65c_grow_d5877 wsJx4a65c_grow_92f84 := goodIn_r _ [6, 7, 8, 9, 10, 11, 12, 13, 14, 15, 16, 17, 18, 19, 20, 21, 22, 23, 24, 25, 26, 27, 28, 29, 30, 31, 32, 33, 34, 35, 36, 37, 38, 39, 40, 41, 42, 43, 44, 45] (by decide +kernel) (by decide +kernel)
set_option maxRecDepth 20000 in
theorem gJx4a65c_grow_d5877_Jx4a65c_grow_92f84 : GoodIn wsJx4a65c_grow_d5877 (wsV RJx4a65c 69 RJx4a65c yJx4a65c_grow_92f84 wsJx4a65c_grow_92f84) := goodIn_app (goodIn_of _ (by decide +kernel)) ggJx4a65c_grow_d5877_Jx4a65c_grow_92f84
theorem dJx4a65c_grow_d5877_0 : decode cJx4a65c_grow_d5877 0 = .ok (.aload_n 0, 1) := by decide +kernel
theorem dJx4a65c_grow_d5877_1 : decode cJx4a65c_grow_d5877 1 = .ok (.aload_n 0, 1) := by decide +kernel
theorem dJx4a65c_grow_d5877_2 : decode cJx4a65c_grow_d5877 2 = .ok (.getfield 48, 3) := by decide +kernel
theorem dJx4a65c_grow_d5877_5 : decode cJx4a65c_grow_d5877 5 = .ok (.iconst 1, 1) := by decide +kernel
theorem dJx4a65c_grow_d5877_6 : decode cJx4a65c_grow_d5877 6 = .ok (.iadd, 1) := by decide +kernel
theorem dJx4a65c_grow_d5877_7 : decode cJx4a65c_grow_d5877 7 = .ok (.invokevirtual 69, 3) := by decide +kernel
theorem dJx4a65c_grow_d5877_10 : decode cJx4a65c_grow_d5877 10 = .ok (.areturn, 1) := by decide +kernel
theorem dJx4a65c_size_8abf5_0 : decode cJx4a65c_size_8abf5 0 = .ok (.aload_n 0, 1) := by decide +kernel
theorem dJx4a65c_size_8abf5_1 : decode cJx4a65c_size_8abf5 1 = .ok (.getfield 48, 3) := by decide +kernel
theorem dJx4a65c_size_8abf5_4 : decode cJx4a65c_size_8abf5 4 = .ok (.ireturn, 1) := by decide +kernel
theorem dJx4a65c_isEmpty_aae02_0 : decode cJx4a65c_isEmpty_aae02 0 = .ok (.aload_n 0, 1) := by decide +kernel
theorem dJx4a65c_isEmpty_aae02_1 : decode cJx4a65c_isEmpty_aae02 1 = .ok (.getfield 48, 3) := by decide +kernel
theorem dJx4a65c_isEmpty_aae02_4 : decode cJx4a65c_isEmpty_aae02 4 = .ok (.ifCond .ne 7, 3) := by decide +kernel
theorem dJx4a65c_isEmpty_aae02_7 : decode cJx4a65c_isEmpty_aae02 7 = .ok (.iconst 1, 1) := by decide +kernel
theorem dJx4a65c_isEmpty_aae02_8 : decode cJx4a65c_isEmpty_aae02 8 = .ok (.goto 4, 3) := by decide +kernel
theorem dJx4a65c_isEmpty_aae02_11 : decode cJx4a65c_isEmpty_aae02 11 = .ok (.iconst 0, 1) := by decide +kernel
theorem dJx4a65c_isEmpty_aae02_12 : decode cJx4a65c_isEmpty_aae02 12 = .ok (.ireturn, 1) := by decide +kernel
theorem dJx4a65c_elementData_915e3_0 : decode cJx4a65c_elementData_915e3 0 = .ok (.aload_n 0, 1) := by decide +kernel
theorem dJx4a65c_elementData_915e3_1 : decode cJx4a65c_elementData_915e3 1 = .ok (.getfield 9, 3) := by decide +kernel
theorem dJx4a65c_elementData_915e3_4 : decode cJx4a65c_elementData_915e3 4 = .ok (.iload_n 1, 1) := by decide +kernel
theorem dJx4a65c_elementData_915e3_5 : decode cJx4a65c_elementData_915e3 5 = .ok (.aaload, 1) := by decide +kernel
theorem dJx4a65c_elementData_915e3_6 : decode cJx4a65c_elementData_915e3 6 = .ok (.areturn, 1) := by decide +kernel
set_option maxRecDepth 20000 in
theorem ggJx4a65c_get_915e3_J15_checkIndex_7cf53 : GoodIn wsJx4a65c_get_915e3 wsJ15_checkIndex_7cf53 := goodIn_r _ [5, 6, 7, 8, 9] (by decide +kernel) (by decide +kernel)
set_option maxRecDepth 20000 in
theorem gJx4a65c_get_915e3_J15_checkIndex_7cf53 : GoodIn wsJx4a65c_get_915e3 (va_wsS RJx4a65c 118 yJ15_checkIndex_7cf53 wsJ15_checkIndex_7cf53) := goodIn_app (goodIn_of _ (by decide +kernel)) ggJx4a65c_get_915e3_J15_checkIndex_7cf53
set_option maxRecDepth 20000 in
theorem ggJx4a65c_get_915e3_Jx4a65c_elementData_915e3 : GoodIn wsJx4a65c_get_915e3 wsJx4a65c_elementData_915e3 := goodIn_r _ [14, 15, 16, 17, 18] (by decide +kernel) (by decide +kernel)
set_option maxRecDepth 20000 in
theorem gJx4a65c_get_915e3_Jx4a65c_elementData_915e3 : GoodIn wsJx4a65c_get_915e3 (wsV RJx4a65c 123 RJx4a65c yJx4a65c_elementData_915e3 wsJx4a65c_elementData_915e3) := goodIn_app (goodIn_of _ (by decide +kernel)) ggJx4a65c_get_915e3_Jx4a65c_elementData_915e3
theorem dJx4a65c_get_915e3_0 : decode cJx4a65c_get_915e3 0 = .ok (.iload_n 1, 1) := by decide +kernel
theorem dJx4a65c_get_915e3_1 : decode cJx4a65c_get_915e3 1 = .ok (.aload_n 0, 1) := by decide +kernel
theorem dJx4a65c_get_915e3_2 : decode cJx4a65c_get_915e3 2 = .ok (.getfield 48, 3) := by decide +kernel
theorem dJx4a65c_get_915e3_5 : decode cJx4a65c_get_915e3 5 = .ok (.invokestatic 118, 3) := by decide +kernel
theorem dJx4a65c_get_915e3_8 : decode cJx4a65c_get_915e3 8 = .ok (.pop, 1) := by decide +kernel
theorem dJx4a65c_get_915e3_9 : decode cJx4a65c_get_915e3 9 = .ok (.aload_n 0, 1) := by decide +kernel
theorem dJx4a65c_get_915e3_10 : decode cJx4a65c_get_915e3 10 = .ok (.iload_n 1, 1) := by decide +kernel
theorem dJx4a65c_get_915e3_11 : decode cJx4a65c_get_915e3 11 = .ok (.invokevirtual 123, 3) := by decide +kernel
theorem dJx4a65c_get_915e3_14 : decode cJx4a65c_get_915e3 14 = .ok (.areturn, 1) := by decide +kernel
set_option maxRecDepth 20000 in
theorem ggJx4a65c_add_72be8_Jx4a65c_grow_d5877 : GoodIn wsJx4a65c_add_72be8 wsJx4a65c_grow_d5877 := goodIn_r _ [6, 1, 7, 8, 9, 5, 10, 11, 12, 13, 14, 15, 16, 17, 18, 19, 20, 21, 22, 23, 24, 25, 26, 27, 28, 29, 30, 31, 32, 33, 34, 35, 36, 37, 38, 39, 40, 41, 42, 43, 44, 45, 46, 47, 48, 49] (by decide +kernel) (by decide +kernel)
set_option maxRecDepth 20000 in
theorem gJx4a65c_add_72be8_Jx4a65c_grow_d5877 : GoodIn wsJx4a65c_add_72be8 (wsV RJx4a65c 129 RJx4a65c yJx4a65c_grow_d5877 wsJx4a65c_grow_d5877) := goodIn_app (goodIn_of _ (by decide +kernel)) ggJx4a65c_add_72be8_Jx4a65c_grow_d5877
theorem dJx4a65c_add_72be8_0 : decode cJx4a65c_add_72be8 0 = .ok (.iload_n 3, 1) := by decide +kernel
theorem dJx4a65c_add_72be8_1 : decode cJx4a65c_add_72be8 1 = .ok (.aload_n 2, 1) := by decide +kernel
theorem dJx4a65c_add_72be8_2 : decode cJx4a65c_add_72be8 2 = .ok (.arraylength, 1) := by decide +kernel
theorem dJx4a65c_add_72be8_3 : decode cJx4a65c_add_72be8 3 = .ok (.if_icmp .ne 8, 3) := by decide +kernel
theorem dJx4a65c_add_72be8_6 : decode cJx4a65c_add_72be8 6 = .ok (.aload_n 0, 1) := by decide +kernel
theorem dJx4a65c_add_72be8_7 : decode cJx4a65c_add_72be8 7 = .ok (.invokevirtual 129, 3) := by decide +kernel
theorem dJx4a65c_add_72be8_10 : decode cJx4a65c_add_72be8 10 = .ok (.astore_n 2, 1) := by decide +kernel
theorem dJx4a65c_add_72be8_11 : decode cJx4a65c_add_72be8 11 = .ok (.aload_n 2, 1) := by decide +kernel
theorem dJx4a65c_add_72be8_12 : decode cJx4a65c_add_72be8 12 = .ok (.iload_n 3, 1) := by decide +kernel
theorem dJx4a65c_add_72be8_13 : decode cJx4a65c_add_72be8 13 = .ok (.aload_n 1, 1) := by decide +kernel
theorem dJx4a65c_add_72be8_14 : decode cJx4a65c_add_72be8 14 = .ok (.aastore, 1) := by decide +kernel
theorem dJx4a65c_add_72be8_15 : decode cJx4a65c_add_72be8 15 = .ok (.aload_n 0, 1) := by decide +kernel
theorem dJx4a65c_add_72be8_16 : decode cJx4a65c_add_72be8 16 = .ok (.iload_n 3, 1) := by decide +kernel
theorem dJx4a65c_add_72be8_17 : decode cJx4a65c_add_72be8 17 = .ok (.iconst 1, 1) := by decide +kernel
theorem dJx4a65c_add_72be8_18 : decode cJx4a65c_add_72be8 18 = .ok (.iadd, 1) := by decide +kernel
theorem dJx4a65c_add_72be8_19 : decode cJx4a65c_add_72be8 19 = .ok (.putfield 48, 3) := by decide +kernel
theorem dJx4a65c_add_72be8_22 : decode cJx4a65c_add_72be8 22 = .ok (.return_, 1) := by decide +kernel
set_option maxRecDepth 20000 in
theorem ggJx4a65c_add_9ea2d_Jx4a65c_add_72be8 : GoodIn wsJx4a65c_add_9ea2d wsJx4a65c_add_72be8 := goodIn_r _ [9, 4, 10, 11, 12, 8, 13, 14, 15, 16, 17, 3, 18, 19, 20, 21, 22, 23, 24, 25, 26, 27, 28, 29, 30, 31, 32, 33, 34, 35, 36, 37, 38, 39, 40, 41, 42, 43, 44, 45, 46, 47, 48, 49, 50, 51, 52, 53, 54, 55] (by decide +kernel) (by decide +kernel)
set_option maxRecDepth 20000 in
theorem gJx4a65c_add_9ea2d_Jx4a65c_add_72be8 : GoodIn wsJx4a65c_add_9ea2d (wsV RJx4a65c 131 RJx4a65c yJx4a65c_add_72be8 wsJx4a65c_add_72be8) := goodIn_app (goodIn_of _ (by decide +kernel)) ggJx4a65c_add_9ea2d_Jx4a65c_add_72be8
theorem dJx4a65c_add_9ea2d_0 : decode cJx4a65c_add_9ea2d 0 = .ok (.aload_n 0, 1) := by decide +kernel
theorem dJx4a65c_add_9ea2d_1 : decode cJx4a65c_add_9ea2d 1 = .ok (.dup, 1) := by decide +kernel
theorem dJx4a65c_add_9ea2d_2 : decode cJx4a65c_add_9ea2d 2 = .ok (.getfield 63, 3) := by decide +kernel
theorem dJx4a65c_add_9ea2d_5 : decode cJx4a65c_add_9ea2d 5 = .ok (.iconst 1, 1) := by decide +kernel
theorem dJx4a65c_add_9ea2d_6 : decode cJx4a65c_add_9ea2d 6 = .ok (.iadd, 1) := by decide +kernel
theorem dJx4a65c_add_9ea2d_7 : decode cJx4a65c_add_9ea2d 7 = .ok (.putfield 63, 3) := by decide +kernel
theorem dJx4a65c_add_9ea2d_10 : decode cJx4a65c_add_9ea2d 10 = .ok (.aload_n 0, 1) := by decide +kernel
theorem dJx4a65c_add_9ea2d_11 : decode cJx4a65c_add_9ea2d 11 = .ok (.aload_n 1, 1) := by decide +kernel
theorem dJx4a65c_add_9ea2d_12 : decode cJx4a65c_add_9ea2d 12 = .ok (.aload_n 0, 1) := by decide +kernel
theorem dJx4a65c_add_9ea2d_13 : decode cJx4a65c_add_9ea2d 13 = .ok (.getfield 9, 3) := by decide +kernel
theorem dJx4a65c_add_9ea2d_16 : decode cJx4a65c_add_9ea2d 16 = .ok (.aload_n 0, 1) := by decide +kernel
theorem dJx4a65c_add_9ea2d_17 : decode cJx4a65c_add_9ea2d 17 = .ok (.getfield 48, 3) := by decide +kernel
theorem dJx4a65c_add_9ea2d_20 : decode cJx4a65c_add_9ea2d 20 = .ok (.invokevirtual 131, 3) := by decide +kernel
theorem dJx4a65c_add_9ea2d_23 : decode cJx4a65c_add_9ea2d 23 = .ok (.iconst 1, 1) := by decide +kernel
theorem dJx4a65c_add_9ea2d_24 : decode cJx4a65c_add_9ea2d 24 = .ok (.ireturn, 1) := by decide +kernel
set_option maxRecDepth 20000 in
theorem ggJx4a65c_remove_915e3_J15_checkIndex_7cf53 : GoodIn wsJx4a65c_remove_915e3 wsJ15_checkIndex_7cf53 := goodIn_r _ [6, 7, 8, 9, 10] (by decide +kernel) (by decide +kernel)
set_option maxRecDepth 20000 in
theorem gJx4a65c_remove_915e3_J15_checkIndex_7cf53 : GoodIn wsJx4a65c_remove_915e3 (va_wsS RJx4a65c 118 yJ15_checkIndex_7cf53 wsJ15_checkIndex_7cf53) := goodIn_app (goodIn_of _ (by decide +kernel)) ggJx4a65c_remove_915e3_J15_checkIndex_7cf53
set_option maxRecDepth 20000 in
theorem ggJx4a65c_remove_915e3_Jx4a65c_fastRemove_b59b0 : GoodIn wsJx4a65c_remove_915e3 wsJx4a65c_fastRemove_b59b0 := goodIn_r _ [15, 16, 17, 1, 18, 19, 20, 21, 22, 23, 24] (by decide +kernel) (by decide +kernel)
set_option maxRecDepth 20000 in
theorem gJx4a65c_remove_915e3_Jx4a65c_fastRemove_b59b0 : GoodIn wsJx4a65c_remove_915e3 (wsV RJx4a65c 144 RJx4a65c yJx4a65c_fastRemove_b59b0 wsJx4a65c_fastRemove_b59b0) := goodIn_app (goodIn_of _ (by decide +kernel)) ggJx4a65c_remove_915e3_Jx4a65c_fastRemove_b59b0
theorem dJx4a65c_remove_915e3_0 : decode cJx4a65c_remove_915e3 0 = .ok (.iload_n 1, 1) := by decide +kernel
theorem dJx4a65c_remove_915e3_1 : decode cJx4a65c_remove_915e3 1 = .ok (.aload_n 0, 1) := by decide +kernel
theorem dJx4a65c_remove_915e3_2 : decode cJx4a65c_remove_915e3 2 = .ok (.getfield 48, 3) := by decide +kernel
theorem dJx4a65c_remove_915e3_5 : decode cJx4a65c_remove_915e3 5 = .ok (.invokestatic 118, 3) := by decide +kernel
theorem dJx4a65c_remove_915e3_8 : decode cJx4a65c_remove_915e3 8 = .ok (.pop, 1) := by decide +kernel
theorem dJx4a65c_remove_915e3_9 : decode cJx4a65c_remove_915e3 9 = .ok (.aload_n 0, 1) := by decide +kernel
theorem dJx4a65c_remove_915e3_10 : decode cJx4a65c_remove_915e3 10 = .ok (.getfield 9, 3) := by decide +kernel
theorem dJx4a65c_remove_915e3_13 : decode cJx4a65c_remove_915e3 13 = .ok (.astore_n 2, 1) := by decide +kernel
theorem dJx4a65c_remove_915e3_14 : decode cJx4a65c_remove_915e3 14 = .ok (.aload_n 2, 1) := by decide +kernel
theorem dJx4a65c_remove_915e3_15 : decode cJx4a65c_remove_915e3 15 = .ok (.iload_n 1, 1) := by decide +kernel
theorem dJx4a65c_remove_915e3_16 : decode cJx4a65c_remove_915e3 16 = .ok (.aaload, 1) := by decide +kernel
theorem dJx4a65c_remove_915e3_17 : decode cJx4a65c_remove_915e3 17 = .ok (.astore_n 3, 1) := by decide +kernel
theorem dJx4a65c_remove_915e3_18 : decode cJx4a65c_remove_915e3 18 = .ok (.aload_n 0, 1) := by decide +kernel
theorem dJx4a65c_remove_915e3_19 : decode cJx4a65c_remove_915e3 19 = .ok (.aload_n 2, 1) := by decide +kernel
theorem dJx4a65c_remove_915e3_20 : decode cJx4a65c_remove_915e3 20 = .ok (.iload_n 1, 1) := by decide +kernel
theorem dJx4a65c_remove_915e3_21 : decode cJx4a65c_remove_915e3 21 = .ok (.invokevirtual 144, 3) := by decide +kernel
theorem dJx4a65c_remove_915e3_24 : decode cJx4a65c_remove_915e3 24 = .ok (.aload_n 3, 1) := by decide +kernel
theorem dJx4a65c_remove_915e3_25 : decode cJx4a65c_remove_915e3 25 = .ok (.areturn, 1) := by decide +kernel
theorem dJx4a65c_fastRemove_b59b0_0 : decode cJx4a65c_fastRemove_b59b0 0 = .ok (.aload_n 0, 1) := by decide +kernel
theorem dJx4a65c_fastRemove_b59b0_1 : decode cJx4a65c_fastRemove_b59b0 1 = .ok (.dup, 1) := by decide +kernel
theorem dJx4a65c_fastRemove_b59b0_2 : decode cJx4a65c_fastRemove_b59b0 2 = .ok (.getfield 63, 3) := by decide +kernel
theorem dJx4a65c_fastRemove_b59b0_5 : decode cJx4a65c_fastRemove_b59b0 5 = .ok (.iconst 1, 1) := by decide +kernel
theorem dJx4a65c_fastRemove_b59b0_6 : decode cJx4a65c_fastRemove_b59b0 6 = .ok (.iadd, 1) := by decide +kernel
theorem dJx4a65c_fastRemove_b59b0_7 : decode cJx4a65c_fastRemove_b59b0 7 = .ok (.putfield 63, 3) := by decide +kernel
theorem dJx4a65c_fastRemove_b59b0_10 : decode cJx4a65c_fastRemove_b59b0 10 = .ok (.aload_n 0, 1) := by decide +kernel
theorem dJx4a65c_fastRemove_b59b0_11 : decode cJx4a65c_fastRemove_b59b0 11 = .ok (.getfield 48, 3) := by decide +kernel
theorem dJx4a65c_fastRemove_b59b0_14 : decode cJx4a65c_fastRemove_b59b0 14 = .ok (.iconst 1, 1) := by decide +kernel
theorem dJx4a65c_fastRemove_b59b0_15 : decode cJx4a65c_fastRemove_b59b0 15 = .ok (.isub, 1) := by decide +kernel
theorem dJx4a65c_fastRemove_b59b0_16 : decode cJx4a65c_fastRemove_b59b0 16 = .ok (.dup, 1) := by decide +kernel
theorem dJx4a65c_fastRemove_b59b0_17 : decode cJx4a65c_fastRemove_b59b0 17 = .ok (.istore_n 3, 1) := by decide +kernel
theorem dJx4a65c_fastRemove_b59b0_18 : decode cJx4a65c_fastRemove_b59b0 18 = .ok (.iload_n 2, 1) := by decide +kernel
theorem dJx4a65c_fastRemove_b59b0_19 : decode cJx4a65c_fastRemove_b59b0 19 = .ok (.if_icmp .le 15, 3) := by decide +kernel
theorem dJx4a65c_fastRemove_b59b0_22 : decode cJx4a65c_fastRemove_b59b0 22 = .ok (.aload_n 1, 1) := by decide +kernel
theorem dJx4a65c_fastRemove_b59b0_23 : decode cJx4a65c_fastRemove_b59b0 23 = .ok (.iload_n 2, 1) := by decide +kernel
theorem dJx4a65c_fastRemove_b59b0_24 : decode cJx4a65c_fastRemove_b59b0 24 = .ok (.iconst 1, 1) := by decide +kernel
theorem dJx4a65c_fastRemove_b59b0_25 : decode cJx4a65c_fastRemove_b59b0 25 = .ok (.iadd, 1) := by decide +kernel
theorem dJx4a65c_fastRemove_b59b0_26 : decode cJx4a65c_fastRemove_b59b0 26 = .ok (.aload_n 1, 1) := by decide +kernel
theorem dJx4a65c_fastRemove_b59b0_27 : decode cJx4a65c_fastRemove_b59b0 27 = .ok (.iload_n 2, 1) := by decide +kernel
theorem dJx4a65c_fastRemove_b59b0_28 : decode cJx4a65c_fastRemove_b59b0 28 = .ok (.iload_n 3, 1) := by decide +kernel
theorem dJx4a65c_fastRemove_b59b0_29 : decode cJx4a65c_fastRemove_b59b0 29 = .ok (.iload_n 2, 1) := by decide +kernel
theorem dJx4a65c_fastRemove_b59b0_30 : decode cJx4a65c_fastRemove_b59b0 30 = .ok (.isub, 1) := by decide +kernel
theorem dJx4a65c_fastRemove_b59b0_31 : decode cJx4a65c_fastRemove_b59b0 31 = .ok (.invokestatic 112, 3) := by decide +kernel
theorem dJx4a65c_fastRemove_b59b0_34 : decode cJx4a65c_fastRemove_b59b0 34 = .ok (.aload_n 1, 1) := by decide +kernel
theorem dJx4a65c_fastRemove_b59b0_35 : decode cJx4a65c_fastRemove_b59b0 35 = .ok (.aload_n 0, 1) := by decide +kernel
theorem dJx4a65c_fastRemove_b59b0_36 : decode cJx4a65c_fastRemove_b59b0 36 = .ok (.iload_n 3, 1) := by decide +kernel
theorem dJx4a65c_fastRemove_b59b0_37 : decode cJx4a65c_fastRemove_b59b0 37 = .ok (.dup_x1, 1) := by decide +kernel
theorem dJx4a65c_fastRemove_b59b0_38 : decode cJx4a65c_fastRemove_b59b0 38 = .ok (.putfield 48, 3) := by decide +kernel
theorem dJx4a65c_fastRemove_b59b0_41 : decode cJx4a65c_fastRemove_b59b0 41 = .ok (.aconst_null, 1) := by decide +kernel
theorem dJx4a65c_fastRemove_b59b0_42 : decode cJx4a65c_fastRemove_b59b0 42 = .ok (.aastore, 1) := by decide +kernel
theorem dJx4a65c_fastRemove_b59b0_43 : decode cJx4a65c_fastRemove_b59b0 43 = .ok (.return_, 1) := by decide +kernel
set_option maxRecDepth 20000 in
theorem ggJ7_copyOf_1904c_J7_copyOf_6403c : GoodIn wsJ7_copyOf_1904c wsJ7_copyOf_6403c := goodIn_r _ [8, 9, 10, 11, 12, 13, 14, 15, 16, 17, 18] (by decide +kernel) (by decide +kernel)
set_option maxRecDepth 20000 in
theorem gJ7_copyOf_1904c_J7_copyOf_6403c : GoodIn wsJ7_copyOf_1904c (va_wsS RJ7 300 yJ7_copyOf_6403c wsJ7_copyOf_6403c) := goodIn_app (goodIn_of _ (by decide +kernel)) ggJ7_copyOf_1904c_J7_copyOf_6403c
theorem dJ7_copyOf_1904c_0 : decode cJ7_copyOf_1904c 0 = .ok (.aload_n 0, 1) := by decide +kernel
theorem dJ7_copyOf_1904c_1 : decode cJ7_copyOf_1904c 1 = .ok (.iload_n 1, 1) := by decide +kernel
theorem dJ7_copyOf_1904c_2 : decode cJ7_copyOf_1904c 2 = .ok (.aload_n 0, 1) := by decide +kernel
theorem dJ7_copyOf_1904c_3 : decode cJ7_copyOf_1904c 3 = .ok (.invokevirtual 86, 3) := by decide +kernel
theorem dJ7_copyOf_1904c_6 : decode cJ7_copyOf_1904c 6 = .ok (.invokestatic 300, 3) := by decide +kernel
theorem dJ7_copyOf_1904c_9 : decode cJ7_copyOf_1904c 9 = .ok (.areturn, 1) := by decide +kernel
theorem dJ7_copyOf_6403c_0 : decode cJ7_copyOf_6403c 0 = .ok (.aload_n 2, 1) := by decide +kernel
theorem dJ7_copyOf_6403c_1 : decode cJ7_copyOf_6403c 1 = .ok (.ldc 110, 2) := by decide +kernel
theorem dJ7_copyOf_6403c_3 : decode cJ7_copyOf_6403c 3 = .ok (.if_acmp .ne 10, 3) := by decide +kernel
theorem dJ7_copyOf_6403c_6 : decode cJ7_copyOf_6403c 6 = .ok (.iload_n 1, 1) := by decide +kernel
theorem dJ7_copyOf_6403c_7 : decode cJ7_copyOf_6403c 7 = .ok (.anewarray 2, 3) := by decide +kernel
theorem dJ7_copyOf_6403c_10 : decode cJ7_copyOf_6403c 10 = .ok (.goto 14, 3) := by decide +kernel
theorem dJ7_copyOf_6403c_13 : decode cJ7_copyOf_6403c 13 = .ok (.aload_n 2, 1) := by decide +kernel
theorem dJ7_copyOf_6403c_14 : decode cJ7_copyOf_6403c 14 = .ok (.invokevirtual 90, 3) := by decide +kernel
theorem dJ7_copyOf_6403c_17 : decode cJ7_copyOf_6403c 17 = .ok (.iload_n 1, 1) := by decide +kernel
theorem dJ7_copyOf_6403c_18 : decode cJ7_copyOf_6403c 18 = .ok (.invokestatic 95, 3) := by decide +kernel
theorem dJ7_copyOf_6403c_21 : decode cJ7_copyOf_6403c 21 = .ok (.checkcast 110, 3) := by decide +kernel
theorem dJ7_copyOf_6403c_24 : decode cJ7_copyOf_6403c 24 = .ok (.astore_n 3, 1) := by decide +kernel
theorem dJ7_copyOf_6403c_25 : decode cJ7_copyOf_6403c 25 = .ok (.aload_n 0, 1) := by decide +kernel
theorem dJ7_copyOf_6403c_26 : decode cJ7_copyOf_6403c 26 = .ok (.iconst 0, 1) := by decide +kernel
theorem dJ7_copyOf_6403c_27 : decode cJ7_copyOf_6403c 27 = .ok (.aload_n 3, 1) := by decide +kernel
theorem dJ7_copyOf_6403c_28 : decode cJ7_copyOf_6403c 28 = .ok (.iconst 0, 1) := by decide +kernel
theorem dJ7_copyOf_6403c_29 : decode cJ7_copyOf_6403c 29 = .ok (.aload_n 0, 1) := by decide +kernel
theorem dJ7_copyOf_6403c_30 : decode cJ7_copyOf_6403c 30 = .ok (.arraylength, 1) := by decide +kernel
theorem dJ7_copyOf_6403c_31 : decode cJ7_copyOf_6403c 31 = .ok (.iload_n 1, 1) := by decide +kernel
theorem dJ7_copyOf_6403c_32 : decode cJ7_copyOf_6403c 32 = .ok (.invokestatic 304, 3) := by decide +kernel
theorem dJ7_copyOf_6403c_35 : decode cJ7_copyOf_6403c 35 = .ok (.invokestatic 150, 3) := by decide +kernel
theorem dJ7_copyOf_6403c_38 : decode cJ7_copyOf_6403c 38 = .ok (.aload_n 3, 1) := by decide +kernel
theorem dJ7_copyOf_6403c_39 : decode cJ7_copyOf_6403c 39 = .ok (.areturn, 1) := by decide +kernel
set_option maxRecDepth 20000 in
theorem ggJ15_checkIndex_7cf53_J3_checkIndex_8e157 : GoodIn wsJ15_checkIndex_7cf53 wsJ3_checkIndex_8e157 := goodIn_r _ [4] (by decide +kernel) (by decide +kernel)
set_option maxRecDepth 20000 in
theorem gJ15_checkIndex_7cf53_J3_checkIndex_8e157 : GoodIn wsJ15_checkIndex_7cf53 (va_wsS RJ15 105 yJ3_checkIndex_8e157 wsJ3_checkIndex_8e157) := goodIn_app (goodIn_of _ (by decide +kernel)) ggJ15_checkIndex_7cf53_J3_checkIndex_8e157
theorem dJ15_checkIndex_7cf53_0 : decode cJ15_checkIndex_7cf53 0 = .ok (.iload_n 0, 1) := by decide +kernel
theorem dJ15_checkIndex_7cf53_1 : decode cJ15_checkIndex_7cf53 1 = .ok (.iload_n 1, 1) := by decide +kernel
theorem dJ15_checkIndex_7cf53_2 : decode cJ15_checkIndex_7cf53 2 = .ok (.aconst_null, 1) := by decide +kernel
theorem dJ15_checkIndex_7cf53_3 : decode cJ15_checkIndex_7cf53 3 = .ok (.invokestatic 105, 3) := by decide +kernel
theorem dJ15_checkIndex_7cf53_6 : decode cJ15_checkIndex_7cf53 6 = .ok (.ireturn, 1) := by decide +kernel
set_option maxRecDepth 20000 in
theorem ggJ8_newLength_cabcc_J8_hugeLength_7cf53 : GoodIn wsJ8_newLength_cabcc wsJ8_hugeLength_7cf53 := goodIn_r _ [9, 5] (by decide +kernel) (by decide +kernel)
set_option maxRecDepth 20000 in
theorem gJ8_newLength_cabcc_J8_hugeLength_7cf53 : GoodIn wsJ8_newLength_cabcc (va_wsS RJ8 201 yJ8_hugeLength_7cf53 wsJ8_hugeLength_7cf53) := goodIn_app (goodIn_of _ (by decide +kernel)) ggJ8_newLength_cabcc_J8_hugeLength_7cf53
theorem dJ8_newLength_cabcc_0 : decode cJ8_newLength_cabcc 0 = .ok (.iload_n 0, 1) := by decide +kernel
theorem dJ8_newLength_cabcc_1 : decode cJ8_newLength_cabcc 1 = .ok (.iload_n 1, 1) := by decide +kernel
theorem dJ8_newLength_cabcc_2 : decode cJ8_newLength_cabcc 2 = .ok (.iload_n 2, 1) := by decide +kernel
theorem dJ8_newLength_cabcc_3 : decode cJ8_newLength_cabcc 3 = .ok (.invokestatic 194, 3) := by decide +kernel
theorem dJ8_newLength_cabcc_6 : decode cJ8_newLength_cabcc 6 = .ok (.iadd, 1) := by decide +kernel
theorem dJ8_newLength_cabcc_7 : decode cJ8_newLength_cabcc 7 = .ok (.istore_n 3, 1) := by decide +kernel
theorem dJ8_newLength_cabcc_8 : decode cJ8_newLength_cabcc 8 = .ok (.iconst 0, 1) := by decide +kernel
theorem dJ8_newLength_cabcc_9 : decode cJ8_newLength_cabcc 9 = .ok (.iload_n 3, 1) := by decide +kernel
theorem dJ8_newLength_cabcc_10 : decode cJ8_newLength_cabcc 10 = .ok (.if_icmp .ge 11, 3) := by decide +kernel
theorem dJ8_newLength_cabcc_13 : decode cJ8_newLength_cabcc 13 = .ok (.iload_n 3, 1) := by decide +kernel
theorem dJ8_newLength_cabcc_14 : decode cJ8_newLength_cabcc 14 = .ok (.ldc 200, 2) := by decide +kernel
theorem dJ8_newLength_cabcc_16 : decode cJ8_newLength_cabcc 16 = .ok (.if_icmp .gt 5, 3) := by decide +kernel
theorem dJ8_newLength_cabcc_19 : decode cJ8_newLength_cabcc 19 = .ok (.iload_n 3, 1) := by decide +kernel
theorem dJ8_newLength_cabcc_20 : decode cJ8_newLength_cabcc 20 = .ok (.ireturn, 1) := by decide +kernel
theorem dJ8_newLength_cabcc_21 : decode cJ8_newLength_cabcc 21 = .ok (.iload_n 0, 1) := by decide +kernel
theorem dJ8_newLength_cabcc_22 : decode cJ8_newLength_cabcc 22 = .ok (.iload_n 1, 1) := by decide +kernel
theorem dJ8_newLength_cabcc_23 : decode cJ8_newLength_cabcc 23 = .ok (.invokestatic 201, 3) := by decide +kernel
theorem dJ8_newLength_cabcc_26 : decode cJ8_newLength_cabcc 26 = .ok (.ireturn, 1) := by decide +kernel
theorem dJ8_hugeLength_7cf53_0 : decode cJ8_hugeLength_7cf53 0 = .ok (.iload_n 0, 1) := by decide +kernel
theorem dJ8_hugeLength_7cf53_1 : decode cJ8_hugeLength_7cf53 1 = .ok (.iload_n 1, 1) := by decide +kernel
theorem dJ8_hugeLength_7cf53_2 : decode cJ8_hugeLength_7cf53 2 = .ok (.iadd, 1) := by decide +kernel
theorem dJ8_hugeLength_7cf53_3 : decode cJ8_hugeLength_7cf53 3 = .ok (.istore_n 2, 1) := by decide +kernel
theorem dJ8_hugeLength_7cf53_4 : decode cJ8_hugeLength_7cf53 4 = .ok (.iload_n 2, 1) := by decide +kernel
theorem dJ8_hugeLength_7cf53_5 : decode cJ8_hugeLength_7cf53 5 = .ok (.ifCond .ge 44, 3) := by decide +kernel
theorem dJ8_hugeLength_7cf53_8 : decode cJ8_hugeLength_7cf53 8 = .ok (.new 204, 3) := by decide +kernel
theorem dJ8_hugeLength_7cf53_11 : decode cJ8_hugeLength_7cf53 11 = .ok (.dup, 1) := by decide +kernel
theorem dJ8_hugeLength_7cf53_12 : decode cJ8_hugeLength_7cf53 12 = .ok (.new 89, 3) := by decide +kernel
theorem dJ8_hugeLength_7cf53_15 : decode cJ8_hugeLength_7cf53 15 = .ok (.dup, 1) := by decide +kernel
theorem dJ8_hugeLength_7cf53_16 : decode cJ8_hugeLength_7cf53 16 = .ok (.invokespecial 91, 3) := by decide +kernel
theorem dJ8_hugeLength_7cf53_19 : decode cJ8_hugeLength_7cf53 19 = .ok (.ldc 206, 2) := by decide +kernel
theorem dJ8_hugeLength_7cf53_21 : decode cJ8_hugeLength_7cf53 21 = .ok (.invokevirtual 94, 3) := by decide +kernel
theorem dJ8_hugeLength_7cf53_24 : decode cJ8_hugeLength_7cf53 24 = .ok (.iload_n 0, 1) := by decide +kernel
theorem dJ8_hugeLength_7cf53_25 : decode cJ8_hugeLength_7cf53 25 = .ok (.invokevirtual 98, 3) := by decide +kernel
theorem dJ8_hugeLength_7cf53_28 : decode cJ8_hugeLength_7cf53 28 = .ok (.ldc 208, 2) := by decide +kernel
theorem dJ8_hugeLength_7cf53_30 : decode cJ8_hugeLength_7cf53 30 = .ok (.invokevirtual 94, 3) := by decide +kernel
theorem dJ8_hugeLength_7cf53_33 : decode cJ8_hugeLength_7cf53 33 = .ok (.iload_n 1, 1) := by decide +kernel
theorem dJ8_hugeLength_7cf53_34 : decode cJ8_hugeLength_7cf53 34 = .ok (.invokevirtual 98, 3) := by decide +kernel
theorem dJ8_hugeLength_7cf53_37 : decode cJ8_hugeLength_7cf53 37 = .ok (.ldc 210, 2) := by decide +kernel
theorem dJ8_hugeLength_7cf53_39 : decode cJ8_hugeLength_7cf53 39 = .ok (.invokevirtual 94, 3) := by decide +kernel
theorem dJ8_hugeLength_7cf53_42 : decode cJ8_hugeLength_7cf53 42 = .ok (.invokevirtual 101, 3) := by decide +kernel
theorem dJ8_hugeLength_7cf53_45 : decode cJ8_hugeLength_7cf53 45 = .ok (.invokespecial 212, 3) := by decide +kernel
theorem dJ8_hugeLength_7cf53_48 : decode cJ8_hugeLength_7cf53 48 = .ok (.athrow, 1) := by decide +kernel
theorem dJ8_hugeLength_7cf53_49 : decode cJ8_hugeLength_7cf53 49 = .ok (.iload_n 2, 1) := by decide +kernel
theorem dJ8_hugeLength_7cf53_50 : decode cJ8_hugeLength_7cf53 50 = .ok (.ldc 200, 2) := by decide +kernel
theorem dJ8_hugeLength_7cf53_52 : decode cJ8_hugeLength_7cf53 52 = .ok (.if_icmp .gt 6, 3) := by decide +kernel
theorem dJ8_hugeLength_7cf53_55 : decode cJ8_hugeLength_7cf53 55 = .ok (.ldc 200, 2) := by decide +kernel
theorem dJ8_hugeLength_7cf53_57 : decode cJ8_hugeLength_7cf53 57 = .ok (.ireturn, 1) := by decide +kernel
theorem dJ8_hugeLength_7cf53_58 : decode cJ8_hugeLength_7cf53 58 = .ok (.iload_n 2, 1) := by decide +kernel
theorem dJ8_hugeLength_7cf53_59 : decode cJ8_hugeLength_7cf53 59 = .ok (.ireturn, 1) := by decide +kernel
theorem dJ3_checkIndex_8e157_0 : decode cJ3_checkIndex_8e157 0 = .ok (.iload_n 0, 1) := by decide +kernel
theorem dJ3_checkIndex_8e157_1 : decode cJ3_checkIndex_8e157 1 = .ok (.ifCond .lt 8, 3) := by decide +kernel
theorem dJ3_checkIndex_8e157_4 : decode cJ3_checkIndex_8e157 4 = .ok (.iload_n 0, 1) := by decide +kernel
theorem dJ3_checkIndex_8e157_5 : decode cJ3_checkIndex_8e157 5 = .ok (.iload_n 1, 1) := by decide +kernel
theorem dJ3_checkIndex_8e157_6 : decode cJ3_checkIndex_8e157 6 = .ok (.if_icmp .lt 10, 3) := by decide +kernel
theorem dJ3_checkIndex_8e157_9 : decode cJ3_checkIndex_8e157 9 = .ok (.aload_n 2, 1) := by decide +kernel
theorem dJ3_checkIndex_8e157_10 : decode cJ3_checkIndex_8e157 10 = .ok (.iload_n 0, 1) := by decide +kernel
theorem dJ3_checkIndex_8e157_11 : decode cJ3_checkIndex_8e157 11 = .ok (.iload_n 1, 1) := by decide +kernel
theorem dJ3_checkIndex_8e157_12 : decode cJ3_checkIndex_8e157 12 = .ok (.invokestatic 95, 3) := by decide +kernel
theorem dJ3_checkIndex_8e157_15 : decode cJ3_checkIndex_8e157 15 = .ok (.athrow, 1) := by decide +kernel
theorem dJ3_checkIndex_8e157_16 : decode cJ3_checkIndex_8e157 16 = .ok (.iload_n 0, 1) := by decide +kernel
theorem dJ3_checkIndex_8e157_17 : decode cJ3_checkIndex_8e157 17 = .ok (.ireturn, 1) := by decide +kernel
set_option maxRecDepth 20000 in
theorem ggL_addShaft_X6_addShaft : GoodIn wsL_addShaft wsX6_addShaft := goodIn_ca (goodIn_ca (goodIn_r _ [7, 8, 9, 10, 11, 12, 13, 14, 15, 6, 16, 17, 18, 19, 20, 21, 22, 23, 24, 25, 26, 27, 28, 29, 30, 31, 32, 33, 34, 35, 36, 37, 38, 39, 40, 41, 42, 43, 44, 45, 46, 47, 48, 49, 50, 51, 52, 53, 54, 55, 56, 57, 58, 59, 60, 61, 62, 63, 64, 65, 66, 67, 68, 69, 70, 71, 72, 73, 74, 75, 76, 77, 78, 79, 80, 81, 82, 83, 84, 85, 86, 87, 88, 89, 90, 91, 92, 93, 94, 95, 96, 97, 98, 99, 100, 101, 102, 103, 104, 105, 106, 107, 108, 109, 110, 111, 112, 113, 114, 115, 116, 117] (by decide +kernel) (by decide +kernel)) (goodIn_sub (fun _ h => List.mem_cons_of_mem _ (List.mem_append_left _ (List.mem_append_right _ h))) (by decide +kernel))) (goodIn_sub (fun _ h => List.mem_cons_of_mem _ (List.mem_append_right _ h)) (by decide +kernel))
set_option maxRecDepth 20000 in
theorem gL_addShaft_X6_addShaft : GoodIn wsL_addShaft (wsV RL 7 RX6 yX6_addShaft wsX6_addShaft) := goodIn_app (goodIn_of _ (by decide +kernel)) ggL_addShaft_X6_addShaft
theorem dL_addShaft_0 : decode cL_addShaft 0 = .ok (.aload_n 3, 1) := by decide +kernel
theorem dL_addShaft_1 : decode cL_addShaft 1 = .ok (.iconst 0, 1) := by decide +kernel
theorem dL_addShaft_2 : decode cL_addShaft 2 = .ok (.aload_n 0, 1) := by decide +kernel
theorem dL_addShaft_3 : decode cL_addShaft 3 = .ok (.iload_n 1, 1) := by decide +kernel
theorem dL_addShaft_4 : decode cL_addShaft 4 = .ok (.iload_n 2, 1) := by decide +kernel
theorem dL_addShaft_5 : decode cL_addShaft 5 = .ok (.invokevirtual 7, 3) := by decide +kernel
theorem dL_addShaft_8 : decode cL_addShaft 8 = .ok (.i2l, 1) := by decide +kernel
theorem dL_addShaft_9 : decode cL_addShaft 9 = .ok (.lastore, 1) := by decide +kernel
theorem dL_addShaft_10 : decode cL_addShaft 10 = .ok (.goto 11, 3) := by decide +kernel
theorem dL_addShaft_13 : decode cL_addShaft 13 = .ok (.astore 4, 2) := by decide +kernel
theorem dL_addShaft_15 : decode cL_addShaft 15 = .ok (.iconst 1, 1) := by decide +kernel
theorem dL_addShaft_16 : decode cL_addShaft 16 = .ok (.ireturn, 1) := by decide +kernel
theorem dL_addShaft_17 : decode cL_addShaft 17 = .ok (.astore 4, 2) := by decide +kernel
theorem dL_addShaft_19 : decode cL_addShaft 19 = .ok (.iconst 2, 1) := by decide +kernel
theorem dL_addShaft_20 : decode cL_addShaft 20 = .ok (.ireturn, 1) := by decide +kernel
theorem dL_addShaft_21 : decode cL_addShaft 21 = .ok (.iconst 0, 1) := by decide +kernel
theorem dL_addShaft_22 : decode cL_addShaft 22 = .ok (.ireturn, 1) := by decide +kernel
set_option maxRecDepth 20000 in
theorem ggL_move_X6_move : GoodIn wsL_move wsX6_move := goodIn_ca (goodIn_ca (goodIn_r _ [7, 8, 9, 10, 11, 12, 13, 14, 6, 15, 16, 17, 18, 19, 20, 21, 22, 23, 24, 25, 26, 27, 28, 29, 30, 31, 32, 33, 34, 35, 36, 37, 38, 39, 40, 41, 42, 43, 44, 45, 46, 47, 48, 49, 50, 51, 52, 53, 54, 55, 56, 57, 58, 59, 60, 61, 62, 63, 64, 65, 66, 67, 68, 69] (by decide +kernel) (by decide +kernel)) (goodIn_sub (fun _ h => List.mem_cons_of_mem _ (List.mem_append_left _ (List.mem_append_right _ h))) (by decide +kernel))) (goodIn_sub (fun _ h => List.mem_cons_of_mem _ (List.mem_append_right _ h)) (by decide +kernel))
set_option maxRecDepth 20000 in
theorem gL_move_X6_move : GoodIn wsL_move (wsV RL 17 RX6 yX6_move wsX6_move) := goodIn_app (goodIn_of _ (by decide +kernel)) ggL_move_X6_move
theorem dL_move_0 : decode cL_move 0 = .ok (.aload 4, 2) := by decide +kernel
theorem dL_move_2 : decode cL_move 2 = .ok (.iconst 0, 1) := by decide +kernel
theorem dL_move_3 : decode cL_move 3 = .ok (.aload_n 0, 1) := by decide +kernel
theorem dL_move_4 : decode cL_move 4 = .ok (.iload_n 1, 1) := by decide +kernel
theorem dL_move_5 : decode cL_move 5 = .ok (.iload_n 2, 1) := by decide +kernel
theorem dL_move_6 : decode cL_move 6 = .ok (.iload_n 3, 1) := by decide +kernel
theorem dL_move_7 : decode cL_move 7 = .ok (.invokevirtual 17, 3) := by decide +kernel
theorem dL_move_10 : decode cL_move 10 = .ok (.i2l, 1) := by decide +kernel
theorem dL_move_11 : decode cL_move 11 = .ok (.lastore, 1) := by decide +kernel
theorem dL_move_12 : decode cL_move 12 = .ok (.goto 11, 3) := by decide +kernel
theorem dL_move_15 : decode cL_move 15 = .ok (.astore 5, 2) := by decide +kernel
theorem dL_move_17 : decode cL_move 17 = .ok (.iconst 1, 1) := by decide +kernel
theorem dL_move_18 : decode cL_move 18 = .ok (.ireturn, 1) := by decide +kernel
theorem dL_move_19 : decode cL_move 19 = .ok (.astore 5, 2) := by decide +kernel
theorem dL_move_21 : decode cL_move 21 = .ok (.iconst 2, 1) := by decide +kernel
theorem dL_move_22 : decode cL_move 22 = .ok (.ireturn, 1) := by decide +kernel
theorem dL_move_23 : decode cL_move 23 = .ok (.iconst 0, 1) := by decide +kernel
theorem dL_move_24 : decode cL_move 24 = .ok (.ireturn, 1) := by decide +kernel
set_option maxRecDepth 20000 in
theorem ggL_addGear_X6_addGear : GoodIn wsL_addGear wsX6_addGear := goodIn_ca (goodIn_ca (goodIn_ca (goodIn_r _ [8, 9, 10, 11, 12, 13, 14, 15, 16, 17, 18, 19, 20, 21, 7, 22, 23, 24, 25, 26, 27, 28, 29, 30, 31, 32, 33, 34, 35, 36, 37, 38, 39, 40, 41, 42, 43, 44, 45, 46, 47, 48, 49, 50, 51, 52, 53, 54, 55, 56, 57, 58, 59, 60, 61, 62, 63, 64, 65, 66, 67, 68, 69, 70, 71, 72, 73, 74, 75, 76, 77, 78, 79, 80, 81, 82, 83, 84, 85, 86, 87, 88, 89, 90, 91, 92, 93, 94, 95, 96, 97, 98, 99, 100, 101, 102, 103, 104, 105, 106, 107, 108, 109, 110, 111, 112, 113, 114, 115, 116, 117, 118, 119, 120, 121, 122, 123, 124, 125, 126, 127, 128] (by decide +kernel) (by decide +kernel)) (goodIn_sub (fun _ h => List.mem_cons_of_mem _ (List.mem_append_left _ (List.mem_append_left _ (List.mem_append_right _ h)))) (by decide +kernel))) (goodIn_sub (fun _ h => List.mem_cons_of_mem _ (List.mem_append_left _ (List.mem_append_right _ h))) (by decide +kernel))) (goodIn_sub (fun _ h => List.mem_cons_of_mem _ (List.mem_append_right _ h)) (by decide +kernel))
set_option maxRecDepth 20000 in
theorem gL_addGear_X6_addGear : GoodIn wsL_addGear (wsV RL 23 RX6 yX6_addGear wsX6_addGear) := goodIn_app (goodIn_of _ (by decide +kernel)) ggL_addGear_X6_addGear
theorem dL_addGear_0 : decode cL_addGear 0 = .ok (.aload 6, 2) := by decide +kernel
theorem dL_addGear_2 : decode cL_addGear 2 = .ok (.iconst 0, 1) := by decide +kernel
theorem dL_addGear_3 : decode cL_addGear 3 = .ok (.aload_n 0, 1) := by decide +kernel
theorem dL_addGear_4 : decode cL_addGear 4 = .ok (.iload_n 1, 1) := by decide +kernel
theorem dL_addGear_5 : decode cL_addGear 5 = .ok (.iload_n 2, 1) := by decide +kernel
theorem dL_addGear_6 : decode cL_addGear 6 = .ok (.iload_n 3, 1) := by decide +kernel
theorem dL_addGear_7 : decode cL_addGear 7 = .ok (.iload 4, 2) := by decide +kernel
theorem dL_addGear_9 : decode cL_addGear 9 = .ok (.iload 5, 2) := by decide +kernel
theorem dL_addGear_11 : decode cL_addGear 11 = .ok (.invokevirtual 23, 3) := by decide +kernel
theorem dL_addGear_14 : decode cL_addGear 14 = .ok (.i2l, 1) := by decide +kernel
theorem dL_addGear_15 : decode cL_addGear 15 = .ok (.lastore, 1) := by decide +kernel
theorem dL_addGear_16 : decode cL_addGear 16 = .ok (.goto 15, 3) := by decide +kernel
theorem dL_addGear_19 : decode cL_addGear 19 = .ok (.astore 7, 2) := by decide +kernel
theorem dL_addGear_21 : decode cL_addGear 21 = .ok (.iconst 1, 1) := by decide +kernel
theorem dL_addGear_22 : decode cL_addGear 22 = .ok (.ireturn, 1) := by decide +kernel
theorem dL_addGear_23 : decode cL_addGear 23 = .ok (.astore 7, 2) := by decide +kernel
theorem dL_addGear_25 : decode cL_addGear 25 = .ok (.iconst 2, 1) := by decide +kernel
theorem dL_addGear_26 : decode cL_addGear 26 = .ok (.ireturn, 1) := by decide +kernel
theorem dL_addGear_27 : decode cL_addGear 27 = .ok (.astore 7, 2) := by decide +kernel
theorem dL_addGear_29 : decode cL_addGear 29 = .ok (.iconst 3, 1) := by decide +kernel
theorem dL_addGear_30 : decode cL_addGear 30 = .ok (.ireturn, 1) := by decide +kernel
theorem dL_addGear_31 : decode cL_addGear 31 = .ok (.iconst 0, 1) := by decide +kernel
theorem dL_addGear_32 : decode cL_addGear 32 = .ok (.ireturn, 1) := by decide +kernel
set_option maxRecDepth 20000 in
theorem ggL_mesh_X6_mesh : GoodIn wsL_mesh wsX6_mesh := goodIn_ca (goodIn_ca (goodIn_ca (goodIn_r _ [8, 9, 10, 11, 12, 13, 14, 15, 16, 17, 18, 19, 20, 21, 7, 22, 23, 24, 25, 26, 27, 28, 29, 30, 31, 32, 33, 34, 35, 36, 37, 38, 39, 40, 41, 42, 43, 44, 45, 46, 47, 48, 49, 50, 51, 52, 53, 54, 55, 56, 57, 58, 59, 60, 61, 62, 63, 64, 65, 66, 67, 68, 69, 70, 71, 72, 73, 74, 75, 76, 77, 78, 79, 80, 81, 82, 83, 84, 85, 86, 87, 88, 89, 90, 91, 92, 93, 94, 95, 96, 97, 98, 99, 100, 101, 102, 103, 104, 105, 106, 107, 108, 109, 110, 111, 112, 113, 114, 115, 116, 117, 118, 119, 120, 121, 122, 123, 124, 125, 126, 127, 128, 129, 130, 131, 132, 133, 134, 135, 136, 137, 138, 139, 140, 141, 142, 143, 144, 145, 146, 147, 148, 149, 150, 151, 152, 153, 154, 155, 156, 157, 158, 159, 160, 161, 162, 163, 164, 165, 166, 167, 168, 169, 170, 171, 172, 173, 174, 175, 176, 177, 178, 179, 180, 181, 182, 183, 184, 185, 186, 187, 188, 189, 190, 191, 192, 193, 194, 195, 196, 197, 198, 199, 200, 201, 202, 203, 204, 205, 206, 207, 208, 209, 210, 211, 212, 213, 214, 215, 216, 217, 218, 219, 220, 221, 222, 223, 224, 225, 226, 227, 228, 229, 230, 231, 232, 233, 234, 235, 236, 237, 238, 239, 240, 241, 242, 243, 244, 245, 246, 247, 248, 249, 250, 251, 252, 253, 254, 255, 256, 257, 258, 259, 260, 261, 262, 263, 264, 265, 266, 267] (by decide +kernel) (by decide +kernel)) (goodIn_sub (fun _ h => List.mem_cons_of_mem _ (List.mem_append_left _ (List.mem_append_left _ (List.mem_append_right _ h)))) (by decide +kernel))) (goodIn_sub (fun _ h => List.mem_cons_of_mem _ (List.mem_append_left _ (List.mem_append_right _ h))) (by decide +kernel))) (goodIn_sub (fun _ h => List.mem_cons_of_mem _ (List.mem_append_right _ h)) (by decide +kernel))
set_option maxRecDepth 20000 in
theorem gL_mesh_X6_mesh : GoodIn wsL_mesh (wsV RL 27 RX6 yX6_mesh wsX6_mesh) := goodIn_app (goodIn_of _ (by decide +kernel)) ggL_mesh_X6_mesh
theorem dL_mesh_0 : decode cL_mesh 0 = .ok (.aload_n 3, 1) := by decide +kernel
theorem dL_mesh_1 : decode cL_mesh 1 = .ok (.iconst 0, 1) := by decide +kernel
theorem dL_mesh_2 : decode cL_mesh 2 = .ok (.aload_n 0, 1) := by decide +kernel
theorem dL_mesh_3 : decode cL_mesh 3 = .ok (.iload_n 1, 1) := by decide +kernel
theorem dL_mesh_4 : decode cL_mesh 4 = .ok (.iload_n 2, 1) := by decide +kernel
theorem dL_mesh_5 : decode cL_mesh 5 = .ok (.invokevirtual 27, 3) := by decide +kernel
theorem dL_mesh_8 : decode cL_mesh 8 = .ok (.i2l, 1) := by decide +kernel
theorem dL_mesh_9 : decode cL_mesh 9 = .ok (.lastore, 1) := by decide +kernel
theorem dL_mesh_10 : decode cL_mesh 10 = .ok (.goto 15, 3) := by decide +kernel
theorem dL_mesh_13 : decode cL_mesh 13 = .ok (.astore 4, 2) := by decide +kernel
theorem dL_mesh_15 : decode cL_mesh 15 = .ok (.iconst 1, 1) := by decide +kernel
theorem dL_mesh_16 : decode cL_mesh 16 = .ok (.ireturn, 1) := by decide +kernel
theorem dL_mesh_17 : decode cL_mesh 17 = .ok (.astore 4, 2) := by decide +kernel
theorem dL_mesh_19 : decode cL_mesh 19 = .ok (.iconst 2, 1) := by decide +kernel
theorem dL_mesh_20 : decode cL_mesh 20 = .ok (.ireturn, 1) := by decide +kernel
theorem dL_mesh_21 : decode cL_mesh 21 = .ok (.astore 4, 2) := by decide +kernel
theorem dL_mesh_23 : decode cL_mesh 23 = .ok (.iconst 3, 1) := by decide +kernel
theorem dL_mesh_24 : decode cL_mesh 24 = .ok (.ireturn, 1) := by decide +kernel
theorem dL_mesh_25 : decode cL_mesh 25 = .ok (.iconst 0, 1) := by decide +kernel
theorem dL_mesh_26 : decode cL_mesh 26 = .ok (.ireturn, 1) := by decide +kernel
set_option maxRecDepth 20000 in
theorem ggL_unmesh_X6_unmesh : GoodIn wsL_unmesh wsX6_unmesh := goodIn_ca (goodIn_r _ [6, 7, 8, 9, 10, 11, 12, 13, 14, 15, 16, 17, 18, 19, 20, 21, 22, 23, 24, 25, 26, 27, 28, 29, 30, 31, 32, 33, 34, 35, 36, 37, 38, 39, 40, 41, 42, 43, 44, 45, 5, 46, 47, 48, 49, 50, 51, 52, 53, 54, 55, 56, 57, 58, 59, 60, 61, 62, 63, 64, 65, 66, 67, 68, 69, 70, 71, 72, 73, 74, 75, 76, 77, 78, 79, 80, 81, 82, 83, 84, 85, 86, 87, 88, 89, 90, 91, 92, 93, 94, 95, 96, 97, 98, 99, 100, 101, 102, 103, 104, 105, 106, 107, 108, 109, 110, 111, 112, 113, 114, 115, 116, 117, 118, 119, 120, 121, 122, 123, 124, 125, 126, 127, 128, 129, 130, 131, 132, 133, 134, 135, 136, 137, 138, 139, 140, 141, 142, 143, 144, 145, 146, 147, 148, 149, 150, 151, 152, 153, 154, 155, 156, 157, 158, 159, 160, 161] (by decide +kernel) (by decide +kernel)) (goodIn_sub (fun _ h => List.mem_cons_of_mem _ (List.mem_append_right _ h)) (by decide +kernel))
set_option maxRecDepth 20000 in
theorem gL_unmesh_X6_unmesh : GoodIn wsL_unmesh (wsV RL 30 RX6 yX6_unmesh wsX6_unmesh) := goodIn_app (goodIn_of _ (by decide +kernel)) ggL_unmesh_X6_unmesh
theorem dL_unmesh_0 : decode cL_unmesh 0 = .ok (.aload_n 1, 1) := by decide +kernel
theorem dL_unmesh_1 : decode cL_unmesh 1 = .ok (.iconst 0, 1) := by decide +kernel
theorem dL_unmesh_2 : decode cL_unmesh 2 = .ok (.aload_n 0, 1) := by decide +kernel
theorem dL_unmesh_3 : decode cL_unmesh 3 = .ok (.invokevirtual 30, 3) := by decide +kernel
theorem dL_unmesh_6 : decode cL_unmesh 6 = .ok (.i2l, 1) := by decide +kernel
theorem dL_unmesh_7 : decode cL_unmesh 7 = .ok (.lastore, 1) := by decide +kernel
theorem dL_unmesh_8 : decode cL_unmesh 8 = .ok (.goto 6, 3) := by decide +kernel
theorem dL_unmesh_11 : decode cL_unmesh 11 = .ok (.astore_n 2, 1) := by decide +kernel
theorem dL_unmesh_12 : decode cL_unmesh 12 = .ok (.iconst 1, 1) := by decide +kernel
theorem dL_unmesh_13 : decode cL_unmesh 13 = .ok (.ireturn, 1) := by decide +kernel
theorem dL_unmesh_14 : decode cL_unmesh 14 = .ok (.iconst 0, 1) := by decide +kernel
theorem dL_unmesh_15 : decode cL_unmesh 15 = .ok (.ireturn, 1) := by decide +kernel
set_option maxRecDepth 20000 in
theorem ggL_addPlanets_X6_addPlanets : GoodIn wsL_addPlanets wsX6_addPlanets := goodIn_ca (goodIn_ca (goodIn_ca (goodIn_r _ [8, 9, 10, 11, 12, 13, 14, 15, 16, 17, 18, 19, 20, 21, 7, 22, 23, 24, 25, 26, 27, 28, 29, 30, 31, 32, 33, 34, 35, 36, 37, 38, 39, 40, 41, 42, 43, 44, 45, 46, 47, 48, 49, 50, 51, 52, 53, 54, 55, 56, 57, 58, 59, 60, 61, 62, 63, 64, 65, 66, 67, 68, 69, 70, 71, 72, 73, 74, 75, 76, 77, 78, 79, 80, 81, 82, 83, 84, 85, 86, 87, 88, 89, 90, 91, 92, 93, 94, 95, 96, 97, 98, 99, 100, 101, 102, 103, 104, 105, 106, 107, 108, 109, 110, 111, 112, 113, 114, 115, 116, 117, 118, 119, 120, 121, 122, 123, 124, 125, 126, 127, 128, 129, 130, 131, 132, 133, 134, 135, 136, 137, 138, 139, 140, 141, 142, 143, 144, 145, 146, 147, 148, 149, 150, 151, 152, 153, 154, 155, 156, 157, 158, 159, 160, 161, 162, 163, 164, 165, 166, 167, 168, 169, 170, 171, 172, 173, 174, 175, 176, 177, 178, 179, 180, 181, 182, 183, 184, 185, 186, 187, 188, 189, 190, 191, 192, 193, 194, 195, 196, 197, 198, 199, 200, 201, 202, 203, 204, 205, 206, 207, 208, 209, 210, 211, 212, 213, 214, 215, 216, 217, 218, 219, 220, 221, 222, 223, 224, 225, 226, 227, 228, 229, 230, 231, 232, 233, 234, 235, 236, 237, 238] (by decide +kernel) (by decide +kernel)) (goodIn_sub (fun _ h => List.mem_cons_of_mem _ (List.mem_append_left _ (List.mem_append_left _ (List.mem_append_right _ h)))) (by decide +kernel))) (goodIn_sub (fun _ h => List.mem_cons_of_mem _ (List.mem_append_left _ (List.mem_append_right _ h))) (by decide +kernel))) (goodIn_sub (fun _ h => List.mem_cons_of_mem _ (List.mem_append_right _ h)) (by decide +kernel))
set_option maxRecDepth 20000 in
theorem gL_addPlanets_X6_addPlanets : GoodIn wsL_addPlanets (wsV RL 34 RX6 yX6_addPlanets wsX6_addPlanets) := goodIn_app (goodIn_of _ (by decide +kernel)) ggL_addPlanets_X6_addPlanets
theorem dL_addPlanets_0 : decode cL_addPlanets 0 = .ok (.aload 6, 2) := by decide +kernel
theorem dL_addPlanets_2 : decode cL_addPlanets 2 = .ok (.iconst 0, 1) := by decide +kernel
theorem dL_addPlanets_3 : decode cL_addPlanets 3 = .ok (.aload_n 0, 1) := by decide +kernel
theorem dL_addPlanets_4 : decode cL_addPlanets 4 = .ok (.iload_n 1, 1) := by decide +kernel
theorem dL_addPlanets_5 : decode cL_addPlanets 5 = .ok (.iload_n 2, 1) := by decide +kernel
theorem dL_addPlanets_6 : decode cL_addPlanets 6 = .ok (.iload_n 3, 1) := by decide +kernel
theorem dL_addPlanets_7 : decode cL_addPlanets 7 = .ok (.iload 4, 2) := by decide +kernel
theorem dL_addPlanets_9 : decode cL_addPlanets 9 = .ok (.iload 5, 2) := by decide +kernel
theorem dL_addPlanets_11 : decode cL_addPlanets 11 = .ok (.invokevirtual 34, 3) := by decide +kernel
theorem dL_addPlanets_14 : decode cL_addPlanets 14 = .ok (.i2l, 1) := by decide +kernel
theorem dL_addPlanets_15 : decode cL_addPlanets 15 = .ok (.lastore, 1) := by decide +kernel
theorem dL_addPlanets_16 : decode cL_addPlanets 16 = .ok (.goto 15, 3) := by decide +kernel
theorem dL_addPlanets_19 : decode cL_addPlanets 19 = .ok (.astore 7, 2) := by decide +kernel
theorem dL_addPlanets_21 : decode cL_addPlanets 21 = .ok (.iconst 1, 1) := by decide +kernel
theorem dL_addPlanets_22 : decode cL_addPlanets 22 = .ok (.ireturn, 1) := by decide +kernel
theorem dL_addPlanets_23 : decode cL_addPlanets 23 = .ok (.astore 7, 2) := by decide +kernel
theorem dL_addPlanets_25 : decode cL_addPlanets 25 = .ok (.iconst 2, 1) := by decide +kernel
theorem dL_addPlanets_26 : decode cL_addPlanets 26 = .ok (.ireturn, 1) := by decide +kernel
theorem dL_addPlanets_27 : decode cL_addPlanets 27 = .ok (.astore 7, 2) := by decide +kernel
theorem dL_addPlanets_29 : decode cL_addPlanets 29 = .ok (.iconst 3, 1) := by decide +kernel
theorem dL_addPlanets_30 : decode cL_addPlanets 30 = .ok (.ireturn, 1) := by decide +kernel
theorem dL_addPlanets_31 : decode cL_addPlanets 31 = .ok (.iconst 0, 1) := by decide +kernel
theorem dL_addPlanets_32 : decode cL_addPlanets 32 = .ok (.ireturn, 1) := by decide +kernel
set_option maxRecDepth 20000 in
theorem ggL_planets_X6_planets : GoodIn wsL_planets wsX6_planets := goodIn_ca (goodIn_ca (goodIn_r _ [7, 8, 9, 10, 11, 12, 13, 14, 15, 16, 17, 18, 19, 20, 21, 6, 22, 23, 24, 25, 26, 27, 28, 29, 30, 31, 32, 33, 34, 35, 36, 37, 38, 39, 40, 41, 42, 43, 44, 45, 46, 47, 48, 49, 50, 51, 52, 53, 54, 55, 56] (by decide +kernel) (by decide +kernel)) (goodIn_sub (fun _ h => List.mem_cons_of_mem _ (List.mem_append_left _ (List.mem_append_right _ h))) (by decide +kernel))) (goodIn_sub (fun _ h => List.mem_cons_of_mem _ (List.mem_append_right _ h)) (by decide +kernel))
set_option maxRecDepth 20000 in
theorem gL_planets_X6_planets : GoodIn wsL_planets (wsV RL 38 RX6 yX6_planets wsX6_planets) := goodIn_app (goodIn_of _ (by decide +kernel)) ggL_planets_X6_planets
theorem dL_planets_0 : decode cL_planets 0 = .ok (.aload_n 3, 1) := by decide +kernel
theorem dL_planets_1 : decode cL_planets 1 = .ok (.iconst 0, 1) := by decide +kernel
theorem dL_planets_2 : decode cL_planets 2 = .ok (.aload_n 0, 1) := by decide +kernel
theorem dL_planets_3 : decode cL_planets 3 = .ok (.iload_n 1, 1) := by decide +kernel
theorem dL_planets_4 : decode cL_planets 4 = .ok (.iload_n 2, 1) := by decide +kernel
theorem dL_planets_5 : decode cL_planets 5 = .ok (.invokevirtual 38, 3) := by decide +kernel
theorem dL_planets_8 : decode cL_planets 8 = .ok (.i2l, 1) := by decide +kernel
theorem dL_planets_9 : decode cL_planets 9 = .ok (.lastore, 1) := by decide +kernel
theorem dL_planets_10 : decode cL_planets 10 = .ok (.goto 11, 3) := by decide +kernel
theorem dL_planets_13 : decode cL_planets 13 = .ok (.astore 4, 2) := by decide +kernel
theorem dL_planets_15 : decode cL_planets 15 = .ok (.iconst 1, 1) := by decide +kernel
theorem dL_planets_16 : decode cL_planets 16 = .ok (.ireturn, 1) := by decide +kernel
theorem dL_planets_17 : decode cL_planets 17 = .ok (.astore 4, 2) := by decide +kernel
theorem dL_planets_19 : decode cL_planets 19 = .ok (.iconst 2, 1) := by decide +kernel
theorem dL_planets_20 : decode cL_planets 20 = .ok (.ireturn, 1) := by decide +kernel
theorem dL_planets_21 : decode cL_planets 21 = .ok (.iconst 0, 1) := by decide +kernel
theorem dL_planets_22 : decode cL_planets 22 = .ok (.ireturn, 1) := by decide +kernel
set_option maxRecDepth 20000 in
theorem ggL_count_X6_count : GoodIn wsL_count wsX6_count := goodIn_ca (goodIn_r _ [6, 7, 8, 9, 10, 11, 12, 13, 14, 15, 16, 17, 18, 19, 20, 21, 22, 23, 24, 25, 26, 27] (by decide +kernel) (by decide +kernel)) (goodIn_sub (fun _ h => List.mem_cons_of_mem _ (List.mem_append_right _ h)) (by decide +kernel))
set_option maxRecDepth 20000 in
theorem gL_count_X6_count : GoodIn wsL_count (wsV RL 41 RX6 yX6_count wsX6_count) := goodIn_app (goodIn_of _ (by decide +kernel)) ggL_count_X6_count
theorem dL_count_0 : decode cL_count 0 = .ok (.aload_n 2, 1) := by decide +kernel
theorem dL_count_1 : decode cL_count 1 = .ok (.iconst 0, 1) := by decide +kernel
theorem dL_count_2 : decode cL_count 2 = .ok (.aload_n 0, 1) := by decide +kernel
theorem dL_count_3 : decode cL_count 3 = .ok (.iload_n 1, 1) := by decide +kernel
theorem dL_count_4 : decode cL_count 4 = .ok (.invokevirtual 41, 3) := by decide +kernel
theorem dL_count_7 : decode cL_count 7 = .ok (.i2l, 1) := by decide +kernel
theorem dL_count_8 : decode cL_count 8 = .ok (.lastore, 1) := by decide +kernel
theorem dL_count_9 : decode cL_count 9 = .ok (.goto 6, 3) := by decide +kernel
theorem dL_count_12 : decode cL_count 12 = .ok (.astore_n 3, 1) := by decide +kernel
theorem dL_count_13 : decode cL_count 13 = .ok (.iconst 1, 1) := by decide +kernel
theorem dL_count_14 : decode cL_count 14 = .ok (.ireturn, 1) := by decide +kernel
theorem dL_count_15 : decode cL_count 15 = .ok (.iconst 0, 1) := by decide +kernel
theorem dL_count_16 : decode cL_count 16 = .ok (.ireturn, 1) := by decide +kernel
set_option maxRecDepth 20000 in
theorem ggL_drive_X6_drive : GoodIn wsL_drive wsX6_drive := goodIn_ca (goodIn_ca (goodIn_r _ [7, 8, 9, 10, 11, 12, 13, 14, 15, 16, 17, 6, 18, 19, 20, 21, 22, 23, 24, 25, 26, 27, 28, 29, 30, 31, 32, 33, 34, 35, 36, 37, 38, 39, 40, 41, 42, 43, 44, 45, 46, 47, 48, 49, 50, 51, 52, 53, 54, 55, 56, 57, 58, 59, 60, 61, 62, 63, 64, 65, 66, 67, 68, 69, 70, 71, 72, 73, 74, 75, 76, 77, 78, 79, 80, 81, 82, 83, 84, 85, 86, 87, 88, 89, 90, 91, 92, 93, 94, 95, 96, 97, 98, 99, 100, 101, 102, 103, 104, 105, 106, 107, 108, 109, 110, 111, 112, 113, 114, 115, 116, 117, 118, 119, 120, 121, 122, 123, 124, 125, 126, 127, 128, 129, 130, 131, 132, 133, 134, 135, 136, 137, 138, 139, 140, 141, 142, 143, 144, 145, 146, 147, 148, 149, 150, 151, 152, 153, 154] (by decide +kernel) (by decide +kernel)) (goodIn_sub (fun _ h => List.mem_cons_of_mem _ (List.mem_append_left _ (List.mem_append_right _ h))) (by decide +kernel))) (goodIn_sub (fun _ h => List.mem_cons_of_mem _ (List.mem_append_right _ h)) (by decide +kernel))
set_option maxRecDepth 20000 in
theorem gL_drive_X6_drive : GoodIn wsL_drive (wsV RL 45 RX6 yX6_drive wsX6_drive) := goodIn_app (goodIn_of _ (by decide +kernel)) ggL_drive_X6_drive
theorem dL_drive_0 : decode cL_drive 0 = .ok (.aload_n 3, 1) := by decide +kernel
theorem dL_drive_1 : decode cL_drive 1 = .ok (.iconst 0, 1) := by decide +kernel
theorem dL_drive_2 : decode cL_drive 2 = .ok (.aload_n 0, 1) := by decide +kernel
theorem dL_drive_3 : decode cL_drive 3 = .ok (.iload_n 1, 1) := by decide +kernel
theorem dL_drive_4 : decode cL_drive 4 = .ok (.iload_n 2, 1) := by decide +kernel
theorem dL_drive_5 : decode cL_drive 5 = .ok (.invokevirtual 45, 3) := by decide +kernel
theorem dL_drive_8 : decode cL_drive 8 = .ok (.i2l, 1) := by decide +kernel
theorem dL_drive_9 : decode cL_drive 9 = .ok (.lastore, 1) := by decide +kernel
theorem dL_drive_10 : decode cL_drive 10 = .ok (.goto 11, 3) := by decide +kernel
theorem dL_drive_13 : decode cL_drive 13 = .ok (.astore 4, 2) := by decide +kernel
theorem dL_drive_15 : decode cL_drive 15 = .ok (.iconst 1, 1) := by decide +kernel
theorem dL_drive_16 : decode cL_drive 16 = .ok (.ireturn, 1) := by decide +kernel
theorem dL_drive_17 : decode cL_drive 17 = .ok (.astore 4, 2) := by decide +kernel
theorem dL_drive_19 : decode cL_drive 19 = .ok (.iconst 2, 1) := by decide +kernel
theorem dL_drive_20 : decode cL_drive 20 = .ok (.ireturn, 1) := by decide +kernel
theorem dL_drive_21 : decode cL_drive 21 = .ok (.iconst 0, 1) := by decide +kernel
theorem dL_drive_22 : decode cL_drive 22 = .ok (.ireturn, 1) := by decide +kernel
set_option maxRecDepth 20000 in
theorem ggL_hold_X6_hold : GoodIn wsL_hold wsX6_hold := goodIn_ca (goodIn_ca (goodIn_r _ [7, 8, 9, 10, 11, 12, 13, 14, 15, 16, 6, 17, 18, 19, 20, 21, 22, 23, 24, 25, 26, 27, 28, 29, 30, 31, 32, 33, 34, 35, 36, 37, 38, 39, 40, 41, 42, 43, 44, 45, 46, 47, 48, 49, 50, 51, 52, 53, 54, 55, 56, 57, 58, 59, 60, 61, 62, 63, 64, 65, 66, 67, 68, 69, 70, 71, 72, 73, 74, 75, 76, 77, 78, 79, 80, 81, 82, 83, 84, 85, 86, 87, 88, 89, 90, 91, 92, 93, 94, 95, 96, 97, 98, 99, 100, 101, 102, 103, 104, 105, 106, 107, 108, 109, 110, 111, 112, 113, 114, 115, 116, 117, 118, 119, 120, 121, 122, 123, 124, 125, 126, 127, 128, 129, 130, 131, 132, 133, 134, 135, 136, 137, 138, 139, 140, 141, 142, 143, 144, 145, 146, 147, 148, 149, 150, 151, 152, 153, 154] (by decide +kernel) (by decide +kernel)) (goodIn_sub (fun _ h => List.mem_cons_of_mem _ (List.mem_append_left _ (List.mem_append_right _ h))) (by decide +kernel))) (goodIn_sub (fun _ h => List.mem_cons_of_mem _ (List.mem_append_right _ h)) (by decide +kernel))
set_option maxRecDepth 20000 in
theorem gL_hold_X6_hold : GoodIn wsL_hold (wsV RL 48 RX6 yX6_hold wsX6_hold) := goodIn_app (goodIn_of _ (by decide +kernel)) ggL_hold_X6_hold
theorem dL_hold_0 : decode cL_hold 0 = .ok (.aload_n 3, 1) := by decide +kernel
theorem dL_hold_1 : decode cL_hold 1 = .ok (.iconst 0, 1) := by decide +kernel
theorem dL_hold_2 : decode cL_hold 2 = .ok (.aload_n 0, 1) := by decide +kernel
theorem dL_hold_3 : decode cL_hold 3 = .ok (.iload_n 1, 1) := by decide +kernel
theorem dL_hold_4 : decode cL_hold 4 = .ok (.iload_n 2, 1) := by decide +kernel
theorem dL_hold_5 : decode cL_hold 5 = .ok (.invokevirtual 48, 3) := by decide +kernel
theorem dL_hold_8 : decode cL_hold 8 = .ok (.ifCond .eq 7, 3) := by decide +kernel
theorem dL_hold_11 : decode cL_hold 11 = .ok (.lconst 1, 1) := by decide +kernel
theorem dL_hold_12 : decode cL_hold 12 = .ok (.goto 4, 3) := by decide +kernel
theorem dL_hold_15 : decode cL_hold 15 = .ok (.lconst 0, 1) := by decide +kernel
theorem dL_hold_16 : decode cL_hold 16 = .ok (.lastore, 1) := by decide +kernel
theorem dL_hold_17 : decode cL_hold 17 = .ok (.goto 11, 3) := by decide +kernel
theorem dL_hold_20 : decode cL_hold 20 = .ok (.astore 4, 2) := by decide +kernel
theorem dL_hold_22 : decode cL_hold 22 = .ok (.iconst 1, 1) := by decide +kernel
theorem dL_hold_23 : decode cL_hold 23 = .ok (.ireturn, 1) := by decide +kernel
theorem dL_hold_24 : decode cL_hold 24 = .ok (.astore 4, 2) := by decide +kernel
theorem dL_hold_26 : decode cL_hold 26 = .ok (.iconst 2, 1) := by decide +kernel
theorem dL_hold_27 : decode cL_hold 27 = .ok (.ireturn, 1) := by decide +kernel
theorem dL_hold_28 : decode cL_hold 28 = .ok (.iconst 0, 1) := by decide +kernel
theorem dL_hold_29 : decode cL_hold 29 = .ok (.ireturn, 1) := by decide +kernel
set_option maxRecDepth 20000 in
theorem ggL_isTold_X6_isTold : GoodIn wsL_isTold wsX6_isTold := goodIn_ca (goodIn_r _ [6, 7, 8, 9, 10, 11, 5, 12, 13, 14, 15, 16, 17, 18, 19, 20, 21, 22, 23, 24, 25, 26, 27, 28, 29, 30, 31, 32, 33, 34, 35, 36, 37, 38, 39, 40, 41, 42, 43, 44, 45, 46, 47, 48, 49, 50, 51, 52, 53, 54, 55, 56, 57, 58, 59, 60] (by decide +kernel) (by decide +kernel)) (goodIn_sub (fun _ h => List.mem_cons_of_mem _ (List.mem_append_right _ h)) (by decide +kernel))
set_option maxRecDepth 20000 in
theorem gL_isTold_X6_isTold : GoodIn wsL_isTold (wsV RL 52 RX6 yX6_isTold wsX6_isTold) := goodIn_app (goodIn_of _ (by decide +kernel)) ggL_isTold_X6_isTold
theorem dL_isTold_0 : decode cL_isTold 0 = .ok (.aload_n 2, 1) := by decide +kernel
theorem dL_isTold_1 : decode cL_isTold 1 = .ok (.iconst 0, 1) := by decide +kernel
theorem dL_isTold_2 : decode cL_isTold 2 = .ok (.aload_n 0, 1) := by decide +kernel
theorem dL_isTold_3 : decode cL_isTold 3 = .ok (.iload_n 1, 1) := by decide +kernel
theorem dL_isTold_4 : decode cL_isTold 4 = .ok (.invokevirtual 52, 3) := by decide +kernel
theorem dL_isTold_7 : decode cL_isTold 7 = .ok (.ifCond .eq 7, 3) := by decide +kernel
theorem dL_isTold_10 : decode cL_isTold 10 = .ok (.lconst 1, 1) := by decide +kernel
theorem dL_isTold_11 : decode cL_isTold 11 = .ok (.goto 4, 3) := by decide +kernel
theorem dL_isTold_14 : decode cL_isTold 14 = .ok (.lconst 0, 1) := by decide +kernel
theorem dL_isTold_15 : decode cL_isTold 15 = .ok (.lastore, 1) := by decide +kernel
theorem dL_isTold_16 : decode cL_isTold 16 = .ok (.goto 6, 3) := by decide +kernel
theorem dL_isTold_19 : decode cL_isTold 19 = .ok (.astore_n 3, 1) := by decide +kernel
theorem dL_isTold_20 : decode cL_isTold 20 = .ok (.iconst 1, 1) := by decide +kernel
theorem dL_isTold_21 : decode cL_isTold 21 = .ok (.ireturn, 1) := by decide +kernel
theorem dL_isTold_22 : decode cL_isTold 22 = .ok (.iconst 0, 1) := by decide +kernel
theorem dL_isTold_23 : decode cL_isTold 23 = .ok (.ireturn, 1) := by decide +kernel
set_option maxRecDepth 20000 in
theorem ggL_speed_X6_speed : GoodIn wsL_speed wsX6_speed := goodIn_ca (goodIn_ca (goodIn_r _ [7, 8, 9, 10, 11, 12, 13, 14, 15, 6, 16, 17, 18, 19, 20, 21, 22, 23, 24, 25, 26, 27, 28, 29, 30, 31, 32, 33, 34, 35, 36, 37, 38, 39, 40, 41, 42, 43, 44, 45, 46, 47, 48, 49, 50, 51, 52, 53, 54, 55, 56, 57, 58, 59, 60, 61, 62, 63, 64, 65, 66, 67, 68, 69, 70, 71, 72] (by decide +kernel) (by decide +kernel)) (goodIn_sub (fun _ h => List.mem_cons_of_mem _ (List.mem_append_left _ (List.mem_append_right _ h))) (by decide +kernel))) (goodIn_sub (fun _ h => List.mem_cons_of_mem _ (List.mem_append_right _ h)) (by decide +kernel))
set_option maxRecDepth 20000 in
theorem gL_speed_X6_speed : GoodIn wsL_speed (wsV RL 56 RX6 yX6_speed wsX6_speed) := goodIn_app (goodIn_of _ (by decide +kernel)) ggL_speed_X6_speed
theorem dL_speed_0 : decode cL_speed 0 = .ok (.aload_n 3, 1) := by decide +kernel
theorem dL_speed_1 : decode cL_speed 1 = .ok (.iconst 0, 1) := by decide +kernel
theorem dL_speed_2 : decode cL_speed 2 = .ok (.aload_n 0, 1) := by decide +kernel
theorem dL_speed_3 : decode cL_speed 3 = .ok (.iload_n 1, 1) := by decide +kernel
theorem dL_speed_4 : decode cL_speed 4 = .ok (.iload_n 2, 1) := by decide +kernel
theorem dL_speed_5 : decode cL_speed 5 = .ok (.invokevirtual 56, 3) := by decide +kernel
theorem dL_speed_8 : decode cL_speed 8 = .ok (.i2l, 1) := by decide +kernel
theorem dL_speed_9 : decode cL_speed 9 = .ok (.lastore, 1) := by decide +kernel
theorem dL_speed_10 : decode cL_speed 10 = .ok (.goto 11, 3) := by decide +kernel
theorem dL_speed_13 : decode cL_speed 13 = .ok (.astore 4, 2) := by decide +kernel
theorem dL_speed_15 : decode cL_speed 15 = .ok (.iconst 1, 1) := by decide +kernel
theorem dL_speed_16 : decode cL_speed 16 = .ok (.ireturn, 1) := by decide +kernel
theorem dL_speed_17 : decode cL_speed 17 = .ok (.astore 4, 2) := by decide +kernel
theorem dL_speed_19 : decode cL_speed 19 = .ok (.iconst 2, 1) := by decide +kernel
theorem dL_speed_20 : decode cL_speed 20 = .ok (.ireturn, 1) := by decide +kernel
theorem dL_speed_21 : decode cL_speed 21 = .ok (.iconst 0, 1) := by decide +kernel
theorem dL_speed_22 : decode cL_speed 22 = .ok (.ireturn, 1) := by decide +kernel
set_option maxRecDepth 20000 in
theorem ggL_stage_X6_stage : GoodIn wsL_stage wsX6_stage := goodIn_ca (goodIn_r _ [6, 7, 8, 9, 10, 11, 12, 5, 13, 14, 15, 16, 17, 18, 19, 20, 21, 22, 23, 24, 25, 26, 27, 28, 29, 30, 31, 32, 33, 34, 35, 36, 37, 38, 39, 40, 41, 42, 43, 44, 45, 46, 47, 48, 49, 50, 51, 52, 53, 54, 55] (by decide +kernel) (by decide +kernel)) (goodIn_sub (fun _ h => List.mem_cons_of_mem _ (List.mem_append_right _ h)) (by decide +kernel))
set_option maxRecDepth 20000 in
theorem gL_stage_X6_stage : GoodIn wsL_stage (wsV RL 60 RX6 yX6_stage wsX6_stage) := goodIn_app (goodIn_of _ (by decide +kernel)) ggL_stage_X6_stage
theorem dL_stage_0 : decode cL_stage 0 = .ok (.aload_n 2, 1) := by decide +kernel
theorem dL_stage_1 : decode cL_stage 1 = .ok (.iconst 0, 1) := by decide +kernel
theorem dL_stage_2 : decode cL_stage 2 = .ok (.aload_n 0, 1) := by decide +kernel
theorem dL_stage_3 : decode cL_stage 3 = .ok (.iload_n 1, 1) := by decide +kernel
theorem dL_stage_4 : decode cL_stage 4 = .ok (.invokevirtual 60, 3) := by decide +kernel
theorem dL_stage_7 : decode cL_stage 7 = .ok (.i2l, 1) := by decide +kernel
theorem dL_stage_8 : decode cL_stage 8 = .ok (.lastore, 1) := by decide +kernel
theorem dL_stage_9 : decode cL_stage 9 = .ok (.goto 6, 3) := by decide +kernel
theorem dL_stage_12 : decode cL_stage 12 = .ok (.astore_n 3, 1) := by decide +kernel
theorem dL_stage_13 : decode cL_stage 13 = .ok (.iconst 1, 1) := by decide +kernel
theorem dL_stage_14 : decode cL_stage 14 = .ok (.ireturn, 1) := by decide +kernel
theorem dL_stage_15 : decode cL_stage 15 = .ok (.iconst 0, 1) := by decide +kernel
theorem dL_stage_16 : decode cL_stage 16 = .ok (.ireturn, 1) := by decide +kernel
set_option maxRecDepth 20000 in
theorem ggL_ratio_X6_ratio : GoodIn wsL_ratio wsX6_ratio := goodIn_ca (goodIn_ca (goodIn_r _ [7, 8, 9, 10, 11, 12, 13, 6, 14, 15, 16, 17, 18, 19, 20, 21, 22, 23, 24, 25, 26, 27, 28, 29, 30, 31, 32, 33, 34, 35, 36, 37, 38, 39, 40, 41, 42, 43, 44, 45, 46, 47, 48, 49, 50, 51, 52, 53, 54, 55, 56, 57, 58, 59, 60, 61, 62, 63, 64, 65, 66, 67, 68, 69, 70, 71, 72, 73, 74, 75, 76, 77, 78, 79, 80, 81, 82] (by decide +kernel) (by decide +kernel)) (goodIn_sub (fun _ h => List.mem_cons_of_mem _ (List.mem_append_left _ (List.mem_append_right _ h))) (by decide +kernel))) (goodIn_sub (fun _ h => List.mem_cons_of_mem _ (List.mem_append_right _ h)) (by decide +kernel))
set_option maxRecDepth 20000 in
theorem gL_ratio_X6_ratio : GoodIn wsL_ratio (wsV RL 63 RX6 yX6_ratio wsX6_ratio) := goodIn_app (goodIn_of _ (by decide +kernel)) ggL_ratio_X6_ratio
theorem dL_ratio_0 : decode cL_ratio 0 = .ok (.aload_n 3, 1) := by decide +kernel
theorem dL_ratio_1 : decode cL_ratio 1 = .ok (.iconst 0, 1) := by decide +kernel
theorem dL_ratio_2 : decode cL_ratio 2 = .ok (.aload_n 0, 1) := by decide +kernel
theorem dL_ratio_3 : decode cL_ratio 3 = .ok (.iload_n 1, 1) := by decide +kernel
theorem dL_ratio_4 : decode cL_ratio 4 = .ok (.iload_n 2, 1) := by decide +kernel
theorem dL_ratio_5 : decode cL_ratio 5 = .ok (.invokevirtual 63, 3) := by decide +kernel
theorem dL_ratio_8 : decode cL_ratio 8 = .ok (.dastore, 1) := by decide +kernel
theorem dL_ratio_9 : decode cL_ratio 9 = .ok (.goto 11, 3) := by decide +kernel
theorem dL_ratio_12 : decode cL_ratio 12 = .ok (.astore 4, 2) := by decide +kernel
theorem dL_ratio_14 : decode cL_ratio 14 = .ok (.iconst 1, 1) := by decide +kernel
theorem dL_ratio_15 : decode cL_ratio 15 = .ok (.ireturn, 1) := by decide +kernel
theorem dL_ratio_16 : decode cL_ratio 16 = .ok (.astore 4, 2) := by decide +kernel
theorem dL_ratio_18 : decode cL_ratio 18 = .ok (.iconst 2, 1) := by decide +kernel
theorem dL_ratio_19 : decode cL_ratio 19 = .ok (.ireturn, 1) := by decide +kernel
theorem dL_ratio_20 : decode cL_ratio 20 = .ok (.iconst 0, 1) := by decide +kernel
theorem dL_ratio_21 : decode cL_ratio 21 = .ok (.ireturn, 1) := by decide +kernel
set_option maxRecDepth 20000 in
theorem ggL_torque_X6_torque : GoodIn wsL_torque wsX6_torque := goodIn_ca (goodIn_ca (goodIn_ca (goodIn_r _ [8, 9, 10, 11, 12, 13, 14, 15, 16, 17, 18, 19, 20, 21, 22, 23, 24, 25, 7, 26, 27, 28, 29, 30, 31, 32, 33, 34, 35, 36, 37, 38, 39, 40, 41, 42, 43, 44, 45, 46, 47, 48, 49, 50, 51, 52, 53, 54, 55, 56, 57, 58, 59, 60, 61, 62, 63, 64, 65, 66, 67, 68, 69, 70, 71, 72, 73, 74, 75, 76, 77, 78, 79, 80, 81, 82, 83, 84] (by decide +kernel) (by decide +kernel)) (goodIn_sub (fun _ h => List.mem_cons_of_mem _ (List.mem_append_left _ (List.mem_append_left _ (List.mem_append_right _ h)))) (by decide +kernel))) (goodIn_sub (fun _ h => List.mem_cons_of_mem _ (List.mem_append_left _ (List.mem_append_right _ h))) (by decide +kernel))) (goodIn_sub (fun _ h => List.mem_cons_of_mem _ (List.mem_append_right _ h)) (by decide +kernel))
set_option maxRecDepth 20000 in
theorem gL_torque_X6_torque : GoodIn wsL_torque (wsV RL 67 RX6 yX6_torque wsX6_torque) := goodIn_app (goodIn_of _ (by decide +kernel)) ggL_torque_X6_torque
theorem dL_torque_0 : decode cL_torque 0 = .ok (.aload_n 3, 1) := by decide +kernel
theorem dL_torque_1 : decode cL_torque 1 = .ok (.iconst 0, 1) := by decide +kernel
theorem dL_torque_2 : decode cL_torque 2 = .ok (.aload_n 0, 1) := by decide +kernel
theorem dL_torque_3 : decode cL_torque 3 = .ok (.iload_n 1, 1) := by decide +kernel
theorem dL_torque_4 : decode cL_torque 4 = .ok (.iload_n 2, 1) := by decide +kernel
theorem dL_torque_5 : decode cL_torque 5 = .ok (.invokevirtual 67, 3) := by decide +kernel
theorem dL_torque_8 : decode cL_torque 8 = .ok (.lastore, 1) := by decide +kernel
theorem dL_torque_9 : decode cL_torque 9 = .ok (.goto 15, 3) := by decide +kernel
theorem dL_torque_12 : decode cL_torque 12 = .ok (.astore 4, 2) := by decide +kernel
theorem dL_torque_14 : decode cL_torque 14 = .ok (.iconst 1, 1) := by decide +kernel
theorem dL_torque_15 : decode cL_torque 15 = .ok (.ireturn, 1) := by decide +kernel
theorem dL_torque_16 : decode cL_torque 16 = .ok (.astore 4, 2) := by decide +kernel
theorem dL_torque_18 : decode cL_torque 18 = .ok (.iconst 2, 1) := by decide +kernel
theorem dL_torque_19 : decode cL_torque 19 = .ok (.ireturn, 1) := by decide +kernel
theorem dL_torque_20 : decode cL_torque 20 = .ok (.astore 4, 2) := by decide +kernel
theorem dL_torque_22 : decode cL_torque 22 = .ok (.iconst 3, 1) := by decide +kernel
theorem dL_torque_23 : decode cL_torque 23 = .ok (.ireturn, 1) := by decide +kernel
theorem dL_torque_24 : decode cL_torque 24 = .ok (.iconst 0, 1) := by decide +kernel
theorem dL_torque_25 : decode cL_torque 25 = .ok (.ireturn, 1) := by decide +kernel
set_option maxRecDepth 20000 in
theorem ggL_distance_X6_distance : GoodIn wsL_distance wsX6_distance := goodIn_ca (goodIn_r _ [6, 7, 8, 9, 10, 11, 12, 13, 14, 15, 16, 17, 18, 5, 19, 20, 21, 22, 23, 24, 25, 26, 27, 28, 29, 30, 31, 32, 33, 34, 35, 36, 37, 38, 39, 40, 41, 42, 43, 44, 45, 46, 47, 48, 49, 50, 51, 52, 53, 54, 55, 56, 57, 58, 59, 60, 61, 62, 63, 64, 65, 66, 67] (by decide +kernel) (by decide +kernel)) (goodIn_sub (fun _ h => List.mem_cons_of_mem _ (List.mem_append_right _ h)) (by decide +kernel))
set_option maxRecDepth 20000 in
theorem gL_distance_X6_distance : GoodIn wsL_distance (wsV RL 71 RX6 yX6_distance wsX6_distance) := goodIn_app (goodIn_of _ (by decide +kernel)) ggL_distance_X6_distance
theorem dL_distance_0 : decode cL_distance 0 = .ok (.aload_n 2, 1) := by decide +kernel
theorem dL_distance_1 : decode cL_distance 1 = .ok (.iconst 0, 1) := by decide +kernel
theorem dL_distance_2 : decode cL_distance 2 = .ok (.aload_n 0, 1) := by decide +kernel
theorem dL_distance_3 : decode cL_distance 3 = .ok (.iload_n 1, 1) := by decide +kernel
theorem dL_distance_4 : decode cL_distance 4 = .ok (.invokevirtual 71, 3) := by decide +kernel
theorem dL_distance_7 : decode cL_distance 7 = .ok (.i2l, 1) := by decide +kernel
theorem dL_distance_8 : decode cL_distance 8 = .ok (.lastore, 1) := by decide +kernel
theorem dL_distance_9 : decode cL_distance 9 = .ok (.goto 6, 3) := by decide +kernel
theorem dL_distance_12 : decode cL_distance 12 = .ok (.astore_n 3, 1) := by decide +kernel
theorem dL_distance_13 : decode cL_distance 13 = .ok (.iconst 1, 1) := by decide +kernel
theorem dL_distance_14 : decode cL_distance 14 = .ok (.ireturn, 1) := by decide +kernel
theorem dL_distance_15 : decode cL_distance 15 = .ok (.iconst 0, 1) := by decide +kernel
theorem dL_distance_16 : decode cL_distance 16 = .ok (.ireturn, 1) := by decide +kernel
set_option maxRecDepth 20000 in
theorem ggL_suggest_X6_suggest : GoodIn wsL_suggest wsX6_suggest := goodIn_ca (goodIn_r _ [6, 7, 8, 9, 10, 11, 12, 13, 14, 15, 16, 17, 5, 18, 19, 20, 21, 22, 23, 24, 25, 26, 27] (by decide +kernel) (by decide +kernel)) (goodIn_sub (fun _ h => List.mem_cons_of_mem _ (List.mem_append_right _ h)) (by decide +kernel))
set_option maxRecDepth 20000 in
theorem gL_suggest_X6_suggest : GoodIn wsL_suggest (wsV RL 74 RX6 yX6_suggest wsX6_suggest) := goodIn_app (goodIn_of _ (by decide +kernel)) ggL_suggest_X6_suggest
theorem dL_suggest_0 : decode cL_suggest 0 = .ok (.aload 5, 2) := by decide +kernel
theorem dL_suggest_2 : decode cL_suggest 2 = .ok (.iconst 0, 1) := by decide +kernel
theorem dL_suggest_3 : decode cL_suggest 3 = .ok (.aload_n 0, 1) := by decide +kernel
theorem dL_suggest_4 : decode cL_suggest 4 = .ok (.iload_n 1, 1) := by decide +kernel
theorem dL_suggest_5 : decode cL_suggest 5 = .ok (.iload_n 2, 1) := by decide +kernel
theorem dL_suggest_6 : decode cL_suggest 6 = .ok (.iload_n 3, 1) := by decide +kernel
theorem dL_suggest_7 : decode cL_suggest 7 = .ok (.iload 4, 2) := by decide +kernel
theorem dL_suggest_9 : decode cL_suggest 9 = .ok (.invokevirtual 74, 3) := by decide +kernel
theorem dL_suggest_12 : decode cL_suggest 12 = .ok (.i2l, 1) := by decide +kernel
theorem dL_suggest_13 : decode cL_suggest 13 = .ok (.lastore, 1) := by decide +kernel
theorem dL_suggest_14 : decode cL_suggest 14 = .ok (.goto 7, 3) := by decide +kernel
theorem dL_suggest_17 : decode cL_suggest 17 = .ok (.astore 6, 2) := by decide +kernel
theorem dL_suggest_19 : decode cL_suggest 19 = .ok (.iconst 1, 1) := by decide +kernel
theorem dL_suggest_20 : decode cL_suggest 20 = .ok (.ireturn, 1) := by decide +kernel
theorem dL_suggest_21 : decode cL_suggest 21 = .ok (.iconst 0, 1) := by decide +kernel
theorem dL_suggest_22 : decode cL_suggest 22 = .ok (.ireturn, 1) := by decide +kernel
set_option maxRecDepth 20000 in
theorem ggL_law_X6_init : GoodIn wsL_law wsX6_init := goodIn_r _ [10, 11, 12, 13, 14, 15, 16, 17, 18, 19, 20, 21, 22, 23, 24, 25, 26, 27, 28, 29, 30, 31, 32, 33, 34, 35, 36, 37, 808, 809, 810, 782, 783, 784, 785, 786, 787] (by decide +kernel) (by decide +kernel)
set_option maxRecDepth 20000 in
theorem gL_law_X6_init : GoodIn wsL_law (wsX6_init) := ggL_law_X6_init
set_option maxRecDepth 20000 in
theorem ggL_law_X7_init : GoodIn wsL_law wsX7_init := goodIn_r _ [40, 41, 12, 13, 42, 43, 44, 45, 46, 47, 48, 49, 50, 51, 52, 6, 53, 54, 55, 788, 789, 790, 791, 792, 793, 794, 795, 796, 797, 798, 799, 800, 801, 802, 803, 804, 805, 806, 807] (by decide +kernel) (by decide +kernel)
set_option maxRecDepth 20000 in
theorem gL_law_X7_init : GoodIn wsL_law (wsX7_init) := ggL_law_X7_init
set_option maxRecDepth 20000 in
theorem ggL_law_L_addShaft : GoodIn wsL_law wsL_addShaft := goodIn_ca (goodIn_ca (goodIn_r _ [59, 60, 61, 62, 63, 64, 2, 65, 66, 67, 17, 68, 69, 70, 71, 72, 73, 74, 75, 76, 77, 78, 79, 80, 81, 16, 82, 83, 84, 85, 86, 87, 12, 13, 88, 89, 90, 91, 92, 93, 94, 95, 96, 97, 98, 99, 100, 101, 102, 103, 104, 105, 106, 107, 27, 108, 109, 110, 111, 112, 113, 114, 115, 116, 117, 118, 119, 26, 120, 121, 122, 123, 124, 125, 126, 127, 128, 129, 130, 131, 132, 133, 134, 135, 136, 137, 138, 139, 140, 141, 142, 143, 144, 145, 146, 147, 148, 149, 150, 151, 152, 153, 782, 783, 784, 785, 786, 787, 811, 812, 813, 814, 815, 808, 809, 810, 816, 817] (by decide +kernel) (by decide +kernel)) (goodIn_sub (fun _ h => List.mem_append_left _ (List.mem_append_left _ (List.mem_append_right _ h))) (by decide +kernel))) (goodIn_sub (fun _ h => List.mem_append_left _ (List.mem_append_right _ h)) (by decide +kernel))
set_option maxRecDepth 20000 in
theorem gL_law_L_addShaft : GoodIn wsL_law (va_wsS RL 82 yL_addShaft wsL_addShaft) := goodIn_app (goodIn_of _ (by decide +kernel)) ggL_law_L_addShaft
set_option maxRecDepth 20000 in
theorem ggL_law_X7_addShaft : GoodIn wsL_law wsX7_addShaft := goodIn_r _ [157, 158, 159, 43, 44, 160, 161, 5, 162, 163, 164, 165, 166, 167, 168, 169, 788, 789, 790, 791, 792, 793, 794, 795, 796, 797, 798, 799, 800, 801, 802, 803, 804, 805, 806, 807] (by decide +kernel) (by decide +kernel)
set_option maxRecDepth 20000 in
theorem gL_law_X7_addShaft : GoodIn wsL_law (wsV RL 87 RX7 yX7_addShaft wsX7_addShaft) := goodIn_app (goodIn_of _ (by decide +kernel)) ggL_law_X7_addShaft
set_option maxRecDepth 20000 in
theorem ggL_law_X7_thrown : GoodIn wsL_law wsX7_thrown := goodIn_r _ [173, 158, 788, 789, 790, 791, 792, 793, 794, 795, 796, 797, 798, 799, 800, 801, 802, 803, 804, 805, 806, 807] (by decide +kernel) (by decide +kernel)
set_option maxRecDepth 20000 in
theorem gL_law_X7_thrown : GoodIn wsL_law (wsV RL 88 RX7 yX7_thrown wsX7_thrown) := goodIn_app (goodIn_of _ (by decide +kernel)) ggL_law_X7_thrown
set_option maxRecDepth 20000 in
theorem ggL_law_L_move : GoodIn wsL_law wsL_move := goodIn_ca (goodIn_ca (goodIn_r _ [176, 177, 60, 178, 179, 180, 2, 181, 17, 182, 183, 184, 185, 186, 187, 188, 189, 190, 79, 80, 81, 16, 82, 83, 76, 77, 78, 71, 72, 73, 74, 75, 191, 192, 193, 194, 195, 196, 197, 198, 199, 200, 201, 202, 203, 204, 205, 206, 27, 207, 208, 209, 70, 210, 88, 89, 782, 783, 784, 785, 786, 787, 811, 812, 813, 814, 815, 808, 809, 810] (by decide +kernel) (by decide +kernel)) (goodIn_sub (fun _ h => List.mem_append_right _ h) (by decide +kernel))) (goodIn_sub (fun _ h => List.mem_append_left _ (List.mem_append_right _ h)) (by decide +kernel))
set_option maxRecDepth 20000 in
theorem gL_law_L_move : GoodIn wsL_law (va_wsS RL 91 yL_move wsL_move) := goodIn_app (goodIn_of _ (by decide +kernel)) ggL_law_L_move
set_option maxRecDepth 20000 in
theorem ggL_law_X7_move : GoodIn wsL_law wsX7_move := goodIn_r _ [214, 158, 43, 44, 215, 216, 217, 5, 218, 159, 163, 164, 165, 166, 167, 168, 169, 160, 161, 162, 219, 220, 221, 788, 789, 790, 791, 792, 793, 794, 795, 796, 797, 798, 799, 800, 801, 802, 803, 804, 805, 806, 807] (by decide +kernel) (by decide +kernel)
set_option maxRecDepth 20000 in
theorem gL_law_X7_move : GoodIn wsL_law (wsV RL 94 RX7 yX7_move wsX7_move) := goodIn_app (goodIn_of _ (by decide +kernel)) ggL_law_X7_move
set_option maxRecDepth 20000 in
theorem ggL_law_L_addGear : GoodIn wsL_law wsL_addGear := goodIn_ca (goodIn_ca (goodIn_ca (goodIn_r _ [224, 177, 60, 61, 225, 226, 227, 2, 228, 74, 75, 66, 67, 18, 229, 230, 231, 17, 182, 185, 186, 187, 188, 189, 190, 79, 80, 81, 16, 82, 83, 76, 77, 78, 191, 192, 193, 194, 195, 196, 197, 198, 199, 200, 201, 202, 203, 204, 205, 206, 27, 232, 233, 234, 235, 12, 13, 236, 237, 238, 239, 240, 102, 103, 104, 105, 106, 107, 108, 109, 110, 111, 112, 113, 114, 115, 116, 117, 118, 119, 26, 120, 121, 122, 123, 124, 125, 126, 127, 128, 129, 130, 131, 132, 133, 134, 135, 136, 137, 138, 139, 140, 141, 142, 143, 144, 145, 146, 147, 148, 149, 150, 151, 152, 153, 782, 783, 784, 785, 786, 787, 818, 819, 820, 821, 822, 808, 809, 810] (by decide +kernel) (by decide +kernel)) (goodIn_sub (fun _ h => List.mem_append_left _ (List.mem_append_right _ h)) (by decide +kernel))) (goodIn_sub (fun _ h => List.mem_append_left _ (List.mem_append_left _ (List.mem_append_right _ h))) (by decide +kernel))) (goodIn_sub (fun _ h => List.mem_append_right _ h) (by decide +kernel))
set_option maxRecDepth 20000 in
theorem gL_law_L_addGear : GoodIn wsL_law (va_wsS RL 95 yL_addGear wsL_addGear) := goodIn_app (goodIn_of _ (by decide +kernel)) ggL_law_L_addGear
set_option maxRecDepth 20000 in
theorem ggL_law_X7_addGear : GoodIn wsL_law wsX7_addGear := goodIn_r _ [244, 158, 245, 48, 49, 215, 216, 217, 5, 218, 159, 163, 164, 165, 166, 167, 168, 169, 788, 789, 790, 791, 792, 793, 794, 795, 796, 797, 798, 799, 800, 801, 802, 803, 804, 805, 806, 807] (by decide +kernel) (by decide +kernel)
set_option maxRecDepth 20000 in
theorem gL_law_X7_addGear : GoodIn wsL_law (wsV RL 98 RX7 yX7_addGear wsX7_addGear) := goodIn_app (goodIn_of _ (by decide +kernel)) ggL_law_X7_addGear
set_option maxRecDepth 20000 in
theorem ggL_law_L_mesh : GoodIn wsL_law wsL_mesh := goodIn_ca (goodIn_ca (goodIn_ca (goodIn_r _ [248, 177, 60, 61, 249, 250, 251, 2, 252, 74, 75, 66, 67, 18, 253, 19, 254, 255, 256, 257, 258, 259, 260, 189, 190, 79, 80, 81, 16, 82, 83, 76, 77, 78, 191, 192, 193, 194, 195, 196, 197, 198, 199, 200, 201, 202, 203, 204, 205, 206, 27, 261, 262, 263, 231, 264, 236, 239, 238, 240, 237, 265, 266, 267, 268, 269, 270, 271, 272, 273, 274, 275, 276, 277, 278, 279, 12, 13, 280, 281, 282, 283, 284, 285, 286, 287, 288, 289, 290, 291, 292, 293, 294, 295, 296, 297, 298, 299, 300, 301, 93, 94, 302, 303, 304, 97, 98, 99, 100, 101, 102, 103, 104, 105, 106, 107, 108, 109, 110, 111, 112, 113, 114, 115, 116, 117, 118, 119, 26, 120, 121, 122, 123, 124, 125, 126, 127, 128, 129, 130, 131, 132, 133, 134, 135, 136, 137, 138, 139, 140, 141, 142, 143, 144, 145, 146, 147, 148, 149, 150, 151, 152, 153, 305, 306, 307, 308, 17, 182, 21, 22, 309, 310, 20, 311, 312, 313, 314, 315, 70, 316, 90, 91, 95, 317, 318, 319, 320, 321, 322, 323, 324, 325, 326, 327, 328, 329, 330, 331, 332, 333, 334, 335, 336, 337, 338, 339, 340, 341, 342, 343, 344, 345, 346, 347, 348, 349, 350, 351, 352, 353, 354, 355, 356, 357, 358, 359, 360, 361, 362, 363, 364, 365, 366, 367, 368, 369, 782, 783, 784, 785, 786, 787, 823, 824, 825, 808, 809, 810, 818, 819, 820, 821, 822, 826, 827, 828, 829, 830, 816, 817, 831, 832, 811, 812, 813, 814, 815] (by decide +kernel) (by decide +kernel)) (goodIn_sub (fun _ h => List.mem_append_left _ (List.mem_append_right _ h)) (by decide +kernel))) (goodIn_sub (fun _ h => List.mem_append_left _ (List.mem_append_left _ (List.mem_append_right _ h))) (by decide +kernel))) (goodIn_sub (fun _ h => List.mem_append_right _ h) (by decide +kernel))
set_option maxRecDepth 20000 in
theorem gL_law_L_mesh : GoodIn wsL_law (va_wsS RL 99 yL_mesh wsL_mesh) := goodIn_app (goodIn_of _ (by decide +kernel)) ggL_law_L_mesh
set_option maxRecDepth 20000 in
theorem ggL_law_X7_mesh : GoodIn wsL_law wsX7_mesh := goodIn_r _ [373, 158, 374, 50, 51, 375, 376, 377, 5, 378, 245, 163, 164, 165, 166, 167, 168, 169, 379, 380, 381, 382, 49, 383, 384, 385, 386, 48, 387, 388, 389, 390, 391, 392, 393, 394, 395, 396, 397, 398, 399, 400, 401, 402, 788, 789, 790, 791, 792, 793, 794, 795, 796, 797, 798, 799, 800, 801, 802, 803, 804, 805, 806, 807] (by decide +kernel) (by decide +kernel)
set_option maxRecDepth 20000 in
theorem gL_law_X7_mesh : GoodIn wsL_law (wsV RL 101 RX7 yX7_mesh wsX7_mesh) := goodIn_app (goodIn_of _ (by decide +kernel)) ggL_law_X7_mesh
set_option maxRecDepth 20000 in
theorem ggL_law_L_unmesh : GoodIn wsL_law wsL_unmesh := goodIn_ca (goodIn_r _ [405, 61, 406, 407, 408, 2, 409, 66, 67, 19, 410, 411, 412, 16, 413, 83, 79, 80, 81, 82, 414, 415, 416, 417, 27, 195, 196, 197, 198, 199, 200, 201, 202, 418, 419, 420, 421, 106, 107, 422, 151, 152, 153, 305, 306, 307, 308, 17, 182, 21, 22, 269, 309, 310, 20, 311, 312, 191, 192, 193, 194, 203, 204, 205, 206, 313, 314, 315, 70, 316, 90, 91, 95, 317, 318, 319, 94, 320, 321, 322, 122, 323, 100, 101, 324, 325, 326, 327, 328, 329, 330, 331, 332, 333, 284, 334, 303, 302, 335, 336, 337, 338, 339, 300, 340, 341, 342, 343, 344, 345, 346, 347, 348, 349, 350, 351, 352, 353, 354, 355, 356, 357, 358, 359, 360, 361, 362, 363, 121, 123, 364, 365, 366, 367, 368, 369, 782, 783, 784, 785, 786, 787, 808, 809, 810, 823, 824, 825, 826, 827, 828, 831, 832, 811, 812, 813, 814, 815, 816, 817, 829, 830] (by decide +kernel) (by decide +kernel)) (goodIn_sub (fun _ h => List.mem_append_left _ (List.mem_append_left _ (List.mem_append_right _ h))) (by decide +kernel))
set_option maxRecDepth 20000 in
theorem gL_law_L_unmesh : GoodIn wsL_law (va_wsS RL 102 yL_unmesh wsL_unmesh) := goodIn_app (goodIn_of _ (by decide +kernel)) ggL_law_L_unmesh
set_option maxRecDepth 20000 in
theorem ggL_law_X7_unmesh : GoodIn wsL_law wsX7_unmesh := goodIn_r _ [426, 158, 374, 166, 167, 168, 5, 169, 788, 789, 790, 791, 792, 793, 794, 795, 796, 797, 798, 799, 800, 801, 802, 803, 804, 805, 806, 807] (by decide +kernel) (by decide +kernel)
set_option maxRecDepth 20000 in
theorem gL_law_X7_unmesh : GoodIn wsL_law (wsV RL 105 RX7 yX7_unmesh wsX7_unmesh) := goodIn_app (goodIn_of _ (by decide +kernel)) ggL_law_X7_unmesh
set_option maxRecDepth 20000 in
theorem ggL_law_L_addPlanets : GoodIn wsL_law wsL_addPlanets := goodIn_ca (goodIn_ca (goodIn_ca (goodIn_r _ [429, 177, 60, 61, 430, 431, 432, 2, 433, 74, 75, 66, 67, 20, 434, 435, 436, 17, 182, 185, 186, 187, 188, 189, 190, 79, 80, 81, 16, 82, 83, 76, 77, 78, 191, 192, 193, 194, 195, 196, 197, 198, 199, 200, 201, 202, 203, 204, 205, 206, 27, 437, 438, 439, 440, 12, 13, 441, 442, 283, 284, 443, 286, 287, 444, 445, 291, 292, 293, 294, 295, 446, 297, 298, 299, 300, 301, 93, 94, 302, 303, 304, 97, 98, 99, 100, 101, 102, 103, 104, 105, 106, 107, 108, 109, 110, 111, 112, 113, 114, 115, 116, 117, 118, 119, 26, 120, 121, 122, 123, 124, 125, 126, 127, 128, 129, 130, 131, 132, 133, 134, 135, 136, 137, 138, 139, 140, 141, 142, 143, 144, 145, 146, 147, 148, 149, 150, 151, 152, 153, 305, 306, 307, 308, 21, 22, 19, 269, 309, 310, 311, 312, 313, 314, 315, 70, 316, 90, 91, 95, 317, 318, 319, 320, 321, 322, 323, 324, 325, 326, 327, 328, 329, 330, 331, 332, 333, 334, 335, 336, 337, 338, 339, 340, 341, 342, 343, 344, 345, 346, 347, 348, 349, 350, 351, 352, 353, 354, 355, 356, 357, 358, 359, 360, 361, 362, 363, 364, 365, 366, 367, 368, 369, 782, 783, 784, 785, 786, 787, 831, 832, 808, 809, 810, 826, 827, 828, 829, 830, 816, 817, 823, 824, 825, 811, 812, 813, 814, 815] (by decide +kernel) (by decide +kernel)) (goodIn_sub (fun _ h => List.mem_append_left _ (List.mem_append_right _ h)) (by decide +kernel))) (goodIn_sub (fun _ h => List.mem_append_left _ (List.mem_append_left _ (List.mem_append_right _ h))) (by decide +kernel))) (goodIn_sub (fun _ h => List.mem_append_right _ h) (by decide +kernel))
set_option maxRecDepth 20000 in
theorem gL_law_L_addPlanets : GoodIn wsL_law (va_wsS RL 106 yL_addPlanets wsL_addPlanets) := goodIn_app (goodIn_of _ (by decide +kernel)) ggL_law_L_addPlanets
set_option maxRecDepth 20000 in
theorem ggL_law_X7_addPlanets : GoodIn wsL_law wsX7_addPlanets := goodIn_r _ [450, 158, 451, 52, 215, 216, 217, 5, 218, 159, 163, 164, 165, 166, 167, 168, 169, 788, 789, 790, 791, 792, 793, 794, 795, 796, 797, 798, 799, 800, 801, 802, 803, 804, 805, 806, 807] (by decide +kernel) (by decide +kernel)
set_option maxRecDepth 20000 in
theorem gL_law_X7_addPlanets : GoodIn wsL_law (wsV RL 109 RX7 yX7_addPlanets wsX7_addPlanets) := goodIn_app (goodIn_of _ (by decide +kernel)) ggL_law_X7_addPlanets
set_option maxRecDepth 20000 in
theorem ggL_law_L_planets : GoodIn wsL_law wsL_planets := goodIn_ca (goodIn_ca (goodIn_r _ [454, 177, 60, 455, 456, 457, 2, 458, 189, 190, 74, 75, 20, 311, 79, 80, 81, 16, 82, 83, 76, 77, 78, 191, 192, 193, 194, 195, 196, 197, 198, 199, 200, 201, 202, 203, 204, 205, 206, 27, 459, 460, 461, 436, 462, 441, 782, 783, 784, 785, 786, 787, 808, 809, 810, 831, 832] (by decide +kernel) (by decide +kernel)) (goodIn_sub (fun _ h => List.mem_append_right _ h) (by decide +kernel))) (goodIn_sub (fun _ h => List.mem_append_left _ (List.mem_append_right _ h)) (by decide +kernel))
set_option maxRecDepth 20000 in
theorem gL_law_L_planets : GoodIn wsL_law (va_wsS RL 110 yL_planets wsL_planets) := goodIn_app (goodIn_of _ (by decide +kernel)) ggL_law_L_planets
set_option maxRecDepth 20000 in
theorem ggL_law_X7_planets : GoodIn wsL_law wsX7_planets := goodIn_r _ [466, 158, 451, 52, 163, 164, 5, 165, 166, 167, 168, 169, 788, 789, 790, 791, 792, 793, 794, 795, 796, 797, 798, 799, 800, 801, 802, 803, 804, 805, 806, 807] (by decide +kernel) (by decide +kernel)
set_option maxRecDepth 20000 in
theorem gL_law_X7_planets : GoodIn wsL_law (wsV RL 112 RX7 yX7_planets wsX7_planets) := goodIn_app (goodIn_of _ (by decide +kernel)) ggL_law_X7_planets
set_option maxRecDepth 20000 in
theorem ggL_law_L_count : GoodIn wsL_law wsL_count := goodIn_ca (goodIn_r _ [469, 177, 470, 471, 472, 2, 473, 189, 190, 17, 18, 19, 20, 79, 80, 81, 16, 82, 83, 782, 783, 784, 785, 786, 787, 808, 809, 810] (by decide +kernel) (by decide +kernel)) (goodIn_sub (fun _ h => List.mem_append_right _ h) (by decide +kernel))
set_option maxRecDepth 20000 in
theorem gL_law_L_count : GoodIn wsL_law (va_wsS RL 113 yL_count wsL_count) := goodIn_app (goodIn_of _ (by decide +kernel)) ggL_law_L_count
set_option maxRecDepth 20000 in
theorem ggL_law_X7_count : GoodIn wsL_law wsX7_count := goodIn_r _ [477, 158, 159, 245, 374, 451, 163, 164, 5, 165, 166, 167, 168, 169, 788, 789, 790, 791, 792, 793, 794, 795, 796, 797, 798, 799, 800, 801, 802, 803, 804, 805, 806, 807] (by decide +kernel) (by decide +kernel)
set_option maxRecDepth 20000 in
theorem gL_law_X7_count : GoodIn wsL_law (wsV RL 116 RX7 yX7_count wsX7_count) := goodIn_app (goodIn_of _ (by decide +kernel)) ggL_law_X7_count
set_option maxRecDepth 20000 in
theorem ggL_law_L_drive : GoodIn wsL_law wsL_drive := goodIn_ca (goodIn_ca (goodIn_r _ [480, 177, 60, 481, 482, 483, 2, 484, 74, 75, 21, 22, 17, 182, 485, 185, 186, 187, 188, 189, 190, 79, 80, 81, 16, 82, 83, 76, 77, 78, 191, 192, 193, 194, 195, 196, 197, 198, 199, 200, 201, 202, 203, 204, 205, 206, 27, 305, 306, 307, 308, 19, 269, 309, 310, 20, 311, 312, 313, 314, 315, 70, 316, 90, 91, 95, 317, 318, 319, 94, 320, 321, 322, 122, 323, 100, 101, 324, 325, 326, 327, 328, 329, 330, 331, 332, 333, 284, 334, 303, 302, 335, 336, 337, 338, 339, 300, 340, 341, 342, 343, 344, 345, 346, 347, 348, 349, 350, 351, 352, 353, 354, 355, 356, 357, 358, 359, 360, 361, 362, 363, 121, 123, 364, 365, 366, 367, 368, 369, 782, 783, 784, 785, 786, 787, 811, 812, 813, 814, 815, 808, 809, 810, 823, 824, 825, 826, 827, 828, 831, 832, 816, 817, 829, 830] (by decide +kernel) (by decide +kernel)) (goodIn_sub (fun _ h => List.mem_append_left _ (List.mem_append_right _ h)) (by decide +kernel))) (goodIn_sub (fun _ h => List.mem_append_right _ h) (by decide +kernel))
set_option maxRecDepth 20000 in
theorem gL_law_L_drive : GoodIn wsL_law (va_wsS RL 117 yL_drive wsL_drive) := goodIn_app (goodIn_of _ (by decide +kernel)) ggL_law_L_drive
set_option maxRecDepth 20000 in
theorem ggL_law_X7_drive : GoodIn wsL_law wsX7_drive := goodIn_r _ [489, 158, 47, 490, 46, 215, 216, 217, 5, 218, 159, 163, 164, 165, 166, 167, 168, 169, 788, 789, 790, 791, 792, 793, 794, 795, 796, 797, 798, 799, 800, 801, 802, 803, 804, 805, 806, 807] (by decide +kernel) (by decide +kernel)
set_option maxRecDepth 20000 in
theorem gL_law_X7_drive : GoodIn wsL_law (wsV RL 119 RX7 yX7_drive wsX7_drive) := goodIn_app (goodIn_of _ (by decide +kernel)) ggL_law_X7_drive
set_option maxRecDepth 20000 in
theorem ggL_law_L_hold : GoodIn wsL_law wsL_hold := goodIn_ca (goodIn_ca (goodIn_r _ [493, 177, 61, 494, 495, 496, 2, 497, 66, 67, 21, 17, 182, 485, 185, 186, 187, 188, 189, 190, 79, 80, 81, 16, 82, 83, 76, 77, 78, 191, 192, 193, 194, 195, 196, 197, 198, 199, 200, 201, 202, 203, 204, 205, 206, 27, 305, 306, 307, 308, 22, 19, 269, 309, 310, 20, 311, 312, 313, 314, 315, 70, 316, 90, 91, 95, 317, 318, 319, 94, 320, 321, 322, 122, 323, 100, 101, 324, 325, 326, 327, 328, 329, 330, 331, 332, 333, 284, 334, 303, 302, 335, 336, 337, 338, 339, 300, 340, 341, 342, 343, 344, 345, 346, 347, 348, 349, 350, 351, 352, 353, 354, 355, 356, 357, 358, 359, 360, 361, 362, 363, 121, 123, 364, 365, 366, 367, 368, 369, 782, 783, 784, 785, 786, 787, 811, 812, 813, 814, 815, 808, 809, 810, 823, 824, 825, 826, 827, 828, 831, 832, 816, 817, 829, 830] (by decide +kernel) (by decide +kernel)) (goodIn_sub (fun _ h => List.mem_append_left _ (List.mem_append_left _ (List.mem_append_right _ h))) (by decide +kernel))) (goodIn_sub (fun _ h => List.mem_append_right _ h) (by decide +kernel))
set_option maxRecDepth 20000 in
theorem gL_law_L_hold : GoodIn wsL_law (va_wsS RL 120 yL_hold wsL_hold) := goodIn_app (goodIn_of _ (by decide +kernel)) ggL_law_L_hold
set_option maxRecDepth 20000 in
theorem ggL_law_X7_hold : GoodIn wsL_law wsX7_hold := goodIn_r _ [501, 47, 158, 46, 215, 216, 217, 5, 218, 159, 163, 164, 165, 788, 789, 790, 791, 792, 793, 794, 795, 796, 797, 798, 799, 800, 801, 802, 803, 804, 805, 806, 807] (by decide +kernel) (by decide +kernel)
set_option maxRecDepth 20000 in
theorem gL_law_X7_hold : GoodIn wsL_law (wsV RL 123 RX7 yX7_hold wsX7_hold) := goodIn_app (goodIn_of _ (by decide +kernel)) ggL_law_X7_hold
set_option maxRecDepth 20000 in
theorem ggL_law_L_isTold : GoodIn wsL_law wsL_isTold := goodIn_ca (goodIn_r _ [504, 177, 505, 506, 507, 2, 508, 17, 182, 185, 186, 187, 188, 189, 190, 79, 80, 81, 16, 82, 83, 76, 77, 78, 191, 192, 193, 194, 195, 196, 197, 198, 199, 200, 201, 202, 203, 204, 205, 206, 27, 509, 341, 342, 70, 343, 91, 782, 783, 784, 785, 786, 787, 808, 809, 810, 811, 812, 813, 814, 815] (by decide +kernel) (by decide +kernel)) (goodIn_sub (fun _ h => List.mem_append_right _ h) (by decide +kernel))
set_option maxRecDepth 20000 in
theorem gL_law_L_isTold : GoodIn wsL_law (va_wsS RL 124 yL_isTold wsL_isTold) := goodIn_app (goodIn_of _ (by decide +kernel)) ggL_law_L_isTold
set_option maxRecDepth 20000 in
theorem ggL_law_X7_isTold : GoodIn wsL_law wsX7_isTold := goodIn_r _ [513, 158, 215, 216, 217, 5, 218, 159, 163, 164, 165, 514, 515, 516, 517, 47, 46, 53, 490, 54, 55, 45, 374, 50, 51, 451, 383, 384, 385, 386, 48, 518, 519, 520, 521, 522, 523, 524, 525, 526, 527, 528, 529, 530, 49, 399, 400, 401, 402, 531, 532, 533, 534, 535, 536, 537, 538, 539, 540, 322, 122, 323, 541, 542, 543, 544, 545, 546, 547, 548, 549, 52, 550, 551, 552, 553, 554, 121, 123, 555, 556, 557, 558, 788, 789, 790, 791, 792, 793, 794, 795, 796, 797, 798, 799, 800, 801, 802, 803, 804, 805, 806, 807] (by decide +kernel) (by decide +kernel)
set_option maxRecDepth 20000 in
theorem gL_law_X7_isTold : GoodIn wsL_law (wsV RL 126 RX7 yX7_isTold wsX7_isTold) := goodIn_app (goodIn_of _ (by decide +kernel)) ggL_law_X7_isTold
set_option maxRecDepth 20000 in
theorem ggL_law_L_speed : GoodIn wsL_law wsL_speed := goodIn_ca (goodIn_ca (goodIn_r _ [561, 177, 61, 562, 563, 564, 2, 565, 17, 182, 566, 567, 568, 185, 186, 187, 188, 189, 190, 79, 80, 81, 16, 82, 83, 76, 77, 78, 569, 570, 571, 572, 66, 67, 191, 192, 193, 194, 195, 196, 197, 198, 199, 200, 201, 202, 203, 204, 205, 206, 27, 509, 341, 342, 70, 343, 91, 782, 783, 784, 785, 786, 787, 811, 812, 813, 814, 815, 816, 817, 808, 809, 810] (by decide +kernel) (by decide +kernel)) (goodIn_sub (fun _ h => List.mem_append_right _ h) (by decide +kernel))) (goodIn_sub (fun _ h => List.mem_append_left _ (List.mem_append_left _ (List.mem_append_right _ h))) (by decide +kernel))
set_option maxRecDepth 20000 in
theorem gL_law_L_speed : GoodIn wsL_law (va_wsS RL 127 yL_speed wsL_speed) := goodIn_app (goodIn_of _ (by decide +kernel)) ggL_law_L_speed
set_option maxRecDepth 20000 in
theorem ggL_law_X7_speed : GoodIn wsL_law wsX7_speed := goodIn_r _ [576, 158, 54, 53, 215, 216, 217, 5, 218, 159, 163, 164, 165, 166, 167, 168, 169, 514, 515, 516, 517, 47, 46, 490, 55, 45, 374, 50, 51, 451, 383, 384, 385, 386, 48, 518, 519, 520, 521, 522, 523, 524, 525, 526, 527, 528, 529, 530, 49, 399, 400, 401, 402, 531, 532, 533, 534, 535, 536, 537, 538, 539, 540, 322, 122, 323, 541, 542, 543, 544, 545, 546, 547, 548, 549, 52, 550, 551, 552, 553, 554, 121, 123, 555, 556, 557, 558, 788, 789, 790, 791, 792, 793, 794, 795, 796, 797, 798, 799, 800, 801, 802, 803, 804, 805, 806, 807] (by decide +kernel) (by decide +kernel)
set_option maxRecDepth 20000 in
theorem gL_law_X7_speed : GoodIn wsL_law (wsV RL 129 RX7 yX7_speed wsX7_speed) := goodIn_app (goodIn_of _ (by decide +kernel)) ggL_law_X7_speed
set_option maxRecDepth 20000 in
theorem ggL_law_L_stage : GoodIn wsL_law wsL_stage := goodIn_ca (goodIn_r _ [579, 177, 580, 581, 582, 2, 583, 17, 182, 584, 185, 186, 187, 188, 189, 190, 79, 80, 81, 16, 82, 83, 76, 77, 78, 191, 192, 193, 194, 195, 196, 197, 198, 199, 200, 201, 202, 203, 204, 205, 206, 27, 782, 783, 784, 785, 786, 787, 811, 812, 813, 814, 815, 808, 809, 810] (by decide +kernel) (by decide +kernel)) (goodIn_sub (fun _ h => List.mem_append_right _ h) (by decide +kernel))
set_option maxRecDepth 20000 in
theorem gL_law_L_stage : GoodIn wsL_law (va_wsS RL 130 yL_stage wsL_stage) := goodIn_app (goodIn_of _ (by decide +kernel)) ggL_law_L_stage
set_option maxRecDepth 20000 in
theorem ggL_law_X7_stage : GoodIn wsL_law wsX7_stage := goodIn_r _ [588, 158, 55, 215, 216, 217, 5, 218, 159, 163, 164, 165, 166, 167, 168, 169, 514, 515, 516, 517, 47, 46, 53, 490, 54, 45, 374, 50, 51, 451, 383, 384, 385, 386, 48, 518, 519, 520, 521, 522, 523, 524, 525, 526, 527, 528, 529, 530, 49, 399, 400, 401, 402, 531, 532, 533, 534, 535, 536, 537, 538, 539, 540, 322, 122, 323, 541, 542, 543, 544, 545, 546, 547, 548, 549, 52, 550, 551, 552, 553, 554, 121, 123, 555, 556, 557, 558, 788, 789, 790, 791, 792, 793, 794, 795, 796, 797, 798, 799, 800, 801, 802, 803, 804, 805, 806, 807] (by decide +kernel) (by decide +kernel)
set_option maxRecDepth 20000 in
theorem gL_law_X7_stage : GoodIn wsL_law (wsV RL 132 RX7 yX7_stage wsX7_stage) := goodIn_app (goodIn_of _ (by decide +kernel)) ggL_law_X7_stage
set_option maxRecDepth 20000 in
theorem ggL_law_L_ratio : GoodIn wsL_law wsL_ratio := goodIn_ca (goodIn_ca (goodIn_r _ [591, 177, 61, 592, 593, 594, 2, 595, 17, 182, 566, 185, 186, 187, 188, 189, 190, 79, 80, 81, 16, 82, 83, 76, 77, 78, 569, 570, 571, 572, 66, 67, 191, 192, 193, 194, 195, 196, 197, 198, 199, 200, 201, 202, 203, 204, 205, 206, 27, 509, 341, 342, 70, 343, 91, 596, 597, 598, 599, 568, 600, 601, 602, 94, 603, 100, 101, 782, 783, 784, 785, 786, 787, 811, 812, 813, 814, 815, 808, 809, 810, 816, 817] (by decide +kernel) (by decide +kernel)) (goodIn_sub (fun _ h => List.mem_append_right _ h) (by decide +kernel))) (goodIn_sub (fun _ h => List.mem_append_left _ (List.mem_append_left _ (List.mem_append_right _ h))) (by decide +kernel))
set_option maxRecDepth 20000 in
theorem gL_law_L_ratio : GoodIn wsL_law (va_wsS RL 133 yL_ratio wsL_ratio) := goodIn_app (goodIn_of _ (by decide +kernel)) ggL_law_L_ratio
set_option maxRecDepth 20000 in
theorem ggL_law_X7_ratio : GoodIn wsL_law wsX7_ratio := goodIn_r _ [607, 158, 53, 215, 216, 217, 5, 218, 159, 163, 164, 165, 514, 515, 516, 517, 47, 46, 490, 54, 55, 45, 374, 50, 51, 451, 383, 384, 385, 386, 48, 518, 519, 520, 521, 522, 523, 524, 525, 526, 527, 528, 529, 530, 49, 399, 400, 401, 402, 531, 532, 533, 534, 535, 536, 537, 538, 539, 540, 322, 122, 323, 541, 542, 543, 544, 545, 546, 547, 548, 549, 52, 550, 551, 552, 553, 554, 121, 123, 555, 556, 557, 558, 608, 609, 610, 611, 788, 789, 790, 791, 792, 793, 794, 795, 796, 797, 798, 799, 800, 801, 802, 803, 804, 805, 806, 807] (by decide +kernel) (by decide +kernel)
set_option maxRecDepth 20000 in
theorem gL_law_X7_ratio : GoodIn wsL_law (wsV RL 136 RX7 yX7_ratio wsX7_ratio) := goodIn_app (goodIn_of _ (by decide +kernel)) ggL_law_X7_ratio
set_option maxRecDepth 20000 in
theorem ggL_law_X6_broken : GoodIn wsL_law wsX6_broken := goodIn_r _ [615, 20, 311, 312, 19, 269, 309, 79, 80, 81, 16, 82, 83, 191, 192, 193, 194, 195, 196, 197, 198, 199, 200, 201, 202, 203, 204, 205, 206, 27, 616, 617, 618, 284, 619, 300, 335, 302, 348, 340, 341, 342, 70, 343, 91, 344, 345, 346, 347, 349, 350, 351, 352, 318, 319, 94, 320, 321, 322, 122, 323, 100, 101, 324, 325, 326, 620, 621, 622, 623, 782, 783, 784, 785, 786, 787, 831, 832, 823, 824, 825, 808, 809, 810, 826, 827, 828, 829, 830, 811, 812, 813, 814, 815, 816, 817] (by decide +kernel) (by decide +kernel)
set_option maxRecDepth 20000 in
theorem gL_law_X6_broken : GoodIn wsL_law (wsV RL 137 RX6 yX6_broken wsX6_broken) := goodIn_app (goodIn_of _ (by decide +kernel)) ggL_law_X6_broken
set_option maxRecDepth 20000 in
theorem ggL_law_X7_broken : GoodIn wsL_law wsX7_broken := goodIn_r _ [627, 158, 514, 515, 516, 5, 517, 159, 47, 46, 53, 490, 54, 55, 45, 374, 50, 51, 451, 383, 384, 385, 386, 48, 518, 519, 520, 521, 522, 523, 524, 525, 526, 527, 528, 529, 530, 49, 399, 400, 401, 402, 531, 532, 533, 534, 535, 536, 537, 538, 539, 540, 322, 122, 323, 541, 542, 543, 544, 545, 546, 547, 548, 549, 52, 550, 551, 552, 553, 554, 121, 123, 555, 556, 557, 558, 628, 629, 630, 631, 632, 633, 634, 635, 636, 637, 638, 639, 788, 789, 790, 791, 792, 793, 794, 795, 796, 797, 798, 799, 800, 801, 802, 803, 804, 805, 806, 807] (by decide +kernel) (by decide +kernel)
set_option maxRecDepth 20000 in
theorem gL_law_X7_broken : GoodIn wsL_law (wsV RL 141 RX7 yX7_broken wsX7_broken) := goodIn_app (goodIn_of _ (by decide +kernel)) ggL_law_X7_broken
set_option maxRecDepth 20000 in
theorem ggL_law_X6_free : GoodIn wsL_law wsX6_free := goodIn_r _ [643, 17, 182, 79, 80, 81, 16, 82, 83, 191, 192, 193, 194, 195, 196, 197, 198, 199, 200, 201, 202, 203, 204, 205, 206, 27, 509, 341, 342, 70, 343, 91, 782, 783, 784, 785, 786, 787, 808, 809, 810, 811, 812, 813, 814, 815] (by decide +kernel) (by decide +kernel)
set_option maxRecDepth 20000 in
theorem gL_law_X6_free : GoodIn wsL_law (wsV RL 142 RX6 yX6_free wsX6_free) := goodIn_app (goodIn_of _ (by decide +kernel)) ggL_law_X6_free
set_option maxRecDepth 20000 in
theorem ggL_law_X7_free : GoodIn wsL_law wsX7_free := goodIn_r _ [647, 158, 159, 514, 515, 516, 5, 517, 47, 46, 53, 490, 54, 55, 45, 374, 50, 51, 451, 383, 384, 385, 386, 48, 518, 519, 520, 521, 522, 523, 524, 525, 526, 527, 528, 529, 530, 49, 399, 400, 401, 402, 531, 532, 533, 534, 535, 536, 537, 538, 539, 540, 322, 122, 323, 541, 542, 543, 544, 545, 546, 547, 548, 549, 52, 550, 551, 552, 553, 554, 121, 123, 555, 556, 557, 558, 788, 789, 790, 791, 792, 793, 794, 795, 796, 797, 798, 799, 800, 801, 802, 803, 804, 805, 806, 807] (by decide +kernel) (by decide +kernel)
set_option maxRecDepth 20000 in
theorem gL_law_X7_free : GoodIn wsL_law (wsV RL 145 RX7 yX7_free wsX7_free) := goodIn_app (goodIn_of _ (by decide +kernel)) ggL_law_X7_free
set_option maxRecDepth 20000 in
theorem ggL_law_L_torque : GoodIn wsL_law wsL_torque := goodIn_ca (goodIn_ca (goodIn_ca (goodIn_r _ [650, 177, 60, 61, 651, 652, 653, 2, 654, 74, 75, 66, 67, 21, 17, 182, 584, 655, 656, 22, 566, 567, 568, 185, 186, 187, 188, 189, 190, 79, 80, 81, 16, 82, 83, 76, 77, 78, 596, 597, 598, 599, 569, 570, 571, 572, 191, 192, 193, 194, 195, 196, 197, 198, 199, 200, 201, 202, 203, 204, 205, 206, 27, 509, 341, 342, 70, 343, 91, 782, 783, 784, 785, 786, 787, 811, 812, 813, 814, 815, 816, 817, 808, 809, 810] (by decide +kernel) (by decide +kernel)) (goodIn_sub (fun _ h => List.mem_append_left _ (List.mem_append_right _ h)) (by decide +kernel))) (goodIn_sub (fun _ h => List.mem_append_left _ (List.mem_append_left _ (List.mem_append_right _ h))) (by decide +kernel))) (goodIn_sub (fun _ h => List.mem_append_right _ h) (by decide +kernel))
set_option maxRecDepth 20000 in
theorem gL_law_L_torque : GoodIn wsL_law (va_wsS RL 146 yL_torque wsL_torque) := goodIn_app (goodIn_of _ (by decide +kernel)) ggL_law_L_torque
set_option maxRecDepth 20000 in
theorem ggL_law_X7_torque : GoodIn wsL_law wsX7_torque := goodIn_r _ [660, 158, 47, 53, 55, 661, 662, 490, 54, 215, 216, 217, 5, 218, 159, 163, 164, 165, 514, 515, 516, 517, 46, 45, 374, 50, 51, 451, 383, 384, 385, 386, 48, 518, 519, 520, 521, 522, 523, 524, 525, 526, 527, 528, 529, 530, 49, 399, 400, 401, 402, 531, 532, 533, 534, 535, 536, 537, 538, 539, 540, 322, 122, 323, 541, 542, 543, 544, 545, 546, 547, 548, 549, 52, 550, 551, 552, 553, 554, 121, 123, 555, 556, 557, 558, 788, 789, 790, 791, 792, 793, 794, 795, 796, 797, 798, 799, 800, 801, 802, 803, 804, 805, 806, 807] (by decide +kernel) (by decide +kernel)
set_option maxRecDepth 20000 in
theorem gL_law_X7_torque : GoodIn wsL_law (wsV RL 148 RX7 yX7_torque wsX7_torque) := goodIn_app (goodIn_of _ (by decide +kernel)) ggL_law_X7_torque
set_option maxRecDepth 20000 in
theorem ggL_law_L_distance : GoodIn wsL_law wsL_distance := goodIn_ca (goodIn_r _ [665, 177, 666, 667, 668, 2, 669, 189, 190, 19, 269, 79, 80, 81, 16, 82, 83, 76, 77, 78, 191, 192, 193, 194, 195, 196, 197, 198, 199, 200, 201, 202, 203, 204, 205, 206, 27, 670, 671, 672, 256, 673, 274, 280, 275, 674, 281, 675, 676, 122, 677, 782, 783, 784, 785, 786, 787, 808, 809, 810, 823, 824, 825, 818, 819, 820, 821, 822] (by decide +kernel) (by decide +kernel)) (goodIn_sub (fun _ h => List.mem_append_right _ h) (by decide +kernel))
set_option maxRecDepth 20000 in
theorem gL_law_L_distance : GoodIn wsL_law (va_wsS RL 149 yL_distance wsL_distance) := goodIn_app (goodIn_of _ (by decide +kernel)) ggL_law_L_distance
set_option maxRecDepth 20000 in
theorem ggL_law_X7_distance : GoodIn wsL_law wsX7_distance := goodIn_r _ [681, 158, 374, 163, 164, 5, 165, 682, 683, 684, 685, 50, 51, 686, 676, 122, 677, 399, 400, 401, 402, 48, 391, 392, 393, 394, 527, 528, 529, 530, 49, 166, 167, 168, 169, 788, 789, 790, 791, 792, 793, 794, 795, 796, 797, 798, 799, 800, 801, 802, 803, 804, 805, 806, 807] (by decide +kernel) (by decide +kernel)
set_option maxRecDepth 20000 in
theorem gL_law_X7_distance : GoodIn wsL_law (wsV RL 151 RX7 yX7_distance wsX7_distance) := goodIn_app (goodIn_of _ (by decide +kernel)) ggL_law_X7_distance
set_option maxRecDepth 20000 in
theorem ggL_law_X6_misfits : GoodIn wsL_law wsX6_misfits := goodIn_r _ [690, 19, 269, 79, 80, 81, 16, 82, 83, 191, 192, 193, 194, 195, 196, 197, 198, 199, 200, 201, 202, 203, 204, 205, 206, 27, 691, 692, 693, 256, 694, 274, 288, 275, 695, 696, 697, 671, 672, 673, 280, 674, 281, 675, 676, 122, 677, 698, 208, 209, 70, 210, 88, 89, 782, 783, 784, 785, 786, 787, 808, 809, 810, 823, 824, 825, 818, 819, 820, 821, 822, 811, 812, 813, 814, 815] (by decide +kernel) (by decide +kernel)
set_option maxRecDepth 20000 in
theorem gL_law_X6_misfits : GoodIn wsL_law (wsV RL 152 RX6 yX6_misfits wsX6_misfits) := goodIn_app (goodIn_of _ (by decide +kernel)) ggL_law_X6_misfits
set_option maxRecDepth 20000 in
theorem ggL_law_X7_misfits : GoodIn wsL_law wsX7_misfits := goodIn_r _ [702, 158, 703, 704, 705, 5, 706, 374, 50, 51, 383, 384, 385, 386, 48, 707, 708, 709, 710, 43, 44, 219, 220, 221, 682, 683, 684, 685, 686, 676, 122, 677, 399, 400, 401, 402, 391, 392, 393, 394, 527, 528, 529, 530, 49, 788, 789, 790, 791, 792, 793, 794, 795, 796, 797, 798, 799, 800, 801, 802, 803, 804, 805, 806, 807] (by decide +kernel) (by decide +kernel)
set_option maxRecDepth 20000 in
theorem gL_law_X7_misfits : GoodIn wsL_law (wsV RL 155 RX7 yX7_misfits wsX7_misfits) := goodIn_app (goodIn_of _ (by decide +kernel)) ggL_law_X7_misfits
set_option maxRecDepth 20000 in
theorem ggL_law_X6_collisions : GoodIn wsL_law wsX6_collisions := goodIn_r _ [714, 18, 253, 79, 80, 81, 16, 82, 83, 191, 192, 193, 194, 195, 196, 197, 198, 199, 200, 201, 202, 203, 204, 205, 206, 27, 715, 716, 717, 2, 718, 719, 720, 721, 231, 722, 236, 239, 723, 724, 725, 726, 727, 728, 238, 237, 240, 729, 208, 209, 70, 210, 88, 89, 265, 266, 267, 268, 19, 269, 270, 271, 272, 256, 273, 274, 275, 782, 783, 784, 785, 786, 787, 808, 809, 810, 818, 819, 820, 821, 822, 811, 812, 813, 814, 815, 823, 824, 825] (by decide +kernel) (by decide +kernel)
set_option maxRecDepth 20000 in
theorem gL_law_X6_collisions : GoodIn wsL_law (wsV RL 156 RX6 yX6_collisions wsX6_collisions) := goodIn_app (goodIn_of _ (by decide +kernel)) ggL_law_X6_collisions
set_option maxRecDepth 20000 in
theorem ggL_law_X7_collisions : GoodIn wsL_law wsX7_collisions := goodIn_r _ [733, 158, 245, 383, 384, 385, 5, 386, 48, 387, 388, 389, 390, 395, 396, 397, 398, 374, 50, 51, 707, 708, 709, 710, 43, 44, 219, 220, 221, 734, 735, 736, 737, 49, 391, 392, 393, 394, 399, 400, 401, 402, 788, 789, 790, 791, 792, 793, 794, 795, 796, 797, 798, 799, 800, 801, 802, 803, 804, 805, 806, 807] (by decide +kernel) (by decide +kernel)
set_option maxRecDepth 20000 in
theorem gL_law_X7_collisions : GoodIn wsL_law (wsV RL 159 RX7 yX7_collisions wsX7_collisions) := goodIn_app (goodIn_of _ (by decide +kernel)) ggL_law_X7_collisions
set_option maxRecDepth 20000 in
theorem ggL_law_L_suggest : GoodIn wsL_law wsL_suggest := goodIn_ca (goodIn_r _ [740, 60, 741, 742, 743, 2, 744, 74, 75, 745, 148, 122, 149, 746, 121, 123, 76, 77, 78, 747, 748, 749, 750, 751, 752, 753, 676, 677] (by decide +kernel) (by decide +kernel)) (goodIn_sub (fun _ h => List.mem_append_left _ (List.mem_append_right _ h)) (by decide +kernel))
set_option maxRecDepth 20000 in
theorem gL_law_L_suggest : GoodIn wsL_law (va_wsS RL 160 yL_suggest wsL_suggest) := goodIn_app (goodIn_of _ (by decide +kernel)) ggL_law_L_suggest
set_option maxRecDepth 20000 in
theorem ggL_law_X7_suggest : GoodIn wsL_law wsX7_suggest := goodIn_r _ [757, 158, 554, 121, 122, 123, 758, 148, 149, 163, 164, 5, 165, 166, 167, 168, 169, 759, 760, 761, 540, 322, 323, 788, 789, 790, 791, 792, 793, 794, 795, 796, 797, 798, 799, 800, 801, 802, 803, 804, 805, 806, 807] (by decide +kernel) (by decide +kernel)
set_option maxRecDepth 20000 in
theorem gL_law_X7_suggest : GoodIn wsL_law (wsV RL 163 RX7 yX7_suggest wsX7_suggest) := goodIn_app (goodIn_of _ (by decide +kernel)) ggL_law_X7_suggest
set_option maxRecDepth 20000 in
theorem ggL_law_X6_digest : GoodIn wsL_law wsX6_digest := goodIn_r _ [765, 766, 17, 182, 21, 18, 19, 20, 79, 80, 81, 16, 82, 83, 767, 768, 2, 769, 770, 191, 192, 193, 194, 195, 196, 197, 198, 199, 200, 201, 202, 203, 204, 205, 206, 27, 771, 772, 773, 183, 184, 485, 584, 566, 568, 567, 509, 341, 342, 70, 343, 91, 774, 613, 614, 615, 311, 312, 269, 309, 616, 617, 618, 284, 619, 300, 335, 302, 348, 340, 344, 345, 346, 347, 349, 350, 351, 352, 318, 319, 94, 320, 321, 322, 122, 323, 100, 101, 324, 325, 326, 620, 621, 622, 623, 775, 688, 689, 690, 691, 692, 693, 256, 694, 274, 288, 275, 695, 696, 697, 671, 672, 673, 280, 674, 281, 675, 676, 677, 698, 208, 209, 210, 88, 89, 782, 783, 784, 785, 786, 787, 808, 809, 810, 811, 812, 813, 814, 815, 816, 817, 831, 832, 823, 824, 825, 826, 827, 828, 829, 830, 818, 819, 820, 821, 822] (by decide +kernel) (by decide +kernel)
set_option maxRecDepth 20000 in
theorem gL_law_X6_digest : GoodIn wsL_law (wsV RL 164 RX6 yX6_digest wsX6_digest) := goodIn_app (goodIn_of _ (by decide +kernel)) ggL_law_X6_digest
set_option maxRecDepth 20000 in
theorem ggL_law_X7_digest : GoodIn wsL_law wsX7_digest := goodIn_r _ [779, 158, 780, 159, 781, 43, 44, 46, 55, 53, 54, 47, 245, 374, 451, 514, 515, 516, 5, 517, 490, 45, 50, 51, 383, 384, 385, 386, 48, 518, 519, 520, 521, 522, 523, 524, 525, 526, 527, 528, 529, 530, 49, 399, 400, 401, 402, 531, 532, 533, 534, 535, 536, 537, 538, 539, 540, 322, 122, 323, 541, 542, 543, 544, 545, 546, 547, 548, 549, 52, 550, 551, 552, 553, 554, 121, 123, 555, 556, 557, 558, 628, 629, 630, 631, 632, 633, 634, 635, 636, 637, 638, 639, 703, 704, 705, 706, 707, 708, 709, 710, 219, 220, 221, 682, 683, 684, 685, 686, 676, 677, 391, 392, 393, 394, 788, 789, 790, 791, 792, 793, 794, 795, 796, 797, 798, 799, 800, 801, 802, 803, 804, 805, 806, 807] (by decide +kernel) (by decide +kernel)
set_option maxRecDepth 20000 in
theorem gL_law_X7_digest : GoodIn wsL_law (wsV RL 168 RX7 yX7_digest wsX7_digest) := goodIn_app (goodIn_of _ (by decide +kernel)) ggL_law_X7_digest
