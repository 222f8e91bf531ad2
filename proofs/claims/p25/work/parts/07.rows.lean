theorem dJx4a65c_grow_92f84_26 : decode cJx4a65c_grow_92f84 26 = .ok (.ishr, 1) := by decide +kernel
theorem dJx4a65c_grow_92f84_27 : decode cJx4a65c_grow_92f84 27 = .ok (.invokestatic 73, 3) := by decide +kernel
theorem dJx4a65c_grow_92f84_30 : decode cJx4a65c_grow_92f84 30 = .ok (.istore_n 3, 1) := by decide +kernel
theorem dJx4a65c_grow_92f84_31 : decode cJx4a65c_grow_92f84 31 = .ok (.aload_n 0, 1) := by decide +kernel
theorem dJx4a65c_grow_92f84_32 : decode cJx4a65c_grow_92f84 32 = .ok (.aload_n 0, 1) := by decide +kernel
theorem dJx4a65c_grow_92f84_33 : decode cJx4a65c_grow_92f84 33 = .ok (.getfield 9, 3) := by decide +kernel
theorem dJx4a65c_grow_92f84_36 : decode cJx4a65c_grow_92f84 36 = .ok (.iload_n 3, 1) := by decide +kernel
theorem dJx4a65c_grow_92f84_37 : decode cJx4a65c_grow_92f84 37 = .ok (.invokestatic 66, 3) := by decide +kernel
theorem dJx4a65c_grow_92f84_40 : decode cJx4a65c_grow_92f84 40 = .ok (.dup_x1, 1) := by decide +kernel
theorem dJx4a65c_grow_92f84_41 : decode cJx4a65c_grow_92f84 41 = .ok (.putfield 9, 3) := by decide +kernel
theorem dJx4a65c_grow_92f84_44 : decode cJx4a65c_grow_92f84 44 = .ok (.areturn, 1) := by decide +kernel
theorem dJx4a65c_grow_92f84_45 : decode cJx4a65c_grow_92f84 45 = .ok (.aload_n 0, 1) := by decide +kernel
theorem dJx4a65c_grow_92f84_46 : decode cJx4a65c_grow_92f84 46 = .ok (.bipush 10, 2) := by decide +kernel
theorem dJx4a65c_grow_92f84_48 : decode cJx4a65c_grow_92f84 48 = .ok (.iload_n 1, 1) := by decide +kernel
theorem dJx4a65c_grow_92f84_49 : decode cJx4a65c_grow_92f84 49 = .ok (.invokestatic 79, 3) := by decide +kernel
theorem dJx4a65c_grow_92f84_52 : decode cJx4a65c_grow_92f84 52 = .ok (.anewarray 7, 3) := by decide +kernel
theorem dJx4a65c_grow_92f84_55 : decode cJx4a65c_grow_92f84 55 = .ok (.dup_x1, 1) := by decide +kernel
theorem dJx4a65c_grow_92f84_56 : decode cJx4a65c_grow_92f84 56 = .ok (.putfield 9, 3) := by decide +kernel
theorem dJx4a65c_grow_92f84_59 : decode cJx4a65c_grow_92f84 59 = .ok (.areturn, 1) := by decide +kernel
set_option maxRecDepth 20000 in
theorem ggJx4a65c_grow_d5877_Jx4a65c_grow_92f84 : GoodIn wsJx4a65c_grow_d5877 wsJx4a65c_grow_92f84 := goodIn_r _ [6, 7, 8, 9, 10, 11, 12, 13, 14, 15, 16, 17, 18, 19, 20, 21, 22, 23, 24, 25, 26, 27, 28, 29, 30, 31, 32, 33, 34, 35, 36, 37, 38, 39, 40, 41, 42, 43, 44, 45] (by decide +kernel) (by decide +kernel)
set_option maxRecDepth 20000 in
theorem gJx4a65c_grow_d5877_Jx4a65c_grow_92f84 : GoodIn wsJx4a65c_grow_d5877 (wsV RJx4a65c 69 RJx4a65c yJx4a65c_grow_92f84 wsJx4a65c_grow_92f84) := goodIn_app (goodIn_of _ (by decide +kernel)) ggJx4a65c_grow_d5877_Jx4a65c_grow_92f84
theorem dJx4a65c_grow_d5877_0 : decode cJx4a65c_grow_d5877 0 = .ok (.aload_n 0, 1) := by decide +kernel
theorem dJx4a65c_grow_d5877_1 : decode cJx4a65c_grow_d5877 1 = .ok (.aload_n 0, 1) := by decide +kernel
theorem dJx4a65c_grow_d5877_2 : decode cJx4a65c_grow_d5877 2 = .ok (.getfield 48, 3) := by decide +kernel
theorem dJx4a65c_grow_d5877_5 : decode cJx4a65c_grow_d5877 5 = .ok (.iconst 1, 1) := by decide +kernel
theorem dJx4a65c_grow_d5877_6 : decode cJx4a65c_grow_d5877 6 = .ok (.iadd, 1) := by decide +kernel
theorem dJx4a65c_grow_d5877_7 : decode cJx4a65c_grow_d5877 7 = .ok (.invokevirtual 69, 3) := by decide +kernel
theorem dJx4a65c_grow_d5877_10 : decode cJx4a65c_grow_d5877 10 = .ok (.areturn, 1) := by decide +kernel
theorem dJx4a65c_size_8abf5_0 : decode cJx4a65c_size_8abf5 0 = .ok (.aload_n 0, 1) := by decide +kernel
theorem dJx4a65c_size_8abf5_1 : decode cJx4a65c_size_8abf5 1 = .ok (.getfield 48, 3) := by decide +kernel
theorem dJx4a65c_size_8abf5_4 : decode cJx4a65c_size_8abf5 4 = .ok (.ireturn, 1) := by decide +kernel
theorem dJx4a65c_elementData_915e3_0 : decode cJx4a65c_elementData_915e3 0 = .ok (.aload_n 0, 1) := by decide +kernel
theorem dJx4a65c_elementData_915e3_1 : decode cJx4a65c_elementData_915e3 1 = .ok (.getfield 9, 3) := by decide +kernel
theorem dJx4a65c_elementData_915e3_4 : decode cJx4a65c_elementData_915e3 4 = .ok (.iload_n 1, 1) := by decide +kernel
theorem dJx4a65c_elementData_915e3_5 : decode cJx4a65c_elementData_915e3 5 = .ok (.aaload, 1) := by decide +kernel
theorem dJx4a65c_elementData_915e3_6 : decode cJx4a65c_elementData_915e3 6 = .ok (.areturn, 1) := by decide +kernel
set_option maxRecDepth 20000 in
theorem ggJx4a65c_get_915e3_J15_checkIndex_7cf53 : GoodIn wsJx4a65c_get_915e3 wsJ15_checkIndex_7cf53 := goodIn_r _ [5, 6, 7, 8, 9] (by decide +kernel) (by decide +kernel)
set_option maxRecDepth 20000 in
theorem gJx4a65c_get_915e3_J15_checkIndex_7cf53 : GoodIn wsJx4a65c_get_915e3 (va_wsS RJx4a65c 118 yJ15_checkIndex_7cf53 wsJ15_checkIndex_7cf53) := goodIn_app (goodIn_of _ (by decide +kernel)) ggJx4a65c_get_915e3_J15_checkIndex_7cf53
set_option maxRecDepth 20000 in
theorem ggJx4a65c_get_915e3_Jx4a65c_elementData_915e3 : GoodIn wsJx4a65c_get_915e3 wsJx4a65c_elementData_915e3 := goodIn_r _ [14, 15, 16, 17, 18] (by decide +kernel) (by decide +kernel)
set_option maxRecDepth 20000 in
theorem gJx4a65c_get_915e3_Jx4a65c_elementData_915e3 : GoodIn wsJx4a65c_get_915e3 (wsV RJx4a65c 123 RJx4a65c yJx4a65c_elementData_915e3 wsJx4a65c_elementData_915e3) := goodIn_app (goodIn_of _ (by decide +kernel)) ggJx4a65c_get_915e3_Jx4a65c_elementData_915e3
theorem dJx4a65c_get_915e3_0 : decode cJx4a65c_get_915e3 0 = .ok (.iload_n 1, 1) := by decide +kernel
theorem dJx4a65c_get_915e3_1 : decode cJx4a65c_get_915e3 1 = .ok (.aload_n 0, 1) := by decide +kernel
theorem dJx4a65c_get_915e3_2 : decode cJx4a65c_get_915e3 2 = .ok (.getfield 48, 3) := by decide +kernel
theorem dJx4a65c_get_915e3_5 : decode cJx4a65c_get_915e3 5 = .ok (.invokestatic 118, 3) := by decide +kernel
theorem dJx4a65c_get_915e3_8 : decode cJx4a65c_get_915e3 8 = .ok (.pop, 1) := by decide +kernel
theorem dJx4a65c_get_915e3_9 : decode cJx4a65c_get_915e3 9 = .ok (.aload_n 0, 1) := by decide +kernel
theorem dJx4a65c_get_915e3_10 : decode cJx4a65c_get_915e3 10 = .ok (.iload_n 1, 1) := by decide +kernel
theorem dJx4a65c_get_915e3_11 : decode cJx4a65c_get_915e3 11 = .ok (.invokevirtual 123, 3) := by decide +kernel
theorem dJx4a65c_get_915e3_14 : decode cJx4a65c_get_915e3 14 = .ok (.areturn, 1) := by decide +kernel
set_option maxRecDepth 20000 in
theorem ggJx4a65c_add_72be8_Jx4a65c_grow_d5877 : GoodIn wsJx4a65c_add_72be8 wsJx4a65c_grow_d5877 := goodIn_r _ [6, 1, 7, 8, 9, 5, 10, 11, 12, 13, 14, 15, 16, 17, 18, 19, 20, 21, 22, 23, 24, 25, 26, 27, 28, 29, 30, 31, 32, 33, 34, 35, 36, 37, 38, 39, 40, 41, 42, 43, 44, 45, 46, 47, 48, 49] (by decide +kernel) (by decide +kernel)
set_option maxRecDepth 20000 in
theorem gJx4a65c_add_72be8_Jx4a65c_grow_d5877 : GoodIn wsJx4a65c_add_72be8 (wsV RJx4a65c 129 RJx4a65c yJx4a65c_grow_d5877 wsJx4a65c_grow_d5877) := goodIn_app (goodIn_of _ (by decide +kernel)) ggJx4a65c_add_72be8_Jx4a65c_grow_d5877
theorem dJx4a65c_add_72be8_0 : decode cJx4a65c_add_72be8 0 = .ok (.iload_n 3, 1) := by decide +kernel
theorem dJx4a65c_add_72be8_1 : decode cJx4a65c_add_72be8 1 = .ok (.aload_n 2, 1) := by decide +kernel
theorem dJx4a65c_add_72be8_2 : decode cJx4a65c_add_72be8 2 = .ok (.arraylength, 1) := by decide +kernel
theorem dJx4a65c_add_72be8_3 : decode cJx4a65c_add_72be8 3 = .ok (.if_icmp .ne 8, 3) := by decide +kernel
theorem dJx4a65c_add_72be8_6 : decode cJx4a65c_add_72be8 6 = .ok (.aload_n 0, 1) := by decide +kernel
theorem dJx4a65c_add_72be8_7 : decode cJx4a65c_add_72be8 7 = .ok (.invokevirtual 129, 3) := by decide +kernel
theorem dJx4a65c_add_72be8_10 : decode cJx4a65c_add_72be8 10 = .ok (.astore_n 2, 1) := by decide +kernel
theorem dJx4a65c_add_72be8_11 : decode cJx4a65c_add_72be8 11 = .ok (.aload_n 2, 1) := by decide +kernel
theorem dJx4a65c_add_72be8_12 : decode cJx4a65c_add_72be8 12 = .ok (.iload_n 3, 1) := by decide +kernel
theorem dJx4a65c_add_72be8_13 : decode cJx4a65c_add_72be8 13 = .ok (.aload_n 1, 1) := by decide +kernel
theorem dJx4a65c_add_72be8_14 : decode cJx4a65c_add_72be8 14 = .ok (.aastore, 1) := by decide +kernel
theorem dJx4a65c_add_72be8_15 : decode cJx4a65c_add_72be8 15 = .ok (.aload_n 0, 1) := by decide +kernel
theorem dJx4a65c_add_72be8_16 : decode cJx4a65c_add_72be8 16 = .ok (.iload_n 3, 1) := by decide +kernel
theorem dJx4a65c_add_72be8_17 : decode cJx4a65c_add_72be8 17 = .ok (.iconst 1, 1) := by decide +kernel
theorem dJx4a65c_add_72be8_18 : decode cJx4a65c_add_72be8 18 = .ok (.iadd, 1) := by decide +kernel
theorem dJx4a65c_add_72be8_19 : decode cJx4a65c_add_72be8 19 = .ok (.putfield 48, 3) := by decide +kernel
theorem dJx4a65c_add_72be8_22 : decode cJx4a65c_add_72be8 22 = .ok (.return_, 1) := by decide +kernel
set_option maxRecDepth 20000 in
theorem ggJx4a65c_add_9ea2d_Jx4a65c_add_72be8 : GoodIn wsJx4a65c_add_9ea2d wsJx4a65c_add_72be8 := goodIn_r _ [9, 4, 10, 11, 12, 8, 13, 14, 15, 16, 17, 3, 18, 19, 20, 21, 22, 23, 24, 25, 26, 27, 28, 29, 30, 31, 32, 33, 34, 35, 36, 37, 38, 39, 40, 41, 42, 43, 44, 45, 46, 47, 48, 49, 50, 51, 52, 53, 54, 55] (by decide +kernel) (by decide +kernel)
set_option maxRecDepth 20000 in
theorem gJx4a65c_add_9ea2d_Jx4a65c_add_72be8 : GoodIn wsJx4a65c_add_9ea2d (wsV RJx4a65c 131 RJx4a65c yJx4a65c_add_72be8 wsJx4a65c_add_72be8) := goodIn_app (goodIn_of _ (by decide +kernel)) ggJx4a65c_add_9ea2d_Jx4a65c_add_72be8
theorem dJx4a65c_add_9ea2d_0 : decode cJx4a65c_add_9ea2d 0 = .ok (.aload_n 0, 1) := by decide +kernel
theorem dJx4a65c_add_9ea2d_1 : decode cJx4a65c_add_9ea2d 1 = .ok (.dup, 1) := by decide +kernel
theorem dJx4a65c_add_9ea2d_2 : decode cJx4a65c_add_9ea2d 2 = .ok (.getfield 63, 3) := by decide +kernel
theorem dJx4a65c_add_9ea2d_5 : decode cJx4a65c_add_9ea2d 5 = .ok (.iconst 1, 1) := by decide +kernel
theorem dJx4a65c_add_9ea2d_6 : decode cJx4a65c_add_9ea2d 6 = .ok (.iadd, 1) := by decide +kernel
theorem dJx4a65c_add_9ea2d_7 : decode cJx4a65c_add_9ea2d 7 = .ok (.putfield 63, 3) := by decide +kernel
theorem dJx4a65c_add_9ea2d_10 : decode cJx4a65c_add_9ea2d 10 = .ok (.aload_n 0, 1) := by decide +kernel
theorem dJx4a65c_add_9ea2d_11 : decode cJx4a65c_add_9ea2d 11 = .ok (.aload_n 1, 1) := by decide +kernel
theorem dJx4a65c_add_9ea2d_12 : decode cJx4a65c_add_9ea2d 12 = .ok (.aload_n 0, 1) := by decide +kernel
theorem dJx4a65c_add_9ea2d_13 : decode cJx4a65c_add_9ea2d 13 = .ok (.getfield 9, 3) := by decide +kernel
theorem dJx4a65c_add_9ea2d_16 : decode cJx4a65c_add_9ea2d 16 = .ok (.aload_n 0, 1) := by decide +kernel
theorem dJx4a65c_add_9ea2d_17 : decode cJx4a65c_add_9ea2d 17 = .ok (.getfield 48, 3) := by decide +kernel
theorem dJx4a65c_add_9ea2d_20 : decode cJx4a65c_add_9ea2d 20 = .ok (.invokevirtual 131, 3) := by decide +kernel
theorem dJx4a65c_add_9ea2d_23 : decode cJx4a65c_add_9ea2d 23 = .ok (.iconst 1, 1) := by decide +kernel
theorem dJx4a65c_add_9ea2d_24 : decode cJx4a65c_add_9ea2d 24 = .ok (.ireturn, 1) := by decide +kernel
set_option maxRecDepth 20000 in
theorem ggJ7_copyOf_1904c_J7_copyOf_6403c : GoodIn wsJ7_copyOf_1904c wsJ7_copyOf_6403c := goodIn_r _ [8, 9, 10, 11, 12, 13, 14, 15, 16, 17, 18] (by decide +kernel) (by decide +kernel)
set_option maxRecDepth 20000 in
theorem gJ7_copyOf_1904c_J7_copyOf_6403c : GoodIn wsJ7_copyOf_1904c (va_wsS RJ7 300 yJ7_copyOf_6403c wsJ7_copyOf_6403c) := goodIn_app (goodIn_of _ (by decide +kernel)) ggJ7_copyOf_1904c_J7_copyOf_6403c
theorem dJ7_copyOf_1904c_0 : decode cJ7_copyOf_1904c 0 = .ok (.aload_n 0, 1) := by decide +kernel
theorem dJ7_copyOf_1904c_1 : decode cJ7_copyOf_1904c 1 = .ok (.iload_n 1, 1) := by decide +kernel
theorem dJ7_copyOf_1904c_2 : decode cJ7_copyOf_1904c 2 = .ok (.aload_n 0, 1) := by decide +kernel
theorem dJ7_copyOf_1904c_3 : decode cJ7_copyOf_1904c 3 = .ok (.invokevirtual 86, 3) := by decide +kernel
theorem dJ7_copyOf_1904c_6 : decode cJ7_copyOf_1904c 6 = .ok (.invokestatic 300, 3) := by decide +kernel
theorem dJ7_copyOf_1904c_9 : decode cJ7_copyOf_1904c 9 = .ok (.areturn, 1) := by decide +kernel
theorem dJ7_copyOf_6403c_0 : decode cJ7_copyOf_6403c 0 = .ok (.aload_n 2, 1) := by decide +kernel
theorem dJ7_copyOf_6403c_1 : decode cJ7_copyOf_6403c 1 = .ok (.ldc 110, 2) := by decide +kernel
theorem dJ7_copyOf_6403c_3 : decode cJ7_copyOf_6403c 3 = .ok (.if_acmp .ne 10, 3) := by decide +kernel
theorem dJ7_copyOf_6403c_6 : decode cJ7_copyOf_6403c 6 = .ok (.iload_n 1, 1) := by decide +kernel
theorem dJ7_copyOf_6403c_7 : decode cJ7_copyOf_6403c 7 = .ok (.anewarray 2, 3) := by decide +kernel
theorem dJ7_copyOf_6403c_10 : decode cJ7_copyOf_6403c 10 = .ok (.goto 14, 3) := by decide +kernel
theorem dJ7_copyOf_6403c_13 : decode cJ7_copyOf_6403c 13 = .ok (.aload_n 2, 1) := by decide +kernel
theorem dJ7_copyOf_6403c_14 : decode cJ7_copyOf_6403c 14 = .ok (.invokevirtual 90, 3) := by decide +kernel
theorem dJ7_copyOf_6403c_17 : decode cJ7_copyOf_6403c 17 = .ok (.iload_n 1, 1) := by decide +kernel
theorem dJ7_copyOf_6403c_18 : decode cJ7_copyOf_6403c 18 = .ok (.invokestatic 95, 3) := by decide +kernel
theorem dJ7_copyOf_6403c_21 : decode cJ7_copyOf_6403c 21 = .ok (.checkcast 110, 3) := by decide +kernel
theorem dJ7_copyOf_6403c_24 : decode cJ7_copyOf_6403c 24 = .ok (.astore_n 3, 1) := by decide +kernel
theorem dJ7_copyOf_6403c_25 : decode cJ7_copyOf_6403c 25 = .ok (.aload_n 0, 1) := by decide +kernel
theorem dJ7_copyOf_6403c_26 : decode cJ7_copyOf_6403c 26 = .ok (.iconst 0, 1) := by decide +kernel
theorem dJ7_copyOf_6403c_27 : decode cJ7_copyOf_6403c 27 = .ok (.aload_n 3, 1) := by decide +kernel
theorem dJ7_copyOf_6403c_28 : decode cJ7_copyOf_6403c 28 = .ok (.iconst 0, 1) := by decide +kernel
theorem dJ7_copyOf_6403c_29 : decode cJ7_copyOf_6403c 29 = .ok (.aload_n 0, 1) := by decide +kernel
theorem dJ7_copyOf_6403c_30 : decode cJ7_copyOf_6403c 30 = .ok (.arraylength, 1) := by decide +kernel
theorem dJ7_copyOf_6403c_31 : decode cJ7_copyOf_6403c 31 = .ok (.iload_n 1, 1) := by decide +kernel
theorem dJ7_copyOf_6403c_32 : decode cJ7_copyOf_6403c 32 = .ok (.invokestatic 304, 3) := by decide +kernel
theorem dJ7_copyOf_6403c_35 : decode cJ7_copyOf_6403c 35 = .ok (.invokestatic 150, 3) := by decide +kernel
theorem dJ7_copyOf_6403c_38 : decode cJ7_copyOf_6403c 38 = .ok (.aload_n 3, 1) := by decide +kernel
theorem dJ7_copyOf_6403c_39 : decode cJ7_copyOf_6403c 39 = .ok (.areturn, 1) := by decide +kernel
set_option maxRecDepth 20000 in
theorem ggJ15_checkIndex_7cf53_J3_checkIndex_8e157 : GoodIn wsJ15_checkIndex_7cf53 wsJ3_checkIndex_8e157 := goodIn_r _ [4] (by decide +kernel) (by decide +kernel)
set_option maxRecDepth 20000 in
theorem gJ15_checkIndex_7cf53_J3_checkIndex_8e157 : GoodIn wsJ15_checkIndex_7cf53 (va_wsS RJ15 105 yJ3_checkIndex_8e157 wsJ3_checkIndex_8e157) := goodIn_app (goodIn_of _ (by decide +kernel)) ggJ15_checkIndex_7cf53_J3_checkIndex_8e157
theorem dJ15_checkIndex_7cf53_0 : decode cJ15_checkIndex_7cf53 0 = .ok (.iload_n 0, 1) := by decide +kernel
theorem dJ15_checkIndex_7cf53_1 : decode cJ15_checkIndex_7cf53 1 = .ok (.iload_n 1, 1) := by decide +kernel
theorem dJ15_checkIndex_7cf53_2 : decode cJ15_checkIndex_7cf53 2 = .ok (.aconst_null, 1) := by decide +kernel
theorem dJ15_checkIndex_7cf53_3 : decode cJ15_checkIndex_7cf53 3 = .ok (.invokestatic 105, 3) := by decide +kernel
theorem dJ15_checkIndex_7cf53_6 : decode cJ15_checkIndex_7cf53 6 = .ok (.ireturn, 1) := by decide +kernel
set_option maxRecDepth 20000 in
theorem ggJ8_newLength_cabcc_J8_hugeLength_7cf53 : GoodIn wsJ8_newLength_cabcc wsJ8_hugeLength_7cf53 := goodIn_r _ [9, 5] (by decide +kernel) (by decide +kernel)
set_option maxRecDepth 20000 in
theorem gJ8_newLength_cabcc_J8_hugeLength_7cf53 : GoodIn wsJ8_newLength_cabcc (va_wsS RJ8 201 yJ8_hugeLength_7cf53 wsJ8_hugeLength_7cf53) := goodIn_app (goodIn_of _ (by decide +kernel)) ggJ8_newLength_cabcc_J8_hugeLength_7cf53
theorem dJ8_newLength_cabcc_0 : decode cJ8_newLength_cabcc 0 = .ok (.iload_n 0, 1) := by decide +kernel
theorem dJ8_newLength_cabcc_1 : decode cJ8_newLength_cabcc 1 = .ok (.iload_n 1, 1) := by decide +kernel
theorem dJ8_newLength_cabcc_2 : decode cJ8_newLength_cabcc 2 = .ok (.iload_n 2, 1) := by decide +kernel
theorem dJ8_newLength_cabcc_3 : decode cJ8_newLength_cabcc 3 = .ok (.invokestatic 194, 3) := by decide +kernel
theorem dJ8_newLength_cabcc_6 : decode cJ8_newLength_cabcc 6 = .ok (.iadd, 1) := by decide +kernel
theorem dJ8_newLength_cabcc_7 : decode cJ8_newLength_cabcc 7 = .ok (.istore_n 3, 1) := by decide +kernel
theorem dJ8_newLength_cabcc_8 : decode cJ8_newLength_cabcc 8 = .ok (.iconst 0, 1) := by decide +kernel
theorem dJ8_newLength_cabcc_9 : decode cJ8_newLength_cabcc 9 = .ok (.iload_n 3, 1) := by decide +kernel
theorem dJ8_newLength_cabcc_10 : decode cJ8_newLength_cabcc 10 = .ok (.if_icmp .ge 11, 3) := by decide +kernel
theorem dJ8_newLength_cabcc_13 : decode cJ8_newLength_cabcc 13 = .ok (.iload_n 3, 1) := by decide +kernel
theorem dJ8_newLength_cabcc_14 : decode cJ8_newLength_cabcc 14 = .ok (.ldc 200, 2) := by decide +kernel
theorem dJ8_newLength_cabcc_16 : decode cJ8_newLength_cabcc 16 = .ok (.if_icmp .gt 5, 3) := by decide +kernel
theorem dJ8_newLength_cabcc_19 : decode cJ8_newLength_cabcc 19 = .ok (.iload_n 3, 1) := by decide +kernel
theorem dJ8_newLength_cabcc_20 : decode cJ8_newLength_cabcc 20 = .ok (.ireturn, 1) := by decide +kernel
theorem dJ8_newLength_cabcc_21 : decode cJ8_newLength_cabcc 21 = .ok (.iload_n 0, 1) := by decide +kernel
theorem dJ8_newLength_cabcc_22 : decode cJ8_newLength_cabcc 22 = .ok (.iload_n 1, 1) := by decide +kernel
theorem dJ8_newLength_cabcc_23 : decode cJ8_newLength_cabcc 23 = .ok (.invokestatic 201, 3) := by decide +kernel
theorem dJ8_newLength_cabcc_26 : decode cJ8_newLength_cabcc 26 = .ok (.ireturn, 1) := by decide +kernel
theorem dJ8_hugeLength_7cf53_0 : decode cJ8_hugeLength_7cf53 0 = .ok (.iload_n 0, 1) := by decide +kernel
theorem dJ8_hugeLength_7cf53_1 : decode cJ8_hugeLength_7cf53 1 = .ok (.iload_n 1, 1) := by decide +kernel
theorem dJ8_hugeLength_7cf53_2 : decode cJ8_hugeLength_7cf53 2 = .ok (.iadd, 1) := by decide +kernel
theorem dJ8_hugeLength_7cf53_3 : decode cJ8_hugeLength_7cf53 3 = .ok (.istore_n 2, 1) := by decide +kernel
theorem dJ8_hugeLength_7cf53_4 : decode cJ8_hugeLength_7cf53 4 = .ok (.iload_n 2, 1) := by decide +kernel
theorem dJ8_hugeLength_7cf53_5 : decode cJ8_hugeLength_7cf53 5 = .ok (.ifCond .ge 44, 3) := by decide +kernel
theorem dJ8_hugeLength_7cf53_8 : decode cJ8_hugeLength_7cf53 8 = .ok (.new 204, 3) := by decide +kernel
theorem dJ8_hugeLength_7cf53_11 : decode cJ8_hugeLength_7cf53 11 = .ok (.dup, 1) := by decide +kernel
theorem dJ8_hugeLength_7cf53_12 : decode cJ8_hugeLength_7cf53 12 = .ok (.new 89, 3) := by decide +kernel
theorem dJ8_hugeLength_7cf53_15 : decode cJ8_hugeLength_7cf53 15 = .ok (.dup, 1) := by decide +kernel
theorem dJ8_hugeLength_7cf53_16 : decode cJ8_hugeLength_7cf53 16 = .ok (.invokespecial 91, 3) := by decide +kernel
theorem dJ8_hugeLength_7cf53_19 : decode cJ8_hugeLength_7cf53 19 = .ok (.ldc 206, 2) := by decide +kernel
theorem dJ8_hugeLength_7cf53_21 : decode cJ8_hugeLength_7cf53 21 = .ok (.invokevirtual 94, 3) := by decide +kernel
theorem dJ8_hugeLength_7cf53_24 : decode cJ8_hugeLength_7cf53 24 = .ok (.iload_n 0, 1) := by decide +kernel
theorem dJ8_hugeLength_7cf53_25 : decode cJ8_hugeLength_7cf53 25 = .ok (.invokevirtual 98, 3) := by decide +kernel
theorem dJ8_hugeLength_7cf53_28 : decode cJ8_hugeLength_7cf53 28 = .ok (.ldc 208, 2) := by decide +kernel
theorem dJ8_hugeLength_7cf53_30 : decode cJ8_hugeLength_7cf53 30 = .ok (.invokevirtual 94, 3) := by decide +kernel
theorem dJ8_hugeLength_7cf53_33 : decode cJ8_hugeLength_7cf53 33 = .ok (.iload_n 1, 1) := by decide +kernel
theorem dJ8_hugeLength_7cf53_34 : decode cJ8_hugeLength_7cf53 34 = .ok (.invokevirtual 98, 3) := by decide +kernel
theorem dJ8_hugeLength_7cf53_37 : decode cJ8_hugeLength_7cf53 37 = .ok (.ldc 210, 2) := by decide +kernel
theorem dJ8_hugeLength_7cf53_39 : decode cJ8_hugeLength_7cf53 39 = .ok (.invokevirtual 94, 3) := by decide +kernel
theorem dJ8_hugeLength_7cf53_42 : decode cJ8_hugeLength_7cf53 42 = .ok (.invokevirtual 101, 3) := by decide +kernel
theorem dJ8_hugeLength_7cf53_45 : decode cJ8_hugeLength_7cf53 45 = .ok (.invokespecial 212, 3) := by decide +kernel
theorem dJ8_hugeLength_7cf53_48 : decode cJ8_hugeLength_7cf53 48 = .ok (.athrow, 1) := by decide +kernel
theorem dJ8_hugeLength_7cf53_49 : decode cJ8_hugeLength_7cf53 49 = .ok (.iload_n 2, 1) := by decide +kernel
theorem dJ8_hugeLength_7cf53_50 : decode cJ8_hugeLength_7cf53 50 = .ok (.ldc 200, 2) := by decide +kernel
theorem dJ8_hugeLength_7cf53_52 : decode cJ8_hugeLength_7cf53 52 = .ok (.if_icmp .gt 6, 3) := by decide +kernel
theorem dJ8_hugeLength_7cf53_55 : decode cJ8_hugeLength_7cf53 55 = .ok (.ldc 200, 2) := by decide +kernel
theorem dJ8_hugeLength_7cf53_57 : decode cJ8_hugeLength_7cf53 57 = .ok (.ireturn, 1) := by decide +kernel
theorem dJ8_hugeLength_7cf53_58 : decode cJ8_hugeLength_7cf53 58 = .ok (.iload_n 2, 1) := by decide +kernel
theorem dJ8_hugeLength_7cf53_59 : decode cJ8_hugeLength_7cf53 59 = .ok (.ireturn, 1) := by decide +kernel
theorem dJ3_checkIndex_8e157_0 : decode cJ3_checkIndex_8e157 0 = .ok (.iload_n 0, 1) := by decide +kernel
theorem dJ3_checkIndex_8e157_1 : decode cJ3_checkIndex_8e157 1 = .ok (.ifCond .lt 8, 3) := by decide +kernel
theorem dJ3_checkIndex_8e157_4 : decode cJ3_checkIndex_8e157 4 = .ok (.iload_n 0, 1) := by decide +kernel
theorem dJ3_checkIndex_8e157_5 : decode cJ3_checkIndex_8e157 5 = .ok (.iload_n 1, 1) := by decide +kernel
theorem dJ3_checkIndex_8e157_6 : decode cJ3_checkIndex_8e157 6 = .ok (.if_icmp .lt 10, 3) := by decide +kernel
theorem dJ3_checkIndex_8e157_9 : decode cJ3_checkIndex_8e157 9 = .ok (.aload_n 2, 1) := by decide +kernel
theorem dJ3_checkIndex_8e157_10 : decode cJ3_checkIndex_8e157 10 = .ok (.iload_n 0, 1) := by decide +kernel
theorem dJ3_checkIndex_8e157_11 : decode cJ3_checkIndex_8e157 11 = .ok (.iload_n 1, 1) := by decide +kernel
theorem dJ3_checkIndex_8e157_12 : decode cJ3_checkIndex_8e157 12 = .ok (.invokestatic 95, 3) := by decide +kernel
theorem dJ3_checkIndex_8e157_15 : decode cJ3_checkIndex_8e157 15 = .ok (.athrow, 1) := by decide +kernel
theorem dJ3_checkIndex_8e157_16 : decode cJ3_checkIndex_8e157 16 = .ok (.iload_n 0, 1) := by decide +kernel
theorem dJ3_checkIndex_8e157_17 : decode cJ3_checkIndex_8e157 17 = .ok (.ireturn, 1) := by decide +kernel
theorem dL_below_0 : decode cL_below 0 = .ok (.iload_n 0, 1) := by decide +kernel
theorem dL_below_1 : decode cL_below 1 = .ok (.ldc 7, 2) := by decide +kernel
theorem dL_below_3 : decode cL_below 3 = .ok (.iand, 1) := by decide +kernel
theorem dL_below_4 : decode cL_below 4 = .ok (.iload_n 1, 1) := by decide +kernel
theorem dL_below_5 : decode cL_below 5 = .ok (.irem, 1) := by decide +kernel
theorem dL_below_6 : decode cL_below 6 = .ok (.ireturn, 1) := by decide +kernel
theorem dL_cell_0 : decode cL_cell 0 = .ok (.iload_n 1, 1) := by decide +kernel
theorem dL_cell_1 : decode cL_cell 1 = .ok (.aload_n 0, 1) := by decide +kernel
theorem dL_cell_2 : decode cL_cell 2 = .ok (.arraylength, 1) := by decide +kernel
theorem dL_cell_3 : decode cL_cell 3 = .ok (.if_icmp .ge 9, 3) := by decide +kernel
theorem dL_cell_6 : decode cL_cell 6 = .ok (.aload_n 0, 1) := by decide +kernel
theorem dL_cell_7 : decode cL_cell 7 = .ok (.iload_n 1, 1) := by decide +kernel
theorem dL_cell_8 : decode cL_cell 8 = .ok (.iaload, 1) := by decide +kernel
theorem dL_cell_9 : decode cL_cell 9 = .ok (.goto 9, 3) := by decide +kernel
theorem dL_cell_12 : decode cL_cell 12 = .ok (.ldc 8, 2) := by decide +kernel
theorem dL_cell_14 : decode cL_cell 14 = .ok (.iload_n 1, 1) := by decide +kernel
theorem dL_cell_15 : decode cL_cell 15 = .ok (.iconst 3, 1) := by decide +kernel
theorem dL_cell_16 : decode cL_cell 16 = .ok (.iadd, 1) := by decide +kernel
theorem dL_cell_17 : decode cL_cell 17 = .ok (.imul, 1) := by decide +kernel
theorem dL_cell_18 : decode cL_cell 18 = .ok (.ireturn, 1) := by decide +kernel
set_option maxRecDepth 20000 in
theorem ggL_build_L_cell : GoodIn wsL_build wsL_cell := goodIn_r _ [6, 7] (by decide +kernel) (by decide +kernel)
set_option maxRecDepth 20000 in
theorem gL_build_L_cell : GoodIn wsL_build (va_wsS RL 9 yL_cell wsL_cell) := goodIn_app (goodIn_of _ (by decide +kernel)) ggL_build_L_cell
set_option maxRecDepth 20000 in
theorem ggL_build_L_below : GoodIn wsL_build wsL_below := goodIn_r _ [10, 11] (by decide +kernel) (by decide +kernel)
set_option maxRecDepth 20000 in
theorem gL_build_L_below : GoodIn wsL_build (va_wsS RL 15 yL_below wsL_below) := goodIn_app (goodIn_of _ (by decide +kernel)) ggL_build_L_below
set_option maxRecDepth 20000 in
theorem ggL_build_X6_addShaft : GoodIn wsL_build wsX6_addShaft := goodIn_ca (goodIn_ca (goodIn_r _ [16, 17, 18, 19, 20, 21, 22, 23, 24, 15, 25, 26, 27, 28, 29, 30, 31, 32, 33, 34, 35, 36, 37, 38, 39, 40, 41, 42, 43, 44, 45, 46, 47, 48, 49, 50, 51, 52, 53, 54, 55, 56, 57, 58, 59, 60, 61, 62, 63, 64, 65, 66, 67, 68, 69, 70, 71, 72, 73, 74, 75, 76, 77, 78, 79, 80, 81, 82, 83, 84, 85, 86, 87, 88, 89, 90, 91, 92, 93, 94, 95, 96, 97, 98, 99, 100, 101, 102, 103, 104, 105, 106, 107, 108, 109, 110, 306, 307, 308, 309, 310, 311, 312, 313, 314, 315, 316, 317, 318, 319, 320, 321] (by decide +kernel) (by decide +kernel)) (goodIn_sub (fun _ h => List.mem_cons_of_mem _ (List.mem_append_left _ (List.mem_append_left _ (List.mem_append_right _ h)))) (by decide +kernel))) (goodIn_sub (fun _ h => List.mem_cons_of_mem _ (List.mem_append_left _ (List.mem_append_right _ h))) (by decide +kernel))
set_option maxRecDepth 20000 in
theorem gL_build_X6_addShaft : GoodIn wsL_build (wsV RL 19 RX6 yX6_addShaft wsX6_addShaft) := goodIn_app (goodIn_of _ (by decide +kernel)) ggL_build_X6_addShaft
set_option maxRecDepth 20000 in
theorem ggL_build_X6_hold : GoodIn wsL_build wsX6_hold := goodIn_ca (goodIn_ca (goodIn_r _ [114, 17, 18, 115, 19, 116, 117, 118, 119, 120, 15, 121, 122, 123, 31, 32, 33, 34, 35, 36, 28, 29, 30, 124, 125, 126, 127, 128, 129, 130, 131, 132, 133, 134, 135, 136, 137, 138, 139, 63, 140, 141, 142, 143, 144, 145, 146, 147, 148, 149, 150, 151, 152, 153, 154, 22, 155, 45, 46, 50, 156, 157, 158, 49, 159, 160, 161, 79, 162, 55, 56, 163, 164, 165, 166, 167, 168, 169, 170, 171, 172, 173, 174, 175, 176, 177, 178, 179, 180, 181, 182, 183, 184, 185, 186, 187, 188, 189, 190, 191, 192, 193, 194, 195, 196, 197, 198, 199, 200, 201, 202, 203, 204, 205, 206, 78, 80, 207, 208, 209, 210, 211, 212, 306, 307, 308, 309, 310, 311, 312, 313, 314, 315, 316, 317, 318, 319, 322, 323, 324, 325, 326, 327, 328, 329, 320, 321, 330, 331] (by decide +kernel) (by decide +kernel)) (goodIn_sub (fun _ h => List.mem_cons_of_mem _ (List.mem_append_left _ (List.mem_append_left _ (List.mem_append_right _ h)))) (by decide +kernel))) (goodIn_sub (fun _ h => List.mem_cons_of_mem _ (List.mem_append_right _ h)) (by decide +kernel))
set_option maxRecDepth 20000 in
theorem gL_build_X6_hold : GoodIn wsL_build (wsV RL 24 RX6 yX6_hold wsX6_hold) := goodIn_app (goodIn_of _ (by decide +kernel)) ggL_build_X6_hold
set_option maxRecDepth 20000 in
theorem ggL_build_X6_addGear : GoodIn wsL_build wsX6_addGear := goodIn_ca (goodIn_ca (goodIn_ca (goodIn_r _ [216, 26, 27, 17, 18, 217, 218, 219, 220, 19, 116, 118, 119, 120, 15, 121, 122, 123, 31, 32, 33, 34, 35, 36, 28, 29, 30, 124, 125, 126, 127, 128, 129, 130, 131, 132, 133, 134, 135, 136, 137, 138, 139, 63, 221, 222, 223, 224, 41, 42, 225, 226, 227, 228, 229, 57, 58, 59, 60, 61, 62, 64, 65, 66, 67, 68, 69, 70, 71, 72, 73, 74, 75, 76, 77, 78, 79, 80, 81, 82, 83, 84, 85, 86, 87, 88, 89, 90, 91, 92, 93, 94, 95, 96, 97, 98, 99, 100, 101, 102, 103, 104, 105, 106, 107, 108, 109, 110, 306, 307, 308, 309, 310, 311, 332, 333, 334, 335, 336, 317, 318, 319] (by decide +kernel) (by decide +kernel)) (goodIn_sub (fun _ h => List.mem_cons_of_mem _ (List.mem_append_left _ (List.mem_append_right _ h))) (by decide +kernel))) (goodIn_sub (fun _ h => List.mem_cons_of_mem _ (List.mem_append_left _ (List.mem_append_left _ (List.mem_append_right _ h)))) (by decide +kernel))) (goodIn_sub (fun _ h => List.mem_cons_of_mem _ (List.mem_append_right _ h)) (by decide +kernel))
set_option maxRecDepth 20000 in
theorem gL_build_X6_addGear : GoodIn wsL_build (wsV RL 28 RX6 yX6_addGear wsX6_addGear) := goodIn_app (goodIn_of _ (by decide +kernel)) ggL_build_X6_addGear
set_option maxRecDepth 20000 in
theorem ggL_build_X6_mesh : GoodIn wsL_build wsX6_mesh := goodIn_ca (goodIn_ca (goodIn_ca (goodIn_r _ [233, 26, 27, 17, 18, 217, 234, 145, 235, 236, 237, 238, 239, 240, 15, 241, 122, 123, 31, 32, 33, 34, 35, 36, 28, 29, 30, 124, 125, 126, 127, 128, 129, 130, 131, 132, 133, 134, 135, 136, 137, 138, 139, 63, 242, 243, 244, 220, 245, 225, 228, 227, 229, 226, 246, 247, 248, 249, 146, 250, 251, 252, 253, 254, 255, 256, 257, 258, 259, 41, 42, 260, 261, 262, 263, 173, 264, 265, 266, 267, 268, 269, 270, 271, 272, 273, 274, 275, 276, 277, 278, 182, 279, 48, 49, 176, 175, 280, 52, 53, 54, 55, 56, 57, 58, 59, 60, 61, 62, 64, 65, 66, 67, 68, 69, 70, 71, 72, 73, 74, 75, 76, 77, 78, 79, 80, 81, 82, 83, 84, 85, 86, 87, 88, 89, 90, 91, 92, 93, 94, 95, 96, 97, 98, 99, 100, 101, 102, 103, 104, 105, 106, 107, 108, 109, 110, 140, 141, 142, 143, 19, 116, 115, 144, 147, 148, 149, 150, 151, 152, 153, 154, 22, 155, 45, 46, 50, 156, 157, 158, 159, 160, 161, 162, 163, 164, 165, 166, 167, 168, 169, 170, 171, 172, 174, 177, 178, 179, 180, 181, 183, 184, 185, 186, 187, 188, 189, 190, 191, 192, 193, 194, 195, 196, 197, 198, 199, 200, 201, 202, 203, 204, 205, 206, 207, 208, 209, 210, 211, 212, 306, 307, 308, 309, 310, 311, 322, 323, 324, 317, 318, 319, 332, 333, 334, 335, 336, 325, 326, 327, 330, 331, 320, 321, 328, 329, 312, 313, 314, 315, 316] (by decide +kernel) (by decide +kernel)) (goodIn_sub (fun _ h => List.mem_cons_of_mem _ (List.mem_append_left _ (List.mem_append_right _ h))) (by decide +kernel))) (goodIn_sub (fun _ h => List.mem_cons_of_mem _ (List.mem_append_left _ (List.mem_append_left _ (List.mem_append_right _ h)))) (by decide +kernel))) (goodIn_sub (fun _ h => List.mem_cons_of_mem _ (List.mem_append_right _ h)) (by decide +kernel))
set_option maxRecDepth 20000 in
theorem gL_build_X6_mesh : GoodIn wsL_build (wsV RL 32 RX6 yX6_mesh wsX6_mesh) := goodIn_app (goodIn_of _ (by decide +kernel)) ggL_build_X6_mesh
set_option maxRecDepth 20000 in
theorem ggL_build_X6_addPlanets : GoodIn wsL_build wsX6_addPlanets := goodIn_ca (goodIn_ca (goodIn_ca (goodIn_r _ [284, 26, 27, 17, 18, 149, 285, 286, 287, 19, 116, 118, 119, 120, 15, 121, 122, 123, 31, 32, 33, 34, 35, 36, 28, 29, 30, 124, 125, 126, 127, 128, 129, 130, 131, 132, 133, 134, 135, 136, 137, 138, 139, 63, 288, 289, 290, 291, 41, 42, 292, 293, 263, 173, 294, 265, 266, 295, 296, 270, 271, 272, 273, 274, 297, 276, 277, 278, 182, 279, 48, 49, 176, 175, 280, 52, 53, 54, 55, 56, 57, 58, 59, 60, 61, 62, 64, 65, 66, 67, 68, 69, 70, 71, 72, 73, 74, 75, 76, 77, 78, 79, 80, 81, 82, 83, 84, 85, 86, 87, 88, 89, 90, 91, 92, 93, 94, 95, 96, 97, 98, 99, 100, 101, 102, 103, 104, 105, 106, 107, 108, 109, 110, 140, 141, 142, 143, 115, 144, 145, 146, 147, 148, 150, 151, 152, 153, 154, 22, 155, 45, 46, 50, 156, 157, 158, 159, 160, 161, 162, 163, 164, 165, 166, 167, 168, 169, 170, 171, 172, 174, 177, 178, 179, 180, 181, 183, 184, 185, 186, 187, 188, 189, 190, 191, 192, 193, 194, 195, 196, 197, 198, 199, 200, 201, 202, 203, 204, 205, 206, 207, 208, 209, 210, 211, 212, 306, 307, 308, 309, 310, 311, 328, 329, 317, 318, 319, 325, 326, 327, 330, 331, 320, 321, 322, 323, 324, 312, 313, 314, 315, 316] (by decide +kernel) (by decide +kernel)) (goodIn_sub (fun _ h => List.mem_cons_of_mem _ (List.mem_append_left _ (List.mem_append_right _ h))) (by decide +kernel))) (goodIn_sub (fun _ h => List.mem_cons_of_mem _ (List.mem_append_left _ (List.mem_append_left _ (List.mem_append_right _ h)))) (by decide +kernel))) (goodIn_sub (fun _ h => List.mem_cons_of_mem _ (List.mem_append_right _ h)) (by decide +kernel))
set_option maxRecDepth 20000 in
theorem gL_build_X6_addPlanets : GoodIn wsL_build (wsV RL 37 RX6 yX6_addPlanets wsX6_addPlanets) := goodIn_app (goodIn_of _ (by decide +kernel)) ggL_build_X6_addPlanets
set_option maxRecDepth 20000 in
theorem ggL_build_X6_drive : GoodIn wsL_build wsX6_drive := goodIn_ca (goodIn_ca (goodIn_r _ [301, 26, 27, 115, 144, 19, 116, 117, 118, 119, 120, 15, 121, 122, 123, 31, 32, 33, 34, 35, 36, 28, 29, 30, 124, 125, 126, 127, 128, 129, 130, 131, 132, 133, 134, 135, 136, 137, 138, 139, 63, 140, 141, 142, 143, 145, 146, 147, 148, 149, 150, 151, 152, 153, 154, 22, 155, 45, 46, 50, 156, 157, 158, 49, 159, 160, 161, 79, 162, 55, 56, 163, 164, 165, 166, 167, 168, 169, 170, 171, 172, 173, 174, 175, 176, 177, 178, 179, 180, 181, 182, 183, 184, 185, 186, 187, 188, 189, 190, 191, 192, 193, 194, 195, 196, 197, 198, 199, 200, 201, 202, 203, 204, 205, 206, 78, 80, 207, 208, 209, 210, 211, 212, 306, 307, 308, 309, 310, 311, 312, 313, 314, 315, 316, 317, 318, 319, 322, 323, 324, 325, 326, 327, 328, 329, 320, 321, 330, 331] (by decide +kernel) (by decide +kernel)) (goodIn_sub (fun _ h => List.mem_cons_of_mem _ (List.mem_append_left _ (List.mem_append_right _ h))) (by decide +kernel))) (goodIn_sub (fun _ h => List.mem_cons_of_mem _ (List.mem_append_right _ h)) (by decide +kernel))
set_option maxRecDepth 20000 in
theorem gL_build_X6_drive : GoodIn wsL_build (wsV RL 41 RX6 yX6_drive wsX6_drive) := goodIn_app (goodIn_of _ (by decide +kernel)) ggL_build_X6_drive
set_option maxRecDepth 20000 in
theorem ggL_build_X6_count : GoodIn wsL_build wsX6_count := goodIn_ca (goodIn_r _ [305, 122, 123, 19, 217, 145, 149, 31, 32, 33, 34, 35, 36, 306, 307, 308, 309, 310, 311, 317, 318, 319] (by decide +kernel) (by decide +kernel)) (goodIn_sub (fun _ h => List.mem_cons_of_mem _ (List.mem_append_right _ h)) (by decide +kernel))
set_option maxRecDepth 20000 in
theorem gL_build_X6_count : GoodIn wsL_build (wsV RL 44 RX6 yX6_count wsX6_count) := goodIn_app (goodIn_of _ (by decide +kernel)) ggL_build_X6_count
theorem dL_build_0 : decode cL_build 0 = .ok (.bipush 6, 2) := by decide +kernel
theorem dL_build_2 : decode cL_build 2 = .ok (.newarray .int, 2) := by decide +kernel
theorem dL_build_4 : decode cL_build 4 = .ok (.astore 7, 2) := by decide +kernel
theorem dL_build_6 : decode cL_build 6 = .ok (.aload 7, 2) := by decide +kernel
theorem dL_build_8 : decode cL_build 8 = .ok (.iconst 0, 1) := by decide +kernel
theorem dL_build_9 : decode cL_build 9 = .ok (.iconst 2, 1) := by decide +kernel
theorem dL_build_10 : decode cL_build 10 = .ok (.aload_n 1, 1) := by decide +kernel
theorem dL_build_11 : decode cL_build 11 = .ok (.iload_n 2, 1) := by decide +kernel
theorem dL_build_12 : decode cL_build 12 = .ok (.invokestatic 9, 3) := by decide +kernel
theorem dL_build_15 : decode cL_build 15 = .ok (.bipush 7, 2) := by decide +kernel
theorem dL_build_17 : decode cL_build 17 = .ok (.invokestatic 15, 3) := by decide +kernel
theorem dL_build_20 : decode cL_build 20 = .ok (.iadd, 1) := by decide +kernel
theorem dL_build_21 : decode cL_build 21 = .ok (.iastore, 1) := by decide +kernel
theorem dL_build_22 : decode cL_build 22 = .ok (.iconst 0, 1) := by decide +kernel
theorem dL_build_23 : decode cL_build 23 = .ok (.istore 8, 2) := by decide +kernel
theorem dL_build_25 : decode cL_build 25 = .ok (.iload 8, 2) := by decide +kernel
theorem dL_build_27 : decode cL_build 27 = .ok (.aload 7, 2) := by decide +kernel
theorem dL_build_29 : decode cL_build 29 = .ok (.iconst 0, 1) := by decide +kernel
theorem dL_build_30 : decode cL_build 30 = .ok (.iaload, 1) := by decide +kernel
theorem dL_build_31 : decode cL_build 31 = .ok (.if_icmp .ge 137, 3) := by decide +kernel
theorem dL_build_34 : decode cL_build 34 = .ok (.aload_n 1, 1) := by decide +kernel
theorem dL_build_35 : decode cL_build 35 = .ok (.iload_n 2, 1) := by decide +kernel
theorem dL_build_36 : decode cL_build 36 = .ok (.iconst 1, 1) := by decide +kernel
theorem dL_build_37 : decode cL_build 37 = .ok (.iadd, 1) := by decide +kernel
theorem dL_build_38 : decode cL_build 38 = .ok (.invokestatic 9, 3) := by decide +kernel
theorem dL_build_41 : decode cL_build 41 = .ok (.iconst 2, 1) := by decide +kernel
theorem dL_build_42 : decode cL_build 42 = .ok (.iload 8, 2) := by decide +kernel
theorem dL_build_44 : decode cL_build 44 = .ok (.imul, 1) := by decide +kernel
theorem dL_build_45 : decode cL_build 45 = .ok (.ishr, 1) := by decide +kernel
theorem dL_build_46 : decode cL_build 46 = .ok (.istore 9, 2) := by decide +kernel
theorem dL_build_48 : decode cL_build 48 = .ok (.aload_n 3, 1) := by decide +kernel
theorem dL_build_49 : decode cL_build 49 = .ok (.iconst 3, 1) := by decide +kernel
theorem dL_build_50 : decode cL_build 50 = .ok (.iload 8, 2) := by decide +kernel
theorem dL_build_52 : decode cL_build 52 = .ok (.imul, 1) := by decide +kernel
theorem dL_build_53 : decode cL_build 53 = .ok (.iload 9, 2) := by decide +kernel
theorem dL_build_55 : decode cL_build 55 = .ok (.bipush 9, 2) := by decide +kernel
theorem dL_build_57 : decode cL_build 57 = .ok (.invokestatic 15, 3) := by decide +kernel
theorem dL_build_60 : decode cL_build 60 = .ok (.bipush 20, 2) := by decide +kernel
theorem dL_build_62 : decode cL_build 62 = .ok (.imul, 1) := by decide +kernel
theorem dL_build_63 : decode cL_build 63 = .ok (.iastore, 1) := by decide +kernel
theorem dL_build_64 : decode cL_build 64 = .ok (.aload_n 3, 1) := by decide +kernel
theorem dL_build_65 : decode cL_build 65 = .ok (.iconst 3, 1) := by decide +kernel
theorem dL_build_66 : decode cL_build 66 = .ok (.iload 8, 2) := by decide +kernel
theorem dL_build_68 : decode cL_build 68 = .ok (.imul, 1) := by decide +kernel
theorem dL_build_69 : decode cL_build 69 = .ok (.iconst 1, 1) := by decide +kernel
theorem dL_build_70 : decode cL_build 70 = .ok (.iadd, 1) := by decide +kernel
theorem dL_build_71 : decode cL_build 71 = .ok (.iload 9, 2) := by decide +kernel
theorem dL_build_73 : decode cL_build 73 = .ok (.iconst 3, 1) := by decide +kernel
theorem dL_build_74 : decode cL_build 74 = .ok (.ishr, 1) := by decide +kernel
theorem dL_build_75 : decode cL_build 75 = .ok (.iconst 4, 1) := by decide +kernel
theorem dL_build_76 : decode cL_build 76 = .ok (.invokestatic 15, 3) := by decide +kernel
theorem dL_build_79 : decode cL_build 79 = .ok (.bipush 30, 2) := by decide +kernel
theorem dL_build_81 : decode cL_build 81 = .ok (.imul, 1) := by decide +kernel
theorem dL_build_82 : decode cL_build 82 = .ok (.bipush 30, 2) := by decide +kernel
theorem dL_build_84 : decode cL_build 84 = .ok (.isub, 1) := by decide +kernel
theorem dL_build_85 : decode cL_build 85 = .ok (.iastore, 1) := by decide +kernel
theorem dL_build_86 : decode cL_build 86 = .ok (.aload_n 3, 1) := by decide +kernel
theorem dL_build_87 : decode cL_build 87 = .ok (.iconst 3, 1) := by decide +kernel
theorem dL_build_88 : decode cL_build 88 = .ok (.iload 8, 2) := by decide +kernel
theorem dL_build_90 : decode cL_build 90 = .ok (.imul, 1) := by decide +kernel
theorem dL_build_91 : decode cL_build 91 = .ok (.iconst 2, 1) := by decide +kernel
theorem dL_build_92 : decode cL_build 92 = .ok (.iadd, 1) := by decide +kernel
theorem dL_build_93 : decode cL_build 93 = .ok (.iload 9, 2) := by decide +kernel
theorem dL_build_95 : decode cL_build 95 = .ok (.iconst 5, 1) := by decide +kernel
theorem dL_build_96 : decode cL_build 96 = .ok (.ishr, 1) := by decide +kernel
theorem dL_build_97 : decode cL_build 97 = .ok (.bipush 7, 2) := by decide +kernel
theorem dL_build_99 : decode cL_build 99 = .ok (.invokestatic 15, 3) := by decide +kernel
theorem dL_build_102 : decode cL_build 102 = .ok (.ifCond .ne 7, 3) := by decide +kernel
theorem dL_build_105 : decode cL_build 105 = .ok (.iconst 1, 1) := by decide +kernel
theorem dL_build_106 : decode cL_build 106 = .ok (.goto 4, 3) := by decide +kernel
theorem dL_build_109 : decode cL_build 109 = .ok (.iconst 0, 1) := by decide +kernel
theorem dL_build_110 : decode cL_build 110 = .ok (.iastore, 1) := by decide +kernel
theorem dL_build_111 : decode cL_build 111 = .ok (.aload_n 0, 1) := by decide +kernel
theorem dL_build_112 : decode cL_build 112 = .ok (.aload_n 3, 1) := by decide +kernel
theorem dL_build_113 : decode cL_build 113 = .ok (.iconst 3, 1) := by decide +kernel
theorem dL_build_114 : decode cL_build 114 = .ok (.iload 8, 2) := by decide +kernel
theorem dL_build_116 : decode cL_build 116 = .ok (.imul, 1) := by decide +kernel
theorem dL_build_117 : decode cL_build 117 = .ok (.iaload, 1) := by decide +kernel
theorem dL_build_118 : decode cL_build 118 = .ok (.aload_n 3, 1) := by decide +kernel
theorem dL_build_119 : decode cL_build 119 = .ok (.iconst 3, 1) := by decide +kernel
theorem dL_build_120 : decode cL_build 120 = .ok (.iload 8, 2) := by decide +kernel
theorem dL_build_122 : decode cL_build 122 = .ok (.imul, 1) := by decide +kernel
theorem dL_build_123 : decode cL_build 123 = .ok (.iconst 1, 1) := by decide +kernel
theorem dL_build_124 : decode cL_build 124 = .ok (.iadd, 1) := by decide +kernel
theorem dL_build_125 : decode cL_build 125 = .ok (.iaload, 1) := by decide +kernel
theorem dL_build_126 : decode cL_build 126 = .ok (.invokevirtual 19, 3) := by decide +kernel
theorem dL_build_129 : decode cL_build 129 = .ok (.iload 8, 2) := by decide +kernel
theorem dL_build_131 : decode cL_build 131 = .ok (.if_icmp .ne 29, 3) := by decide +kernel
theorem dL_build_134 : decode cL_build 134 = .ok (.aload_n 0, 1) := by decide +kernel
theorem dL_build_135 : decode cL_build 135 = .ok (.iload 8, 2) := by decide +kernel
theorem dL_build_137 : decode cL_build 137 = .ok (.aload_n 3, 1) := by decide +kernel
theorem dL_build_138 : decode cL_build 138 = .ok (.iconst 3, 1) := by decide +kernel
theorem dL_build_139 : decode cL_build 139 = .ok (.iload 8, 2) := by decide +kernel
theorem dL_build_141 : decode cL_build 141 = .ok (.imul, 1) := by decide +kernel
theorem dL_build_142 : decode cL_build 142 = .ok (.iconst 2, 1) := by decide +kernel
theorem dL_build_143 : decode cL_build 143 = .ok (.iadd, 1) := by decide +kernel
theorem dL_build_144 : decode cL_build 144 = .ok (.iaload, 1) := by decide +kernel
theorem dL_build_145 : decode cL_build 145 = .ok (.iconst 1, 1) := by decide +kernel
theorem dL_build_146 : decode cL_build 146 = .ok (.if_icmp .ne 7, 3) := by decide +kernel
theorem dL_build_149 : decode cL_build 149 = .ok (.iconst 1, 1) := by decide +kernel
theorem dL_build_150 : decode cL_build 150 = .ok (.goto 4, 3) := by decide +kernel
theorem dL_build_153 : decode cL_build 153 = .ok (.iconst 0, 1) := by decide +kernel
theorem dL_build_154 : decode cL_build 154 = .ok (.invokevirtual 24, 3) := by decide +kernel
theorem dL_build_157 : decode cL_build 157 = .ok (.ifCond .eq 5, 3) := by decide +kernel
theorem dL_build_160 : decode cL_build 160 = .ok (.aconst_null, 1) := by decide +kernel
theorem dL_build_161 : decode cL_build 161 = .ok (.areturn, 1) := by decide +kernel
theorem dL_build_162 : decode cL_build 162 = .ok (.iinc 8 1, 3) := by decide +kernel
theorem dL_build_165 : decode cL_build 165 = .ok (.goto (-140), 3) := by decide +kernel
theorem dL_build_168 : decode cL_build 168 = .ok (.aload 7, 2) := by decide +kernel
theorem dL_build_170 : decode cL_build 170 = .ok (.iconst 1, 1) := by decide +kernel
theorem dL_build_171 : decode cL_build 171 = .ok (.aload_n 1, 1) := by decide +kernel
theorem dL_build_172 : decode cL_build 172 = .ok (.iload_n 2, 1) := by decide +kernel
theorem dL_build_173 : decode cL_build 173 = .ok (.invokestatic 9, 3) := by decide +kernel
theorem dL_build_176 : decode cL_build 176 = .ok (.iconst 4, 1) := by decide +kernel
theorem dL_build_177 : decode cL_build 177 = .ok (.ishr, 1) := by decide +kernel
theorem dL_build_178 : decode cL_build 178 = .ok (.bipush 13, 2) := by decide +kernel
theorem dL_build_180 : decode cL_build 180 = .ok (.invokestatic 15, 3) := by decide +kernel
theorem dL_build_183 : decode cL_build 183 = .ok (.iastore, 1) := by decide +kernel
theorem dL_build_184 : decode cL_build 184 = .ok (.iconst 0, 1) := by decide +kernel
theorem dL_build_185 : decode cL_build 185 = .ok (.istore 8, 2) := by decide +kernel
theorem dL_build_187 : decode cL_build 187 = .ok (.iload 8, 2) := by decide +kernel
theorem dL_build_189 : decode cL_build 189 = .ok (.aload 7, 2) := by decide +kernel
theorem dL_build_191 : decode cL_build 191 = .ok (.iconst 1, 1) := by decide +kernel
theorem dL_build_192 : decode cL_build 192 = .ok (.iaload, 1) := by decide +kernel
theorem dL_build_193 : decode cL_build 193 = .ok (.if_icmp .ge 197, 3) := by decide +kernel
theorem dL_build_196 : decode cL_build 196 = .ok (.aload_n 1, 1) := by decide +kernel
theorem dL_build_197 : decode cL_build 197 = .ok (.iload_n 2, 1) := by decide +kernel
theorem dL_build_198 : decode cL_build 198 = .ok (.iconst 2, 1) := by decide +kernel
theorem dL_build_199 : decode cL_build 199 = .ok (.iadd, 1) := by decide +kernel
theorem dL_build_200 : decode cL_build 200 = .ok (.iload 8, 2) := by decide +kernel
theorem dL_build_202 : decode cL_build 202 = .ok (.iconst 3, 1) := by decide +kernel
theorem dL_build_203 : decode cL_build 203 = .ok (.irem, 1) := by decide +kernel
theorem dL_build_204 : decode cL_build 204 = .ok (.iadd, 1) := by decide +kernel
theorem dL_build_205 : decode cL_build 205 = .ok (.invokestatic 9, 3) := by decide +kernel
theorem dL_build_208 : decode cL_build 208 = .ok (.iload 8, 2) := by decide +kernel
theorem dL_build_210 : decode cL_build 210 = .ok (.iconst 3, 1) := by decide +kernel
theorem dL_build_211 : decode cL_build 211 = .ok (.idiv, 1) := by decide +kernel
theorem dL_build_212 : decode cL_build 212 = .ok (.iconst 5, 1) := by decide +kernel
theorem dL_build_213 : decode cL_build 213 = .ok (.imul, 1) := by decide +kernel
theorem dL_build_214 : decode cL_build 214 = .ok (.ishr, 1) := by decide +kernel
theorem dL_build_215 : decode cL_build 215 = .ok (.istore 9, 2) := by decide +kernel
theorem dL_build_217 : decode cL_build 217 = .ok (.iconst 5, 1) := by decide +kernel
theorem dL_build_218 : decode cL_build 218 = .ok (.iload 8, 2) := by decide +kernel
theorem dL_build_220 : decode cL_build 220 = .ok (.imul, 1) := by decide +kernel
theorem dL_build_221 : decode cL_build 221 = .ok (.istore 10, 2) := by decide +kernel
theorem dL_build_223 : decode cL_build 223 = .ok (.aload 4, 2) := by decide +kernel
theorem dL_build_225 : decode cL_build 225 = .ok (.iload 10, 2) := by decide +kernel
theorem dL_build_227 : decode cL_build 227 = .ok (.iload 9, 2) := by decide +kernel
theorem dL_build_229 : decode cL_build 229 = .ok (.aload 7, 2) := by decide +kernel
theorem dL_build_231 : decode cL_build 231 = .ok (.iconst 0, 1) := by decide +kernel
theorem dL_build_232 : decode cL_build 232 = .ok (.iaload, 1) := by decide +kernel
theorem dL_build_233 : decode cL_build 233 = .ok (.invokestatic 15, 3) := by decide +kernel
theorem dL_build_236 : decode cL_build 236 = .ok (.iastore, 1) := by decide +kernel
theorem dL_build_237 : decode cL_build 237 = .ok (.aload 4, 2) := by decide +kernel
theorem dL_build_239 : decode cL_build 239 = .ok (.iload 10, 2) := by decide +kernel
theorem dL_build_241 : decode cL_build 241 = .ok (.iconst 1, 1) := by decide +kernel
theorem dL_build_242 : decode cL_build 242 = .ok (.iadd, 1) := by decide +kernel
theorem dL_build_243 : decode cL_build 243 = .ok (.bipush 8, 2) := by decide +kernel
theorem dL_build_245 : decode cL_build 245 = .ok (.iload 9, 2) := by decide +kernel
theorem dL_build_247 : decode cL_build 247 = .ok (.iconst 2, 1) := by decide +kernel
theorem dL_build_248 : decode cL_build 248 = .ok (.ishr, 1) := by decide +kernel
theorem dL_build_249 : decode cL_build 249 = .ok (.iload 9, 2) := by decide +kernel
theorem dL_build_251 : decode cL_build 251 = .ok (.iconst 2, 1) := by decide +kernel
theorem dL_build_252 : decode cL_build 252 = .ok (.invokestatic 15, 3) := by decide +kernel
theorem dL_build_255 : decode cL_build 255 = .ok (.ifCond .ne 8, 3) := by decide +kernel
theorem dL_build_258 : decode cL_build 258 = .ok (.bipush 30, 2) := by decide +kernel
theorem dL_build_260 : decode cL_build 260 = .ok (.goto 6, 3) := by decide +kernel
theorem dL_build_263 : decode cL_build 263 = .ok (.sipush 193, 3) := by decide +kernel
theorem dL_build_266 : decode cL_build 266 = .ok (.invokestatic 15, 3) := by decide +kernel
theorem dL_build_269 : decode cL_build 269 = .ok (.iadd, 1) := by decide +kernel
theorem dL_build_270 : decode cL_build 270 = .ok (.iastore, 1) := by decide +kernel
theorem dL_build_271 : decode cL_build 271 = .ok (.aload 4, 2) := by decide +kernel
theorem dL_build_273 : decode cL_build 273 = .ok (.iload 10, 2) := by decide +kernel
theorem dL_build_275 : decode cL_build 275 = .ok (.iconst 2, 1) := by decide +kernel
theorem dL_build_276 : decode cL_build 276 = .ok (.iadd, 1) := by decide +kernel
theorem dL_build_277 : decode cL_build 277 = .ok (.iconst 1, 1) := by decide +kernel
theorem dL_build_278 : decode cL_build 278 = .ok (.iload 9, 2) := by decide +kernel
theorem dL_build_280 : decode cL_build 280 = .ok (.iconst 4, 1) := by decide +kernel
theorem dL_build_281 : decode cL_build 281 = .ok (.ishr, 1) := by decide +kernel
theorem dL_build_282 : decode cL_build 282 = .ok (.bipush 6, 2) := by decide +kernel
theorem dL_build_284 : decode cL_build 284 = .ok (.invokestatic 15, 3) := by decide +kernel
theorem dL_build_287 : decode cL_build 287 = .ok (.iconst 5, 1) := by decide +kernel
theorem dL_build_288 : decode cL_build 288 = .ok (.idiv, 1) := by decide +kernel
theorem dL_build_289 : decode cL_build 289 = .ok (.iadd, 1) := by decide +kernel
theorem dL_build_290 : decode cL_build 290 = .ok (.iastore, 1) := by decide +kernel
theorem dL_build_291 : decode cL_build 291 = .ok (.aload 4, 2) := by decide +kernel
theorem dL_build_293 : decode cL_build 293 = .ok (.iload 10, 2) := by decide +kernel
theorem dL_build_295 : decode cL_build 295 = .ok (.iconst 3, 1) := by decide +kernel
theorem dL_build_296 : decode cL_build 296 = .ok (.iadd, 1) := by decide +kernel
theorem dL_build_297 : decode cL_build 297 = .ok (.iload 9, 2) := by decide +kernel
theorem dL_build_299 : decode cL_build 299 = .ok (.bipush 6, 2) := by decide +kernel
theorem dL_build_301 : decode cL_build 301 = .ok (.ishr, 1) := by decide +kernel
theorem dL_build_302 : decode cL_build 302 = .ok (.iconst 2, 1) := by decide +kernel
theorem dL_build_303 : decode cL_build 303 = .ok (.invokestatic 15, 3) := by decide +kernel
theorem dL_build_306 : decode cL_build 306 = .ok (.iastore, 1) := by decide +kernel
theorem dL_build_307 : decode cL_build 307 = .ok (.aload 4, 2) := by decide +kernel
theorem dL_build_309 : decode cL_build 309 = .ok (.iload 10, 2) := by decide +kernel
theorem dL_build_311 : decode cL_build 311 = .ok (.iconst 4, 1) := by decide +kernel
theorem dL_build_312 : decode cL_build 312 = .ok (.iadd, 1) := by decide +kernel
theorem dL_build_313 : decode cL_build 313 = .ok (.iload 9, 2) := by decide +kernel
theorem dL_build_315 : decode cL_build 315 = .ok (.bipush 7, 2) := by decide +kernel
theorem dL_build_317 : decode cL_build 317 = .ok (.ishr, 1) := by decide +kernel
theorem dL_build_318 : decode cL_build 318 = .ok (.iconst 5, 1) := by decide +kernel
theorem dL_build_319 : decode cL_build 319 = .ok (.invokestatic 15, 3) := by decide +kernel
theorem dL_build_322 : decode cL_build 322 = .ok (.ifCond .ne 7, 3) := by decide +kernel
theorem dL_build_325 : decode cL_build 325 = .ok (.iconst 1, 1) := by decide +kernel
theorem dL_build_326 : decode cL_build 326 = .ok (.goto 4, 3) := by decide +kernel
theorem dL_build_329 : decode cL_build 329 = .ok (.iconst 0, 1) := by decide +kernel
theorem dL_build_330 : decode cL_build 330 = .ok (.iastore, 1) := by decide +kernel
theorem dL_build_331 : decode cL_build 331 = .ok (.aload_n 0, 1) := by decide +kernel
theorem dL_build_332 : decode cL_build 332 = .ok (.aload 4, 2) := by decide +kernel
theorem dL_build_334 : decode cL_build 334 = .ok (.iload 10, 2) := by decide +kernel
theorem dL_build_336 : decode cL_build 336 = .ok (.iaload, 1) := by decide +kernel
theorem dL_build_337 : decode cL_build 337 = .ok (.aload 4, 2) := by decide +kernel
theorem dL_build_339 : decode cL_build 339 = .ok (.iload 10, 2) := by decide +kernel
theorem dL_build_341 : decode cL_build 341 = .ok (.iconst 1, 1) := by decide +kernel
theorem dL_build_342 : decode cL_build 342 = .ok (.iadd, 1) := by decide +kernel
theorem dL_build_343 : decode cL_build 343 = .ok (.iaload, 1) := by decide +kernel
theorem dL_build_344 : decode cL_build 344 = .ok (.aload 4, 2) := by decide +kernel
theorem dL_build_346 : decode cL_build 346 = .ok (.iload 10, 2) := by decide +kernel
theorem dL_build_348 : decode cL_build 348 = .ok (.iconst 2, 1) := by decide +kernel
theorem dL_build_349 : decode cL_build 349 = .ok (.iadd, 1) := by decide +kernel
theorem dL_build_350 : decode cL_build 350 = .ok (.iaload, 1) := by decide +kernel
theorem dL_build_351 : decode cL_build 351 = .ok (.aload 4, 2) := by decide +kernel
theorem dL_build_353 : decode cL_build 353 = .ok (.iload 10, 2) := by decide +kernel
theorem dL_build_355 : decode cL_build 355 = .ok (.iconst 3, 1) := by decide +kernel
theorem dL_build_356 : decode cL_build 356 = .ok (.iadd, 1) := by decide +kernel
theorem dL_build_357 : decode cL_build 357 = .ok (.iaload, 1) := by decide +kernel
theorem dL_build_358 : decode cL_build 358 = .ok (.aload 4, 2) := by decide +kernel
theorem dL_build_360 : decode cL_build 360 = .ok (.iload 10, 2) := by decide +kernel
theorem dL_build_362 : decode cL_build 362 = .ok (.iconst 4, 1) := by decide +kernel
theorem dL_build_363 : decode cL_build 363 = .ok (.iadd, 1) := by decide +kernel
theorem dL_build_364 : decode cL_build 364 = .ok (.iaload, 1) := by decide +kernel
theorem dL_build_365 : decode cL_build 365 = .ok (.iconst 1, 1) := by decide +kernel
theorem dL_build_366 : decode cL_build 366 = .ok (.if_icmp .ne 7, 3) := by decide +kernel
theorem dL_build_369 : decode cL_build 369 = .ok (.iconst 1, 1) := by decide +kernel
theorem dL_build_370 : decode cL_build 370 = .ok (.goto 4, 3) := by decide +kernel
theorem dL_build_373 : decode cL_build 373 = .ok (.iconst 0, 1) := by decide +kernel
theorem dL_build_374 : decode cL_build 374 = .ok (.invokevirtual 28, 3) := by decide +kernel
theorem dL_build_377 : decode cL_build 377 = .ok (.iload 8, 2) := by decide +kernel
theorem dL_build_379 : decode cL_build 379 = .ok (.if_icmp .eq 5, 3) := by decide +kernel
theorem dL_build_382 : decode cL_build 382 = .ok (.aconst_null, 1) := by decide +kernel
theorem dL_build_383 : decode cL_build 383 = .ok (.areturn, 1) := by decide +kernel
theorem dL_build_384 : decode cL_build 384 = .ok (.iinc 8 1, 3) := by decide +kernel
theorem dL_build_387 : decode cL_build 387 = .ok (.goto (-200), 3) := by decide +kernel
theorem dL_build_390 : decode cL_build 390 = .ok (.iconst 0, 1) := by decide +kernel
theorem dL_build_391 : decode cL_build 391 = .ok (.istore 8, 2) := by decide +kernel
theorem dL_build_393 : decode cL_build 393 = .ok (.iload 8, 2) := by decide +kernel
theorem dL_build_395 : decode cL_build 395 = .ok (.bipush 24, 2) := by decide +kernel
theorem dL_build_397 : decode cL_build 397 = .ok (.if_icmp .ge 420, 3) := by decide +kernel
theorem dL_build_400 : decode cL_build 400 = .ok (.aload_n 1, 1) := by decide +kernel
theorem dL_build_401 : decode cL_build 401 = .ok (.iload_n 2, 1) := by decide +kernel
theorem dL_build_402 : decode cL_build 402 = .ok (.iconst 5, 1) := by decide +kernel
theorem dL_build_403 : decode cL_build 403 = .ok (.iadd, 1) := by decide +kernel
theorem dL_build_404 : decode cL_build 404 = .ok (.iload 8, 2) := by decide +kernel
theorem dL_build_406 : decode cL_build 406 = .ok (.iconst 4, 1) := by decide +kernel
theorem dL_build_407 : decode cL_build 407 = .ok (.irem, 1) := by decide +kernel
theorem dL_build_408 : decode cL_build 408 = .ok (.iadd, 1) := by decide +kernel
theorem dL_build_409 : decode cL_build 409 = .ok (.invokestatic 9, 3) := by decide +kernel
theorem dL_build_412 : decode cL_build 412 = .ok (.iload 8, 2) := by decide +kernel
theorem dL_build_414 : decode cL_build 414 = .ok (.iconst 4, 1) := by decide +kernel
theorem dL_build_415 : decode cL_build 415 = .ok (.idiv, 1) := by decide +kernel
theorem dL_build_416 : decode cL_build 416 = .ok (.iconst 4, 1) := by decide +kernel
theorem dL_build_417 : decode cL_build 417 = .ok (.imul, 1) := by decide +kernel
theorem dL_build_418 : decode cL_build 418 = .ok (.ishr, 1) := by decide +kernel
theorem dL_build_419 : decode cL_build 419 = .ok (.istore 9, 2) := by decide +kernel
theorem dL_build_421 : decode cL_build 421 = .ok (.aload 7, 2) := by decide +kernel
theorem dL_build_423 : decode cL_build 423 = .ok (.iconst 1, 1) := by decide +kernel
theorem dL_build_424 : decode cL_build 424 = .ok (.iaload, 1) := by decide +kernel
theorem dL_build_425 : decode cL_build 425 = .ok (.ifCond .eq 386, 3) := by decide +kernel
theorem dL_build_428 : decode cL_build 428 = .ok (.aload 7, 2) := by decide +kernel
theorem dL_build_430 : decode cL_build 430 = .ok (.iconst 2, 1) := by decide +kernel
theorem dL_build_431 : decode cL_build 431 = .ok (.iaload, 1) := by decide +kernel
theorem dL_build_432 : decode cL_build 432 = .ok (.bipush 16, 2) := by decide +kernel
theorem dL_build_434 : decode cL_build 434 = .ok (.if_icmp .ne 6, 3) := by decide +kernel
theorem dL_build_437 : decode cL_build 437 = .ok (.goto 374, 3) := by decide +kernel
theorem dL_build_440 : decode cL_build 440 = .ok (.iload 9, 2) := by decide +kernel
theorem dL_build_442 : decode cL_build 442 = .ok (.aload 7, 2) := by decide +kernel
theorem dL_build_444 : decode cL_build 444 = .ok (.iconst 1, 1) := by decide +kernel
theorem dL_build_445 : decode cL_build 445 = .ok (.iaload, 1) := by decide +kernel
theorem dL_build_446 : decode cL_build 446 = .ok (.invokestatic 15, 3) := by decide +kernel
theorem dL_build_449 : decode cL_build 449 = .ok (.istore 10, 2) := by decide +kernel
theorem dL_build_451 : decode cL_build 451 = .ok (.iload 9, 2) := by decide +kernel
theorem dL_build_453 : decode cL_build 453 = .ok (.iconst 3, 1) := by decide +kernel
theorem dL_build_454 : decode cL_build 454 = .ok (.ishr, 1) := by decide +kernel
theorem dL_build_455 : decode cL_build 455 = .ok (.aload 7, 2) := by decide +kernel
theorem dL_build_457 : decode cL_build 457 = .ok (.iconst 1, 1) := by decide +kernel
theorem dL_build_458 : decode cL_build 458 = .ok (.iaload, 1) := by decide +kernel
theorem dL_build_459 : decode cL_build 459 = .ok (.invokestatic 15, 3) := by decide +kernel
theorem dL_build_462 : decode cL_build 462 = .ok (.istore 11, 2) := by decide +kernel
theorem dL_build_464 : decode cL_build 464 = .ok (.aload 4, 2) := by decide +kernel
theorem dL_build_466 : decode cL_build 466 = .ok (.iconst 5, 1) := by decide +kernel
theorem dL_build_467 : decode cL_build 467 = .ok (.iload 10, 2) := by decide +kernel
theorem dL_build_469 : decode cL_build 469 = .ok (.imul, 1) := by decide +kernel
theorem dL_build_470 : decode cL_build 470 = .ok (.iaload, 1) := by decide +kernel
theorem dL_build_471 : decode cL_build 471 = .ok (.aload 4, 2) := by decide +kernel
theorem dL_build_473 : decode cL_build 473 = .ok (.iconst 5, 1) := by decide +kernel
theorem dL_build_474 : decode cL_build 474 = .ok (.iload 11, 2) := by decide +kernel
theorem dL_build_476 : decode cL_build 476 = .ok (.imul, 1) := by decide +kernel
theorem dL_build_477 : decode cL_build 477 = .ok (.iaload, 1) := by decide +kernel
theorem dL_build_478 : decode cL_build 478 = .ok (.if_icmp .eq 72, 3) := by decide +kernel
theorem dL_build_481 : decode cL_build 481 = .ok (.aload 4, 2) := by decide +kernel
theorem dL_build_483 : decode cL_build 483 = .ok (.iconst 5, 1) := by decide +kernel
theorem dL_build_484 : decode cL_build 484 = .ok (.iload 10, 2) := by decide +kernel
theorem dL_build_486 : decode cL_build 486 = .ok (.imul, 1) := by decide +kernel
theorem dL_build_487 : decode cL_build 487 = .ok (.iconst 2, 1) := by decide +kernel
theorem dL_build_488 : decode cL_build 488 = .ok (.iadd, 1) := by decide +kernel
theorem dL_build_489 : decode cL_build 489 = .ok (.iaload, 1) := by decide +kernel
theorem dL_build_490 : decode cL_build 490 = .ok (.aload 4, 2) := by decide +kernel
theorem dL_build_492 : decode cL_build 492 = .ok (.iconst 5, 1) := by decide +kernel
theorem dL_build_493 : decode cL_build 493 = .ok (.iload 11, 2) := by decide +kernel
theorem dL_build_495 : decode cL_build 495 = .ok (.imul, 1) := by decide +kernel
theorem dL_build_496 : decode cL_build 496 = .ok (.iconst 2, 1) := by decide +kernel
theorem dL_build_497 : decode cL_build 497 = .ok (.iadd, 1) := by decide +kernel
theorem dL_build_498 : decode cL_build 498 = .ok (.iaload, 1) := by decide +kernel
theorem dL_build_499 : decode cL_build 499 = .ok (.if_icmp .ne 51, 3) := by decide +kernel
theorem dL_build_502 : decode cL_build 502 = .ok (.aload 4, 2) := by decide +kernel
theorem dL_build_504 : decode cL_build 504 = .ok (.iconst 5, 1) := by decide +kernel
theorem dL_build_505 : decode cL_build 505 = .ok (.iload 10, 2) := by decide +kernel
theorem dL_build_507 : decode cL_build 507 = .ok (.imul, 1) := by decide +kernel
theorem dL_build_508 : decode cL_build 508 = .ok (.iconst 3, 1) := by decide +kernel
theorem dL_build_509 : decode cL_build 509 = .ok (.iadd, 1) := by decide +kernel
theorem dL_build_510 : decode cL_build 510 = .ok (.iaload, 1) := by decide +kernel
theorem dL_build_511 : decode cL_build 511 = .ok (.aload 4, 2) := by decide +kernel
theorem dL_build_513 : decode cL_build 513 = .ok (.iconst 5, 1) := by decide +kernel
theorem dL_build_514 : decode cL_build 514 = .ok (.iload 11, 2) := by decide +kernel
theorem dL_build_516 : decode cL_build 516 = .ok (.imul, 1) := by decide +kernel
theorem dL_build_517 : decode cL_build 517 = .ok (.iconst 3, 1) := by decide +kernel
theorem dL_build_518 : decode cL_build 518 = .ok (.iadd, 1) := by decide +kernel
theorem dL_build_519 : decode cL_build 519 = .ok (.iaload, 1) := by decide +kernel
theorem dL_build_520 : decode cL_build 520 = .ok (.if_icmp .ne 30, 3) := by decide +kernel
theorem dL_build_523 : decode cL_build 523 = .ok (.aload 4, 2) := by decide +kernel
theorem dL_build_525 : decode cL_build 525 = .ok (.iconst 5, 1) := by decide +kernel
theorem dL_build_526 : decode cL_build 526 = .ok (.iload 10, 2) := by decide +kernel
theorem dL_build_528 : decode cL_build 528 = .ok (.imul, 1) := by decide +kernel
theorem dL_build_529 : decode cL_build 529 = .ok (.iconst 4, 1) := by decide +kernel
theorem dL_build_530 : decode cL_build 530 = .ok (.iadd, 1) := by decide +kernel
theorem dL_build_531 : decode cL_build 531 = .ok (.iaload, 1) := by decide +kernel
theorem dL_build_532 : decode cL_build 532 = .ok (.aload 4, 2) := by decide +kernel
theorem dL_build_534 : decode cL_build 534 = .ok (.iconst 5, 1) := by decide +kernel
theorem dL_build_535 : decode cL_build 535 = .ok (.iload 11, 2) := by decide +kernel
theorem dL_build_537 : decode cL_build 537 = .ok (.imul, 1) := by decide +kernel
theorem dL_build_538 : decode cL_build 538 = .ok (.iconst 4, 1) := by decide +kernel
theorem dL_build_539 : decode cL_build 539 = .ok (.iadd, 1) := by decide +kernel
theorem dL_build_540 : decode cL_build 540 = .ok (.iaload, 1) := by decide +kernel
theorem dL_build_541 : decode cL_build 541 = .ok (.iadd, 1) := by decide +kernel
theorem dL_build_542 : decode cL_build 542 = .ok (.iconst 2, 1) := by decide +kernel
theorem dL_build_543 : decode cL_build 543 = .ok (.if_icmp .ge 7, 3) := by decide +kernel
theorem dL_build_546 : decode cL_build 546 = .ok (.iconst 1, 1) := by decide +kernel
theorem dL_build_547 : decode cL_build 547 = .ok (.goto 4, 3) := by decide +kernel
theorem dL_build_550 : decode cL_build 550 = .ok (.iconst 0, 1) := by decide +kernel
theorem dL_build_551 : decode cL_build 551 = .ok (.istore 12, 2) := by decide +kernel
theorem dL_build_553 : decode cL_build 553 = .ok (.aload 4, 2) := by decide +kernel
theorem dL_build_555 : decode cL_build 555 = .ok (.iconst 5, 1) := by decide +kernel
theorem dL_build_556 : decode cL_build 556 = .ok (.iload 10, 2) := by decide +kernel
theorem dL_build_558 : decode cL_build 558 = .ok (.imul, 1) := by decide +kernel
theorem dL_build_559 : decode cL_build 559 = .ok (.iconst 4, 1) := by decide +kernel
theorem dL_build_560 : decode cL_build 560 = .ok (.iadd, 1) := by decide +kernel
theorem dL_build_561 : decode cL_build 561 = .ok (.iaload, 1) := by decide +kernel
theorem dL_build_562 : decode cL_build 562 = .ok (.iconst 1, 1) := by decide +kernel
theorem dL_build_563 : decode cL_build 563 = .ok (.if_icmp .ne 36, 3) := by decide +kernel
theorem dL_build_566 : decode cL_build 566 = .ok (.iload 12, 2) := by decide +kernel
theorem dL_build_568 : decode cL_build 568 = .ok (.ifCond .eq 28, 3) := by decide +kernel
theorem dL_build_571 : decode cL_build 571 = .ok (.aload 4, 2) := by decide +kernel
theorem dL_build_573 : decode cL_build 573 = .ok (.iconst 5, 1) := by decide +kernel
theorem dL_build_574 : decode cL_build 574 = .ok (.iload 10, 2) := by decide +kernel
theorem dL_build_576 : decode cL_build 576 = .ok (.imul, 1) := by decide +kernel
theorem dL_build_577 : decode cL_build 577 = .ok (.iconst 1, 1) := by decide +kernel
theorem dL_build_578 : decode cL_build 578 = .ok (.iadd, 1) := by decide +kernel
theorem dL_build_579 : decode cL_build 579 = .ok (.iaload, 1) := by decide +kernel
theorem dL_build_580 : decode cL_build 580 = .ok (.aload 4, 2) := by decide +kernel
theorem dL_build_582 : decode cL_build 582 = .ok (.iconst 5, 1) := by decide +kernel
theorem dL_build_583 : decode cL_build 583 = .ok (.iload 11, 2) := by decide +kernel
theorem dL_build_585 : decode cL_build 585 = .ok (.imul, 1) := by decide +kernel
theorem dL_build_586 : decode cL_build 586 = .ok (.iconst 1, 1) := by decide +kernel
theorem dL_build_587 : decode cL_build 587 = .ok (.iadd, 1) := by decide +kernel
theorem dL_build_588 : decode cL_build 588 = .ok (.iaload, 1) := by decide +kernel
theorem dL_build_589 : decode cL_build 589 = .ok (.if_icmp .le 7, 3) := by decide +kernel
theorem dL_build_592 : decode cL_build 592 = .ok (.iconst 1, 1) := by decide +kernel
theorem dL_build_593 : decode cL_build 593 = .ok (.goto 4, 3) := by decide +kernel
theorem dL_build_596 : decode cL_build 596 = .ok (.iconst 0, 1) := by decide +kernel
theorem dL_build_597 : decode cL_build 597 = .ok (.istore 12, 2) := by decide +kernel
theorem dL_build_599 : decode cL_build 599 = .ok (.aload 4, 2) := by decide +kernel
theorem dL_build_601 : decode cL_build 601 = .ok (.iconst 5, 1) := by decide +kernel
theorem dL_build_602 : decode cL_build 602 = .ok (.iload 11, 2) := by decide +kernel
theorem dL_build_604 : decode cL_build 604 = .ok (.imul, 1) := by decide +kernel
theorem dL_build_605 : decode cL_build 605 = .ok (.iconst 4, 1) := by decide +kernel
theorem dL_build_606 : decode cL_build 606 = .ok (.iadd, 1) := by decide +kernel
theorem dL_build_607 : decode cL_build 607 = .ok (.iaload, 1) := by decide +kernel
theorem dL_build_608 : decode cL_build 608 = .ok (.iconst 1, 1) := by decide +kernel
theorem dL_build_609 : decode cL_build 609 = .ok (.if_icmp .ne 36, 3) := by decide +kernel
theorem dL_build_612 : decode cL_build 612 = .ok (.iload 12, 2) := by decide +kernel
theorem dL_build_614 : decode cL_build 614 = .ok (.ifCond .eq 28, 3) := by decide +kernel
theorem dL_build_617 : decode cL_build 617 = .ok (.aload 4, 2) := by decide +kernel
theorem dL_build_619 : decode cL_build 619 = .ok (.iconst 5, 1) := by decide +kernel
theorem dL_build_620 : decode cL_build 620 = .ok (.iload 11, 2) := by decide +kernel
theorem dL_build_622 : decode cL_build 622 = .ok (.imul, 1) := by decide +kernel
theorem dL_build_623 : decode cL_build 623 = .ok (.iconst 1, 1) := by decide +kernel
theorem dL_build_624 : decode cL_build 624 = .ok (.iadd, 1) := by decide +kernel
theorem dL_build_625 : decode cL_build 625 = .ok (.iaload, 1) := by decide +kernel
theorem dL_build_626 : decode cL_build 626 = .ok (.aload 4, 2) := by decide +kernel
theorem dL_build_628 : decode cL_build 628 = .ok (.iconst 5, 1) := by decide +kernel
theorem dL_build_629 : decode cL_build 629 = .ok (.iload 10, 2) := by decide +kernel
theorem dL_build_631 : decode cL_build 631 = .ok (.imul, 1) := by decide +kernel
theorem dL_build_632 : decode cL_build 632 = .ok (.iconst 1, 1) := by decide +kernel
theorem dL_build_633 : decode cL_build 633 = .ok (.iadd, 1) := by decide +kernel
theorem dL_build_634 : decode cL_build 634 = .ok (.iaload, 1) := by decide +kernel
theorem dL_build_635 : decode cL_build 635 = .ok (.if_icmp .le 7, 3) := by decide +kernel
theorem dL_build_638 : decode cL_build 638 = .ok (.iconst 1, 1) := by decide +kernel
theorem dL_build_639 : decode cL_build 639 = .ok (.goto 4, 3) := by decide +kernel
theorem dL_build_642 : decode cL_build 642 = .ok (.iconst 0, 1) := by decide +kernel
theorem dL_build_643 : decode cL_build 643 = .ok (.istore 12, 2) := by decide +kernel
theorem dL_build_645 : decode cL_build 645 = .ok (.iconst 0, 1) := by decide +kernel
theorem dL_build_646 : decode cL_build 646 = .ok (.istore 13, 2) := by decide +kernel
theorem dL_build_648 : decode cL_build 648 = .ok (.iload 13, 2) := by decide +kernel
theorem dL_build_650 : decode cL_build 650 = .ok (.aload 7, 2) := by decide +kernel
theorem dL_build_652 : decode cL_build 652 = .ok (.iconst 2, 1) := by decide +kernel
theorem dL_build_653 : decode cL_build 653 = .ok (.iaload, 1) := by decide +kernel
theorem dL_build_654 : decode cL_build 654 = .ok (.if_icmp .ge 73, 3) := by decide +kernel
theorem dL_build_657 : decode cL_build 657 = .ok (.iload 12, 2) := by decide +kernel
theorem dL_build_659 : decode cL_build 659 = .ok (.ifCond .eq 59, 3) := by decide +kernel
theorem dL_build_662 : decode cL_build 662 = .ok (.aload 5, 2) := by decide +kernel
theorem dL_build_664 : decode cL_build 664 = .ok (.iconst 2, 1) := by decide +kernel
theorem dL_build_665 : decode cL_build 665 = .ok (.iload 13, 2) := by decide +kernel
theorem dL_build_667 : decode cL_build 667 = .ok (.imul, 1) := by decide +kernel
theorem dL_build_668 : decode cL_build 668 = .ok (.iaload, 1) := by decide +kernel
theorem dL_build_669 : decode cL_build 669 = .ok (.iload 10, 2) := by decide +kernel
theorem dL_build_671 : decode cL_build 671 = .ok (.if_icmp .ne 17, 3) := by decide +kernel
theorem dL_build_674 : decode cL_build 674 = .ok (.aload 5, 2) := by decide +kernel
theorem dL_build_676 : decode cL_build 676 = .ok (.iconst 2, 1) := by decide +kernel
theorem dL_build_677 : decode cL_build 677 = .ok (.iload 13, 2) := by decide +kernel
theorem dL_build_679 : decode cL_build 679 = .ok (.imul, 1) := by decide +kernel
theorem dL_build_680 : decode cL_build 680 = .ok (.iconst 1, 1) := by decide +kernel
theorem dL_build_681 : decode cL_build 681 = .ok (.iadd, 1) := by decide +kernel
theorem dL_build_682 : decode cL_build 682 = .ok (.iaload, 1) := by decide +kernel
theorem dL_build_683 : decode cL_build 683 = .ok (.iload 11, 2) := by decide +kernel
theorem dL_build_685 : decode cL_build 685 = .ok (.if_icmp .eq 33, 3) := by decide +kernel
theorem dL_build_688 : decode cL_build 688 = .ok (.aload 5, 2) := by decide +kernel
theorem dL_build_690 : decode cL_build 690 = .ok (.iconst 2, 1) := by decide +kernel
theorem dL_build_691 : decode cL_build 691 = .ok (.iload 13, 2) := by decide +kernel
theorem dL_build_693 : decode cL_build 693 = .ok (.imul, 1) := by decide +kernel
theorem dL_build_694 : decode cL_build 694 = .ok (.iaload, 1) := by decide +kernel
theorem dL_build_695 : decode cL_build 695 = .ok (.iload 11, 2) := by decide +kernel
theorem dL_build_697 : decode cL_build 697 = .ok (.if_icmp .ne 17, 3) := by decide +kernel
theorem dL_build_700 : decode cL_build 700 = .ok (.aload 5, 2) := by decide +kernel
theorem dL_build_702 : decode cL_build 702 = .ok (.iconst 2, 1) := by decide +kernel
theorem dL_build_703 : decode cL_build 703 = .ok (.iload 13, 2) := by decide +kernel
theorem dL_build_705 : decode cL_build 705 = .ok (.imul, 1) := by decide +kernel
theorem dL_build_706 : decode cL_build 706 = .ok (.iconst 1, 1) := by decide +kernel
theorem dL_build_707 : decode cL_build 707 = .ok (.iadd, 1) := by decide +kernel
theorem dL_build_708 : decode cL_build 708 = .ok (.iaload, 1) := by decide +kernel
theorem dL_build_709 : decode cL_build 709 = .ok (.iload 10, 2) := by decide +kernel
theorem dL_build_711 : decode cL_build 711 = .ok (.if_icmp .eq 7, 3) := by decide +kernel
theorem dL_build_714 : decode cL_build 714 = .ok (.iconst 1, 1) := by decide +kernel
theorem dL_build_715 : decode cL_build 715 = .ok (.goto 4, 3) := by decide +kernel
theorem dL_build_718 : decode cL_build 718 = .ok (.iconst 0, 1) := by decide +kernel
theorem dL_build_719 : decode cL_build 719 = .ok (.istore 12, 2) := by decide +kernel
theorem dL_build_721 : decode cL_build 721 = .ok (.iinc 13 1, 3) := by decide +kernel
theorem dL_build_724 : decode cL_build 724 = .ok (.goto (-76), 3) := by decide +kernel
theorem dL_build_727 : decode cL_build 727 = .ok (.bipush (-2), 2) := by decide +kernel
theorem dL_build_729 : decode cL_build 729 = .ok (.istore 13, 2) := by decide +kernel
theorem dL_build_731 : decode cL_build 731 = .ok (.aload_n 0, 1) := by decide +kernel
theorem dL_build_732 : decode cL_build 732 = .ok (.iload 10, 2) := by decide +kernel
theorem dL_build_734 : decode cL_build 734 = .ok (.iload 11, 2) := by decide +kernel
theorem dL_build_736 : decode cL_build 736 = .ok (.invokevirtual 32, 3) := by decide +kernel
theorem dL_build_739 : decode cL_build 739 = .ok (.istore 13, 2) := by decide +kernel
theorem dL_build_741 : decode cL_build 741 = .ok (.goto 9, 3) := by decide +kernel
theorem dL_build_744 : decode cL_build 744 = .ok (.astore 14, 2) := by decide +kernel
theorem dL_build_746 : decode cL_build 746 = .ok (.bipush (-2), 2) := by decide +kernel
theorem dL_build_748 : decode cL_build 748 = .ok (.istore 13, 2) := by decide +kernel
theorem dL_build_750 : decode cL_build 750 = .ok (.iload 13, 2) := by decide +kernel
theorem dL_build_752 : decode cL_build 752 = .ok (.iload 12, 2) := by decide +kernel
theorem dL_build_754 : decode cL_build 754 = .ok (.ifCond .eq 10, 3) := by decide +kernel
theorem dL_build_757 : decode cL_build 757 = .ok (.aload 7, 2) := by decide +kernel
theorem dL_build_759 : decode cL_build 759 = .ok (.iconst 2, 1) := by decide +kernel
theorem dL_build_760 : decode cL_build 760 = .ok (.iaload, 1) := by decide +kernel
theorem dL_build_761 : decode cL_build 761 = .ok (.goto 5, 3) := by decide +kernel
theorem dL_build_764 : decode cL_build 764 = .ok (.bipush (-2), 2) := by decide +kernel
theorem dL_build_766 : decode cL_build 766 = .ok (.if_icmp .eq 5, 3) := by decide +kernel
theorem dL_build_769 : decode cL_build 769 = .ok (.aconst_null, 1) := by decide +kernel
theorem dL_build_770 : decode cL_build 770 = .ok (.areturn, 1) := by decide +kernel
theorem dL_build_771 : decode cL_build 771 = .ok (.iload 12, 2) := by decide +kernel
theorem dL_build_773 : decode cL_build 773 = .ok (.ifCond .ne 6, 3) := by decide +kernel
theorem dL_build_776 : decode cL_build 776 = .ok (.goto 35, 3) := by decide +kernel
theorem dL_build_779 : decode cL_build 779 = .ok (.aload 5, 2) := by decide +kernel
theorem dL_build_781 : decode cL_build 781 = .ok (.iconst 2, 1) := by decide +kernel
theorem dL_build_782 : decode cL_build 782 = .ok (.aload 7, 2) := by decide +kernel
theorem dL_build_784 : decode cL_build 784 = .ok (.iconst 2, 1) := by decide +kernel
theorem dL_build_785 : decode cL_build 785 = .ok (.iaload, 1) := by decide +kernel
theorem dL_build_786 : decode cL_build 786 = .ok (.imul, 1) := by decide +kernel
theorem dL_build_787 : decode cL_build 787 = .ok (.iload 10, 2) := by decide +kernel
theorem dL_build_789 : decode cL_build 789 = .ok (.iastore, 1) := by decide +kernel
theorem dL_build_790 : decode cL_build 790 = .ok (.aload 5, 2) := by decide +kernel
theorem dL_build_792 : decode cL_build 792 = .ok (.iconst 2, 1) := by decide +kernel
theorem dL_build_793 : decode cL_build 793 = .ok (.aload 7, 2) := by decide +kernel
theorem dL_build_795 : decode cL_build 795 = .ok (.iconst 2, 1) := by decide +kernel
theorem dL_build_796 : decode cL_build 796 = .ok (.iaload, 1) := by decide +kernel
theorem dL_build_797 : decode cL_build 797 = .ok (.imul, 1) := by decide +kernel
theorem dL_build_798 : decode cL_build 798 = .ok (.iconst 1, 1) := by decide +kernel
theorem dL_build_799 : decode cL_build 799 = .ok (.iadd, 1) := by decide +kernel
theorem dL_build_800 : decode cL_build 800 = .ok (.iload 11, 2) := by decide +kernel
theorem dL_build_802 : decode cL_build 802 = .ok (.iastore, 1) := by decide +kernel
theorem dL_build_803 : decode cL_build 803 = .ok (.aload 7, 2) := by decide +kernel
theorem dL_build_805 : decode cL_build 805 = .ok (.iconst 2, 1) := by decide +kernel
theorem dL_build_806 : decode cL_build 806 = .ok (.dup2, 1) := by decide +kernel
theorem dL_build_807 : decode cL_build 807 = .ok (.iaload, 1) := by decide +kernel
theorem dL_build_808 : decode cL_build 808 = .ok (.iconst 1, 1) := by decide +kernel
theorem dL_build_809 : decode cL_build 809 = .ok (.iadd, 1) := by decide +kernel
theorem dL_build_810 : decode cL_build 810 = .ok (.iastore, 1) := by decide +kernel
theorem dL_build_811 : decode cL_build 811 = .ok (.iinc 8 1, 3) := by decide +kernel
theorem dL_build_814 : decode cL_build 814 = .ok (.goto (-421), 3) := by decide +kernel
theorem dL_build_817 : decode cL_build 817 = .ok (.aload_n 1, 1) := by decide +kernel
theorem dL_build_818 : decode cL_build 818 = .ok (.iload_n 2, 1) := by decide +kernel
theorem dL_build_819 : decode cL_build 819 = .ok (.invokestatic 9, 3) := by decide +kernel
theorem dL_build_822 : decode cL_build 822 = .ok (.bipush 8, 2) := by decide +kernel
theorem dL_build_824 : decode cL_build 824 = .ok (.ishr, 1) := by decide +kernel
theorem dL_build_825 : decode cL_build 825 = .ok (.iconst 4, 1) := by decide +kernel
theorem dL_build_826 : decode cL_build 826 = .ok (.invokestatic 15, 3) := by decide +kernel
theorem dL_build_829 : decode cL_build 829 = .ok (.istore 8, 2) := by decide +kernel
theorem dL_build_831 : decode cL_build 831 = .ok (.iconst 0, 1) := by decide +kernel
theorem dL_build_832 : decode cL_build 832 = .ok (.istore 9, 2) := by decide +kernel
theorem dL_build_834 : decode cL_build 834 = .ok (.iload 9, 2) := by decide +kernel
theorem dL_build_836 : decode cL_build 836 = .ok (.iload 8, 2) := by decide +kernel
theorem dL_build_838 : decode cL_build 838 = .ok (.if_icmp .ge 195, 3) := by decide +kernel
theorem dL_build_841 : decode cL_build 841 = .ok (.aload 7, 2) := by decide +kernel
theorem dL_build_843 : decode cL_build 843 = .ok (.iconst 0, 1) := by decide +kernel
theorem dL_build_844 : decode cL_build 844 = .ok (.iaload, 1) := by decide +kernel
theorem dL_build_845 : decode cL_build 845 = .ok (.iconst 2, 1) := by decide +kernel
theorem dL_build_846 : decode cL_build 846 = .ok (.if_icmp .le 187, 3) := by decide +kernel
theorem dL_build_849 : decode cL_build 849 = .ok (.aload_n 1, 1) := by decide +kernel
theorem dL_build_850 : decode cL_build 850 = .ok (.iload_n 2, 1) := by decide +kernel
theorem dL_build_851 : decode cL_build 851 = .ok (.bipush 9, 2) := by decide +kernel
theorem dL_build_853 : decode cL_build 853 = .ok (.iadd, 1) := by decide +kernel
theorem dL_build_854 : decode cL_build 854 = .ok (.invokestatic 9, 3) := by decide +kernel
theorem dL_build_857 : decode cL_build 857 = .ok (.bipush 6, 2) := by decide +kernel
theorem dL_build_859 : decode cL_build 859 = .ok (.iload 9, 2) := by decide +kernel
theorem dL_build_861 : decode cL_build 861 = .ok (.imul, 1) := by decide +kernel
theorem dL_build_862 : decode cL_build 862 = .ok (.ishr, 1) := by decide +kernel
theorem dL_build_863 : decode cL_build 863 = .ok (.istore 10, 2) := by decide +kernel
theorem dL_build_865 : decode cL_build 865 = .ok (.iconst 5, 1) := by decide +kernel
theorem dL_build_866 : decode cL_build 866 = .ok (.aload 7, 2) := by decide +kernel
theorem dL_build_868 : decode cL_build 868 = .ok (.iconst 3, 1) := by decide +kernel
theorem dL_build_869 : decode cL_build 869 = .ok (.iaload, 1) := by decide +kernel
theorem dL_build_870 : decode cL_build 870 = .ok (.imul, 1) := by decide +kernel
theorem dL_build_871 : decode cL_build 871 = .ok (.istore 11, 2) := by decide +kernel
theorem dL_build_873 : decode cL_build 873 = .ok (.aload 6, 2) := by decide +kernel
theorem dL_build_875 : decode cL_build 875 = .ok (.iload 11, 2) := by decide +kernel
theorem dL_build_877 : decode cL_build 877 = .ok (.iload 10, 2) := by decide +kernel
theorem dL_build_879 : decode cL_build 879 = .ok (.aload 7, 2) := by decide +kernel
theorem dL_build_881 : decode cL_build 881 = .ok (.iconst 0, 1) := by decide +kernel
theorem dL_build_882 : decode cL_build 882 = .ok (.iaload, 1) := by decide +kernel
theorem dL_build_883 : decode cL_build 883 = .ok (.invokestatic 15, 3) := by decide +kernel
theorem dL_build_886 : decode cL_build 886 = .ok (.iastore, 1) := by decide +kernel
theorem dL_build_887 : decode cL_build 887 = .ok (.aload 6, 2) := by decide +kernel
theorem dL_build_889 : decode cL_build 889 = .ok (.iload 11, 2) := by decide +kernel
theorem dL_build_891 : decode cL_build 891 = .ok (.iconst 1, 1) := by decide +kernel
theorem dL_build_892 : decode cL_build 892 = .ok (.iadd, 1) := by decide +kernel
theorem dL_build_893 : decode cL_build 893 = .ok (.aload 6, 2) := by decide +kernel
theorem dL_build_895 : decode cL_build 895 = .ok (.iload 11, 2) := by decide +kernel
theorem dL_build_897 : decode cL_build 897 = .ok (.iaload, 1) := by decide +kernel
theorem dL_build_898 : decode cL_build 898 = .ok (.iconst 1, 1) := by decide +kernel
theorem dL_build_899 : decode cL_build 899 = .ok (.iadd, 1) := by decide +kernel
theorem dL_build_900 : decode cL_build 900 = .ok (.aload 7, 2) := by decide +kernel
theorem dL_build_902 : decode cL_build 902 = .ok (.iconst 0, 1) := by decide +kernel
theorem dL_build_903 : decode cL_build 903 = .ok (.iaload, 1) := by decide +kernel
theorem dL_build_904 : decode cL_build 904 = .ok (.irem, 1) := by decide +kernel
theorem dL_build_905 : decode cL_build 905 = .ok (.iastore, 1) := by decide +kernel
theorem dL_build_906 : decode cL_build 906 = .ok (.aload 6, 2) := by decide +kernel
theorem dL_build_908 : decode cL_build 908 = .ok (.iload 11, 2) := by decide +kernel
theorem dL_build_910 : decode cL_build 910 = .ok (.iconst 2, 1) := by decide +kernel
theorem dL_build_911 : decode cL_build 911 = .ok (.iadd, 1) := by decide +kernel
theorem dL_build_912 : decode cL_build 912 = .ok (.aload 6, 2) := by decide +kernel
theorem dL_build_914 : decode cL_build 914 = .ok (.iload 11, 2) := by decide +kernel
theorem dL_build_916 : decode cL_build 916 = .ok (.iaload, 1) := by decide +kernel
theorem dL_build_917 : decode cL_build 917 = .ok (.iconst 2, 1) := by decide +kernel
theorem dL_build_918 : decode cL_build 918 = .ok (.iadd, 1) := by decide +kernel
theorem dL_build_919 : decode cL_build 919 = .ok (.aload 7, 2) := by decide +kernel
theorem dL_build_921 : decode cL_build 921 = .ok (.iconst 0, 1) := by decide +kernel
theorem dL_build_922 : decode cL_build 922 = .ok (.iaload, 1) := by decide +kernel
theorem dL_build_923 : decode cL_build 923 = .ok (.irem, 1) := by decide +kernel
theorem dL_build_924 : decode cL_build 924 = .ok (.iastore, 1) := by decide +kernel
theorem dL_build_925 : decode cL_build 925 = .ok (.aload 6, 2) := by decide +kernel
theorem dL_build_927 : decode cL_build 927 = .ok (.iload 11, 2) := by decide +kernel
theorem dL_build_929 : decode cL_build 929 = .ok (.iconst 3, 1) := by decide +kernel
theorem dL_build_930 : decode cL_build 930 = .ok (.iadd, 1) := by decide +kernel
theorem dL_build_931 : decode cL_build 931 = .ok (.bipush 8, 2) := by decide +kernel
theorem dL_build_933 : decode cL_build 933 = .ok (.iload 10, 2) := by decide +kernel
theorem dL_build_935 : decode cL_build 935 = .ok (.iconst 2, 1) := by decide +kernel
theorem dL_build_936 : decode cL_build 936 = .ok (.ishr, 1) := by decide +kernel
