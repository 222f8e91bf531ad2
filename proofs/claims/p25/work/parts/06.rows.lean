theorem dX6_addGear_73 : decode cX6_addGear 73 = .ok (.new 84, 3) := by decide +kernel
theorem dX6_addGear_76 : decode cX6_addGear 76 = .ok (.dup, 1) := by decide +kernel
theorem dX6_addGear_77 : decode cX6_addGear 77 = .ok (.aload_n 0, 1) := by decide +kernel
theorem dX6_addGear_78 : decode cX6_addGear 78 = .ok (.getfield 12, 3) := by decide +kernel
theorem dX6_addGear_81 : decode cX6_addGear 81 = .ok (.iload_n 1, 1) := by decide +kernel
theorem dX6_addGear_82 : decode cX6_addGear 82 = .ok (.invokevirtual 59, 3) := by decide +kernel
theorem dX6_addGear_85 : decode cX6_addGear 85 = .ok (.checkcast 47, 3) := by decide +kernel
theorem dX6_addGear_88 : decode cX6_addGear 88 = .ok (.iload_n 2, 1) := by decide +kernel
theorem dX6_addGear_89 : decode cX6_addGear 89 = .ok (.iload_n 3, 1) := by decide +kernel
theorem dX6_addGear_90 : decode cX6_addGear 90 = .ok (.iload 4, 2) := by decide +kernel
theorem dX6_addGear_92 : decode cX6_addGear 92 = .ok (.iload 5, 2) := by decide +kernel
theorem dX6_addGear_94 : decode cX6_addGear 94 = .ok (.invokespecial 86, 3) := by decide +kernel
theorem dX6_addGear_97 : decode cX6_addGear 97 = .ok (.invokevirtual 51, 3) := by decide +kernel
theorem dX6_addGear_100 : decode cX6_addGear 100 = .ok (.pop, 1) := by decide +kernel
theorem dX6_addGear_101 : decode cX6_addGear 101 = .ok (.aload_n 0, 1) := by decide +kernel
theorem dX6_addGear_102 : decode cX6_addGear 102 = .ok (.getfield 16, 3) := by decide +kernel
theorem dX6_addGear_105 : decode cX6_addGear 105 = .ok (.invokevirtual 36, 3) := by decide +kernel
theorem dX6_addGear_108 : decode cX6_addGear 108 = .ok (.iconst 1, 1) := by decide +kernel
theorem dX6_addGear_109 : decode cX6_addGear 109 = .ok (.isub, 1) := by decide +kernel
theorem dX6_addGear_110 : decode cX6_addGear 110 = .ok (.ireturn, 1) := by decide +kernel
set_option maxRecDepth 20000 in
theorem ggX6_mesh_X6_requireGear : GoodIn wsX6_mesh wsX6_requireGear := goodIn_ca (goodIn_r _ [15, 16, 17, 5, 18, 19, 20, 21, 22, 23, 24, 25, 14, 26, 230, 231, 232, 233, 234, 235, 239, 240, 241] (by decide +kernel) (by decide +kernel)) (goodIn_sub (fun _ h => List.mem_cons_of_mem _ (List.mem_append_right _ h)) (by decide +kernel))
set_option maxRecDepth 20000 in
theorem gX6_mesh_X6_requireGear : GoodIn wsX6_mesh (wsV RX6 89 RX6 yX6_requireGear wsX6_requireGear) := goodIn_app (goodIn_of _ (by decide +kernel)) ggX6_mesh_X6_requireGear
set_option maxRecDepth 20000 in
theorem ggX6_mesh_Jx4a65c_get_915e3 : GoodIn wsX6_mesh wsJx4a65c_get_915e3 := goodIn_r _ [30, 23, 31, 32, 33, 34, 35, 36, 37, 38, 39, 40, 41, 21, 42, 43, 239, 240, 241] (by decide +kernel) (by decide +kernel)
set_option maxRecDepth 20000 in
theorem gX6_mesh_Jx4a65c_get_915e3 : GoodIn wsX6_mesh (wsV RX6 59 RJx4a65c yJx4a65c_get_915e3 wsJx4a65c_get_915e3) := goodIn_app (goodIn_of _ (by decide +kernel)) ggX6_mesh_Jx4a65c_get_915e3
set_option maxRecDepth 20000 in
theorem ggX6_mesh_X1_suits : GoodIn wsX6_mesh wsX1_suits := goodIn_r _ [48, 49, 50, 51, 52, 53, 242, 243, 244, 245, 246] (by decide +kernel) (by decide +kernel)
set_option maxRecDepth 20000 in
theorem gX6_mesh_X1_suits : GoodIn wsX6_mesh (wsV RX6 92 RX1 yX1_suits wsX1_suits) := goodIn_app (goodIn_of _ (by decide +kernel)) ggX6_mesh_X1_suits
set_option maxRecDepth 20000 in
theorem ggX6_mesh_X6_areMeshed : GoodIn wsX6_mesh wsX6_areMeshed := goodIn_r _ [57, 7, 58, 18, 19, 20, 21, 22, 23, 27, 28, 29, 30, 31, 32, 33, 34, 35, 36, 37, 38, 39, 40, 41, 42, 43, 59, 60, 61, 10, 62, 63, 64, 230, 231, 232, 233, 234, 235, 239, 240, 241, 236, 237, 238] (by decide +kernel) (by decide +kernel)
set_option maxRecDepth 20000 in
theorem gX6_mesh_X6_areMeshed : GoodIn wsX6_mesh (wsV RX6 96 RX6 yX6_areMeshed wsX6_areMeshed) := goodIn_app (goodIn_of _ (by decide +kernel)) ggX6_mesh_X6_areMeshed
set_option maxRecDepth 20000 in
theorem ggX6_mesh_Jx4a65c_size_8abf5 : GoodIn wsX6_mesh wsJx4a65c_size_8abf5 := goodIn_r _ [22, 23, 239, 240, 241] (by decide +kernel) (by decide +kernel)
set_option maxRecDepth 20000 in
theorem gX6_mesh_Jx4a65c_size_8abf5 : GoodIn wsX6_mesh (wsV RX6 36 RJx4a65c yJx4a65c_size_8abf5 wsJx4a65c_size_8abf5) := goodIn_app (goodIn_of _ (by decide +kernel)) ggX6_mesh_Jx4a65c_size_8abf5
set_option maxRecDepth 20000 in
theorem ggX6_mesh_X2_init : GoodIn wsX6_mesh wsX2_init := goodIn_r _ [67, 68, 69, 70, 63, 64, 71, 72, 73, 74, 75, 76, 77, 78, 79, 80, 81, 82, 83, 84, 85, 86, 87, 88, 89, 90, 91, 92, 93, 94, 95, 96, 97, 98, 99, 100, 101, 102, 236, 237, 238, 242, 243, 244, 245, 246, 247, 248, 249, 250, 251, 252, 253] (by decide +kernel) (by decide +kernel)
set_option maxRecDepth 20000 in
theorem gX6_mesh_X2_init : GoodIn wsX6_mesh (wsX2_init) := ggX6_mesh_X2_init
set_option maxRecDepth 20000 in
theorem ggX6_mesh_Jx4a65c_add_9ea2d : GoodIn wsX6_mesh wsJx4a65c_add_9ea2d := goodIn_r _ [106, 107, 108, 43, 23, 109, 110, 111, 21, 112, 113, 114, 115, 116, 117, 118, 119, 120, 121, 122, 123, 124, 125, 126, 127, 128, 129, 130, 131, 132, 133, 134, 135, 136, 137, 138, 139, 140, 141, 142, 143, 144, 145, 146, 147, 148, 149, 150, 151, 152, 153, 154, 155, 239, 240, 241] (by decide +kernel) (by decide +kernel)
set_option maxRecDepth 20000 in
theorem gX6_mesh_Jx4a65c_add_9ea2d : GoodIn wsX6_mesh (wsV RX6 51 RJx4a65c yJx4a65c_add_9ea2d wsJx4a65c_add_9ea2d) := goodIn_app (goodIn_of _ (by decide +kernel)) ggX6_mesh_Jx4a65c_add_9ea2d
set_option maxRecDepth 20000 in
theorem ggX6_mesh_X6_tellSpeeds : GoodIn wsX6_mesh wsX6_tellSpeeds := goodIn_r _ [159, 160, 161, 162, 163, 7, 58, 164, 165, 166, 167, 168, 18, 19, 20, 21, 22, 23, 27, 28, 29, 30, 31, 32, 33, 34, 35, 36, 37, 38, 39, 40, 41, 42, 43, 169, 170, 171, 172, 173, 174, 175, 176, 177, 178, 179, 94, 180, 181, 182, 124, 183, 101, 102, 184, 185, 186, 187, 188, 189, 14, 190, 191, 192, 193, 75, 194, 96, 95, 195, 196, 197, 198, 199, 91, 200, 201, 202, 203, 204, 205, 206, 207, 208, 209, 210, 211, 212, 213, 214, 215, 216, 217, 218, 219, 220, 221, 222, 223, 123, 125, 224, 225, 226, 227, 228, 229, 230, 231, 232, 233, 234, 235, 236, 237, 238, 247, 248, 249, 254, 255, 239, 240, 241, 256, 257, 258, 259, 260, 252, 253, 250, 251] (by decide +kernel) (by decide +kernel)
set_option maxRecDepth 20000 in
theorem gX6_mesh_X6_tellSpeeds : GoodIn wsX6_mesh (wsV RX6 109 RX6 yX6_tellSpeeds wsX6_tellSpeeds) := goodIn_app (goodIn_of _ (by decide +kernel)) ggX6_mesh_X6_tellSpeeds
theorem dX6_mesh_0 : decode cX6_mesh 0 = .ok (.aload_n 0, 1) := by decide +kernel
theorem dX6_mesh_1 : decode cX6_mesh 1 = .ok (.iload_n 1, 1) := by decide +kernel
theorem dX6_mesh_2 : decode cX6_mesh 2 = .ok (.invokevirtual 89, 3) := by decide +kernel
theorem dX6_mesh_5 : decode cX6_mesh 5 = .ok (.aload_n 0, 1) := by decide +kernel
theorem dX6_mesh_6 : decode cX6_mesh 6 = .ok (.iload_n 2, 1) := by decide +kernel
theorem dX6_mesh_7 : decode cX6_mesh 7 = .ok (.invokevirtual 89, 3) := by decide +kernel
theorem dX6_mesh_10 : decode cX6_mesh 10 = .ok (.aload_n 0, 1) := by decide +kernel
theorem dX6_mesh_11 : decode cX6_mesh 11 = .ok (.getfield 16, 3) := by decide +kernel
theorem dX6_mesh_14 : decode cX6_mesh 14 = .ok (.iload_n 1, 1) := by decide +kernel
theorem dX6_mesh_15 : decode cX6_mesh 15 = .ok (.invokevirtual 59, 3) := by decide +kernel
theorem dX6_mesh_18 : decode cX6_mesh 18 = .ok (.checkcast 84, 3) := by decide +kernel
theorem dX6_mesh_21 : decode cX6_mesh 21 = .ok (.astore_n 3, 1) := by decide +kernel
theorem dX6_mesh_22 : decode cX6_mesh 22 = .ok (.aload_n 0, 1) := by decide +kernel
theorem dX6_mesh_23 : decode cX6_mesh 23 = .ok (.getfield 16, 3) := by decide +kernel
theorem dX6_mesh_26 : decode cX6_mesh 26 = .ok (.iload_n 2, 1) := by decide +kernel
theorem dX6_mesh_27 : decode cX6_mesh 27 = .ok (.invokevirtual 59, 3) := by decide +kernel
theorem dX6_mesh_30 : decode cX6_mesh 30 = .ok (.checkcast 84, 3) := by decide +kernel
theorem dX6_mesh_33 : decode cX6_mesh 33 = .ok (.astore 4, 2) := by decide +kernel
theorem dX6_mesh_35 : decode cX6_mesh 35 = .ok (.aload_n 3, 1) := by decide +kernel
theorem dX6_mesh_36 : decode cX6_mesh 36 = .ok (.aload 4, 2) := by decide +kernel
theorem dX6_mesh_38 : decode cX6_mesh 38 = .ok (.invokevirtual 92, 3) := by decide +kernel
theorem dX6_mesh_41 : decode cX6_mesh 41 = .ok (.ifCond .eq 13, 3) := by decide +kernel
theorem dX6_mesh_44 : decode cX6_mesh 44 = .ok (.aload_n 0, 1) := by decide +kernel
theorem dX6_mesh_45 : decode cX6_mesh 45 = .ok (.aload_n 3, 1) := by decide +kernel
theorem dX6_mesh_46 : decode cX6_mesh 46 = .ok (.aload 4, 2) := by decide +kernel
theorem dX6_mesh_48 : decode cX6_mesh 48 = .ok (.invokevirtual 96, 3) := by decide +kernel
theorem dX6_mesh_51 : decode cX6_mesh 51 = .ok (.ifCond .eq 13, 3) := by decide +kernel
theorem dX6_mesh_54 : decode cX6_mesh 54 = .ok (.new 77, 3) := by decide +kernel
theorem dX6_mesh_57 : decode cX6_mesh 57 = .ok (.dup, 1) := by decide +kernel
theorem dX6_mesh_58 : decode cX6_mesh 58 = .ok (.ldc 100, 2) := by decide +kernel
theorem dX6_mesh_60 : decode cX6_mesh 60 = .ok (.invokespecial 81, 3) := by decide +kernel
theorem dX6_mesh_63 : decode cX6_mesh 63 = .ok (.athrow, 1) := by decide +kernel
theorem dX6_mesh_64 : decode cX6_mesh 64 = .ok (.aload_n 0, 1) := by decide +kernel
theorem dX6_mesh_65 : decode cX6_mesh 65 = .ok (.getfield 19, 3) := by decide +kernel
theorem dX6_mesh_68 : decode cX6_mesh 68 = .ok (.invokevirtual 36, 3) := by decide +kernel
theorem dX6_mesh_71 : decode cX6_mesh 71 = .ok (.bipush 16, 2) := by decide +kernel
theorem dX6_mesh_73 : decode cX6_mesh 73 = .ok (.if_icmp .lt 13, 3) := by decide +kernel
theorem dX6_mesh_76 : decode cX6_mesh 76 = .ok (.new 40, 3) := by decide +kernel
theorem dX6_mesh_79 : decode cX6_mesh 79 = .ok (.dup, 1) := by decide +kernel
theorem dX6_mesh_80 : decode cX6_mesh 80 = .ok (.ldc 102, 2) := by decide +kernel
theorem dX6_mesh_82 : decode cX6_mesh 82 = .ok (.invokespecial 44, 3) := by decide +kernel
theorem dX6_mesh_85 : decode cX6_mesh 85 = .ok (.athrow, 1) := by decide +kernel
theorem dX6_mesh_86 : decode cX6_mesh 86 = .ok (.aload_n 0, 1) := by decide +kernel
theorem dX6_mesh_87 : decode cX6_mesh 87 = .ok (.getfield 19, 3) := by decide +kernel
theorem dX6_mesh_90 : decode cX6_mesh 90 = .ok (.new 104, 3) := by decide +kernel
theorem dX6_mesh_93 : decode cX6_mesh 93 = .ok (.dup, 1) := by decide +kernel
theorem dX6_mesh_94 : decode cX6_mesh 94 = .ok (.aload_n 3, 1) := by decide +kernel
theorem dX6_mesh_95 : decode cX6_mesh 95 = .ok (.aload 4, 2) := by decide +kernel
theorem dX6_mesh_97 : decode cX6_mesh 97 = .ok (.invokespecial 106, 3) := by decide +kernel
theorem dX6_mesh_100 : decode cX6_mesh 100 = .ok (.invokevirtual 51, 3) := by decide +kernel
theorem dX6_mesh_103 : decode cX6_mesh 103 = .ok (.pop, 1) := by decide +kernel
theorem dX6_mesh_104 : decode cX6_mesh 104 = .ok (.aload_n 0, 1) := by decide +kernel
theorem dX6_mesh_105 : decode cX6_mesh 105 = .ok (.invokevirtual 109, 3) := by decide +kernel
theorem dX6_mesh_108 : decode cX6_mesh 108 = .ok (.aload_n 0, 1) := by decide +kernel
theorem dX6_mesh_109 : decode cX6_mesh 109 = .ok (.getfield 19, 3) := by decide +kernel
theorem dX6_mesh_112 : decode cX6_mesh 112 = .ok (.invokevirtual 36, 3) := by decide +kernel
theorem dX6_mesh_115 : decode cX6_mesh 115 = .ok (.iconst 1, 1) := by decide +kernel
theorem dX6_mesh_116 : decode cX6_mesh 116 = .ok (.isub, 1) := by decide +kernel
theorem dX6_mesh_117 : decode cX6_mesh 117 = .ok (.ireturn, 1) := by decide +kernel
set_option maxRecDepth 20000 in
theorem ggX6_addPlanets_X6_requireShaft : GoodIn wsX6_addPlanets wsX6_requireShaft := goodIn_ca (goodIn_r _ [15, 16, 17, 9, 18, 19, 20, 21, 22, 23, 24, 25, 14, 26, 206, 207, 208, 209, 210, 211, 214, 215, 216] (by decide +kernel) (by decide +kernel)) (goodIn_sub (fun _ h => List.mem_cons_of_mem _ (List.mem_append_right _ h)) (by decide +kernel))
set_option maxRecDepth 20000 in
theorem gX6_addPlanets_X6_requireShaft : GoodIn wsX6_addPlanets (wsV RX6 55 RX6 yX6_requireShaft wsX6_requireShaft) := goodIn_app (goodIn_of _ (by decide +kernel)) ggX6_addPlanets_X6_requireShaft
set_option maxRecDepth 20000 in
theorem ggX6_addPlanets_X6_isWithin : GoodIn wsX6_addPlanets wsX6_isWithin := goodIn_r _ [26] (by decide +kernel) (by decide +kernel)
set_option maxRecDepth 20000 in
theorem gX6_addPlanets_X6_isWithin : GoodIn wsX6_addPlanets (va_wsS RX6 73 yX6_isWithin wsX6_isWithin) := goodIn_app (goodIn_of _ (by decide +kernel)) ggX6_addPlanets_X6_isWithin
set_option maxRecDepth 20000 in
theorem ggX6_addPlanets_Jx4a65c_size_8abf5 : GoodIn wsX6_addPlanets wsJx4a65c_size_8abf5 := goodIn_r _ [22, 23, 214, 215, 216] (by decide +kernel) (by decide +kernel)
set_option maxRecDepth 20000 in
theorem gX6_addPlanets_Jx4a65c_size_8abf5 : GoodIn wsX6_addPlanets (wsV RX6 36 RJx4a65c yJx4a65c_size_8abf5 wsJx4a65c_size_8abf5) := goodIn_app (goodIn_of _ (by decide +kernel)) ggX6_addPlanets_Jx4a65c_size_8abf5
set_option maxRecDepth 20000 in
theorem ggX6_addPlanets_Jx4a65c_get_915e3 : GoodIn wsX6_addPlanets wsJx4a65c_get_915e3 := goodIn_r _ [30, 23, 31, 32, 33, 34, 35, 36, 37, 38, 39, 40, 41, 21, 42, 43, 214, 215, 216] (by decide +kernel) (by decide +kernel)
set_option maxRecDepth 20000 in
theorem gX6_addPlanets_Jx4a65c_get_915e3 : GoodIn wsX6_addPlanets (wsV RX6 59 RJx4a65c yJx4a65c_get_915e3 wsJx4a65c_get_915e3) := goodIn_app (goodIn_of _ (by decide +kernel)) ggX6_addPlanets_Jx4a65c_get_915e3
set_option maxRecDepth 20000 in
theorem ggX6_addPlanets_X3_init : GoodIn wsX6_addPlanets wsX3_init := goodIn_r _ [46, 47, 48, 49, 50, 51, 52, 53, 54, 55, 56, 57, 58, 59, 60, 61, 62, 63, 64, 65, 66, 67, 68, 69, 70, 71, 72, 73, 74, 75, 76, 77, 78, 79, 212, 213, 217, 218, 219, 220, 221, 222, 223] (by decide +kernel) (by decide +kernel)
set_option maxRecDepth 20000 in
theorem gX6_addPlanets_X3_init : GoodIn wsX6_addPlanets (wsX3_init) := ggX6_addPlanets_X3_init
set_option maxRecDepth 20000 in
theorem ggX6_addPlanets_Jx4a65c_add_9ea2d : GoodIn wsX6_addPlanets wsJx4a65c_add_9ea2d := goodIn_r _ [83, 84, 85, 43, 23, 86, 87, 88, 21, 89, 90, 91, 92, 93, 94, 95, 96, 97, 98, 99, 100, 101, 102, 103, 104, 105, 106, 107, 108, 109, 110, 111, 112, 113, 114, 115, 116, 117, 118, 119, 120, 121, 122, 123, 124, 125, 126, 127, 128, 129, 130, 131, 132, 214, 215, 216] (by decide +kernel) (by decide +kernel)
set_option maxRecDepth 20000 in
theorem gX6_addPlanets_Jx4a65c_add_9ea2d : GoodIn wsX6_addPlanets (wsV RX6 51 RJx4a65c yJx4a65c_add_9ea2d wsJx4a65c_add_9ea2d) := goodIn_app (goodIn_of _ (by decide +kernel)) ggX6_addPlanets_Jx4a65c_add_9ea2d
set_option maxRecDepth 20000 in
theorem ggX6_addPlanets_X6_tellSpeeds : GoodIn wsX6_addPlanets wsX6_tellSpeeds := goodIn_r _ [136, 9, 10, 137, 138, 139, 140, 141, 142, 5, 143, 144, 18, 19, 20, 21, 22, 23, 27, 28, 29, 30, 31, 32, 33, 34, 35, 36, 37, 38, 39, 40, 41, 42, 43, 145, 146, 147, 148, 149, 150, 151, 152, 153, 154, 155, 71, 156, 157, 158, 101, 159, 78, 79, 160, 161, 162, 163, 164, 165, 14, 166, 167, 168, 169, 53, 170, 73, 72, 171, 172, 173, 174, 175, 68, 176, 177, 178, 179, 180, 181, 182, 183, 184, 185, 186, 187, 188, 189, 190, 191, 192, 193, 194, 195, 196, 197, 198, 199, 100, 102, 200, 201, 202, 203, 204, 205, 206, 207, 208, 209, 210, 211, 224, 225, 226, 217, 218, 219, 212, 213, 214, 215, 216, 227, 228, 229, 230, 231, 222, 223, 220, 221] (by decide +kernel) (by decide +kernel)
set_option maxRecDepth 20000 in
theorem gX6_addPlanets_X6_tellSpeeds : GoodIn wsX6_addPlanets (wsV RX6 109 RX6 yX6_tellSpeeds wsX6_tellSpeeds) := goodIn_app (goodIn_of _ (by decide +kernel)) ggX6_addPlanets_X6_tellSpeeds
theorem dX6_addPlanets_0 : decode cX6_addPlanets 0 = .ok (.aload_n 0, 1) := by decide +kernel
theorem dX6_addPlanets_1 : decode cX6_addPlanets 1 = .ok (.iload_n 1, 1) := by decide +kernel
theorem dX6_addPlanets_2 : decode cX6_addPlanets 2 = .ok (.invokevirtual 55, 3) := by decide +kernel
theorem dX6_addPlanets_5 : decode cX6_addPlanets 5 = .ok (.aload_n 0, 1) := by decide +kernel
theorem dX6_addPlanets_6 : decode cX6_addPlanets 6 = .ok (.iload_n 2, 1) := by decide +kernel
theorem dX6_addPlanets_7 : decode cX6_addPlanets 7 = .ok (.invokevirtual 55, 3) := by decide +kernel
theorem dX6_addPlanets_10 : decode cX6_addPlanets 10 = .ok (.aload_n 0, 1) := by decide +kernel
theorem dX6_addPlanets_11 : decode cX6_addPlanets 11 = .ok (.iload_n 3, 1) := by decide +kernel
theorem dX6_addPlanets_12 : decode cX6_addPlanets 12 = .ok (.invokevirtual 55, 3) := by decide +kernel
theorem dX6_addPlanets_15 : decode cX6_addPlanets 15 = .ok (.iload_n 1, 1) := by decide +kernel
theorem dX6_addPlanets_16 : decode cX6_addPlanets 16 = .ok (.iload_n 2, 1) := by decide +kernel
theorem dX6_addPlanets_17 : decode cX6_addPlanets 17 = .ok (.if_icmp .eq 13, 3) := by decide +kernel
theorem dX6_addPlanets_20 : decode cX6_addPlanets 20 = .ok (.iload_n 1, 1) := by decide +kernel
theorem dX6_addPlanets_21 : decode cX6_addPlanets 21 = .ok (.iload_n 3, 1) := by decide +kernel
theorem dX6_addPlanets_22 : decode cX6_addPlanets 22 = .ok (.if_icmp .eq 8, 3) := by decide +kernel
theorem dX6_addPlanets_25 : decode cX6_addPlanets 25 = .ok (.iload_n 2, 1) := by decide +kernel
theorem dX6_addPlanets_26 : decode cX6_addPlanets 26 = .ok (.iload_n 3, 1) := by decide +kernel
theorem dX6_addPlanets_27 : decode cX6_addPlanets 27 = .ok (.if_icmp .ne 13, 3) := by decide +kernel
theorem dX6_addPlanets_30 : decode cX6_addPlanets 30 = .ok (.new 77, 3) := by decide +kernel
theorem dX6_addPlanets_33 : decode cX6_addPlanets 33 = .ok (.dup, 1) := by decide +kernel
theorem dX6_addPlanets_34 : decode cX6_addPlanets 34 = .ok (.ldc 121, 2) := by decide +kernel
theorem dX6_addPlanets_36 : decode cX6_addPlanets 36 = .ok (.invokespecial 81, 3) := by decide +kernel
theorem dX6_addPlanets_39 : decode cX6_addPlanets 39 = .ok (.athrow, 1) := by decide +kernel
theorem dX6_addPlanets_40 : decode cX6_addPlanets 40 = .ok (.iload 4, 2) := by decide +kernel
theorem dX6_addPlanets_42 : decode cX6_addPlanets 42 = .ok (.bipush 8, 2) := by decide +kernel
theorem dX6_addPlanets_44 : decode cX6_addPlanets 44 = .ok (.bipush 100, 2) := by decide +kernel
theorem dX6_addPlanets_46 : decode cX6_addPlanets 46 = .ok (.invokestatic 73, 3) := by decide +kernel
theorem dX6_addPlanets_49 : decode cX6_addPlanets 49 = .ok (.ifCond .eq 15, 3) := by decide +kernel
theorem dX6_addPlanets_52 : decode cX6_addPlanets 52 = .ok (.iload 5, 2) := by decide +kernel
theorem dX6_addPlanets_54 : decode cX6_addPlanets 54 = .ok (.bipush 8, 2) := by decide +kernel
theorem dX6_addPlanets_56 : decode cX6_addPlanets 56 = .ok (.bipush 100, 2) := by decide +kernel
theorem dX6_addPlanets_58 : decode cX6_addPlanets 58 = .ok (.invokestatic 73, 3) := by decide +kernel
theorem dX6_addPlanets_61 : decode cX6_addPlanets 61 = .ok (.ifCond .ne 13, 3) := by decide +kernel
theorem dX6_addPlanets_64 : decode cX6_addPlanets 64 = .ok (.new 77, 3) := by decide +kernel
theorem dX6_addPlanets_67 : decode cX6_addPlanets 67 = .ok (.dup, 1) := by decide +kernel
theorem dX6_addPlanets_68 : decode cX6_addPlanets 68 = .ok (.ldc 123, 2) := by decide +kernel
theorem dX6_addPlanets_70 : decode cX6_addPlanets 70 = .ok (.invokespecial 81, 3) := by decide +kernel
theorem dX6_addPlanets_73 : decode cX6_addPlanets 73 = .ok (.athrow, 1) := by decide +kernel
theorem dX6_addPlanets_74 : decode cX6_addPlanets 74 = .ok (.aload_n 0, 1) := by decide +kernel
theorem dX6_addPlanets_75 : decode cX6_addPlanets 75 = .ok (.getfield 22, 3) := by decide +kernel
theorem dX6_addPlanets_78 : decode cX6_addPlanets 78 = .ok (.invokevirtual 36, 3) := by decide +kernel
theorem dX6_addPlanets_81 : decode cX6_addPlanets 81 = .ok (.iconst 4, 1) := by decide +kernel
theorem dX6_addPlanets_82 : decode cX6_addPlanets 82 = .ok (.if_icmp .lt 13, 3) := by decide +kernel
theorem dX6_addPlanets_85 : decode cX6_addPlanets 85 = .ok (.new 40, 3) := by decide +kernel
theorem dX6_addPlanets_88 : decode cX6_addPlanets 88 = .ok (.dup, 1) := by decide +kernel
theorem dX6_addPlanets_89 : decode cX6_addPlanets 89 = .ok (.ldc 125, 2) := by decide +kernel
theorem dX6_addPlanets_91 : decode cX6_addPlanets 91 = .ok (.invokespecial 44, 3) := by decide +kernel
theorem dX6_addPlanets_94 : decode cX6_addPlanets 94 = .ok (.athrow, 1) := by decide +kernel
theorem dX6_addPlanets_95 : decode cX6_addPlanets 95 = .ok (.aload_n 0, 1) := by decide +kernel
theorem dX6_addPlanets_96 : decode cX6_addPlanets 96 = .ok (.getfield 22, 3) := by decide +kernel
theorem dX6_addPlanets_99 : decode cX6_addPlanets 99 = .ok (.new 127, 3) := by decide +kernel
theorem dX6_addPlanets_102 : decode cX6_addPlanets 102 = .ok (.dup, 1) := by decide +kernel
theorem dX6_addPlanets_103 : decode cX6_addPlanets 103 = .ok (.aload_n 0, 1) := by decide +kernel
theorem dX6_addPlanets_104 : decode cX6_addPlanets 104 = .ok (.getfield 12, 3) := by decide +kernel
theorem dX6_addPlanets_107 : decode cX6_addPlanets 107 = .ok (.iload_n 1, 1) := by decide +kernel
theorem dX6_addPlanets_108 : decode cX6_addPlanets 108 = .ok (.invokevirtual 59, 3) := by decide +kernel
theorem dX6_addPlanets_111 : decode cX6_addPlanets 111 = .ok (.checkcast 47, 3) := by decide +kernel
theorem dX6_addPlanets_114 : decode cX6_addPlanets 114 = .ok (.aload_n 0, 1) := by decide +kernel
theorem dX6_addPlanets_115 : decode cX6_addPlanets 115 = .ok (.getfield 12, 3) := by decide +kernel
theorem dX6_addPlanets_118 : decode cX6_addPlanets 118 = .ok (.iload_n 2, 1) := by decide +kernel
theorem dX6_addPlanets_119 : decode cX6_addPlanets 119 = .ok (.invokevirtual 59, 3) := by decide +kernel
theorem dX6_addPlanets_122 : decode cX6_addPlanets 122 = .ok (.checkcast 47, 3) := by decide +kernel
theorem dX6_addPlanets_125 : decode cX6_addPlanets 125 = .ok (.aload_n 0, 1) := by decide +kernel
theorem dX6_addPlanets_126 : decode cX6_addPlanets 126 = .ok (.getfield 12, 3) := by decide +kernel
theorem dX6_addPlanets_129 : decode cX6_addPlanets 129 = .ok (.iload_n 3, 1) := by decide +kernel
theorem dX6_addPlanets_130 : decode cX6_addPlanets 130 = .ok (.invokevirtual 59, 3) := by decide +kernel
theorem dX6_addPlanets_133 : decode cX6_addPlanets 133 = .ok (.checkcast 47, 3) := by decide +kernel
theorem dX6_addPlanets_136 : decode cX6_addPlanets 136 = .ok (.iload 4, 2) := by decide +kernel
theorem dX6_addPlanets_138 : decode cX6_addPlanets 138 = .ok (.iload 5, 2) := by decide +kernel
theorem dX6_addPlanets_140 : decode cX6_addPlanets 140 = .ok (.invokespecial 129, 3) := by decide +kernel
theorem dX6_addPlanets_143 : decode cX6_addPlanets 143 = .ok (.invokevirtual 51, 3) := by decide +kernel
theorem dX6_addPlanets_146 : decode cX6_addPlanets 146 = .ok (.pop, 1) := by decide +kernel
theorem dX6_addPlanets_147 : decode cX6_addPlanets 147 = .ok (.aload_n 0, 1) := by decide +kernel
theorem dX6_addPlanets_148 : decode cX6_addPlanets 148 = .ok (.invokevirtual 109, 3) := by decide +kernel
theorem dX6_addPlanets_151 : decode cX6_addPlanets 151 = .ok (.aload_n 0, 1) := by decide +kernel
theorem dX6_addPlanets_152 : decode cX6_addPlanets 152 = .ok (.getfield 22, 3) := by decide +kernel
theorem dX6_addPlanets_155 : decode cX6_addPlanets 155 = .ok (.invokevirtual 36, 3) := by decide +kernel
theorem dX6_addPlanets_158 : decode cX6_addPlanets 158 = .ok (.iconst 1, 1) := by decide +kernel
theorem dX6_addPlanets_159 : decode cX6_addPlanets 159 = .ok (.isub, 1) := by decide +kernel
theorem dX6_addPlanets_160 : decode cX6_addPlanets 160 = .ok (.ireturn, 1) := by decide +kernel
set_option maxRecDepth 20000 in
theorem ggX6_count_Jx4a65c_size_8abf5 : GoodIn wsX6_count wsJx4a65c_size_8abf5 := goodIn_r _ [11, 12, 19, 20, 21] (by decide +kernel) (by decide +kernel)
set_option maxRecDepth 20000 in
theorem gX6_count_Jx4a65c_size_8abf5 : GoodIn wsX6_count (wsV RX6 36 RJx4a65c yJx4a65c_size_8abf5 wsJx4a65c_size_8abf5) := goodIn_app (goodIn_of _ (by decide +kernel)) ggX6_count_Jx4a65c_size_8abf5
theorem dX6_count_0 : decode cX6_count 0 = .ok (.iload_n 1, 1) := by decide +kernel
theorem dX6_count_1 : decode cX6_count 1 = .ok (.tableswitch 63 0 3 #[31, 39, 47, 55], 31) := by decide +kernel
theorem dX6_count_32 : decode cX6_count 32 = .ok (.aload_n 0, 1) := by decide +kernel
theorem dX6_count_33 : decode cX6_count 33 = .ok (.getfield 12, 3) := by decide +kernel
theorem dX6_count_36 : decode cX6_count 36 = .ok (.invokevirtual 36, 3) := by decide +kernel
theorem dX6_count_39 : decode cX6_count 39 = .ok (.ireturn, 1) := by decide +kernel
theorem dX6_count_40 : decode cX6_count 40 = .ok (.aload_n 0, 1) := by decide +kernel
theorem dX6_count_41 : decode cX6_count 41 = .ok (.getfield 16, 3) := by decide +kernel
theorem dX6_count_44 : decode cX6_count 44 = .ok (.invokevirtual 36, 3) := by decide +kernel
theorem dX6_count_47 : decode cX6_count 47 = .ok (.ireturn, 1) := by decide +kernel
theorem dX6_count_48 : decode cX6_count 48 = .ok (.aload_n 0, 1) := by decide +kernel
theorem dX6_count_49 : decode cX6_count 49 = .ok (.getfield 19, 3) := by decide +kernel
theorem dX6_count_52 : decode cX6_count 52 = .ok (.invokevirtual 36, 3) := by decide +kernel
theorem dX6_count_55 : decode cX6_count 55 = .ok (.ireturn, 1) := by decide +kernel
theorem dX6_count_56 : decode cX6_count 56 = .ok (.aload_n 0, 1) := by decide +kernel
theorem dX6_count_57 : decode cX6_count 57 = .ok (.getfield 22, 3) := by decide +kernel
theorem dX6_count_60 : decode cX6_count 60 = .ok (.invokevirtual 36, 3) := by decide +kernel
theorem dX6_count_63 : decode cX6_count 63 = .ok (.ireturn, 1) := by decide +kernel
theorem dX6_count_64 : decode cX6_count 64 = .ok (.new 132, 3) := by decide +kernel
theorem dX6_count_67 : decode cX6_count 67 = .ok (.dup, 1) := by decide +kernel
theorem dX6_count_68 : decode cX6_count 68 = .ok (.ldc 143, 2) := by decide +kernel
theorem dX6_count_70 : decode cX6_count 70 = .ok (.invokespecial 136, 3) := by decide +kernel
theorem dX6_count_73 : decode cX6_count 73 = .ok (.athrow, 1) := by decide +kernel
set_option maxRecDepth 20000 in
theorem ggX6_drive_X6_requireShaft : GoodIn wsX6_drive wsX6_requireShaft := goodIn_ca (goodIn_r _ [12, 13, 14, 5, 15, 16, 17, 18, 19, 20, 21, 22, 11, 23, 123, 124, 125, 126, 127, 128, 134, 135, 136] (by decide +kernel) (by decide +kernel)) (goodIn_sub (fun _ h => List.mem_cons_of_mem _ (List.mem_append_right _ h)) (by decide +kernel))
set_option maxRecDepth 20000 in
theorem gX6_drive_X6_requireShaft : GoodIn wsX6_drive (wsV RX6 55 RX6 yX6_requireShaft wsX6_requireShaft) := goodIn_app (goodIn_of _ (by decide +kernel)) ggX6_drive_X6_requireShaft
set_option maxRecDepth 20000 in
theorem ggX6_drive_X6_isWithin : GoodIn wsX6_drive wsX6_isWithin := goodIn_r _ [23] (by decide +kernel) (by decide +kernel)
set_option maxRecDepth 20000 in
theorem gX6_drive_X6_isWithin : GoodIn wsX6_drive (va_wsS RX6 73 yX6_isWithin wsX6_isWithin) := goodIn_app (goodIn_of _ (by decide +kernel)) ggX6_drive_X6_isWithin
set_option maxRecDepth 20000 in
theorem ggX6_drive_Jx4a65c_get_915e3 : GoodIn wsX6_drive wsJx4a65c_get_915e3 := goodIn_r _ [27, 20, 28, 29, 30, 31, 32, 33, 34, 35, 36, 37, 38, 18, 39, 40, 134, 135, 136] (by decide +kernel) (by decide +kernel)
set_option maxRecDepth 20000 in
theorem gX6_drive_Jx4a65c_get_915e3 : GoodIn wsX6_drive (wsV RX6 59 RJx4a65c yJx4a65c_get_915e3 wsJx4a65c_get_915e3) := goodIn_app (goodIn_of _ (by decide +kernel)) ggX6_drive_Jx4a65c_get_915e3
set_option maxRecDepth 20000 in
theorem ggX6_drive_X6_tellSpeeds : GoodIn wsX6_drive wsX6_tellSpeeds := goodIn_r _ [44, 5, 6, 3, 4, 45, 46, 47, 48, 49, 50, 51, 15, 16, 17, 18, 19, 20, 24, 25, 26, 27, 28, 29, 30, 31, 32, 33, 34, 35, 36, 37, 38, 39, 40, 52, 53, 54, 55, 56, 57, 58, 59, 60, 61, 62, 63, 64, 65, 66, 67, 68, 69, 70, 71, 72, 73, 74, 75, 76, 11, 77, 78, 79, 80, 81, 82, 83, 84, 85, 86, 87, 88, 89, 90, 91, 92, 93, 94, 95, 96, 97, 98, 99, 100, 101, 102, 103, 104, 105, 106, 107, 108, 109, 110, 111, 112, 113, 114, 115, 116, 117, 118, 119, 120, 121, 122, 123, 124, 125, 126, 127, 128, 137, 138, 139, 140, 141, 142, 143, 144, 134, 135, 136, 129, 130, 131, 132, 133, 145, 146, 147, 148] (by decide +kernel) (by decide +kernel)
set_option maxRecDepth 20000 in
theorem gX6_drive_X6_tellSpeeds : GoodIn wsX6_drive (wsV RX6 109 RX6 yX6_tellSpeeds wsX6_tellSpeeds) := goodIn_app (goodIn_of _ (by decide +kernel)) ggX6_drive_X6_tellSpeeds
theorem dX6_drive_0 : decode cX6_drive 0 = .ok (.aload_n 0, 1) := by decide +kernel
theorem dX6_drive_1 : decode cX6_drive 1 = .ok (.iload_n 1, 1) := by decide +kernel
theorem dX6_drive_2 : decode cX6_drive 2 = .ok (.invokevirtual 55, 3) := by decide +kernel
theorem dX6_drive_5 : decode cX6_drive 5 = .ok (.iload_n 2, 1) := by decide +kernel
theorem dX6_drive_6 : decode cX6_drive 6 = .ok (.sipush (-1000), 3) := by decide +kernel
theorem dX6_drive_9 : decode cX6_drive 9 = .ok (.sipush 1000, 3) := by decide +kernel
theorem dX6_drive_12 : decode cX6_drive 12 = .ok (.invokestatic 73, 3) := by decide +kernel
theorem dX6_drive_15 : decode cX6_drive 15 = .ok (.ifCond .ne 13, 3) := by decide +kernel
theorem dX6_drive_18 : decode cX6_drive 18 = .ok (.new 77, 3) := by decide +kernel
theorem dX6_drive_21 : decode cX6_drive 21 = .ok (.dup, 1) := by decide +kernel
theorem dX6_drive_22 : decode cX6_drive 22 = .ok (.ldc 145, 2) := by decide +kernel
theorem dX6_drive_24 : decode cX6_drive 24 = .ok (.invokespecial 81, 3) := by decide +kernel
theorem dX6_drive_27 : decode cX6_drive 27 = .ok (.athrow, 1) := by decide +kernel
theorem dX6_drive_28 : decode cX6_drive 28 = .ok (.aload_n 0, 1) := by decide +kernel
theorem dX6_drive_29 : decode cX6_drive 29 = .ok (.getfield 25, 3) := by decide +kernel
theorem dX6_drive_32 : decode cX6_drive 32 = .ok (.istore_n 3, 1) := by decide +kernel
theorem dX6_drive_33 : decode cX6_drive 33 = .ok (.aload_n 0, 1) := by decide +kernel
theorem dX6_drive_34 : decode cX6_drive 34 = .ok (.iload_n 1, 1) := by decide +kernel
theorem dX6_drive_35 : decode cX6_drive 35 = .ok (.putfield 25, 3) := by decide +kernel
theorem dX6_drive_38 : decode cX6_drive 38 = .ok (.aload_n 0, 1) := by decide +kernel
theorem dX6_drive_39 : decode cX6_drive 39 = .ok (.iload_n 2, 1) := by decide +kernel
theorem dX6_drive_40 : decode cX6_drive 40 = .ok (.putfield 29, 3) := by decide +kernel
theorem dX6_drive_43 : decode cX6_drive 43 = .ok (.aload_n 0, 1) := by decide +kernel
theorem dX6_drive_44 : decode cX6_drive 44 = .ok (.getfield 12, 3) := by decide +kernel
theorem dX6_drive_47 : decode cX6_drive 47 = .ok (.iload_n 1, 1) := by decide +kernel
theorem dX6_drive_48 : decode cX6_drive 48 = .ok (.invokevirtual 59, 3) := by decide +kernel
theorem dX6_drive_51 : decode cX6_drive 51 = .ok (.checkcast 47, 3) := by decide +kernel
theorem dX6_drive_54 : decode cX6_drive 54 = .ok (.iconst 0, 1) := by decide +kernel
theorem dX6_drive_55 : decode cX6_drive 55 = .ok (.putfield 147, 3) := by decide +kernel
theorem dX6_drive_58 : decode cX6_drive 58 = .ok (.aload_n 0, 1) := by decide +kernel
theorem dX6_drive_59 : decode cX6_drive 59 = .ok (.invokevirtual 109, 3) := by decide +kernel
theorem dX6_drive_62 : decode cX6_drive 62 = .ok (.iload_n 3, 1) := by decide +kernel
theorem dX6_drive_63 : decode cX6_drive 63 = .ok (.ireturn, 1) := by decide +kernel
set_option maxRecDepth 20000 in
theorem ggX6_hold_X6_requireShaft : GoodIn wsX6_hold wsX6_requireShaft := goodIn_ca (goodIn_r _ [11, 12, 13, 4, 14, 15, 16, 17, 18, 19, 20, 21, 10, 22, 123, 124, 125, 126, 127, 128, 134, 135, 136] (by decide +kernel) (by decide +kernel)) (goodIn_sub (fun _ h => List.mem_cons_of_mem _ (List.mem_append_right _ h)) (by decide +kernel))
set_option maxRecDepth 20000 in
theorem gX6_hold_X6_requireShaft : GoodIn wsX6_hold (wsV RX6 55 RX6 yX6_requireShaft wsX6_requireShaft) := goodIn_app (goodIn_of _ (by decide +kernel)) ggX6_hold_X6_requireShaft
set_option maxRecDepth 20000 in
theorem ggX6_hold_Jx4a65c_get_915e3 : GoodIn wsX6_hold wsJx4a65c_get_915e3 := goodIn_r _ [26, 19, 27, 28, 29, 30, 31, 32, 33, 34, 35, 36, 37, 17, 38, 39, 134, 135, 136] (by decide +kernel) (by decide +kernel)
set_option maxRecDepth 20000 in
theorem gX6_hold_Jx4a65c_get_915e3 : GoodIn wsX6_hold (wsV RX6 59 RJx4a65c yJx4a65c_get_915e3 wsJx4a65c_get_915e3) := goodIn_app (goodIn_of _ (by decide +kernel)) ggX6_hold_Jx4a65c_get_915e3
set_option maxRecDepth 20000 in
theorem ggX6_hold_X6_tellSpeeds : GoodIn wsX6_hold wsX6_tellSpeeds := goodIn_r _ [43, 4, 5, 3, 44, 45, 46, 47, 48, 49, 50, 51, 14, 15, 16, 17, 18, 19, 23, 24, 25, 26, 27, 28, 29, 30, 31, 32, 33, 34, 35, 36, 37, 38, 39, 52, 53, 54, 55, 56, 57, 58, 59, 60, 61, 62, 63, 64, 65, 66, 67, 68, 69, 70, 71, 72, 73, 74, 75, 76, 10, 77, 78, 79, 80, 81, 82, 83, 84, 85, 86, 87, 88, 89, 90, 91, 92, 93, 94, 95, 96, 97, 98, 99, 100, 101, 102, 103, 104, 105, 106, 107, 108, 109, 110, 111, 112, 113, 114, 115, 116, 117, 118, 119, 120, 121, 122, 123, 124, 125, 126, 127, 128, 137, 138, 139, 140, 141, 142, 143, 144, 134, 135, 136, 129, 130, 131, 132, 133, 145, 146, 147, 148] (by decide +kernel) (by decide +kernel)
set_option maxRecDepth 20000 in
theorem gX6_hold_X6_tellSpeeds : GoodIn wsX6_hold (wsV RX6 109 RX6 yX6_tellSpeeds wsX6_tellSpeeds) := goodIn_app (goodIn_of _ (by decide +kernel)) ggX6_hold_X6_tellSpeeds
theorem dX6_hold_0 : decode cX6_hold 0 = .ok (.aload_n 0, 1) := by decide +kernel
theorem dX6_hold_1 : decode cX6_hold 1 = .ok (.iload_n 1, 1) := by decide +kernel
theorem dX6_hold_2 : decode cX6_hold 2 = .ok (.invokevirtual 55, 3) := by decide +kernel
theorem dX6_hold_5 : decode cX6_hold 5 = .ok (.iload_n 1, 1) := by decide +kernel
theorem dX6_hold_6 : decode cX6_hold 6 = .ok (.aload_n 0, 1) := by decide +kernel
theorem dX6_hold_7 : decode cX6_hold 7 = .ok (.getfield 25, 3) := by decide +kernel
theorem dX6_hold_10 : decode cX6_hold 10 = .ok (.if_icmp .ne 13, 3) := by decide +kernel
theorem dX6_hold_13 : decode cX6_hold 13 = .ok (.new 40, 3) := by decide +kernel
theorem dX6_hold_16 : decode cX6_hold 16 = .ok (.dup, 1) := by decide +kernel
theorem dX6_hold_17 : decode cX6_hold 17 = .ok (.ldc 151, 2) := by decide +kernel
theorem dX6_hold_19 : decode cX6_hold 19 = .ok (.invokespecial 44, 3) := by decide +kernel
theorem dX6_hold_22 : decode cX6_hold 22 = .ok (.athrow, 1) := by decide +kernel
theorem dX6_hold_23 : decode cX6_hold 23 = .ok (.aload_n 0, 1) := by decide +kernel
theorem dX6_hold_24 : decode cX6_hold 24 = .ok (.getfield 12, 3) := by decide +kernel
theorem dX6_hold_27 : decode cX6_hold 27 = .ok (.iload_n 1, 1) := by decide +kernel
theorem dX6_hold_28 : decode cX6_hold 28 = .ok (.invokevirtual 59, 3) := by decide +kernel
theorem dX6_hold_31 : decode cX6_hold 31 = .ok (.checkcast 47, 3) := by decide +kernel
theorem dX6_hold_34 : decode cX6_hold 34 = .ok (.astore_n 3, 1) := by decide +kernel
theorem dX6_hold_35 : decode cX6_hold 35 = .ok (.aload_n 3, 1) := by decide +kernel
theorem dX6_hold_36 : decode cX6_hold 36 = .ok (.getfield 147, 3) := by decide +kernel
theorem dX6_hold_39 : decode cX6_hold 39 = .ok (.istore 4, 2) := by decide +kernel
theorem dX6_hold_41 : decode cX6_hold 41 = .ok (.aload_n 3, 1) := by decide +kernel
theorem dX6_hold_42 : decode cX6_hold 42 = .ok (.iload_n 2, 1) := by decide +kernel
theorem dX6_hold_43 : decode cX6_hold 43 = .ok (.putfield 147, 3) := by decide +kernel
theorem dX6_hold_46 : decode cX6_hold 46 = .ok (.aload_n 0, 1) := by decide +kernel
theorem dX6_hold_47 : decode cX6_hold 47 = .ok (.invokevirtual 109, 3) := by decide +kernel
theorem dX6_hold_50 : decode cX6_hold 50 = .ok (.iload 4, 2) := by decide +kernel
theorem dX6_hold_52 : decode cX6_hold 52 = .ok (.ireturn, 1) := by decide +kernel
set_option maxRecDepth 20000 in
theorem ggX6_isTold_X6_requireShaft : GoodIn wsX6_isTold wsX6_requireShaft := goodIn_ca (goodIn_r _ [7, 8, 9, 1, 10, 11, 12, 13, 14, 15, 16, 17, 6, 18, 42, 43, 44, 45, 46, 47, 48, 49, 50] (by decide +kernel) (by decide +kernel)) (goodIn_sub (fun _ h => List.mem_cons_of_mem _ (List.mem_append_right _ h)) (by decide +kernel))
set_option maxRecDepth 20000 in
theorem gX6_isTold_X6_requireShaft : GoodIn wsX6_isTold (wsV RX6 55 RX6 yX6_requireShaft wsX6_requireShaft) := goodIn_app (goodIn_of _ (by decide +kernel)) ggX6_isTold_X6_requireShaft
set_option maxRecDepth 20000 in
theorem ggX6_isTold_Jx4a65c_get_915e3 : GoodIn wsX6_isTold wsJx4a65c_get_915e3 := goodIn_r _ [22, 15, 23, 24, 25, 26, 27, 28, 29, 30, 31, 32, 33, 13, 34, 35, 48, 49, 50] (by decide +kernel) (by decide +kernel)
set_option maxRecDepth 20000 in
theorem gX6_isTold_Jx4a65c_get_915e3 : GoodIn wsX6_isTold (wsV RX6 59 RJx4a65c yJx4a65c_get_915e3 wsJx4a65c_get_915e3) := goodIn_app (goodIn_of _ (by decide +kernel)) ggX6_isTold_Jx4a65c_get_915e3
set_option maxRecDepth 20000 in
theorem ggX6_isTold_X4_hasSpeed : GoodIn wsX6_isTold wsX4_hasSpeed := goodIn_r _ [40, 41, 51, 52, 53, 54, 55] (by decide +kernel) (by decide +kernel)
set_option maxRecDepth 20000 in
theorem gX6_isTold_X4_hasSpeed : GoodIn wsX6_isTold (wsV RX6 153 RX4 yX4_hasSpeed wsX4_hasSpeed) := goodIn_app (goodIn_of _ (by decide +kernel)) ggX6_isTold_X4_hasSpeed
theorem dX6_isTold_0 : decode cX6_isTold 0 = .ok (.aload_n 0, 1) := by decide +kernel
theorem dX6_isTold_1 : decode cX6_isTold 1 = .ok (.iload_n 1, 1) := by decide +kernel
theorem dX6_isTold_2 : decode cX6_isTold 2 = .ok (.invokevirtual 55, 3) := by decide +kernel
theorem dX6_isTold_5 : decode cX6_isTold 5 = .ok (.aload_n 0, 1) := by decide +kernel
theorem dX6_isTold_6 : decode cX6_isTold 6 = .ok (.getfield 12, 3) := by decide +kernel
theorem dX6_isTold_9 : decode cX6_isTold 9 = .ok (.iload_n 1, 1) := by decide +kernel
theorem dX6_isTold_10 : decode cX6_isTold 10 = .ok (.invokevirtual 59, 3) := by decide +kernel
theorem dX6_isTold_13 : decode cX6_isTold 13 = .ok (.checkcast 47, 3) := by decide +kernel
theorem dX6_isTold_16 : decode cX6_isTold 16 = .ok (.invokevirtual 153, 3) := by decide +kernel
theorem dX6_isTold_19 : decode cX6_isTold 19 = .ok (.ireturn, 1) := by decide +kernel
set_option maxRecDepth 20000 in
theorem ggX6_speed_X6_requireShaft : GoodIn wsX6_speed wsX6_requireShaft := goodIn_ca (goodIn_r _ [10, 11, 12, 1, 13, 14, 15, 16, 17, 18, 19, 20, 9, 21, 51, 52, 53, 54, 55, 56, 64, 65, 66] (by decide +kernel) (by decide +kernel)) (goodIn_sub (fun _ h => List.mem_cons_of_mem _ (List.mem_append_left _ (List.mem_append_right _ h))) (by decide +kernel))
set_option maxRecDepth 20000 in
theorem gX6_speed_X6_requireShaft : GoodIn wsX6_speed (wsV RX6 55 RX6 yX6_requireShaft wsX6_requireShaft) := goodIn_app (goodIn_of _ (by decide +kernel)) ggX6_speed_X6_requireShaft
set_option maxRecDepth 20000 in
theorem ggX6_speed_X6_requireSpeed : GoodIn wsX6_speed wsX6_requireSpeed := goodIn_ca (goodIn_r _ [25, 26, 27, 1, 2, 28, 29, 30, 16, 31, 18, 32, 33, 34, 35, 36, 37, 38, 39, 40, 41, 42, 43, 44, 45, 46, 47, 48, 49, 50, 51, 52, 53, 54, 55, 56, 64, 65, 66, 57, 58, 59, 60, 61] (by decide +kernel) (by decide +kernel)) (goodIn_sub (fun _ h => List.mem_cons_of_mem _ (List.mem_append_right _ h)) (by decide +kernel))
set_option maxRecDepth 20000 in
theorem gX6_speed_X6_requireSpeed : GoodIn wsX6_speed (wsV RX6 156 RX6 yX6_requireSpeed wsX6_requireSpeed) := goodIn_app (goodIn_of _ (by decide +kernel)) ggX6_speed_X6_requireSpeed
set_option maxRecDepth 20000 in
theorem ggX6_speed_Jx4a65c_get_915e3 : GoodIn wsX6_speed wsJx4a65c_get_915e3 := goodIn_r _ [31, 18, 32, 33, 34, 35, 36, 37, 38, 39, 40, 41, 42, 16, 43, 44, 64, 65, 66] (by decide +kernel) (by decide +kernel)
set_option maxRecDepth 20000 in
theorem gX6_speed_Jx4a65c_get_915e3 : GoodIn wsX6_speed (wsV RX6 59 RJx4a65c yJx4a65c_get_915e3 wsJx4a65c_get_915e3) := goodIn_app (goodIn_of _ (by decide +kernel)) ggX6_speed_Jx4a65c_get_915e3
theorem dX6_speed_0 : decode cX6_speed 0 = .ok (.aload_n 0, 1) := by decide +kernel
theorem dX6_speed_1 : decode cX6_speed 1 = .ok (.iload_n 1, 1) := by decide +kernel
theorem dX6_speed_2 : decode cX6_speed 2 = .ok (.invokevirtual 55, 3) := by decide +kernel
theorem dX6_speed_5 : decode cX6_speed 5 = .ok (.aload_n 0, 1) := by decide +kernel
theorem dX6_speed_6 : decode cX6_speed 6 = .ok (.iload_n 1, 1) := by decide +kernel
theorem dX6_speed_7 : decode cX6_speed 7 = .ok (.invokevirtual 156, 3) := by decide +kernel
theorem dX6_speed_10 : decode cX6_speed 10 = .ok (.aload_n 0, 1) := by decide +kernel
theorem dX6_speed_11 : decode cX6_speed 11 = .ok (.getfield 12, 3) := by decide +kernel
theorem dX6_speed_14 : decode cX6_speed 14 = .ok (.iload_n 1, 1) := by decide +kernel
theorem dX6_speed_15 : decode cX6_speed 15 = .ok (.invokevirtual 59, 3) := by decide +kernel
theorem dX6_speed_18 : decode cX6_speed 18 = .ok (.checkcast 47, 3) := by decide +kernel
theorem dX6_speed_21 : decode cX6_speed 21 = .ok (.getfield 159, 3) := by decide +kernel
theorem dX6_speed_24 : decode cX6_speed 24 = .ok (.astore_n 3, 1) := by decide +kernel
theorem dX6_speed_25 : decode cX6_speed 25 = .ok (.iload_n 2, 1) := by decide +kernel
theorem dX6_speed_26 : decode cX6_speed 26 = .ok (.ifCond .eq 10, 3) := by decide +kernel
theorem dX6_speed_29 : decode cX6_speed 29 = .ok (.aload_n 3, 1) := by decide +kernel
theorem dX6_speed_30 : decode cX6_speed 30 = .ok (.getfield 163, 3) := by decide +kernel
theorem dX6_speed_33 : decode cX6_speed 33 = .ok (.goto 7, 3) := by decide +kernel
theorem dX6_speed_36 : decode cX6_speed 36 = .ok (.aload_n 3, 1) := by decide +kernel
theorem dX6_speed_37 : decode cX6_speed 37 = .ok (.getfield 169, 3) := by decide +kernel
theorem dX6_speed_40 : decode cX6_speed 40 = .ok (.l2i, 1) := by decide +kernel
theorem dX6_speed_41 : decode cX6_speed 41 = .ok (.ireturn, 1) := by decide +kernel
set_option maxRecDepth 20000 in
theorem ggX6_stage_X6_requireShaft : GoodIn wsX6_stage wsX6_requireShaft := goodIn_ca (goodIn_r _ [8, 9, 10, 1, 11, 12, 13, 14, 15, 16, 17, 18, 7, 19, 37, 38, 39, 40, 41, 42, 48, 49, 50] (by decide +kernel) (by decide +kernel)) (goodIn_sub (fun _ h => List.mem_cons_of_mem _ (List.mem_append_right _ h)) (by decide +kernel))
set_option maxRecDepth 20000 in
theorem gX6_stage_X6_requireShaft : GoodIn wsX6_stage (wsV RX6 55 RX6 yX6_requireShaft wsX6_requireShaft) := goodIn_app (goodIn_of _ (by decide +kernel)) ggX6_stage_X6_requireShaft
set_option maxRecDepth 20000 in
theorem ggX6_stage_Jx4a65c_get_915e3 : GoodIn wsX6_stage wsJx4a65c_get_915e3 := goodIn_r _ [23, 16, 24, 25, 26, 27, 28, 29, 30, 31, 32, 33, 34, 14, 35, 36, 48, 49, 50] (by decide +kernel) (by decide +kernel)
set_option maxRecDepth 20000 in
theorem gX6_stage_Jx4a65c_get_915e3 : GoodIn wsX6_stage (wsV RX6 59 RJx4a65c yJx4a65c_get_915e3 wsJx4a65c_get_915e3) := goodIn_app (goodIn_of _ (by decide +kernel)) ggX6_stage_Jx4a65c_get_915e3
theorem dX6_stage_0 : decode cX6_stage 0 = .ok (.aload_n 0, 1) := by decide +kernel
theorem dX6_stage_1 : decode cX6_stage 1 = .ok (.iload_n 1, 1) := by decide +kernel
theorem dX6_stage_2 : decode cX6_stage 2 = .ok (.invokevirtual 55, 3) := by decide +kernel
theorem dX6_stage_5 : decode cX6_stage 5 = .ok (.aload_n 0, 1) := by decide +kernel
theorem dX6_stage_6 : decode cX6_stage 6 = .ok (.getfield 12, 3) := by decide +kernel
theorem dX6_stage_9 : decode cX6_stage 9 = .ok (.iload_n 1, 1) := by decide +kernel
theorem dX6_stage_10 : decode cX6_stage 10 = .ok (.invokevirtual 59, 3) := by decide +kernel
theorem dX6_stage_13 : decode cX6_stage 13 = .ok (.checkcast 47, 3) := by decide +kernel
theorem dX6_stage_16 : decode cX6_stage 16 = .ok (.getfield 172, 3) := by decide +kernel
theorem dX6_stage_19 : decode cX6_stage 19 = .ok (.ireturn, 1) := by decide +kernel
set_option maxRecDepth 20000 in
theorem ggX6_broken_Jx4a65c_size_8abf5 : GoodIn wsX6_broken wsJx4a65c_size_8abf5 := goodIn_r _ [11, 12, 81, 82, 83] (by decide +kernel) (by decide +kernel)
set_option maxRecDepth 20000 in
theorem gX6_broken_Jx4a65c_size_8abf5 : GoodIn wsX6_broken (wsV RX6 36 RJx4a65c yJx4a65c_size_8abf5 wsJx4a65c_size_8abf5) := goodIn_app (goodIn_of _ (by decide +kernel)) ggX6_broken_Jx4a65c_size_8abf5
set_option maxRecDepth 20000 in
theorem ggX6_broken_Jx4a65c_get_915e3 : GoodIn wsX6_broken wsJx4a65c_get_915e3 := goodIn_r _ [16, 12, 17, 18, 19, 20, 21, 22, 23, 24, 25, 26, 27, 10, 28, 29, 81, 82, 83] (by decide +kernel) (by decide +kernel)
set_option maxRecDepth 20000 in
theorem gX6_broken_Jx4a65c_get_915e3 : GoodIn wsX6_broken (wsV RX6 59 RJx4a65c yJx4a65c_get_915e3 wsJx4a65c_get_915e3) := goodIn_app (goodIn_of _ (by decide +kernel)) ggX6_broken_Jx4a65c_get_915e3
set_option maxRecDepth 20000 in
theorem ggX6_broken_X5_isBroken : GoodIn wsX6_broken wsX5_isBroken := goodIn_r _ [34, 35, 36, 37, 38, 39, 40, 41, 42, 43, 44, 45, 46, 47, 33, 48, 49, 50, 51, 52, 53, 54, 55, 56, 57, 58, 59, 60, 61, 62, 63, 64, 65, 66, 67, 68, 69, 84, 85, 86, 87, 88, 89, 90, 91, 92, 93, 94, 95] (by decide +kernel) (by decide +kernel)
set_option maxRecDepth 20000 in
theorem gX6_broken_X5_isBroken : GoodIn wsX6_broken (wsV RX6 186 RX5 yX5_isBroken wsX5_isBroken) := goodIn_app (goodIn_of _ (by decide +kernel)) ggX6_broken_X5_isBroken
theorem dX6_broken_0 : decode cX6_broken 0 = .ok (.iconst 0, 1) := by decide +kernel
theorem dX6_broken_1 : decode cX6_broken 1 = .ok (.istore_n 2, 1) := by decide +kernel
theorem dX6_broken_2 : decode cX6_broken 2 = .ok (.iload_n 1, 1) := by decide +kernel
theorem dX6_broken_3 : decode cX6_broken 3 = .ok (.ifCond .eq 55, 3) := by decide +kernel
theorem dX6_broken_6 : decode cX6_broken 6 = .ok (.iconst 0, 1) := by decide +kernel
theorem dX6_broken_7 : decode cX6_broken 7 = .ok (.istore_n 3, 1) := by decide +kernel
theorem dX6_broken_8 : decode cX6_broken 8 = .ok (.iload_n 3, 1) := by decide +kernel
theorem dX6_broken_9 : decode cX6_broken 9 = .ok (.aload_n 0, 1) := by decide +kernel
theorem dX6_broken_10 : decode cX6_broken 10 = .ok (.getfield 22, 3) := by decide +kernel
theorem dX6_broken_13 : decode cX6_broken 13 = .ok (.invokevirtual 36, 3) := by decide +kernel
theorem dX6_broken_16 : decode cX6_broken 16 = .ok (.if_icmp .ge 39, 3) := by decide +kernel
theorem dX6_broken_19 : decode cX6_broken 19 = .ok (.iload_n 2, 1) := by decide +kernel
theorem dX6_broken_20 : decode cX6_broken 20 = .ok (.aload_n 0, 1) := by decide +kernel
theorem dX6_broken_21 : decode cX6_broken 21 = .ok (.getfield 22, 3) := by decide +kernel
theorem dX6_broken_24 : decode cX6_broken 24 = .ok (.iload_n 3, 1) := by decide +kernel
theorem dX6_broken_25 : decode cX6_broken 25 = .ok (.invokevirtual 59, 3) := by decide +kernel
theorem dX6_broken_28 : decode cX6_broken 28 = .ok (.checkcast 127, 3) := by decide +kernel
theorem dX6_broken_31 : decode cX6_broken 31 = .ok (.getfield 182, 3) := by decide +kernel
theorem dX6_broken_34 : decode cX6_broken 34 = .ok (.invokevirtual 186, 3) := by decide +kernel
theorem dX6_broken_37 : decode cX6_broken 37 = .ok (.ifCond .eq 9, 3) := by decide +kernel
theorem dX6_broken_40 : decode cX6_broken 40 = .ok (.iconst 1, 1) := by decide +kernel
theorem dX6_broken_41 : decode cX6_broken 41 = .ok (.iload_n 3, 1) := by decide +kernel
theorem dX6_broken_42 : decode cX6_broken 42 = .ok (.ishl, 1) := by decide +kernel
theorem dX6_broken_43 : decode cX6_broken 43 = .ok (.goto 4, 3) := by decide +kernel
theorem dX6_broken_46 : decode cX6_broken 46 = .ok (.iconst 0, 1) := by decide +kernel
theorem dX6_broken_47 : decode cX6_broken 47 = .ok (.ior, 1) := by decide +kernel
theorem dX6_broken_48 : decode cX6_broken 48 = .ok (.istore_n 2, 1) := by decide +kernel
theorem dX6_broken_49 : decode cX6_broken 49 = .ok (.iinc 3 1, 3) := by decide +kernel
theorem dX6_broken_52 : decode cX6_broken 52 = .ok (.goto (-44), 3) := by decide +kernel
theorem dX6_broken_55 : decode cX6_broken 55 = .ok (.goto 52, 3) := by decide +kernel
theorem dX6_broken_58 : decode cX6_broken 58 = .ok (.iconst 0, 1) := by decide +kernel
theorem dX6_broken_59 : decode cX6_broken 59 = .ok (.istore_n 3, 1) := by decide +kernel
theorem dX6_broken_60 : decode cX6_broken 60 = .ok (.iload_n 3, 1) := by decide +kernel
theorem dX6_broken_61 : decode cX6_broken 61 = .ok (.aload_n 0, 1) := by decide +kernel
theorem dX6_broken_62 : decode cX6_broken 62 = .ok (.getfield 19, 3) := by decide +kernel
theorem dX6_broken_65 : decode cX6_broken 65 = .ok (.invokevirtual 36, 3) := by decide +kernel
theorem dX6_broken_68 : decode cX6_broken 68 = .ok (.if_icmp .ge 39, 3) := by decide +kernel
theorem dX6_broken_71 : decode cX6_broken 71 = .ok (.iload_n 2, 1) := by decide +kernel
theorem dX6_broken_72 : decode cX6_broken 72 = .ok (.aload_n 0, 1) := by decide +kernel
theorem dX6_broken_73 : decode cX6_broken 73 = .ok (.getfield 19, 3) := by decide +kernel
theorem dX6_broken_76 : decode cX6_broken 76 = .ok (.iload_n 3, 1) := by decide +kernel
theorem dX6_broken_77 : decode cX6_broken 77 = .ok (.invokevirtual 59, 3) := by decide +kernel
theorem dX6_broken_80 : decode cX6_broken 80 = .ok (.checkcast 104, 3) := by decide +kernel
theorem dX6_broken_83 : decode cX6_broken 83 = .ok (.getfield 191, 3) := by decide +kernel
theorem dX6_broken_86 : decode cX6_broken 86 = .ok (.invokevirtual 186, 3) := by decide +kernel
theorem dX6_broken_89 : decode cX6_broken 89 = .ok (.ifCond .eq 9, 3) := by decide +kernel
theorem dX6_broken_92 : decode cX6_broken 92 = .ok (.iconst 1, 1) := by decide +kernel
theorem dX6_broken_93 : decode cX6_broken 93 = .ok (.iload_n 3, 1) := by decide +kernel
theorem dX6_broken_94 : decode cX6_broken 94 = .ok (.ishl, 1) := by decide +kernel
theorem dX6_broken_95 : decode cX6_broken 95 = .ok (.goto 4, 3) := by decide +kernel
theorem dX6_broken_98 : decode cX6_broken 98 = .ok (.iconst 0, 1) := by decide +kernel
theorem dX6_broken_99 : decode cX6_broken 99 = .ok (.ior, 1) := by decide +kernel
theorem dX6_broken_100 : decode cX6_broken 100 = .ok (.istore_n 2, 1) := by decide +kernel
theorem dX6_broken_101 : decode cX6_broken 101 = .ok (.iinc 3 1, 3) := by decide +kernel
theorem dX6_broken_104 : decode cX6_broken 104 = .ok (.goto (-44), 3) := by decide +kernel
theorem dX6_broken_107 : decode cX6_broken 107 = .ok (.iload_n 2, 1) := by decide +kernel
theorem dX6_broken_108 : decode cX6_broken 108 = .ok (.ireturn, 1) := by decide +kernel
theorem dX6_isWithin_0 : decode cX6_isWithin 0 = .ok (.iload_n 0, 1) := by decide +kernel
theorem dX6_isWithin_1 : decode cX6_isWithin 1 = .ok (.iload_n 1, 1) := by decide +kernel
theorem dX6_isWithin_2 : decode cX6_isWithin 2 = .ok (.if_icmp .lt 12, 3) := by decide +kernel
theorem dX6_isWithin_5 : decode cX6_isWithin 5 = .ok (.iload_n 0, 1) := by decide +kernel
theorem dX6_isWithin_6 : decode cX6_isWithin 6 = .ok (.iload_n 2, 1) := by decide +kernel
theorem dX6_isWithin_7 : decode cX6_isWithin 7 = .ok (.if_icmp .gt 7, 3) := by decide +kernel
theorem dX6_isWithin_10 : decode cX6_isWithin 10 = .ok (.iconst 1, 1) := by decide +kernel
theorem dX6_isWithin_11 : decode cX6_isWithin 11 = .ok (.goto 4, 3) := by decide +kernel
theorem dX6_isWithin_14 : decode cX6_isWithin 14 = .ok (.iconst 0, 1) := by decide +kernel
theorem dX6_isWithin_15 : decode cX6_isWithin 15 = .ok (.ireturn, 1) := by decide +kernel
set_option maxRecDepth 20000 in
theorem ggX6_requirePlace_X6_isWithin : GoodIn wsX6_requirePlace wsX6_isWithin := goodIn_r _ [6] (by decide +kernel) (by decide +kernel)
set_option maxRecDepth 20000 in
theorem gX6_requirePlace_X6_isWithin : GoodIn wsX6_requirePlace (va_wsS RX6 73 yX6_isWithin wsX6_isWithin) := goodIn_app (goodIn_of _ (by decide +kernel)) ggX6_requirePlace_X6_isWithin
theorem dX6_requirePlace_0 : decode cX6_requirePlace 0 = .ok (.iload_n 0, 1) := by decide +kernel
theorem dX6_requirePlace_1 : decode cX6_requirePlace 1 = .ok (.sipush (-1000), 3) := by decide +kernel
theorem dX6_requirePlace_4 : decode cX6_requirePlace 4 = .ok (.sipush 1000, 3) := by decide +kernel
theorem dX6_requirePlace_7 : decode cX6_requirePlace 7 = .ok (.invokestatic 73, 3) := by decide +kernel
theorem dX6_requirePlace_10 : decode cX6_requirePlace 10 = .ok (.ifCond .eq 16, 3) := by decide +kernel
theorem dX6_requirePlace_13 : decode cX6_requirePlace 13 = .ok (.iload_n 1, 1) := by decide +kernel
theorem dX6_requirePlace_14 : decode cX6_requirePlace 14 = .ok (.sipush (-1000), 3) := by decide +kernel
theorem dX6_requirePlace_17 : decode cX6_requirePlace 17 = .ok (.sipush 1000, 3) := by decide +kernel
theorem dX6_requirePlace_20 : decode cX6_requirePlace 20 = .ok (.invokestatic 73, 3) := by decide +kernel
theorem dX6_requirePlace_23 : decode cX6_requirePlace 23 = .ok (.ifCond .ne 13, 3) := by decide +kernel
theorem dX6_requirePlace_26 : decode cX6_requirePlace 26 = .ok (.new 77, 3) := by decide +kernel
theorem dX6_requirePlace_29 : decode cX6_requirePlace 29 = .ok (.dup, 1) := by decide +kernel
theorem dX6_requirePlace_30 : decode cX6_requirePlace 30 = .ok (.ldc 244, 2) := by decide +kernel
theorem dX6_requirePlace_32 : decode cX6_requirePlace 32 = .ok (.invokespecial 81, 3) := by decide +kernel
theorem dX6_requirePlace_35 : decode cX6_requirePlace 35 = .ok (.athrow, 1) := by decide +kernel
theorem dX6_requirePlace_36 : decode cX6_requirePlace 36 = .ok (.return_, 1) := by decide +kernel
set_option maxRecDepth 20000 in
theorem ggX6_requireShaft_Jx4a65c_size_8abf5 : GoodIn wsX6_requireShaft wsJx4a65c_size_8abf5 := goodIn_r _ [8, 9, 20, 21, 22] (by decide +kernel) (by decide +kernel)
set_option maxRecDepth 20000 in
theorem gX6_requireShaft_Jx4a65c_size_8abf5 : GoodIn wsX6_requireShaft (wsV RX6 36 RJx4a65c yJx4a65c_size_8abf5 wsJx4a65c_size_8abf5) := goodIn_app (goodIn_of _ (by decide +kernel)) ggX6_requireShaft_Jx4a65c_size_8abf5
set_option maxRecDepth 20000 in
theorem ggX6_requireShaft_X6_isWithin : GoodIn wsX6_requireShaft wsX6_isWithin := goodIn_r _ [13] (by decide +kernel) (by decide +kernel)
set_option maxRecDepth 20000 in
theorem gX6_requireShaft_X6_isWithin : GoodIn wsX6_requireShaft (va_wsS RX6 73 yX6_isWithin wsX6_isWithin) := goodIn_app (goodIn_of _ (by decide +kernel)) ggX6_requireShaft_X6_isWithin
theorem dX6_requireShaft_0 : decode cX6_requireShaft 0 = .ok (.iload_n 1, 1) := by decide +kernel
theorem dX6_requireShaft_1 : decode cX6_requireShaft 1 = .ok (.iconst 0, 1) := by decide +kernel
theorem dX6_requireShaft_2 : decode cX6_requireShaft 2 = .ok (.aload_n 0, 1) := by decide +kernel
theorem dX6_requireShaft_3 : decode cX6_requireShaft 3 = .ok (.getfield 12, 3) := by decide +kernel
theorem dX6_requireShaft_6 : decode cX6_requireShaft 6 = .ok (.invokevirtual 36, 3) := by decide +kernel
theorem dX6_requireShaft_9 : decode cX6_requireShaft 9 = .ok (.iconst 1, 1) := by decide +kernel
theorem dX6_requireShaft_10 : decode cX6_requireShaft 10 = .ok (.isub, 1) := by decide +kernel
theorem dX6_requireShaft_11 : decode cX6_requireShaft 11 = .ok (.invokestatic 73, 3) := by decide +kernel
theorem dX6_requireShaft_14 : decode cX6_requireShaft 14 = .ok (.ifCond .ne 13, 3) := by decide +kernel
theorem dX6_requireShaft_17 : decode cX6_requireShaft 17 = .ok (.new 132, 3) := by decide +kernel
theorem dX6_requireShaft_20 : decode cX6_requireShaft 20 = .ok (.dup, 1) := by decide +kernel
theorem dX6_requireShaft_21 : decode cX6_requireShaft 21 = .ok (.ldc 246, 2) := by decide +kernel
theorem dX6_requireShaft_23 : decode cX6_requireShaft 23 = .ok (.invokespecial 136, 3) := by decide +kernel
theorem dX6_requireShaft_26 : decode cX6_requireShaft 26 = .ok (.athrow, 1) := by decide +kernel
theorem dX6_requireShaft_27 : decode cX6_requireShaft 27 = .ok (.return_, 1) := by decide +kernel
set_option maxRecDepth 20000 in
theorem ggX6_requireGear_Jx4a65c_size_8abf5 : GoodIn wsX6_requireGear wsJx4a65c_size_8abf5 := goodIn_r _ [8, 9, 20, 21, 22] (by decide +kernel) (by decide +kernel)
set_option maxRecDepth 20000 in
theorem gX6_requireGear_Jx4a65c_size_8abf5 : GoodIn wsX6_requireGear (wsV RX6 36 RJx4a65c yJx4a65c_size_8abf5 wsJx4a65c_size_8abf5) := goodIn_app (goodIn_of _ (by decide +kernel)) ggX6_requireGear_Jx4a65c_size_8abf5
set_option maxRecDepth 20000 in
theorem ggX6_requireGear_X6_isWithin : GoodIn wsX6_requireGear wsX6_isWithin := goodIn_r _ [13] (by decide +kernel) (by decide +kernel)
set_option maxRecDepth 20000 in
theorem gX6_requireGear_X6_isWithin : GoodIn wsX6_requireGear (va_wsS RX6 73 yX6_isWithin wsX6_isWithin) := goodIn_app (goodIn_of _ (by decide +kernel)) ggX6_requireGear_X6_isWithin
theorem dX6_requireGear_0 : decode cX6_requireGear 0 = .ok (.iload_n 1, 1) := by decide +kernel
theorem dX6_requireGear_1 : decode cX6_requireGear 1 = .ok (.iconst 0, 1) := by decide +kernel
theorem dX6_requireGear_2 : decode cX6_requireGear 2 = .ok (.aload_n 0, 1) := by decide +kernel
theorem dX6_requireGear_3 : decode cX6_requireGear 3 = .ok (.getfield 16, 3) := by decide +kernel
theorem dX6_requireGear_6 : decode cX6_requireGear 6 = .ok (.invokevirtual 36, 3) := by decide +kernel
theorem dX6_requireGear_9 : decode cX6_requireGear 9 = .ok (.iconst 1, 1) := by decide +kernel
theorem dX6_requireGear_10 : decode cX6_requireGear 10 = .ok (.isub, 1) := by decide +kernel
theorem dX6_requireGear_11 : decode cX6_requireGear 11 = .ok (.invokestatic 73, 3) := by decide +kernel
theorem dX6_requireGear_14 : decode cX6_requireGear 14 = .ok (.ifCond .ne 13, 3) := by decide +kernel
theorem dX6_requireGear_17 : decode cX6_requireGear 17 = .ok (.new 132, 3) := by decide +kernel
theorem dX6_requireGear_20 : decode cX6_requireGear 20 = .ok (.dup, 1) := by decide +kernel
theorem dX6_requireGear_21 : decode cX6_requireGear 21 = .ok (.ldc 248, 2) := by decide +kernel
theorem dX6_requireGear_23 : decode cX6_requireGear 23 = .ok (.invokespecial 136, 3) := by decide +kernel
theorem dX6_requireGear_26 : decode cX6_requireGear 26 = .ok (.athrow, 1) := by decide +kernel
theorem dX6_requireGear_27 : decode cX6_requireGear 27 = .ok (.return_, 1) := by decide +kernel
set_option maxRecDepth 20000 in
theorem ggX6_requireSpeed_Jx4a65c_get_915e3 : GoodIn wsX6_requireSpeed wsJx4a65c_get_915e3 := goodIn_r _ [9, 10, 11, 12, 13, 14, 15, 16, 17, 18, 19, 20, 21, 8, 22, 23, 36, 37, 38] (by decide +kernel) (by decide +kernel)
set_option maxRecDepth 20000 in
theorem gX6_requireSpeed_Jx4a65c_get_915e3 : GoodIn wsX6_requireSpeed (wsV RX6 59 RJx4a65c yJx4a65c_get_915e3 wsJx4a65c_get_915e3) := goodIn_app (goodIn_of _ (by decide +kernel)) ggX6_requireSpeed_Jx4a65c_get_915e3
set_option maxRecDepth 20000 in
theorem ggX6_requireSpeed_X4_hasSpeed : GoodIn wsX6_requireSpeed wsX4_hasSpeed := goodIn_r _ [28, 29, 39, 40, 41, 42, 43] (by decide +kernel) (by decide +kernel)
set_option maxRecDepth 20000 in
theorem gX6_requireSpeed_X4_hasSpeed : GoodIn wsX6_requireSpeed (wsV RX6 153 RX4 yX4_hasSpeed wsX4_hasSpeed) := goodIn_app (goodIn_of _ (by decide +kernel)) ggX6_requireSpeed_X4_hasSpeed
theorem dX6_requireSpeed_0 : decode cX6_requireSpeed 0 = .ok (.aload_n 0, 1) := by decide +kernel
theorem dX6_requireSpeed_1 : decode cX6_requireSpeed 1 = .ok (.getfield 12, 3) := by decide +kernel
theorem dX6_requireSpeed_4 : decode cX6_requireSpeed 4 = .ok (.iload_n 1, 1) := by decide +kernel
theorem dX6_requireSpeed_5 : decode cX6_requireSpeed 5 = .ok (.invokevirtual 59, 3) := by decide +kernel
theorem dX6_requireSpeed_8 : decode cX6_requireSpeed 8 = .ok (.checkcast 47, 3) := by decide +kernel
theorem dX6_requireSpeed_11 : decode cX6_requireSpeed 11 = .ok (.invokevirtual 153, 3) := by decide +kernel
theorem dX6_requireSpeed_14 : decode cX6_requireSpeed 14 = .ok (.ifCond .ne 13, 3) := by decide +kernel
theorem dX6_requireSpeed_17 : decode cX6_requireSpeed 17 = .ok (.new 40, 3) := by decide +kernel
theorem dX6_requireSpeed_20 : decode cX6_requireSpeed 20 = .ok (.dup, 1) := by decide +kernel
theorem dX6_requireSpeed_21 : decode cX6_requireSpeed 21 = .ok (.ldc 250, 2) := by decide +kernel
theorem dX6_requireSpeed_23 : decode cX6_requireSpeed 23 = .ok (.invokespecial 44, 3) := by decide +kernel
theorem dX6_requireSpeed_26 : decode cX6_requireSpeed 26 = .ok (.athrow, 1) := by decide +kernel
theorem dX6_requireSpeed_27 : decode cX6_requireSpeed 27 = .ok (.return_, 1) := by decide +kernel
set_option maxRecDepth 20000 in
theorem ggX6_tellSpeeds_Jx4a65c_size_8abf5 : GoodIn wsX6_tellSpeeds wsJx4a65c_size_8abf5 := goodIn_r _ [16, 17, 121, 122, 123] (by decide +kernel) (by decide +kernel)
set_option maxRecDepth 20000 in
theorem gX6_tellSpeeds_Jx4a65c_size_8abf5 : GoodIn wsX6_tellSpeeds (wsV RX6 36 RJx4a65c yJx4a65c_size_8abf5 wsJx4a65c_size_8abf5) := goodIn_app (goodIn_of _ (by decide +kernel)) ggX6_tellSpeeds_Jx4a65c_size_8abf5
set_option maxRecDepth 20000 in
theorem ggX6_tellSpeeds_Jx4a65c_get_915e3 : GoodIn wsX6_tellSpeeds wsJx4a65c_get_915e3 := goodIn_r _ [21, 17, 22, 23, 24, 25, 26, 27, 28, 29, 30, 31, 32, 15, 33, 34, 121, 122, 123] (by decide +kernel) (by decide +kernel)
set_option maxRecDepth 20000 in
theorem gX6_tellSpeeds_Jx4a65c_get_915e3 : GoodIn wsX6_tellSpeeds (wsV RX6 59 RJx4a65c yJx4a65c_get_915e3 wsJx4a65c_get_915e3) := goodIn_app (goodIn_of _ (by decide +kernel)) ggX6_tellSpeeds_Jx4a65c_get_915e3
set_option maxRecDepth 20000 in
theorem ggX6_tellSpeeds_X4_begin : GoodIn wsX6_tellSpeeds wsX4_begin := goodIn_r _ [39, 40, 41, 42, 43, 44, 45, 46, 47, 48, 49, 50, 51, 52, 53, 54, 55, 56, 124, 125, 126, 127, 128, 129, 130] (by decide +kernel) (by decide +kernel)
set_option maxRecDepth 20000 in
theorem gX6_tellSpeeds_X4_begin : GoodIn wsX6_tellSpeeds (wsV RX6 254 RX4 yX4_begin wsX4_begin) := goodIn_app (goodIn_of _ (by decide +kernel)) ggX6_tellSpeeds_X4_begin
set_option maxRecDepth 20000 in
theorem ggX6_tellSpeeds_X6_makeStep : GoodIn wsX6_tellSpeeds wsX6_makeStep := goodIn_r _ [61, 5, 6, 7, 9, 10, 11, 12, 13, 14, 15, 16, 17, 18, 19, 20, 21, 22, 23, 24, 25, 26, 27, 28, 29, 30, 31, 32, 33, 34, 62, 63, 64, 65, 66, 67, 68, 69, 70, 71, 72, 73, 74, 75, 76, 77, 38, 78, 41, 79, 80, 81, 82, 83, 84, 85, 86, 87, 44, 45, 46, 47, 48, 49, 50, 51, 52, 53, 54, 55, 56, 88, 89, 90, 91, 92, 93, 94, 95, 96, 97, 98, 99, 100, 101, 102, 103, 104, 42, 105, 106, 43, 107, 108, 109, 110, 111, 112, 113, 114, 115, 119, 120, 121, 122, 123, 116, 117, 118, 131, 132, 124, 125, 126, 127, 128, 129, 130] (by decide +kernel) (by decide +kernel)
set_option maxRecDepth 20000 in
theorem gX6_tellSpeeds_X6_makeStep : GoodIn wsX6_tellSpeeds (wsV RX6 261 RX6 yX6_makeStep wsX6_makeStep) := goodIn_app (goodIn_of _ (by decide +kernel)) ggX6_tellSpeeds_X6_makeStep
theorem dX6_tellSpeeds_0 : decode cX6_tellSpeeds 0 = .ok (.iconst 0, 1) := by decide +kernel
theorem dX6_tellSpeeds_1 : decode cX6_tellSpeeds 1 = .ok (.istore_n 1, 1) := by decide +kernel
theorem dX6_tellSpeeds_2 : decode cX6_tellSpeeds 2 = .ok (.iload_n 1, 1) := by decide +kernel
theorem dX6_tellSpeeds_3 : decode cX6_tellSpeeds 3 = .ok (.aload_n 0, 1) := by decide +kernel
theorem dX6_tellSpeeds_4 : decode cX6_tellSpeeds 4 = .ok (.getfield 12, 3) := by decide +kernel
theorem dX6_tellSpeeds_7 : decode cX6_tellSpeeds 7 = .ok (.invokevirtual 36, 3) := by decide +kernel
theorem dX6_tellSpeeds_10 : decode cX6_tellSpeeds 10 = .ok (.if_icmp .ge 40, 3) := by decide +kernel
theorem dX6_tellSpeeds_13 : decode cX6_tellSpeeds 13 = .ok (.aload_n 0, 1) := by decide +kernel
theorem dX6_tellSpeeds_14 : decode cX6_tellSpeeds 14 = .ok (.getfield 12, 3) := by decide +kernel
theorem dX6_tellSpeeds_17 : decode cX6_tellSpeeds 17 = .ok (.iload_n 1, 1) := by decide +kernel
theorem dX6_tellSpeeds_18 : decode cX6_tellSpeeds 18 = .ok (.invokevirtual 59, 3) := by decide +kernel
theorem dX6_tellSpeeds_21 : decode cX6_tellSpeeds 21 = .ok (.checkcast 47, 3) := by decide +kernel
theorem dX6_tellSpeeds_24 : decode cX6_tellSpeeds 24 = .ok (.iload_n 1, 1) := by decide +kernel
theorem dX6_tellSpeeds_25 : decode cX6_tellSpeeds 25 = .ok (.aload_n 0, 1) := by decide +kernel
theorem dX6_tellSpeeds_26 : decode cX6_tellSpeeds 26 = .ok (.getfield 25, 3) := by decide +kernel
theorem dX6_tellSpeeds_29 : decode cX6_tellSpeeds 29 = .ok (.if_icmp .ne 7, 3) := by decide +kernel
theorem dX6_tellSpeeds_32 : decode cX6_tellSpeeds 32 = .ok (.iconst 1, 1) := by decide +kernel
theorem dX6_tellSpeeds_33 : decode cX6_tellSpeeds 33 = .ok (.goto 4, 3) := by decide +kernel
theorem dX6_tellSpeeds_36 : decode cX6_tellSpeeds 36 = .ok (.iconst 0, 1) := by decide +kernel
theorem dX6_tellSpeeds_37 : decode cX6_tellSpeeds 37 = .ok (.aload_n 0, 1) := by decide +kernel
theorem dX6_tellSpeeds_38 : decode cX6_tellSpeeds 38 = .ok (.getfield 29, 3) := by decide +kernel
theorem dX6_tellSpeeds_41 : decode cX6_tellSpeeds 41 = .ok (.invokevirtual 254, 3) := by decide +kernel
theorem dX6_tellSpeeds_44 : decode cX6_tellSpeeds 44 = .ok (.iinc 1 1, 3) := by decide +kernel
theorem dX6_tellSpeeds_47 : decode cX6_tellSpeeds 47 = .ok (.goto (-45), 3) := by decide +kernel
theorem dX6_tellSpeeds_50 : decode cX6_tellSpeeds 50 = .ok (.iconst 0, 1) := by decide +kernel
theorem dX6_tellSpeeds_51 : decode cX6_tellSpeeds 51 = .ok (.istore_n 1, 1) := by decide +kernel
theorem dX6_tellSpeeds_52 : decode cX6_tellSpeeds 52 = .ok (.iload_n 1, 1) := by decide +kernel
theorem dX6_tellSpeeds_53 : decode cX6_tellSpeeds 53 = .ok (.aload_n 0, 1) := by decide +kernel
theorem dX6_tellSpeeds_54 : decode cX6_tellSpeeds 54 = .ok (.getfield 19, 3) := by decide +kernel
theorem dX6_tellSpeeds_57 : decode cX6_tellSpeeds 57 = .ok (.invokevirtual 36, 3) := by decide +kernel
theorem dX6_tellSpeeds_60 : decode cX6_tellSpeeds 60 = .ok (.if_icmp .ge 27, 3) := by decide +kernel
theorem dX6_tellSpeeds_63 : decode cX6_tellSpeeds 63 = .ok (.aload_n 0, 1) := by decide +kernel
theorem dX6_tellSpeeds_64 : decode cX6_tellSpeeds 64 = .ok (.getfield 19, 3) := by decide +kernel
theorem dX6_tellSpeeds_67 : decode cX6_tellSpeeds 67 = .ok (.iload_n 1, 1) := by decide +kernel
theorem dX6_tellSpeeds_68 : decode cX6_tellSpeeds 68 = .ok (.invokevirtual 59, 3) := by decide +kernel
theorem dX6_tellSpeeds_71 : decode cX6_tellSpeeds 71 = .ok (.checkcast 104, 3) := by decide +kernel
theorem dX6_tellSpeeds_74 : decode cX6_tellSpeeds 74 = .ok (.getfield 191, 3) := by decide +kernel
theorem dX6_tellSpeeds_77 : decode cX6_tellSpeeds 77 = .ok (.iconst 0, 1) := by decide +kernel
theorem dX6_tellSpeeds_78 : decode cX6_tellSpeeds 78 = .ok (.putfield 258, 3) := by decide +kernel
theorem dX6_tellSpeeds_81 : decode cX6_tellSpeeds 81 = .ok (.iinc 1 1, 3) := by decide +kernel
theorem dX6_tellSpeeds_84 : decode cX6_tellSpeeds 84 = .ok (.goto (-32), 3) := by decide +kernel
theorem dX6_tellSpeeds_87 : decode cX6_tellSpeeds 87 = .ok (.iconst 0, 1) := by decide +kernel
theorem dX6_tellSpeeds_88 : decode cX6_tellSpeeds 88 = .ok (.istore_n 1, 1) := by decide +kernel
theorem dX6_tellSpeeds_89 : decode cX6_tellSpeeds 89 = .ok (.iload_n 1, 1) := by decide +kernel
theorem dX6_tellSpeeds_90 : decode cX6_tellSpeeds 90 = .ok (.aload_n 0, 1) := by decide +kernel
theorem dX6_tellSpeeds_91 : decode cX6_tellSpeeds 91 = .ok (.getfield 22, 3) := by decide +kernel
theorem dX6_tellSpeeds_94 : decode cX6_tellSpeeds 94 = .ok (.invokevirtual 36, 3) := by decide +kernel
theorem dX6_tellSpeeds_97 : decode cX6_tellSpeeds 97 = .ok (.if_icmp .ge 27, 3) := by decide +kernel
theorem dX6_tellSpeeds_100 : decode cX6_tellSpeeds 100 = .ok (.aload_n 0, 1) := by decide +kernel
theorem dX6_tellSpeeds_101 : decode cX6_tellSpeeds 101 = .ok (.getfield 22, 3) := by decide +kernel
theorem dX6_tellSpeeds_104 : decode cX6_tellSpeeds 104 = .ok (.iload_n 1, 1) := by decide +kernel
theorem dX6_tellSpeeds_105 : decode cX6_tellSpeeds 105 = .ok (.invokevirtual 59, 3) := by decide +kernel
theorem dX6_tellSpeeds_108 : decode cX6_tellSpeeds 108 = .ok (.checkcast 127, 3) := by decide +kernel
theorem dX6_tellSpeeds_111 : decode cX6_tellSpeeds 111 = .ok (.getfield 182, 3) := by decide +kernel
theorem dX6_tellSpeeds_114 : decode cX6_tellSpeeds 114 = .ok (.iconst 0, 1) := by decide +kernel
theorem dX6_tellSpeeds_115 : decode cX6_tellSpeeds 115 = .ok (.putfield 258, 3) := by decide +kernel
theorem dX6_tellSpeeds_118 : decode cX6_tellSpeeds 118 = .ok (.iinc 1 1, 3) := by decide +kernel
theorem dX6_tellSpeeds_121 : decode cX6_tellSpeeds 121 = .ok (.goto (-32), 3) := by decide +kernel
theorem dX6_tellSpeeds_124 : decode cX6_tellSpeeds 124 = .ok (.iconst 1, 1) := by decide +kernel
theorem dX6_tellSpeeds_125 : decode cX6_tellSpeeds 125 = .ok (.istore_n 1, 1) := by decide +kernel
theorem dX6_tellSpeeds_126 : decode cX6_tellSpeeds 126 = .ok (.iconst 0, 1) := by decide +kernel
theorem dX6_tellSpeeds_127 : decode cX6_tellSpeeds 127 = .ok (.istore_n 2, 1) := by decide +kernel
theorem dX6_tellSpeeds_128 : decode cX6_tellSpeeds 128 = .ok (.iload_n 1, 1) := by decide +kernel
theorem dX6_tellSpeeds_129 : decode cX6_tellSpeeds 129 = .ok (.ifCond .eq 20, 3) := by decide +kernel
theorem dX6_tellSpeeds_132 : decode cX6_tellSpeeds 132 = .ok (.iload_n 2, 1) := by decide +kernel
theorem dX6_tellSpeeds_133 : decode cX6_tellSpeeds 133 = .ok (.bipush 30, 2) := by decide +kernel
theorem dX6_tellSpeeds_135 : decode cX6_tellSpeeds 135 = .ok (.if_icmp .ge 14, 3) := by decide +kernel
theorem dX6_tellSpeeds_138 : decode cX6_tellSpeeds 138 = .ok (.aload_n 0, 1) := by decide +kernel
theorem dX6_tellSpeeds_139 : decode cX6_tellSpeeds 139 = .ok (.invokevirtual 261, 3) := by decide +kernel
theorem dX6_tellSpeeds_142 : decode cX6_tellSpeeds 142 = .ok (.istore_n 1, 1) := by decide +kernel
theorem dX6_tellSpeeds_143 : decode cX6_tellSpeeds 143 = .ok (.iinc 2 1, 3) := by decide +kernel
theorem dX6_tellSpeeds_146 : decode cX6_tellSpeeds 146 = .ok (.goto (-18), 3) := by decide +kernel
theorem dX6_tellSpeeds_149 : decode cX6_tellSpeeds 149 = .ok (.return_, 1) := by decide +kernel
set_option maxRecDepth 20000 in
theorem ggX6_makeStep_Jx4a65c_size_8abf5 : GoodIn wsX6_makeStep wsJx4a65c_size_8abf5 := goodIn_r _ [11, 12, 103, 104, 105] (by decide +kernel) (by decide +kernel)
set_option maxRecDepth 20000 in
theorem gX6_makeStep_Jx4a65c_size_8abf5 : GoodIn wsX6_makeStep (wsV RX6 36 RJx4a65c yJx4a65c_size_8abf5 wsJx4a65c_size_8abf5) := goodIn_app (goodIn_of _ (by decide +kernel)) ggX6_makeStep_Jx4a65c_size_8abf5
set_option maxRecDepth 20000 in
theorem ggX6_makeStep_Jx4a65c_get_915e3 : GoodIn wsX6_makeStep wsJx4a65c_get_915e3 := goodIn_r _ [16, 12, 17, 18, 19, 20, 21, 22, 23, 24, 25, 26, 27, 10, 28, 29, 103, 104, 105] (by decide +kernel) (by decide +kernel)
set_option maxRecDepth 20000 in
theorem gX6_makeStep_Jx4a65c_get_915e3 : GoodIn wsX6_makeStep (wsV RX6 59 RJx4a65c yJx4a65c_get_915e3 wsJx4a65c_get_915e3) := goodIn_app (goodIn_of _ (by decide +kernel)) ggX6_makeStep_Jx4a65c_get_915e3
set_option maxRecDepth 20000 in
theorem ggX6_makeStep_X5_tellsOrStepsAside : GoodIn wsX6_makeStep wsX5_tellsOrStepsAside := goodIn_r _ [34, 35, 36, 37, 38, 39, 40, 33, 41, 42, 43, 44, 45, 46, 47, 48, 49, 50, 51, 52, 53, 54, 55, 56, 57, 58, 59, 60, 61, 62, 63, 64, 65, 66, 67, 68, 69, 70, 71, 72, 73, 74, 75, 76, 77, 78, 79, 80, 81, 82, 83, 84, 85, 86, 87, 88, 89, 90, 91, 106, 107, 108, 109, 110, 111, 112, 113, 114, 115, 116, 117] (by decide +kernel) (by decide +kernel)
set_option maxRecDepth 20000 in
theorem gX6_makeStep_X5_tellsOrStepsAside : GoodIn wsX6_makeStep (wsV RX6 264 RX5 yX5_tellsOrStepsAside wsX5_tellsOrStepsAside) := goodIn_app (goodIn_of _ (by decide +kernel)) ggX6_makeStep_X5_tellsOrStepsAside
theorem dX6_makeStep_0 : decode cX6_makeStep 0 = .ok (.iconst 0, 1) := by decide +kernel
theorem dX6_makeStep_1 : decode cX6_makeStep 1 = .ok (.istore_n 1, 1) := by decide +kernel
theorem dX6_makeStep_2 : decode cX6_makeStep 2 = .ok (.iload_n 1, 1) := by decide +kernel
theorem dX6_makeStep_3 : decode cX6_makeStep 3 = .ok (.aload_n 0, 1) := by decide +kernel
theorem dX6_makeStep_4 : decode cX6_makeStep 4 = .ok (.getfield 19, 3) := by decide +kernel
theorem dX6_makeStep_7 : decode cX6_makeStep 7 = .ok (.invokevirtual 36, 3) := by decide +kernel
theorem dX6_makeStep_10 : decode cX6_makeStep 10 = .ok (.if_icmp .ge 31, 3) := by decide +kernel
theorem dX6_makeStep_13 : decode cX6_makeStep 13 = .ok (.aload_n 0, 1) := by decide +kernel
theorem dX6_makeStep_14 : decode cX6_makeStep 14 = .ok (.getfield 19, 3) := by decide +kernel
theorem dX6_makeStep_17 : decode cX6_makeStep 17 = .ok (.iload_n 1, 1) := by decide +kernel
theorem dX6_makeStep_18 : decode cX6_makeStep 18 = .ok (.invokevirtual 59, 3) := by decide +kernel
theorem dX6_makeStep_21 : decode cX6_makeStep 21 = .ok (.checkcast 104, 3) := by decide +kernel
theorem dX6_makeStep_24 : decode cX6_makeStep 24 = .ok (.getfield 191, 3) := by decide +kernel
theorem dX6_makeStep_27 : decode cX6_makeStep 27 = .ok (.invokevirtual 264, 3) := by decide +kernel
theorem dX6_makeStep_30 : decode cX6_makeStep 30 = .ok (.ifCond .eq 5, 3) := by decide +kernel
theorem dX6_makeStep_33 : decode cX6_makeStep 33 = .ok (.iconst 1, 1) := by decide +kernel
theorem dX6_makeStep_34 : decode cX6_makeStep 34 = .ok (.ireturn, 1) := by decide +kernel
theorem dX6_makeStep_35 : decode cX6_makeStep 35 = .ok (.iinc 1 1, 3) := by decide +kernel
theorem dX6_makeStep_38 : decode cX6_makeStep 38 = .ok (.goto (-36), 3) := by decide +kernel
theorem dX6_makeStep_41 : decode cX6_makeStep 41 = .ok (.iconst 0, 1) := by decide +kernel
theorem dX6_makeStep_42 : decode cX6_makeStep 42 = .ok (.istore_n 1, 1) := by decide +kernel
theorem dX6_makeStep_43 : decode cX6_makeStep 43 = .ok (.iload_n 1, 1) := by decide +kernel
theorem dX6_makeStep_44 : decode cX6_makeStep 44 = .ok (.aload_n 0, 1) := by decide +kernel
theorem dX6_makeStep_45 : decode cX6_makeStep 45 = .ok (.getfield 22, 3) := by decide +kernel
theorem dX6_makeStep_48 : decode cX6_makeStep 48 = .ok (.invokevirtual 36, 3) := by decide +kernel
theorem dX6_makeStep_51 : decode cX6_makeStep 51 = .ok (.if_icmp .ge 31, 3) := by decide +kernel
theorem dX6_makeStep_54 : decode cX6_makeStep 54 = .ok (.aload_n 0, 1) := by decide +kernel
theorem dX6_makeStep_55 : decode cX6_makeStep 55 = .ok (.getfield 22, 3) := by decide +kernel
theorem dX6_makeStep_58 : decode cX6_makeStep 58 = .ok (.iload_n 1, 1) := by decide +kernel
theorem dX6_makeStep_59 : decode cX6_makeStep 59 = .ok (.invokevirtual 59, 3) := by decide +kernel
theorem dX6_makeStep_62 : decode cX6_makeStep 62 = .ok (.checkcast 127, 3) := by decide +kernel
theorem dX6_makeStep_65 : decode cX6_makeStep 65 = .ok (.getfield 182, 3) := by decide +kernel
theorem dX6_makeStep_68 : decode cX6_makeStep 68 = .ok (.invokevirtual 264, 3) := by decide +kernel
theorem dX6_makeStep_71 : decode cX6_makeStep 71 = .ok (.ifCond .eq 5, 3) := by decide +kernel
theorem dX6_makeStep_74 : decode cX6_makeStep 74 = .ok (.iconst 1, 1) := by decide +kernel
theorem dX6_makeStep_75 : decode cX6_makeStep 75 = .ok (.ireturn, 1) := by decide +kernel
theorem dX6_makeStep_76 : decode cX6_makeStep 76 = .ok (.iinc 1 1, 3) := by decide +kernel
theorem dX6_makeStep_79 : decode cX6_makeStep 79 = .ok (.goto (-36), 3) := by decide +kernel
theorem dX6_makeStep_82 : decode cX6_makeStep 82 = .ok (.iconst 0, 1) := by decide +kernel
theorem dX6_makeStep_83 : decode cX6_makeStep 83 = .ok (.ireturn, 1) := by decide +kernel
set_option maxRecDepth 20000 in
theorem ggX6_areMeshed_Jx4a65c_size_8abf5 : GoodIn wsX6_areMeshed wsJx4a65c_size_8abf5 := goodIn_r _ [7, 8, 39, 40, 41] (by decide +kernel) (by decide +kernel)
set_option maxRecDepth 20000 in
theorem gX6_areMeshed_Jx4a65c_size_8abf5 : GoodIn wsX6_areMeshed (wsV RX6 36 RJx4a65c yJx4a65c_size_8abf5 wsJx4a65c_size_8abf5) := goodIn_app (goodIn_of _ (by decide +kernel)) ggX6_areMeshed_Jx4a65c_size_8abf5
set_option maxRecDepth 20000 in
theorem ggX6_areMeshed_Jx4a65c_get_915e3 : GoodIn wsX6_areMeshed wsJx4a65c_get_915e3 := goodIn_r _ [12, 8, 13, 14, 15, 16, 17, 18, 19, 20, 21, 22, 23, 6, 24, 25, 39, 40, 41] (by decide +kernel) (by decide +kernel)
set_option maxRecDepth 20000 in
theorem gX6_areMeshed_Jx4a65c_get_915e3 : GoodIn wsX6_areMeshed (wsV RX6 59 RJx4a65c yJx4a65c_get_915e3 wsJx4a65c_get_915e3) := goodIn_app (goodIn_of _ (by decide +kernel)) ggX6_areMeshed_Jx4a65c_get_915e3
set_option maxRecDepth 20000 in
theorem ggX6_areMeshed_X2_isOf : GoodIn wsX6_areMeshed wsX2_isOf := goodIn_r _ [30, 31, 32, 42, 43, 44] (by decide +kernel) (by decide +kernel)
set_option maxRecDepth 20000 in
theorem gX6_areMeshed_X2_isOf : GoodIn wsX6_areMeshed (wsV RX6 267 RX2 yX2_isOf wsX2_isOf) := goodIn_app (goodIn_of _ (by decide +kernel)) ggX6_areMeshed_X2_isOf
theorem dX6_areMeshed_0 : decode cX6_areMeshed 0 = .ok (.iconst 0, 1) := by decide +kernel
theorem dX6_areMeshed_1 : decode cX6_areMeshed 1 = .ok (.istore_n 3, 1) := by decide +kernel
theorem dX6_areMeshed_2 : decode cX6_areMeshed 2 = .ok (.iload_n 3, 1) := by decide +kernel
theorem dX6_areMeshed_3 : decode cX6_areMeshed 3 = .ok (.aload_n 0, 1) := by decide +kernel
theorem dX6_areMeshed_4 : decode cX6_areMeshed 4 = .ok (.getfield 19, 3) := by decide +kernel
theorem dX6_areMeshed_7 : decode cX6_areMeshed 7 = .ok (.invokevirtual 36, 3) := by decide +kernel
theorem dX6_areMeshed_10 : decode cX6_areMeshed 10 = .ok (.if_icmp .ge 30, 3) := by decide +kernel
theorem dX6_areMeshed_13 : decode cX6_areMeshed 13 = .ok (.aload_n 0, 1) := by decide +kernel
theorem dX6_areMeshed_14 : decode cX6_areMeshed 14 = .ok (.getfield 19, 3) := by decide +kernel
theorem dX6_areMeshed_17 : decode cX6_areMeshed 17 = .ok (.iload_n 3, 1) := by decide +kernel
theorem dX6_areMeshed_18 : decode cX6_areMeshed 18 = .ok (.invokevirtual 59, 3) := by decide +kernel
theorem dX6_areMeshed_21 : decode cX6_areMeshed 21 = .ok (.checkcast 104, 3) := by decide +kernel
theorem dX6_areMeshed_24 : decode cX6_areMeshed 24 = .ok (.aload_n 1, 1) := by decide +kernel
theorem dX6_areMeshed_25 : decode cX6_areMeshed 25 = .ok (.aload_n 2, 1) := by decide +kernel
theorem dX6_areMeshed_26 : decode cX6_areMeshed 26 = .ok (.invokevirtual 267, 3) := by decide +kernel
theorem dX6_areMeshed_29 : decode cX6_areMeshed 29 = .ok (.ifCond .eq 5, 3) := by decide +kernel
theorem dX6_areMeshed_32 : decode cX6_areMeshed 32 = .ok (.iconst 1, 1) := by decide +kernel
theorem dX6_areMeshed_33 : decode cX6_areMeshed 33 = .ok (.ireturn, 1) := by decide +kernel
theorem dX6_areMeshed_34 : decode cX6_areMeshed 34 = .ok (.iinc 3 1, 3) := by decide +kernel
theorem dX6_areMeshed_37 : decode cX6_areMeshed 37 = .ok (.goto (-35), 3) := by decide +kernel
theorem dX6_areMeshed_40 : decode cX6_areMeshed 40 = .ok (.iconst 0, 1) := by decide +kernel
theorem dX6_areMeshed_41 : decode cX6_areMeshed 41 = .ok (.ireturn, 1) := by decide +kernel
theorem dJ9_abs_067f4_0 : decode cJ9_abs_067f4 0 = .ok (.lload_n 0, 1) := by decide +kernel
theorem dJ9_abs_067f4_1 : decode cJ9_abs_067f4 1 = .ok (.lconst 0, 1) := by decide +kernel
theorem dJ9_abs_067f4_2 : decode cJ9_abs_067f4 2 = .ok (.lcmp, 1) := by decide +kernel
theorem dJ9_abs_067f4_3 : decode cJ9_abs_067f4 3 = .ok (.ifCond .ge 8, 3) := by decide +kernel
theorem dJ9_abs_067f4_6 : decode cJ9_abs_067f4 6 = .ok (.lload_n 0, 1) := by decide +kernel
theorem dJ9_abs_067f4_7 : decode cJ9_abs_067f4 7 = .ok (.lneg, 1) := by decide +kernel
theorem dJ9_abs_067f4_8 : decode cJ9_abs_067f4 8 = .ok (.goto 4, 3) := by decide +kernel
theorem dJ9_abs_067f4_11 : decode cJ9_abs_067f4 11 = .ok (.lload_n 0, 1) := by decide +kernel
theorem dJ9_abs_067f4_12 : decode cJ9_abs_067f4 12 = .ok (.lreturn, 1) := by decide +kernel
theorem dJ9_max_7cf53_0 : decode cJ9_max_7cf53 0 = .ok (.iload_n 0, 1) := by decide +kernel
theorem dJ9_max_7cf53_1 : decode cJ9_max_7cf53 1 = .ok (.iload_n 1, 1) := by decide +kernel
theorem dJ9_max_7cf53_2 : decode cJ9_max_7cf53 2 = .ok (.if_icmp .lt 7, 3) := by decide +kernel
theorem dJ9_max_7cf53_5 : decode cJ9_max_7cf53 5 = .ok (.iload_n 0, 1) := by decide +kernel
theorem dJ9_max_7cf53_6 : decode cJ9_max_7cf53 6 = .ok (.goto 4, 3) := by decide +kernel
theorem dJ9_max_7cf53_9 : decode cJ9_max_7cf53 9 = .ok (.iload_n 1, 1) := by decide +kernel
theorem dJ9_max_7cf53_10 : decode cJ9_max_7cf53 10 = .ok (.ireturn, 1) := by decide +kernel
theorem dJ9_min_7cf53_0 : decode cJ9_min_7cf53 0 = .ok (.iload_n 0, 1) := by decide +kernel
theorem dJ9_min_7cf53_1 : decode cJ9_min_7cf53 1 = .ok (.iload_n 1, 1) := by decide +kernel
theorem dJ9_min_7cf53_2 : decode cJ9_min_7cf53 2 = .ok (.if_icmp .gt 7, 3) := by decide +kernel
theorem dJ9_min_7cf53_5 : decode cJ9_min_7cf53 5 = .ok (.iload_n 0, 1) := by decide +kernel
theorem dJ9_min_7cf53_6 : decode cJ9_min_7cf53 6 = .ok (.goto 4, 3) := by decide +kernel
theorem dJ9_min_7cf53_9 : decode cJ9_min_7cf53 9 = .ok (.iload_n 1, 1) := by decide +kernel
theorem dJ9_min_7cf53_10 : decode cJ9_min_7cf53 10 = .ok (.ireturn, 1) := by decide +kernel
theorem dJxa1e45_init_da8c8_0 : decode cJxa1e45_init_da8c8 0 = .ok (.aload_n 0, 1) := by decide +kernel
theorem dJxa1e45_init_da8c8_1 : decode cJxa1e45_init_da8c8 1 = .ok (.invokespecial 1, 3) := by decide +kernel
theorem dJxa1e45_init_da8c8_4 : decode cJxa1e45_init_da8c8 4 = .ok (.return_, 1) := by decide +kernel
set_option maxRecDepth 20000 in
theorem ggJxc12de_init_da8c8_Jxa1e45_init_da8c8 : GoodIn wsJxc12de_init_da8c8 wsJxa1e45_init_da8c8 := goodIn_r _ [5, 6, 7, 8] (by decide +kernel) (by decide +kernel)
set_option maxRecDepth 20000 in
theorem gJxc12de_init_da8c8_Jxa1e45_init_da8c8 : GoodIn wsJxc12de_init_da8c8 (wsJxa1e45_init_da8c8) := ggJxc12de_init_da8c8_Jxa1e45_init_da8c8
theorem dJxc12de_init_da8c8_0 : decode cJxc12de_init_da8c8 0 = .ok (.aload_n 0, 1) := by decide +kernel
theorem dJxc12de_init_da8c8_1 : decode cJxc12de_init_da8c8 1 = .ok (.invokespecial 1, 3) := by decide +kernel
theorem dJxc12de_init_da8c8_4 : decode cJxc12de_init_da8c8 4 = .ok (.aload_n 0, 1) := by decide +kernel
theorem dJxc12de_init_da8c8_5 : decode cJxc12de_init_da8c8 5 = .ok (.iconst 0, 1) := by decide +kernel
theorem dJxc12de_init_da8c8_6 : decode cJxc12de_init_da8c8 6 = .ok (.putfield 7, 3) := by decide +kernel
theorem dJxc12de_init_da8c8_9 : decode cJxc12de_init_da8c8 9 = .ok (.return_, 1) := by decide +kernel
set_option maxRecDepth 20000 in
theorem ggJx4a65c_init_da8c8_Jxc12de_init_da8c8 : GoodIn wsJx4a65c_init_da8c8 wsJxc12de_init_da8c8 := goodIn_r _ [6, 7, 8, 9, 10, 11, 12, 13, 14, 15, 16, 17] (by decide +kernel) (by decide +kernel)
set_option maxRecDepth 20000 in
theorem gJx4a65c_init_da8c8_Jxc12de_init_da8c8 : GoodIn wsJx4a65c_init_da8c8 (wsJxc12de_init_da8c8) := ggJx4a65c_init_da8c8_Jxc12de_init_da8c8
theorem dJx4a65c_init_da8c8_0 : decode cJx4a65c_init_da8c8 0 = .ok (.aload_n 0, 1) := by decide +kernel
theorem dJx4a65c_init_da8c8_1 : decode cJx4a65c_init_da8c8 1 = .ok (.invokespecial 1, 3) := by decide +kernel
theorem dJx4a65c_init_da8c8_4 : decode cJx4a65c_init_da8c8 4 = .ok (.aload_n 0, 1) := by decide +kernel
theorem dJx4a65c_init_da8c8_5 : decode cJx4a65c_init_da8c8 5 = .ok (.getstatic 39, 3) := by decide +kernel
theorem dJx4a65c_init_da8c8_8 : decode cJx4a65c_init_da8c8 8 = .ok (.putfield 9, 3) := by decide +kernel
theorem dJx4a65c_init_da8c8_11 : decode cJx4a65c_init_da8c8 11 = .ok (.return_, 1) := by decide +kernel
set_option maxRecDepth 20000 in
theorem ggJx4a65c_grow_92f84_J8_newLength_cabcc : GoodIn wsJx4a65c_grow_92f84 wsJ8_newLength_cabcc := goodIn_r _ [11, 12, 4, 5, 6, 13, 14, 15, 10, 16] (by decide +kernel) (by decide +kernel)
set_option maxRecDepth 20000 in
theorem gJx4a65c_grow_92f84_J8_newLength_cabcc : GoodIn wsJx4a65c_grow_92f84 (va_wsS RJx4a65c 73 yJ8_newLength_cabcc wsJ8_newLength_cabcc) := goodIn_app (goodIn_of _ (by decide +kernel)) ggJx4a65c_grow_92f84_J8_newLength_cabcc
set_option maxRecDepth 20000 in
theorem ggJx4a65c_grow_92f84_J7_copyOf_1904c : GoodIn wsJx4a65c_grow_92f84 wsJ7_copyOf_1904c := goodIn_r _ [20, 21, 22, 23, 24, 25, 26, 19, 27, 28, 29, 30, 31, 5, 32, 33, 34, 35, 36] (by decide +kernel) (by decide +kernel)
set_option maxRecDepth 20000 in
theorem gJx4a65c_grow_92f84_J7_copyOf_1904c : GoodIn wsJx4a65c_grow_92f84 (va_wsS RJx4a65c 66 yJ7_copyOf_1904c wsJ7_copyOf_1904c) := goodIn_app (goodIn_of _ (by decide +kernel)) ggJx4a65c_grow_92f84_J7_copyOf_1904c
theorem dJx4a65c_grow_92f84_0 : decode cJx4a65c_grow_92f84 0 = .ok (.aload_n 0, 1) := by decide +kernel
theorem dJx4a65c_grow_92f84_1 : decode cJx4a65c_grow_92f84 1 = .ok (.getfield 9, 3) := by decide +kernel
theorem dJx4a65c_grow_92f84_4 : decode cJx4a65c_grow_92f84 4 = .ok (.arraylength, 1) := by decide +kernel
theorem dJx4a65c_grow_92f84_5 : decode cJx4a65c_grow_92f84 5 = .ok (.istore_n 2, 1) := by decide +kernel
theorem dJx4a65c_grow_92f84_6 : decode cJx4a65c_grow_92f84 6 = .ok (.iload_n 2, 1) := by decide +kernel
theorem dJx4a65c_grow_92f84_7 : decode cJx4a65c_grow_92f84 7 = .ok (.ifCond .gt 13, 3) := by decide +kernel
theorem dJx4a65c_grow_92f84_10 : decode cJx4a65c_grow_92f84 10 = .ok (.aload_n 0, 1) := by decide +kernel
theorem dJx4a65c_grow_92f84_11 : decode cJx4a65c_grow_92f84 11 = .ok (.getfield 9, 3) := by decide +kernel
theorem dJx4a65c_grow_92f84_14 : decode cJx4a65c_grow_92f84 14 = .ok (.getstatic 39, 3) := by decide +kernel
theorem dJx4a65c_grow_92f84_17 : decode cJx4a65c_grow_92f84 17 = .ok (.if_acmp .eq 28, 3) := by decide +kernel
theorem dJx4a65c_grow_92f84_20 : decode cJx4a65c_grow_92f84 20 = .ok (.iload_n 2, 1) := by decide +kernel
theorem dJx4a65c_grow_92f84_21 : decode cJx4a65c_grow_92f84 21 = .ok (.iload_n 1, 1) := by decide +kernel
theorem dJx4a65c_grow_92f84_22 : decode cJx4a65c_grow_92f84 22 = .ok (.iload_n 2, 1) := by decide +kernel
theorem dJx4a65c_grow_92f84_23 : decode cJx4a65c_grow_92f84 23 = .ok (.isub, 1) := by decide +kernel
theorem dJx4a65c_grow_92f84_24 : decode cJx4a65c_grow_92f84 24 = .ok (.iload_n 2, 1) := by decide +kernel
theorem dJx4a65c_grow_92f84_25 : decode cJx4a65c_grow_92f84 25 = .ok (.iconst 1, 1) := by decide +kernel
