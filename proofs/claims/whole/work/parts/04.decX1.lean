theorem dX1_init_0 : decode cX1_init 0 = .ok (.aload_n 0, 1) := by decide +kernel
theorem dX1_init_1 : decode cX1_init 1 = .ok (.invokespecial 1, 3) := by decide +kernel
theorem dX1_init_4 : decode cX1_init 4 = .ok (.aload_n 0, 1) := by decide +kernel
theorem dX1_init_5 : decode cX1_init 5 = .ok (.bipush 30, 2) := by decide +kernel
theorem dX1_init_7 : decode cX1_init 7 = .ok (.newarray .int, 2) := by decide +kernel
theorem dX1_init_9 : decode cX1_init 9 = .ok (.putfield 7, 3) := by decide +kernel
theorem dX1_init_12 : decode cX1_init 12 = .ok (.aload_n 0, 1) := by decide +kernel
theorem dX1_init_13 : decode cX1_init 13 = .ok (.bipush 30, 2) := by decide +kernel
theorem dX1_init_15 : decode cX1_init 15 = .ok (.newarray .int, 2) := by decide +kernel
theorem dX1_init_17 : decode cX1_init 17 = .ok (.putfield 13, 3) := by decide +kernel
theorem dX1_init_20 : decode cX1_init 20 = .ok (.aload_n 0, 1) := by decide +kernel
theorem dX1_init_21 : decode cX1_init 21 = .ok (.bipush 30, 2) := by decide +kernel
theorem dX1_init_23 : decode cX1_init 23 = .ok (.newarray .double, 2) := by decide +kernel
theorem dX1_init_25 : decode cX1_init 25 = .ok (.putfield 16, 3) := by decide +kernel
theorem dX1_init_28 : decode cX1_init 28 = .ok (.aload_n 0, 1) := by decide +kernel
theorem dX1_init_29 : decode cX1_init 29 = .ok (.iconst 1, 1) := by decide +kernel
theorem dX1_init_30 : decode cX1_init 30 = .ok (.putfield 20, 3) := by decide +kernel
theorem dX1_init_33 : decode cX1_init 33 = .ok (.aload_n 0, 1) := by decide +kernel
theorem dX1_init_34 : decode cX1_init 34 = .ok (.iconst 1, 1) := by decide +kernel
theorem dX1_init_35 : decode cX1_init 35 = .ok (.putfield 24, 3) := by decide +kernel
theorem dX1_init_38 : decode cX1_init 38 = .ok (.aload_n 0, 1) := by decide +kernel
theorem dX1_init_39 : decode cX1_init 39 = .ok (.bipush 12, 2) := by decide +kernel
theorem dX1_init_41 : decode cX1_init 41 = .ok (.newarray .double, 2) := by decide +kernel
theorem dX1_init_43 : decode cX1_init 43 = .ok (.putfield 27, 3) := by decide +kernel
theorem dX1_init_46 : decode cX1_init 46 = .ok (.aload_n 0, 1) := by decide +kernel
theorem dX1_init_47 : decode cX1_init 47 = .ok (.bipush 12, 2) := by decide +kernel
theorem dX1_init_49 : decode cX1_init 49 = .ok (.newarray .boolean, 2) := by decide +kernel
theorem dX1_init_51 : decode cX1_init 51 = .ok (.putfield 30, 3) := by decide +kernel
theorem dX1_init_54 : decode cX1_init 54 = .ok (.aload_n 0, 1) := by decide +kernel
theorem dX1_init_55 : decode cX1_init 55 = .ok (.bipush 48, 2) := by decide +kernel
theorem dX1_init_57 : decode cX1_init 57 = .ok (.newarray .double, 2) := by decide +kernel
theorem dX1_init_59 : decode cX1_init 59 = .ok (.putfield 34, 3) := by decide +kernel
theorem dX1_init_62 : decode cX1_init 62 = .ok (.aload_n 0, 1) := by decide +kernel
theorem dX1_init_63 : decode cX1_init 63 = .ok (.bipush 48, 2) := by decide +kernel
theorem dX1_init_65 : decode cX1_init 65 = .ok (.newarray .boolean, 2) := by decide +kernel
theorem dX1_init_67 : decode cX1_init 67 = .ok (.putfield 37, 3) := by decide +kernel
theorem dX1_init_70 : decode cX1_init 70 = .ok (.aload_n 0, 1) := by decide +kernel
theorem dX1_init_71 : decode cX1_init 71 = .ok (.bipush 48, 2) := by decide +kernel
theorem dX1_init_73 : decode cX1_init 73 = .ok (.newarray .double, 2) := by decide +kernel
theorem dX1_init_75 : decode cX1_init 75 = .ok (.putfield 40, 3) := by decide +kernel
theorem dX1_init_78 : decode cX1_init 78 = .ok (.aload_n 0, 1) := by decide +kernel
theorem dX1_init_79 : decode cX1_init 79 = .ok (.bipush 48, 2) := by decide +kernel
theorem dX1_init_81 : decode cX1_init 81 = .ok (.newarray .boolean, 2) := by decide +kernel
theorem dX1_init_83 : decode cX1_init 83 = .ok (.putfield 43, 3) := by decide +kernel
theorem dX1_init_86 : decode cX1_init 86 = .ok (.aload_n 0, 1) := by decide +kernel
theorem dX1_init_87 : decode cX1_init 87 = .ok (.bipush 12, 2) := by decide +kernel
theorem dX1_init_89 : decode cX1_init 89 = .ok (.newarray .boolean, 2) := by decide +kernel
theorem dX1_init_91 : decode cX1_init 91 = .ok (.putfield 46, 3) := by decide +kernel
theorem dX1_init_94 : decode cX1_init 94 = .ok (.return_, 1) := by decide +kernel
theorem dX1_thrown_0 : decode cX1_thrown 0 = .ok (.aload_n 0, 1) := by decide +kernel
theorem dX1_thrown_1 : decode cX1_thrown 1 = .ok (.getfield 49, 3) := by decide +kernel
theorem dX1_thrown_4 : decode cX1_thrown 4 = .ok (.ireturn, 1) := by decide +kernel
theorem dX1_isVertex_0 : decode cX1_isVertex 0 = .ok (.iload_n 1, 1) := by decide +kernel
theorem dX1_isVertex_1 : decode cX1_isVertex 1 = .ok (.ifCond .lt 15, 3) := by decide +kernel
theorem dX1_isVertex_4 : decode cX1_isVertex 4 = .ok (.iload_n 1, 1) := by decide +kernel
theorem dX1_isVertex_5 : decode cX1_isVertex 5 = .ok (.aload_n 0, 1) := by decide +kernel
theorem dX1_isVertex_6 : decode cX1_isVertex 6 = .ok (.getfield 20, 3) := by decide +kernel
theorem dX1_isVertex_9 : decode cX1_isVertex 9 = .ok (.if_icmp .ge 7, 3) := by decide +kernel
theorem dX1_isVertex_12 : decode cX1_isVertex 12 = .ok (.iconst 1, 1) := by decide +kernel
theorem dX1_isVertex_13 : decode cX1_isVertex 13 = .ok (.goto 4, 3) := by decide +kernel
theorem dX1_isVertex_16 : decode cX1_isVertex 16 = .ok (.iconst 0, 1) := by decide +kernel
theorem dX1_isVertex_17 : decode cX1_isVertex 17 = .ok (.ireturn, 1) := by decide +kernel
theorem dX1_forget_0 : decode cX1_forget 0 = .ok (.aload_n 0, 1) := by decide +kernel
theorem dX1_forget_1 : decode cX1_forget 1 = .ok (.iconst 0, 1) := by decide +kernel
theorem dX1_forget_2 : decode cX1_forget 2 = .ok (.putfield 52, 3) := by decide +kernel
theorem dX1_forget_5 : decode cX1_forget 5 = .ok (.aload_n 0, 1) := by decide +kernel
theorem dX1_forget_6 : decode cX1_forget 6 = .ok (.iconst 0, 1) := by decide +kernel
theorem dX1_forget_7 : decode cX1_forget 7 = .ok (.putfield 56, 3) := by decide +kernel
theorem dX1_forget_10 : decode cX1_forget 10 = .ok (.aload_n 0, 1) := by decide +kernel
theorem dX1_forget_11 : decode cX1_forget 11 = .ok (.iconst 0, 1) := by decide +kernel
theorem dX1_forget_12 : decode cX1_forget 12 = .ok (.putfield 59, 3) := by decide +kernel
theorem dX1_forget_15 : decode cX1_forget 15 = .ok (.aload_n 0, 1) := by decide +kernel
theorem dX1_forget_16 : decode cX1_forget 16 = .ok (.iconst 0, 1) := by decide +kernel
theorem dX1_forget_17 : decode cX1_forget 17 = .ok (.putfield 62, 3) := by decide +kernel
theorem dX1_forget_20 : decode cX1_forget 20 = .ok (.aload_n 0, 1) := by decide +kernel
theorem dX1_forget_21 : decode cX1_forget 21 = .ok (.iconst 0, 1) := by decide +kernel
theorem dX1_forget_22 : decode cX1_forget 22 = .ok (.putfield 65, 3) := by decide +kernel
theorem dX1_forget_25 : decode cX1_forget 25 = .ok (.iconst 0, 1) := by decide +kernel
theorem dX1_forget_26 : decode cX1_forget 26 = .ok (.istore_n 1, 1) := by decide +kernel
theorem dX1_forget_27 : decode cX1_forget 27 = .ok (.iload_n 1, 1) := by decide +kernel
theorem dX1_forget_28 : decode cX1_forget 28 = .ok (.bipush 48, 2) := by decide +kernel
theorem dX1_forget_30 : decode cX1_forget 30 = .ok (.if_icmp .ge 16, 3) := by decide +kernel
theorem dX1_forget_33 : decode cX1_forget 33 = .ok (.aload_n 0, 1) := by decide +kernel
theorem dX1_forget_34 : decode cX1_forget 34 = .ok (.getfield 37, 3) := by decide +kernel
theorem dX1_forget_37 : decode cX1_forget 37 = .ok (.iload_n 1, 1) := by decide +kernel
theorem dX1_forget_38 : decode cX1_forget 38 = .ok (.iconst 0, 1) := by decide +kernel
theorem dX1_forget_39 : decode cX1_forget 39 = .ok (.bastore, 1) := by decide +kernel
theorem dX1_forget_40 : decode cX1_forget 40 = .ok (.iinc 1 1, 3) := by decide +kernel
theorem dX1_forget_43 : decode cX1_forget 43 = .ok (.goto (-16), 3) := by decide +kernel
theorem dX1_forget_46 : decode cX1_forget 46 = .ok (.iconst 0, 1) := by decide +kernel
theorem dX1_forget_47 : decode cX1_forget 47 = .ok (.istore_n 1, 1) := by decide +kernel
theorem dX1_forget_48 : decode cX1_forget 48 = .ok (.iload_n 1, 1) := by decide +kernel
theorem dX1_forget_49 : decode cX1_forget 49 = .ok (.bipush 12, 2) := by decide +kernel
theorem dX1_forget_51 : decode cX1_forget 51 = .ok (.if_icmp .ge 16, 3) := by decide +kernel
theorem dX1_forget_54 : decode cX1_forget 54 = .ok (.aload_n 0, 1) := by decide +kernel
theorem dX1_forget_55 : decode cX1_forget 55 = .ok (.getfield 30, 3) := by decide +kernel
theorem dX1_forget_58 : decode cX1_forget 58 = .ok (.iload_n 1, 1) := by decide +kernel
theorem dX1_forget_59 : decode cX1_forget 59 = .ok (.iconst 0, 1) := by decide +kernel
theorem dX1_forget_60 : decode cX1_forget 60 = .ok (.bastore, 1) := by decide +kernel
theorem dX1_forget_61 : decode cX1_forget 61 = .ok (.iinc 1 1, 3) := by decide +kernel
theorem dX1_forget_64 : decode cX1_forget 64 = .ok (.goto (-16), 3) := by decide +kernel
theorem dX1_forget_67 : decode cX1_forget 67 = .ok (.return_, 1) := by decide +kernel
set_option maxRecDepth 20000 in
theorem ggX1_size_X1_forget : GoodIn wsX1_size wsX1_forget := goodIn_r _ [7, 8, 9, 10, 11, 12, 13, 14, 15, 16, 17, 18, 19, 20, 21, 22, 23, 24, 25, 26, 27, 28, 29, 30, 31, 32, 33, 34] (by decide +kernel) (by decide +kernel)
set_option maxRecDepth 20000 in
theorem gX1_size_X1_forget : GoodIn wsX1_size (wsV RX1 71 RX1 yX1_forget wsX1_forget) := goodIn_app (goodIn_of _ (by decide +kernel)) ggX1_size_X1_forget
theorem dX1_size_0 : decode cX1_size 0 = .ok (.iload_n 1, 1) := by decide +kernel
theorem dX1_size_1 : decode cX1_size 1 = .ok (.iconst 1, 1) := by decide +kernel
theorem dX1_size_2 : decode cX1_size 2 = .ok (.if_icmp .lt 9, 3) := by decide +kernel
theorem dX1_size_5 : decode cX1_size 5 = .ok (.iload_n 1, 1) := by decide +kernel
theorem dX1_size_6 : decode cX1_size 6 = .ok (.bipush 12, 2) := by decide +kernel
theorem dX1_size_8 : decode cX1_size 8 = .ok (.if_icmp .le 5, 3) := by decide +kernel
theorem dX1_size_11 : decode cX1_size 11 = .ok (.iconst 0, 1) := by decide +kernel
theorem dX1_size_12 : decode cX1_size 12 = .ok (.ireturn, 1) := by decide +kernel
theorem dX1_size_13 : decode cX1_size 13 = .ok (.aload_n 0, 1) := by decide +kernel
theorem dX1_size_14 : decode cX1_size 14 = .ok (.iload_n 1, 1) := by decide +kernel
theorem dX1_size_15 : decode cX1_size 15 = .ok (.putfield 20, 3) := by decide +kernel
theorem dX1_size_18 : decode cX1_size 18 = .ok (.aload_n 0, 1) := by decide +kernel
theorem dX1_size_19 : decode cX1_size 19 = .ok (.iconst 0, 1) := by decide +kernel
theorem dX1_size_20 : decode cX1_size 20 = .ok (.putfield 68, 3) := by decide +kernel
theorem dX1_size_23 : decode cX1_size 23 = .ok (.aload_n 0, 1) := by decide +kernel
theorem dX1_size_24 : decode cX1_size 24 = .ok (.invokevirtual 71, 3) := by decide +kernel
theorem dX1_size_27 : decode cX1_size 27 = .ok (.iconst 1, 1) := by decide +kernel
theorem dX1_size_28 : decode cX1_size 28 = .ok (.ireturn, 1) := by decide +kernel
set_option maxRecDepth 20000 in
theorem ggX1_edge_X1_isVertex : GoodIn wsX1_edge wsX1_isVertex := goodIn_r _ [10, 11, 23, 24, 25, 26, 27, 28, 29, 30, 31, 32, 33, 34, 35, 36, 37, 38, 39, 40, 41, 42] (by decide +kernel) (by decide +kernel)
set_option maxRecDepth 20000 in
theorem gX1_edge_X1_isVertex : GoodIn wsX1_edge (wsV RX1 74 RX1 yX1_isVertex wsX1_isVertex) := goodIn_app (goodIn_of _ (by decide +kernel)) ggX1_edge_X1_isVertex
set_option maxRecDepth 20000 in
theorem ggX1_edge_X1_forget : GoodIn wsX1_edge wsX1_forget := goodIn_r _ [15, 16, 17, 18, 19, 20, 21, 22, 23, 24, 25, 26, 27, 28, 29, 30, 31, 32, 33, 34, 35, 36, 37, 38, 39, 40, 41, 42] (by decide +kernel) (by decide +kernel)
set_option maxRecDepth 20000 in
theorem gX1_edge_X1_forget : GoodIn wsX1_edge (wsV RX1 71 RX1 yX1_forget wsX1_forget) := goodIn_app (goodIn_of _ (by decide +kernel)) ggX1_edge_X1_forget
theorem dX1_edge_0 : decode cX1_edge 0 = .ok (.aload_n 0, 1) := by decide +kernel
theorem dX1_edge_1 : decode cX1_edge 1 = .ok (.iload_n 1, 1) := by decide +kernel
theorem dX1_edge_2 : decode cX1_edge 2 = .ok (.invokevirtual 74, 3) := by decide +kernel
theorem dX1_edge_5 : decode cX1_edge 5 = .ok (.ifCond .eq 39, 3) := by decide +kernel
theorem dX1_edge_8 : decode cX1_edge 8 = .ok (.aload_n 0, 1) := by decide +kernel
theorem dX1_edge_9 : decode cX1_edge 9 = .ok (.iload_n 2, 1) := by decide +kernel
theorem dX1_edge_10 : decode cX1_edge 10 = .ok (.invokevirtual 74, 3) := by decide +kernel
theorem dX1_edge_13 : decode cX1_edge 13 = .ok (.ifCond .eq 31, 3) := by decide +kernel
theorem dX1_edge_16 : decode cX1_edge 16 = .ok (.iload_n 1, 1) := by decide +kernel
theorem dX1_edge_17 : decode cX1_edge 17 = .ok (.iload_n 2, 1) := by decide +kernel
theorem dX1_edge_18 : decode cX1_edge 18 = .ok (.if_icmp .eq 26, 3) := by decide +kernel
theorem dX1_edge_21 : decode cX1_edge 21 = .ok (.dload_n 3, 1) := by decide +kernel
theorem dX1_edge_22 : decode cX1_edge 22 = .ok (.dconst 0, 1) := by decide +kernel
theorem dX1_edge_23 : decode cX1_edge 23 = .ok (.dcmp .l, 1) := by decide +kernel
theorem dX1_edge_24 : decode cX1_edge 24 = .ok (.ifCond .lt 20, 3) := by decide +kernel
theorem dX1_edge_27 : decode cX1_edge 27 = .ok (.dload_n 3, 1) := by decide +kernel
theorem dX1_edge_28 : decode cX1_edge 28 = .ok (.ldc2_w 78, 3) := by decide +kernel
theorem dX1_edge_31 : decode cX1_edge 31 = .ok (.dcmp .g, 1) := by decide +kernel
theorem dX1_edge_32 : decode cX1_edge 32 = .ok (.ifCond .gt 12, 3) := by decide +kernel
theorem dX1_edge_35 : decode cX1_edge 35 = .ok (.aload_n 0, 1) := by decide +kernel
theorem dX1_edge_36 : decode cX1_edge 36 = .ok (.getfield 68, 3) := by decide +kernel
theorem dX1_edge_39 : decode cX1_edge 39 = .ok (.bipush 30, 2) := by decide +kernel
theorem dX1_edge_41 : decode cX1_edge 41 = .ok (.if_icmp .ne 5, 3) := by decide +kernel
theorem dX1_edge_44 : decode cX1_edge 44 = .ok (.iconst 0, 1) := by decide +kernel
theorem dX1_edge_45 : decode cX1_edge 45 = .ok (.ireturn, 1) := by decide +kernel
theorem dX1_edge_46 : decode cX1_edge 46 = .ok (.aload_n 0, 1) := by decide +kernel
theorem dX1_edge_47 : decode cX1_edge 47 = .ok (.getfield 7, 3) := by decide +kernel
theorem dX1_edge_50 : decode cX1_edge 50 = .ok (.aload_n 0, 1) := by decide +kernel
theorem dX1_edge_51 : decode cX1_edge 51 = .ok (.getfield 68, 3) := by decide +kernel
theorem dX1_edge_54 : decode cX1_edge 54 = .ok (.iload_n 1, 1) := by decide +kernel
theorem dX1_edge_55 : decode cX1_edge 55 = .ok (.iastore, 1) := by decide +kernel
theorem dX1_edge_56 : decode cX1_edge 56 = .ok (.aload_n 0, 1) := by decide +kernel
theorem dX1_edge_57 : decode cX1_edge 57 = .ok (.getfield 13, 3) := by decide +kernel
theorem dX1_edge_60 : decode cX1_edge 60 = .ok (.aload_n 0, 1) := by decide +kernel
theorem dX1_edge_61 : decode cX1_edge 61 = .ok (.getfield 68, 3) := by decide +kernel
theorem dX1_edge_64 : decode cX1_edge 64 = .ok (.iload_n 2, 1) := by decide +kernel
theorem dX1_edge_65 : decode cX1_edge 65 = .ok (.iastore, 1) := by decide +kernel
theorem dX1_edge_66 : decode cX1_edge 66 = .ok (.aload_n 0, 1) := by decide +kernel
theorem dX1_edge_67 : decode cX1_edge 67 = .ok (.getfield 16, 3) := by decide +kernel
theorem dX1_edge_70 : decode cX1_edge 70 = .ok (.aload_n 0, 1) := by decide +kernel
theorem dX1_edge_71 : decode cX1_edge 71 = .ok (.getfield 68, 3) := by decide +kernel
theorem dX1_edge_74 : decode cX1_edge 74 = .ok (.dload_n 3, 1) := by decide +kernel
theorem dX1_edge_75 : decode cX1_edge 75 = .ok (.dconst 0, 1) := by decide +kernel
theorem dX1_edge_76 : decode cX1_edge 76 = .ok (.dadd, 1) := by decide +kernel
theorem dX1_edge_77 : decode cX1_edge 77 = .ok (.dastore, 1) := by decide +kernel
theorem dX1_edge_78 : decode cX1_edge 78 = .ok (.aload_n 0, 1) := by decide +kernel
theorem dX1_edge_79 : decode cX1_edge 79 = .ok (.aload_n 0, 1) := by decide +kernel
theorem dX1_edge_80 : decode cX1_edge 80 = .ok (.getfield 68, 3) := by decide +kernel
theorem dX1_edge_83 : decode cX1_edge 83 = .ok (.iconst 1, 1) := by decide +kernel
theorem dX1_edge_84 : decode cX1_edge 84 = .ok (.iadd, 1) := by decide +kernel
theorem dX1_edge_85 : decode cX1_edge 85 = .ok (.putfield 68, 3) := by decide +kernel
theorem dX1_edge_88 : decode cX1_edge 88 = .ok (.aload_n 0, 1) := by decide +kernel
theorem dX1_edge_89 : decode cX1_edge 89 = .ok (.invokevirtual 71, 3) := by decide +kernel
theorem dX1_edge_92 : decode cX1_edge 92 = .ok (.iconst 1, 1) := by decide +kernel
theorem dX1_edge_93 : decode cX1_edge 93 = .ok (.ireturn, 1) := by decide +kernel
set_option maxRecDepth 20000 in
theorem ggX1_parts_X1_forget : GoodIn wsX1_parts wsX1_forget := goodIn_r _ [6, 7, 8, 9, 10, 11, 12, 13, 14, 15, 16, 17, 18, 19, 20, 21, 22, 23, 24, 25, 26, 27, 28, 29, 30, 31, 32, 33] (by decide +kernel) (by decide +kernel)
set_option maxRecDepth 20000 in
theorem gX1_parts_X1_forget : GoodIn wsX1_parts (wsV RX1 71 RX1 yX1_forget wsX1_forget) := goodIn_app (goodIn_of _ (by decide +kernel)) ggX1_parts_X1_forget
theorem dX1_parts_0 : decode cX1_parts 0 = .ok (.iload_n 1, 1) := by decide +kernel
theorem dX1_parts_1 : decode cX1_parts 1 = .ok (.iconst 1, 1) := by decide +kernel
theorem dX1_parts_2 : decode cX1_parts 2 = .ok (.if_icmp .lt 8, 3) := by decide +kernel
theorem dX1_parts_5 : decode cX1_parts 5 = .ok (.iload_n 1, 1) := by decide +kernel
theorem dX1_parts_6 : decode cX1_parts 6 = .ok (.iconst 4, 1) := by decide +kernel
theorem dX1_parts_7 : decode cX1_parts 7 = .ok (.if_icmp .le 5, 3) := by decide +kernel
theorem dX1_parts_10 : decode cX1_parts 10 = .ok (.iconst 0, 1) := by decide +kernel
theorem dX1_parts_11 : decode cX1_parts 11 = .ok (.ireturn, 1) := by decide +kernel
theorem dX1_parts_12 : decode cX1_parts 12 = .ok (.aload_n 0, 1) := by decide +kernel
theorem dX1_parts_13 : decode cX1_parts 13 = .ok (.iload_n 1, 1) := by decide +kernel
theorem dX1_parts_14 : decode cX1_parts 14 = .ok (.putfield 24, 3) := by decide +kernel
theorem dX1_parts_17 : decode cX1_parts 17 = .ok (.aload_n 0, 1) := by decide +kernel
theorem dX1_parts_18 : decode cX1_parts 18 = .ok (.invokevirtual 71, 3) := by decide +kernel
theorem dX1_parts_21 : decode cX1_parts 21 = .ok (.iconst 1, 1) := by decide +kernel
theorem dX1_parts_22 : decode cX1_parts 22 = .ok (.ireturn, 1) := by decide +kernel
theorem dX1_isBetter_0 : decode cX1_isBetter 0 = .ok (.aload_n 0, 1) := by decide +kernel
theorem dX1_isBetter_1 : decode cX1_isBetter 1 = .ok (.getfield 80, 3) := by decide +kernel
theorem dX1_isBetter_4 : decode cX1_isBetter 4 = .ok (.iconst 3, 1) := by decide +kernel
theorem dX1_isBetter_5 : decode cX1_isBetter 5 = .ok (.if_icmp .ne 17, 3) := by decide +kernel
theorem dX1_isBetter_8 : decode cX1_isBetter 8 = .ok (.dload_n 1, 1) := by decide +kernel
theorem dX1_isBetter_9 : decode cX1_isBetter 9 = .ok (.dload_n 3, 1) := by decide +kernel
theorem dX1_isBetter_10 : decode cX1_isBetter 10 = .ok (.dcmp .l, 1) := by decide +kernel
theorem dX1_isBetter_11 : decode cX1_isBetter 11 = .ok (.ifCond .le 7, 3) := by decide +kernel
theorem dX1_isBetter_14 : decode cX1_isBetter 14 = .ok (.iconst 1, 1) := by decide +kernel
theorem dX1_isBetter_15 : decode cX1_isBetter 15 = .ok (.goto 18, 3) := by decide +kernel
theorem dX1_isBetter_18 : decode cX1_isBetter 18 = .ok (.iconst 0, 1) := by decide +kernel
theorem dX1_isBetter_19 : decode cX1_isBetter 19 = .ok (.goto 14, 3) := by decide +kernel
theorem dX1_isBetter_22 : decode cX1_isBetter 22 = .ok (.dload_n 1, 1) := by decide +kernel
theorem dX1_isBetter_23 : decode cX1_isBetter 23 = .ok (.dload_n 3, 1) := by decide +kernel
theorem dX1_isBetter_24 : decode cX1_isBetter 24 = .ok (.dcmp .g, 1) := by decide +kernel
theorem dX1_isBetter_25 : decode cX1_isBetter 25 = .ok (.ifCond .ge 7, 3) := by decide +kernel
theorem dX1_isBetter_28 : decode cX1_isBetter 28 = .ok (.iconst 1, 1) := by decide +kernel
theorem dX1_isBetter_29 : decode cX1_isBetter 29 = .ok (.goto 4, 3) := by decide +kernel
theorem dX1_isBetter_32 : decode cX1_isBetter 32 = .ok (.iconst 0, 1) := by decide +kernel
theorem dX1_isBetter_33 : decode cX1_isBetter 33 = .ok (.ireturn, 1) := by decide +kernel
theorem dX1_message_0 : decode cX1_message 0 = .ok (.aload_n 0, 1) := by decide +kernel
theorem dX1_message_1 : decode cX1_message 1 = .ok (.getfield 80, 3) := by decide +kernel
theorem dX1_message_4 : decode cX1_message 4 = .ok (.ifCond .ne 7, 3) := by decide +kernel
theorem dX1_message_7 : decode cX1_message 7 = .ok (.dload_n 1, 1) := by decide +kernel
theorem dX1_message_8 : decode cX1_message 8 = .ok (.dload_n 3, 1) := by decide +kernel
theorem dX1_message_9 : decode cX1_message 9 = .ok (.dadd, 1) := by decide +kernel
theorem dX1_message_10 : decode cX1_message 10 = .ok (.dreturn, 1) := by decide +kernel
theorem dX1_message_11 : decode cX1_message 11 = .ok (.aload_n 0, 1) := by decide +kernel
theorem dX1_message_12 : decode cX1_message 12 = .ok (.getfield 80, 3) := by decide +kernel
theorem dX1_message_15 : decode cX1_message 15 = .ok (.iconst 1, 1) := by decide +kernel
theorem dX1_message_16 : decode cX1_message 16 = .ok (.if_icmp .ne 5, 3) := by decide +kernel
theorem dX1_message_19 : decode cX1_message 19 = .ok (.dload_n 1, 1) := by decide +kernel
theorem dX1_message_20 : decode cX1_message 20 = .ok (.dreturn, 1) := by decide +kernel
theorem dX1_message_21 : decode cX1_message 21 = .ok (.aload_n 0, 1) := by decide +kernel
theorem dX1_message_22 : decode cX1_message 22 = .ok (.getfield 80, 3) := by decide +kernel
theorem dX1_message_25 : decode cX1_message 25 = .ok (.iconst 2, 1) := by decide +kernel
theorem dX1_message_26 : decode cX1_message 26 = .ok (.if_icmp .ne 7, 3) := by decide +kernel
theorem dX1_message_29 : decode cX1_message 29 = .ok (.dload_n 1, 1) := by decide +kernel
theorem dX1_message_30 : decode cX1_message 30 = .ok (.dconst 1, 1) := by decide +kernel
theorem dX1_message_31 : decode cX1_message 31 = .ok (.dadd, 1) := by decide +kernel
theorem dX1_message_32 : decode cX1_message 32 = .ok (.dreturn, 1) := by decide +kernel
theorem dX1_message_33 : decode cX1_message 33 = .ok (.dload_n 1, 1) := by decide +kernel
theorem dX1_message_34 : decode cX1_message 34 = .ok (.dload_n 3, 1) := by decide +kernel
theorem dX1_message_35 : decode cX1_message 35 = .ok (.dcmp .g, 1) := by decide +kernel
theorem dX1_message_36 : decode cX1_message 36 = .ok (.ifCond .ge 7, 3) := by decide +kernel
theorem dX1_message_39 : decode cX1_message 39 = .ok (.dload_n 1, 1) := by decide +kernel
theorem dX1_message_40 : decode cX1_message 40 = .ok (.goto 4, 3) := by decide +kernel
theorem dX1_message_43 : decode cX1_message 43 = .ok (.dload_n 3, 1) := by decide +kernel
theorem dX1_message_44 : decode cX1_message 44 = .ok (.dreturn, 1) := by decide +kernel
set_option maxRecDepth 20000 in
theorem ggX1_send_X1_message : GoodIn wsX1_send wsX1_message := goodIn_r _ [11, 12, 17, 18, 19, 20, 21, 22, 23, 24, 25, 26, 27, 28, 29, 30, 31, 32, 33, 34, 35, 36] (by decide +kernel) (by decide +kernel)
set_option maxRecDepth 20000 in
theorem gX1_send_X1_message : GoodIn wsX1_send (wsV RX1 83 RX1 yX1_message wsX1_message) := goodIn_app (goodIn_of _ (by decide +kernel)) ggX1_send_X1_message
set_option maxRecDepth 20000 in
theorem ggX1_send_X1_isBetter : GoodIn wsX1_send wsX1_isBetter := goodIn_r _ [16, 12, 17, 18, 19, 20, 21, 22, 23, 24, 25, 26, 27, 28, 29, 30, 31, 32, 33, 34, 35, 36] (by decide +kernel) (by decide +kernel)
set_option maxRecDepth 20000 in
theorem gX1_send_X1_isBetter : GoodIn wsX1_send (wsV RX1 87 RX1 yX1_isBetter wsX1_isBetter) := goodIn_app (goodIn_of _ (by decide +kernel)) ggX1_send_X1_isBetter
theorem dX1_send_0 : decode cX1_send 0 = .ok (.aload_n 0, 1) := by decide +kernel
theorem dX1_send_1 : decode cX1_send 1 = .ok (.getfield 46, 3) := by decide +kernel
theorem dX1_send_4 : decode cX1_send 4 = .ok (.iload_n 1, 1) := by decide +kernel
theorem dX1_send_5 : decode cX1_send 5 = .ok (.baload, 1) := by decide +kernel
theorem dX1_send_6 : decode cX1_send 6 = .ok (.ifCond .ne 4, 3) := by decide +kernel
theorem dX1_send_9 : decode cX1_send 9 = .ok (.return_, 1) := by decide +kernel
theorem dX1_send_10 : decode cX1_send 10 = .ok (.aload_n 0, 1) := by decide +kernel
theorem dX1_send_11 : decode cX1_send 11 = .ok (.aload_n 0, 1) := by decide +kernel
theorem dX1_send_12 : decode cX1_send 12 = .ok (.getfield 59, 3) := by decide +kernel
theorem dX1_send_15 : decode cX1_send 15 = .ok (.iconst 1, 1) := by decide +kernel
theorem dX1_send_16 : decode cX1_send 16 = .ok (.iadd, 1) := by decide +kernel
theorem dX1_send_17 : decode cX1_send 17 = .ok (.putfield 59, 3) := by decide +kernel
theorem dX1_send_20 : decode cX1_send 20 = .ok (.iconst 4, 1) := by decide +kernel
theorem dX1_send_21 : decode cX1_send 21 = .ok (.iload_n 2, 1) := by decide +kernel
theorem dX1_send_22 : decode cX1_send 22 = .ok (.imul, 1) := by decide +kernel
theorem dX1_send_23 : decode cX1_send 23 = .ok (.iload_n 1, 1) := by decide +kernel
theorem dX1_send_24 : decode cX1_send 24 = .ok (.aload_n 0, 1) := by decide +kernel
theorem dX1_send_25 : decode cX1_send 25 = .ok (.getfield 24, 3) := by decide +kernel
theorem dX1_send_28 : decode cX1_send 28 = .ok (.irem, 1) := by decide +kernel
theorem dX1_send_29 : decode cX1_send 29 = .ok (.iadd, 1) := by decide +kernel
theorem dX1_send_30 : decode cX1_send 30 = .ok (.istore 5, 2) := by decide +kernel
theorem dX1_send_32 : decode cX1_send 32 = .ok (.aload_n 0, 1) := by decide +kernel
theorem dX1_send_33 : decode cX1_send 33 = .ok (.aload_n 0, 1) := by decide +kernel
theorem dX1_send_34 : decode cX1_send 34 = .ok (.getfield 27, 3) := by decide +kernel
theorem dX1_send_37 : decode cX1_send 37 = .ok (.iload_n 1, 1) := by decide +kernel
theorem dX1_send_38 : decode cX1_send 38 = .ok (.daload, 1) := by decide +kernel
theorem dX1_send_39 : decode cX1_send 39 = .ok (.dload_n 3, 1) := by decide +kernel
theorem dX1_send_40 : decode cX1_send 40 = .ok (.invokevirtual 83, 3) := by decide +kernel
theorem dX1_send_43 : decode cX1_send 43 = .ok (.dstore 6, 2) := by decide +kernel
theorem dX1_send_45 : decode cX1_send 45 = .ok (.aload_n 0, 1) := by decide +kernel
theorem dX1_send_46 : decode cX1_send 46 = .ok (.getfield 43, 3) := by decide +kernel
theorem dX1_send_49 : decode cX1_send 49 = .ok (.iload 5, 2) := by decide +kernel
theorem dX1_send_51 : decode cX1_send 51 = .ok (.baload, 1) := by decide +kernel
theorem dX1_send_52 : decode cX1_send 52 = .ok (.ifCond .eq 19, 3) := by decide +kernel
theorem dX1_send_55 : decode cX1_send 55 = .ok (.aload_n 0, 1) := by decide +kernel
theorem dX1_send_56 : decode cX1_send 56 = .ok (.dload 6, 2) := by decide +kernel
theorem dX1_send_58 : decode cX1_send 58 = .ok (.aload_n 0, 1) := by decide +kernel
theorem dX1_send_59 : decode cX1_send 59 = .ok (.getfield 40, 3) := by decide +kernel
theorem dX1_send_62 : decode cX1_send 62 = .ok (.iload 5, 2) := by decide +kernel
theorem dX1_send_64 : decode cX1_send 64 = .ok (.daload, 1) := by decide +kernel
theorem dX1_send_65 : decode cX1_send 65 = .ok (.invokevirtual 87, 3) := by decide +kernel
theorem dX1_send_68 : decode cX1_send 68 = .ok (.ifCond .eq 12, 3) := by decide +kernel
theorem dX1_send_71 : decode cX1_send 71 = .ok (.aload_n 0, 1) := by decide +kernel
theorem dX1_send_72 : decode cX1_send 72 = .ok (.getfield 40, 3) := by decide +kernel
theorem dX1_send_75 : decode cX1_send 75 = .ok (.iload 5, 2) := by decide +kernel
theorem dX1_send_77 : decode cX1_send 77 = .ok (.dload 6, 2) := by decide +kernel
theorem dX1_send_79 : decode cX1_send 79 = .ok (.dastore, 1) := by decide +kernel
theorem dX1_send_80 : decode cX1_send 80 = .ok (.aload_n 0, 1) := by decide +kernel
theorem dX1_send_81 : decode cX1_send 81 = .ok (.getfield 43, 3) := by decide +kernel
theorem dX1_send_84 : decode cX1_send 84 = .ok (.iload 5, 2) := by decide +kernel
theorem dX1_send_86 : decode cX1_send 86 = .ok (.iconst 1, 1) := by decide +kernel
theorem dX1_send_87 : decode cX1_send 87 = .ok (.bastore, 1) := by decide +kernel
theorem dX1_send_88 : decode cX1_send 88 = .ok (.return_, 1) := by decide +kernel
set_option maxRecDepth 20000 in
theorem ggX1_sendAll_X1_send : GoodIn wsX1_sendAll wsX1_send := goodIn_r _ [17, 18, 19, 9, 20, 1, 8, 21, 22, 23, 16, 24, 25, 26, 27, 28, 29, 30, 31, 32, 33, 34, 35, 36, 37, 38, 39, 40, 41, 42, 43, 44, 45, 46, 47, 48, 49] (by decide +kernel) (by decide +kernel)
set_option maxRecDepth 20000 in
theorem gX1_sendAll_X1_send : GoodIn wsX1_sendAll (wsV RX1 91 RX1 yX1_send wsX1_send) := goodIn_app (goodIn_of _ (by decide +kernel)) ggX1_sendAll_X1_send
theorem dX1_sendAll_0 : decode cX1_sendAll 0 = .ok (.iconst 0, 1) := by decide +kernel
theorem dX1_sendAll_1 : decode cX1_sendAll 1 = .ok (.istore_n 1, 1) := by decide +kernel
theorem dX1_sendAll_2 : decode cX1_sendAll 2 = .ok (.iload_n 1, 1) := by decide +kernel
theorem dX1_sendAll_3 : decode cX1_sendAll 3 = .ok (.bipush 48, 2) := by decide +kernel
theorem dX1_sendAll_5 : decode cX1_sendAll 5 = .ok (.if_icmp .ge 16, 3) := by decide +kernel
theorem dX1_sendAll_8 : decode cX1_sendAll 8 = .ok (.aload_n 0, 1) := by decide +kernel
theorem dX1_sendAll_9 : decode cX1_sendAll 9 = .ok (.getfield 43, 3) := by decide +kernel
theorem dX1_sendAll_12 : decode cX1_sendAll 12 = .ok (.iload_n 1, 1) := by decide +kernel
theorem dX1_sendAll_13 : decode cX1_sendAll 13 = .ok (.iconst 0, 1) := by decide +kernel
theorem dX1_sendAll_14 : decode cX1_sendAll 14 = .ok (.bastore, 1) := by decide +kernel
theorem dX1_sendAll_15 : decode cX1_sendAll 15 = .ok (.iinc 1 1, 3) := by decide +kernel
theorem dX1_sendAll_18 : decode cX1_sendAll 18 = .ok (.goto (-16), 3) := by decide +kernel
theorem dX1_sendAll_21 : decode cX1_sendAll 21 = .ok (.iconst 0, 1) := by decide +kernel
theorem dX1_sendAll_22 : decode cX1_sendAll 22 = .ok (.istore_n 1, 1) := by decide +kernel
theorem dX1_sendAll_23 : decode cX1_sendAll 23 = .ok (.iload_n 1, 1) := by decide +kernel
theorem dX1_sendAll_24 : decode cX1_sendAll 24 = .ok (.aload_n 0, 1) := by decide +kernel
theorem dX1_sendAll_25 : decode cX1_sendAll 25 = .ok (.getfield 68, 3) := by decide +kernel
theorem dX1_sendAll_28 : decode cX1_sendAll 28 = .ok (.if_icmp .ge 53, 3) := by decide +kernel
theorem dX1_sendAll_31 : decode cX1_sendAll 31 = .ok (.aload_n 0, 1) := by decide +kernel
theorem dX1_sendAll_32 : decode cX1_sendAll 32 = .ok (.aload_n 0, 1) := by decide +kernel
theorem dX1_sendAll_33 : decode cX1_sendAll 33 = .ok (.getfield 7, 3) := by decide +kernel
theorem dX1_sendAll_36 : decode cX1_sendAll 36 = .ok (.iload_n 1, 1) := by decide +kernel
theorem dX1_sendAll_37 : decode cX1_sendAll 37 = .ok (.iaload, 1) := by decide +kernel
theorem dX1_sendAll_38 : decode cX1_sendAll 38 = .ok (.aload_n 0, 1) := by decide +kernel
theorem dX1_sendAll_39 : decode cX1_sendAll 39 = .ok (.getfield 13, 3) := by decide +kernel
theorem dX1_sendAll_42 : decode cX1_sendAll 42 = .ok (.iload_n 1, 1) := by decide +kernel
theorem dX1_sendAll_43 : decode cX1_sendAll 43 = .ok (.iaload, 1) := by decide +kernel
theorem dX1_sendAll_44 : decode cX1_sendAll 44 = .ok (.aload_n 0, 1) := by decide +kernel
theorem dX1_sendAll_45 : decode cX1_sendAll 45 = .ok (.getfield 16, 3) := by decide +kernel
theorem dX1_sendAll_48 : decode cX1_sendAll 48 = .ok (.iload_n 1, 1) := by decide +kernel
theorem dX1_sendAll_49 : decode cX1_sendAll 49 = .ok (.daload, 1) := by decide +kernel
theorem dX1_sendAll_50 : decode cX1_sendAll 50 = .ok (.invokevirtual 91, 3) := by decide +kernel
theorem dX1_sendAll_53 : decode cX1_sendAll 53 = .ok (.aload_n 0, 1) := by decide +kernel
theorem dX1_sendAll_54 : decode cX1_sendAll 54 = .ok (.aload_n 0, 1) := by decide +kernel
theorem dX1_sendAll_55 : decode cX1_sendAll 55 = .ok (.getfield 13, 3) := by decide +kernel
theorem dX1_sendAll_58 : decode cX1_sendAll 58 = .ok (.iload_n 1, 1) := by decide +kernel
theorem dX1_sendAll_59 : decode cX1_sendAll 59 = .ok (.iaload, 1) := by decide +kernel
theorem dX1_sendAll_60 : decode cX1_sendAll 60 = .ok (.aload_n 0, 1) := by decide +kernel
theorem dX1_sendAll_61 : decode cX1_sendAll 61 = .ok (.getfield 7, 3) := by decide +kernel
theorem dX1_sendAll_64 : decode cX1_sendAll 64 = .ok (.iload_n 1, 1) := by decide +kernel
theorem dX1_sendAll_65 : decode cX1_sendAll 65 = .ok (.iaload, 1) := by decide +kernel
theorem dX1_sendAll_66 : decode cX1_sendAll 66 = .ok (.aload_n 0, 1) := by decide +kernel
theorem dX1_sendAll_67 : decode cX1_sendAll 67 = .ok (.getfield 16, 3) := by decide +kernel
theorem dX1_sendAll_70 : decode cX1_sendAll 70 = .ok (.iload_n 1, 1) := by decide +kernel
theorem dX1_sendAll_71 : decode cX1_sendAll 71 = .ok (.daload, 1) := by decide +kernel
theorem dX1_sendAll_72 : decode cX1_sendAll 72 = .ok (.invokevirtual 91, 3) := by decide +kernel
theorem dX1_sendAll_75 : decode cX1_sendAll 75 = .ok (.iinc 1 1, 3) := by decide +kernel
theorem dX1_sendAll_78 : decode cX1_sendAll 78 = .ok (.goto (-55), 3) := by decide +kernel
theorem dX1_sendAll_81 : decode cX1_sendAll 81 = .ok (.iconst 0, 1) := by decide +kernel
theorem dX1_sendAll_82 : decode cX1_sendAll 82 = .ok (.istore_n 1, 1) := by decide +kernel
theorem dX1_sendAll_83 : decode cX1_sendAll 83 = .ok (.iconst 0, 1) := by decide +kernel
theorem dX1_sendAll_84 : decode cX1_sendAll 84 = .ok (.istore_n 2, 1) := by decide +kernel
theorem dX1_sendAll_85 : decode cX1_sendAll 85 = .ok (.iload_n 2, 1) := by decide +kernel
theorem dX1_sendAll_86 : decode cX1_sendAll 86 = .ok (.bipush 48, 2) := by decide +kernel
theorem dX1_sendAll_88 : decode cX1_sendAll 88 = .ok (.if_icmp .ge 73, 3) := by decide +kernel
theorem dX1_sendAll_91 : decode cX1_sendAll 91 = .ok (.aload_n 0, 1) := by decide +kernel
theorem dX1_sendAll_92 : decode cX1_sendAll 92 = .ok (.getfield 37, 3) := by decide +kernel
theorem dX1_sendAll_95 : decode cX1_sendAll 95 = .ok (.iload_n 2, 1) := by decide +kernel
theorem dX1_sendAll_96 : decode cX1_sendAll 96 = .ok (.aload_n 0, 1) := by decide +kernel
theorem dX1_sendAll_97 : decode cX1_sendAll 97 = .ok (.getfield 43, 3) := by decide +kernel
theorem dX1_sendAll_100 : decode cX1_sendAll 100 = .ok (.iload_n 2, 1) := by decide +kernel
theorem dX1_sendAll_101 : decode cX1_sendAll 101 = .ok (.baload, 1) := by decide +kernel
theorem dX1_sendAll_102 : decode cX1_sendAll 102 = .ok (.bastore, 1) := by decide +kernel
theorem dX1_sendAll_103 : decode cX1_sendAll 103 = .ok (.aload_n 0, 1) := by decide +kernel
theorem dX1_sendAll_104 : decode cX1_sendAll 104 = .ok (.getfield 34, 3) := by decide +kernel
theorem dX1_sendAll_107 : decode cX1_sendAll 107 = .ok (.iload_n 2, 1) := by decide +kernel
theorem dX1_sendAll_108 : decode cX1_sendAll 108 = .ok (.aload_n 0, 1) := by decide +kernel
theorem dX1_sendAll_109 : decode cX1_sendAll 109 = .ok (.getfield 40, 3) := by decide +kernel
theorem dX1_sendAll_112 : decode cX1_sendAll 112 = .ok (.iload_n 2, 1) := by decide +kernel
theorem dX1_sendAll_113 : decode cX1_sendAll 113 = .ok (.daload, 1) := by decide +kernel
theorem dX1_sendAll_114 : decode cX1_sendAll 114 = .ok (.dastore, 1) := by decide +kernel
theorem dX1_sendAll_115 : decode cX1_sendAll 115 = .ok (.aload_n 0, 1) := by decide +kernel
theorem dX1_sendAll_116 : decode cX1_sendAll 116 = .ok (.getfield 43, 3) := by decide +kernel
theorem dX1_sendAll_119 : decode cX1_sendAll 119 = .ok (.iload_n 2, 1) := by decide +kernel
theorem dX1_sendAll_120 : decode cX1_sendAll 120 = .ok (.baload, 1) := by decide +kernel
theorem dX1_sendAll_121 : decode cX1_sendAll 121 = .ok (.ifCond .ne 6, 3) := by decide +kernel
theorem dX1_sendAll_124 : decode cX1_sendAll 124 = .ok (.goto 31, 3) := by decide +kernel
theorem dX1_sendAll_127 : decode cX1_sendAll 127 = .ok (.iload_n 1, 1) := by decide +kernel
theorem dX1_sendAll_128 : decode cX1_sendAll 128 = .ok (.iconst 1, 1) := by decide +kernel
theorem dX1_sendAll_129 : decode cX1_sendAll 129 = .ok (.iadd, 1) := by decide +kernel
theorem dX1_sendAll_130 : decode cX1_sendAll 130 = .ok (.istore_n 1, 1) := by decide +kernel
theorem dX1_sendAll_131 : decode cX1_sendAll 131 = .ok (.iload_n 2, 1) := by decide +kernel
theorem dX1_sendAll_132 : decode cX1_sendAll 132 = .ok (.iconst 4, 1) := by decide +kernel
theorem dX1_sendAll_133 : decode cX1_sendAll 133 = .ok (.irem, 1) := by decide +kernel
theorem dX1_sendAll_134 : decode cX1_sendAll 134 = .ok (.iload_n 2, 1) := by decide +kernel
theorem dX1_sendAll_135 : decode cX1_sendAll 135 = .ok (.iconst 4, 1) := by decide +kernel
theorem dX1_sendAll_136 : decode cX1_sendAll 136 = .ok (.idiv, 1) := by decide +kernel
theorem dX1_sendAll_137 : decode cX1_sendAll 137 = .ok (.aload_n 0, 1) := by decide +kernel
theorem dX1_sendAll_138 : decode cX1_sendAll 138 = .ok (.getfield 24, 3) := by decide +kernel
theorem dX1_sendAll_141 : decode cX1_sendAll 141 = .ok (.irem, 1) := by decide +kernel
theorem dX1_sendAll_142 : decode cX1_sendAll 142 = .ok (.if_icmp .eq 13, 3) := by decide +kernel
theorem dX1_sendAll_145 : decode cX1_sendAll 145 = .ok (.aload_n 0, 1) := by decide +kernel
theorem dX1_sendAll_146 : decode cX1_sendAll 146 = .ok (.aload_n 0, 1) := by decide +kernel
theorem dX1_sendAll_147 : decode cX1_sendAll 147 = .ok (.getfield 65, 3) := by decide +kernel
theorem dX1_sendAll_150 : decode cX1_sendAll 150 = .ok (.iconst 1, 1) := by decide +kernel
theorem dX1_sendAll_151 : decode cX1_sendAll 151 = .ok (.iadd, 1) := by decide +kernel
theorem dX1_sendAll_152 : decode cX1_sendAll 152 = .ok (.putfield 65, 3) := by decide +kernel
theorem dX1_sendAll_155 : decode cX1_sendAll 155 = .ok (.iinc 2 1, 3) := by decide +kernel
theorem dX1_sendAll_158 : decode cX1_sendAll 158 = .ok (.goto (-73), 3) := by decide +kernel
theorem dX1_sendAll_161 : decode cX1_sendAll 161 = .ok (.aload_n 0, 1) := by decide +kernel
theorem dX1_sendAll_162 : decode cX1_sendAll 162 = .ok (.aload_n 0, 1) := by decide +kernel
theorem dX1_sendAll_163 : decode cX1_sendAll 163 = .ok (.getfield 62, 3) := by decide +kernel
theorem dX1_sendAll_166 : decode cX1_sendAll 166 = .ok (.iload_n 1, 1) := by decide +kernel
theorem dX1_sendAll_167 : decode cX1_sendAll 167 = .ok (.iadd, 1) := by decide +kernel
theorem dX1_sendAll_168 : decode cX1_sendAll 168 = .ok (.putfield 62, 3) := by decide +kernel
theorem dX1_sendAll_171 : decode cX1_sendAll 171 = .ok (.aload_n 0, 1) := by decide +kernel
theorem dX1_sendAll_172 : decode cX1_sendAll 172 = .ok (.aload_n 0, 1) := by decide +kernel
theorem dX1_sendAll_173 : decode cX1_sendAll 173 = .ok (.getfield 56, 3) := by decide +kernel
theorem dX1_sendAll_176 : decode cX1_sendAll 176 = .ok (.iconst 1, 1) := by decide +kernel
theorem dX1_sendAll_177 : decode cX1_sendAll 177 = .ok (.iadd, 1) := by decide +kernel
theorem dX1_sendAll_178 : decode cX1_sendAll 178 = .ok (.putfield 56, 3) := by decide +kernel
theorem dX1_sendAll_181 : decode cX1_sendAll 181 = .ok (.iload_n 1, 1) := by decide +kernel
theorem dX1_sendAll_182 : decode cX1_sendAll 182 = .ok (.ireturn, 1) := by decide +kernel
set_option maxRecDepth 20000 in
theorem ggX1_begin_X1_isVertex : GoodIn wsX1_begin wsX1_isVertex := goodIn_r _ [13, 4, 47, 48, 49, 50, 51, 52, 53, 54, 55, 56, 57, 58, 59, 60, 61, 62, 63, 64, 65, 66] (by decide +kernel) (by decide +kernel)
set_option maxRecDepth 20000 in
theorem gX1_begin_X1_isVertex : GoodIn wsX1_begin (wsV RX1 74 RX1 yX1_isVertex wsX1_isVertex) := goodIn_app (goodIn_of _ (by decide +kernel)) ggX1_begin_X1_isVertex
set_option maxRecDepth 20000 in
theorem ggX1_begin_X1_forget : GoodIn wsX1_begin wsX1_forget := goodIn_r _ [17, 2, 18, 19, 20, 21, 22, 5, 47, 48, 49, 50, 51, 52, 53, 54, 55, 56, 57, 58, 59, 60, 61, 62, 63, 64, 65, 66] (by decide +kernel) (by decide +kernel)
set_option maxRecDepth 20000 in
theorem gX1_begin_X1_forget : GoodIn wsX1_begin (wsV RX1 71 RX1 yX1_forget wsX1_forget) := goodIn_app (goodIn_of _ (by decide +kernel)) ggX1_begin_X1_forget
set_option maxRecDepth 20000 in
theorem ggX1_begin_X1_sendAll : GoodIn wsX1_begin wsX1_sendAll := goodIn_r _ [26, 27, 28, 29, 30, 31, 22, 32, 33, 34, 21, 20, 18, 35, 36, 37, 12, 38, 8, 19, 6, 39, 40, 41, 42, 3, 43, 44, 45, 46, 47, 48, 49, 50, 51, 52, 53, 54, 55, 56, 57, 58, 59, 60, 61, 62, 63, 64, 65, 66] (by decide +kernel) (by decide +kernel)
set_option maxRecDepth 20000 in
theorem gX1_begin_X1_sendAll : GoodIn wsX1_begin (wsV RX1 95 RX1 yX1_sendAll wsX1_sendAll) := goodIn_app (goodIn_of _ (by decide +kernel)) ggX1_begin_X1_sendAll
theorem dX1_begin_0 : decode cX1_begin 0 = .ok (.aload_n 0, 1) := by decide +kernel
theorem dX1_begin_1 : decode cX1_begin 1 = .ok (.iload_n 1, 1) := by decide +kernel
theorem dX1_begin_2 : decode cX1_begin 2 = .ok (.ifCond .lt 16, 3) := by decide +kernel
theorem dX1_begin_5 : decode cX1_begin 5 = .ok (.iload_n 1, 1) := by decide +kernel
theorem dX1_begin_6 : decode cX1_begin 6 = .ok (.iconst 3, 1) := by decide +kernel
theorem dX1_begin_7 : decode cX1_begin 7 = .ok (.if_icmp .gt 11, 3) := by decide +kernel
theorem dX1_begin_10 : decode cX1_begin 10 = .ok (.aload_n 0, 1) := by decide +kernel
theorem dX1_begin_11 : decode cX1_begin 11 = .ok (.iload_n 2, 1) := by decide +kernel
theorem dX1_begin_12 : decode cX1_begin 12 = .ok (.invokevirtual 74, 3) := by decide +kernel
theorem dX1_begin_15 : decode cX1_begin 15 = .ok (.ifCond .ne 7, 3) := by decide +kernel
theorem dX1_begin_18 : decode cX1_begin 18 = .ok (.iconst 1, 1) := by decide +kernel
theorem dX1_begin_19 : decode cX1_begin 19 = .ok (.goto 4, 3) := by decide +kernel
theorem dX1_begin_22 : decode cX1_begin 22 = .ok (.iconst 0, 1) := by decide +kernel
theorem dX1_begin_23 : decode cX1_begin 23 = .ok (.putfield 49, 3) := by decide +kernel
theorem dX1_begin_26 : decode cX1_begin 26 = .ok (.aload_n 0, 1) := by decide +kernel
theorem dX1_begin_27 : decode cX1_begin 27 = .ok (.getfield 49, 3) := by decide +kernel
theorem dX1_begin_30 : decode cX1_begin 30 = .ok (.ifCond .le 5, 3) := by decide +kernel
theorem dX1_begin_33 : decode cX1_begin 33 = .ok (.iconst 0, 1) := by decide +kernel
theorem dX1_begin_34 : decode cX1_begin 34 = .ok (.ireturn, 1) := by decide +kernel
theorem dX1_begin_35 : decode cX1_begin 35 = .ok (.aload_n 0, 1) := by decide +kernel
theorem dX1_begin_36 : decode cX1_begin 36 = .ok (.invokevirtual 71, 3) := by decide +kernel
theorem dX1_begin_39 : decode cX1_begin 39 = .ok (.aload_n 0, 1) := by decide +kernel
theorem dX1_begin_40 : decode cX1_begin 40 = .ok (.iconst 1, 1) := by decide +kernel
theorem dX1_begin_41 : decode cX1_begin 41 = .ok (.putfield 52, 3) := by decide +kernel
theorem dX1_begin_44 : decode cX1_begin 44 = .ok (.aload_n 0, 1) := by decide +kernel
theorem dX1_begin_45 : decode cX1_begin 45 = .ok (.iload_n 1, 1) := by decide +kernel
theorem dX1_begin_46 : decode cX1_begin 46 = .ok (.putfield 80, 3) := by decide +kernel
theorem dX1_begin_49 : decode cX1_begin 49 = .ok (.iconst 0, 1) := by decide +kernel
theorem dX1_begin_50 : decode cX1_begin 50 = .ok (.istore_n 3, 1) := by decide +kernel
theorem dX1_begin_51 : decode cX1_begin 51 = .ok (.iload_n 3, 1) := by decide +kernel
theorem dX1_begin_52 : decode cX1_begin 52 = .ok (.aload_n 0, 1) := by decide +kernel
theorem dX1_begin_53 : decode cX1_begin 53 = .ok (.getfield 20, 3) := by decide +kernel
theorem dX1_begin_56 : decode cX1_begin 56 = .ok (.if_icmp .ge 70, 3) := by decide +kernel
theorem dX1_begin_59 : decode cX1_begin 59 = .ok (.aload_n 0, 1) := by decide +kernel
theorem dX1_begin_60 : decode cX1_begin 60 = .ok (.getfield 30, 3) := by decide +kernel
theorem dX1_begin_63 : decode cX1_begin 63 = .ok (.iload_n 3, 1) := by decide +kernel
theorem dX1_begin_64 : decode cX1_begin 64 = .ok (.iload_n 1, 1) := by decide +kernel
theorem dX1_begin_65 : decode cX1_begin 65 = .ok (.iconst 1, 1) := by decide +kernel
theorem dX1_begin_66 : decode cX1_begin 66 = .ok (.if_icmp .eq 8, 3) := by decide +kernel
theorem dX1_begin_69 : decode cX1_begin 69 = .ok (.iload_n 3, 1) := by decide +kernel
theorem dX1_begin_70 : decode cX1_begin 70 = .ok (.iload_n 2, 1) := by decide +kernel
theorem dX1_begin_71 : decode cX1_begin 71 = .ok (.if_icmp .ne 7, 3) := by decide +kernel
theorem dX1_begin_74 : decode cX1_begin 74 = .ok (.iconst 1, 1) := by decide +kernel
theorem dX1_begin_75 : decode cX1_begin 75 = .ok (.goto 4, 3) := by decide +kernel
theorem dX1_begin_78 : decode cX1_begin 78 = .ok (.iconst 0, 1) := by decide +kernel
theorem dX1_begin_79 : decode cX1_begin 79 = .ok (.bastore, 1) := by decide +kernel
theorem dX1_begin_80 : decode cX1_begin 80 = .ok (.aload_n 0, 1) := by decide +kernel
theorem dX1_begin_81 : decode cX1_begin 81 = .ok (.getfield 27, 3) := by decide +kernel
theorem dX1_begin_84 : decode cX1_begin 84 = .ok (.iload_n 3, 1) := by decide +kernel
theorem dX1_begin_85 : decode cX1_begin 85 = .ok (.iload_n 1, 1) := by decide +kernel
theorem dX1_begin_86 : decode cX1_begin 86 = .ok (.iconst 1, 1) := by decide +kernel
theorem dX1_begin_87 : decode cX1_begin 87 = .ok (.if_icmp .ne 8, 3) := by decide +kernel
theorem dX1_begin_90 : decode cX1_begin 90 = .ok (.iload_n 3, 1) := by decide +kernel
theorem dX1_begin_91 : decode cX1_begin 91 = .ok (.i2d, 1) := by decide +kernel
theorem dX1_begin_92 : decode cX1_begin 92 = .ok (.goto 15, 3) := by decide +kernel
theorem dX1_begin_95 : decode cX1_begin 95 = .ok (.iload_n 1, 1) := by decide +kernel
theorem dX1_begin_96 : decode cX1_begin 96 = .ok (.iconst 3, 1) := by decide +kernel
theorem dX1_begin_97 : decode cX1_begin 97 = .ok (.if_icmp .ne 9, 3) := by decide +kernel
theorem dX1_begin_100 : decode cX1_begin 100 = .ok (.ldc2_w 78, 3) := by decide +kernel
theorem dX1_begin_103 : decode cX1_begin 103 = .ok (.goto 4, 3) := by decide +kernel
theorem dX1_begin_106 : decode cX1_begin 106 = .ok (.dconst 0, 1) := by decide +kernel
theorem dX1_begin_107 : decode cX1_begin 107 = .ok (.dastore, 1) := by decide +kernel
theorem dX1_begin_108 : decode cX1_begin 108 = .ok (.aload_n 0, 1) := by decide +kernel
theorem dX1_begin_109 : decode cX1_begin 109 = .ok (.getfield 46, 3) := by decide +kernel
theorem dX1_begin_112 : decode cX1_begin 112 = .ok (.iload_n 3, 1) := by decide +kernel
theorem dX1_begin_113 : decode cX1_begin 113 = .ok (.aload_n 0, 1) := by decide +kernel
theorem dX1_begin_114 : decode cX1_begin 114 = .ok (.getfield 30, 3) := by decide +kernel
theorem dX1_begin_117 : decode cX1_begin 117 = .ok (.iload_n 3, 1) := by decide +kernel
theorem dX1_begin_118 : decode cX1_begin 118 = .ok (.baload, 1) := by decide +kernel
theorem dX1_begin_119 : decode cX1_begin 119 = .ok (.bastore, 1) := by decide +kernel
theorem dX1_begin_120 : decode cX1_begin 120 = .ok (.iinc 3 1, 3) := by decide +kernel
theorem dX1_begin_123 : decode cX1_begin 123 = .ok (.goto (-72), 3) := by decide +kernel
theorem dX1_begin_126 : decode cX1_begin 126 = .ok (.aload_n 0, 1) := by decide +kernel
theorem dX1_begin_127 : decode cX1_begin 127 = .ok (.invokevirtual 95, 3) := by decide +kernel
theorem dX1_begin_130 : decode cX1_begin 130 = .ok (.ireturn, 1) := by decide +kernel
theorem dX1_isAny_0 : decode cX1_isAny 0 = .ok (.iconst 0, 1) := by decide +kernel
theorem dX1_isAny_1 : decode cX1_isAny 1 = .ok (.istore_n 1, 1) := by decide +kernel
theorem dX1_isAny_2 : decode cX1_isAny 2 = .ok (.iload_n 1, 1) := by decide +kernel
theorem dX1_isAny_3 : decode cX1_isAny 3 = .ok (.bipush 48, 2) := by decide +kernel
theorem dX1_isAny_5 : decode cX1_isAny 5 = .ok (.if_icmp .ge 20, 3) := by decide +kernel
theorem dX1_isAny_8 : decode cX1_isAny 8 = .ok (.aload_n 0, 1) := by decide +kernel
theorem dX1_isAny_9 : decode cX1_isAny 9 = .ok (.getfield 37, 3) := by decide +kernel
theorem dX1_isAny_12 : decode cX1_isAny 12 = .ok (.iload_n 1, 1) := by decide +kernel
theorem dX1_isAny_13 : decode cX1_isAny 13 = .ok (.baload, 1) := by decide +kernel
theorem dX1_isAny_14 : decode cX1_isAny 14 = .ok (.ifCond .eq 5, 3) := by decide +kernel
theorem dX1_isAny_17 : decode cX1_isAny 17 = .ok (.iconst 1, 1) := by decide +kernel
theorem dX1_isAny_18 : decode cX1_isAny 18 = .ok (.ireturn, 1) := by decide +kernel
theorem dX1_isAny_19 : decode cX1_isAny 19 = .ok (.iinc 1 1, 3) := by decide +kernel
theorem dX1_isAny_22 : decode cX1_isAny 22 = .ok (.goto (-20), 3) := by decide +kernel
theorem dX1_isAny_25 : decode cX1_isAny 25 = .ok (.iconst 0, 1) := by decide +kernel
theorem dX1_isAny_26 : decode cX1_isAny 26 = .ok (.ireturn, 1) := by decide +kernel
set_option maxRecDepth 20000 in
theorem ggX1_one_X1_isBetter : GoodIn wsX1_one wsX1_isBetter := goodIn_r _ [11, 12, 36, 37, 38, 39, 40, 41, 42, 43, 44, 45, 46, 47, 48, 49, 50, 51, 52, 53, 54, 55] (by decide +kernel) (by decide +kernel)
set_option maxRecDepth 20000 in
theorem gX1_one_X1_isBetter : GoodIn wsX1_one (wsV RX1 87 RX1 yX1_isBetter wsX1_isBetter) := goodIn_app (goodIn_of _ (by decide +kernel)) ggX1_one_X1_isBetter
set_option maxRecDepth 20000 in
theorem ggX1_one_X1_sendAll : GoodIn wsX1_one wsX1_sendAll := goodIn_r _ [16, 17, 18, 19, 20, 21, 3, 4, 22, 23, 24, 25, 26, 27, 28, 29, 10, 30, 2, 31, 6, 32, 33, 34, 35, 12, 7, 8, 9, 11, 36, 37, 38, 39, 40, 41, 42, 43, 44, 45, 46, 47, 48, 49, 50, 51, 52, 53, 54, 55] (by decide +kernel) (by decide +kernel)
set_option maxRecDepth 20000 in
theorem gX1_one_X1_sendAll : GoodIn wsX1_one (wsV RX1 95 RX1 yX1_sendAll wsX1_sendAll) := goodIn_app (goodIn_of _ (by decide +kernel)) ggX1_one_X1_sendAll
theorem dX1_one_0 : decode cX1_one 0 = .ok (.iconst 0, 1) := by decide +kernel
theorem dX1_one_1 : decode cX1_one 1 = .ok (.istore_n 1, 1) := by decide +kernel
theorem dX1_one_2 : decode cX1_one 2 = .ok (.iconst 0, 1) := by decide +kernel
theorem dX1_one_3 : decode cX1_one 3 = .ok (.istore_n 2, 1) := by decide +kernel
theorem dX1_one_4 : decode cX1_one 4 = .ok (.iload_n 2, 1) := by decide +kernel
theorem dX1_one_5 : decode cX1_one 5 = .ok (.aload_n 0, 1) := by decide +kernel
theorem dX1_one_6 : decode cX1_one 6 = .ok (.getfield 20, 3) := by decide +kernel
theorem dX1_one_9 : decode cX1_one 9 = .ok (.if_icmp .ge 122, 3) := by decide +kernel
theorem dX1_one_12 : decode cX1_one 12 = .ok (.aload_n 0, 1) := by decide +kernel
theorem dX1_one_13 : decode cX1_one 13 = .ok (.getfield 46, 3) := by decide +kernel
theorem dX1_one_16 : decode cX1_one 16 = .ok (.iload_n 2, 1) := by decide +kernel
theorem dX1_one_17 : decode cX1_one 17 = .ok (.iconst 0, 1) := by decide +kernel
theorem dX1_one_18 : decode cX1_one 18 = .ok (.bastore, 1) := by decide +kernel
theorem dX1_one_19 : decode cX1_one 19 = .ok (.iconst 0, 1) := by decide +kernel
theorem dX1_one_20 : decode cX1_one 20 = .ok (.istore_n 3, 1) := by decide +kernel
theorem dX1_one_21 : decode cX1_one 21 = .ok (.iconst 0, 1) := by decide +kernel
theorem dX1_one_22 : decode cX1_one 22 = .ok (.istore 4, 2) := by decide +kernel
theorem dX1_one_24 : decode cX1_one 24 = .ok (.iload 4, 2) := by decide +kernel
theorem dX1_one_26 : decode cX1_one 26 = .ok (.iconst 4, 1) := by decide +kernel
theorem dX1_one_27 : decode cX1_one 27 = .ok (.if_icmp .ge 90, 3) := by decide +kernel
theorem dX1_one_30 : decode cX1_one 30 = .ok (.aload_n 0, 1) := by decide +kernel
theorem dX1_one_31 : decode cX1_one 31 = .ok (.getfield 37, 3) := by decide +kernel
theorem dX1_one_34 : decode cX1_one 34 = .ok (.iconst 4, 1) := by decide +kernel
theorem dX1_one_35 : decode cX1_one 35 = .ok (.iload_n 2, 1) := by decide +kernel
theorem dX1_one_36 : decode cX1_one 36 = .ok (.imul, 1) := by decide +kernel
theorem dX1_one_37 : decode cX1_one 37 = .ok (.iload 4, 2) := by decide +kernel
theorem dX1_one_39 : decode cX1_one 39 = .ok (.iadd, 1) := by decide +kernel
theorem dX1_one_40 : decode cX1_one 40 = .ok (.baload, 1) := by decide +kernel
theorem dX1_one_41 : decode cX1_one 41 = .ok (.ifCond .ne 6, 3) := by decide +kernel
theorem dX1_one_44 : decode cX1_one 44 = .ok (.goto 67, 3) := by decide +kernel
theorem dX1_one_47 : decode cX1_one 47 = .ok (.iconst 1, 1) := by decide +kernel
theorem dX1_one_48 : decode cX1_one 48 = .ok (.istore_n 3, 1) := by decide +kernel
theorem dX1_one_49 : decode cX1_one 49 = .ok (.aload_n 0, 1) := by decide +kernel
theorem dX1_one_50 : decode cX1_one 50 = .ok (.getfield 34, 3) := by decide +kernel
theorem dX1_one_53 : decode cX1_one 53 = .ok (.iconst 4, 1) := by decide +kernel
theorem dX1_one_54 : decode cX1_one 54 = .ok (.iload_n 2, 1) := by decide +kernel
theorem dX1_one_55 : decode cX1_one 55 = .ok (.imul, 1) := by decide +kernel
theorem dX1_one_56 : decode cX1_one 56 = .ok (.iload 4, 2) := by decide +kernel
theorem dX1_one_58 : decode cX1_one 58 = .ok (.iadd, 1) := by decide +kernel
theorem dX1_one_59 : decode cX1_one 59 = .ok (.daload, 1) := by decide +kernel
theorem dX1_one_60 : decode cX1_one 60 = .ok (.dstore 5, 2) := by decide +kernel
theorem dX1_one_62 : decode cX1_one 62 = .ok (.aload_n 0, 1) := by decide +kernel
theorem dX1_one_63 : decode cX1_one 63 = .ok (.getfield 30, 3) := by decide +kernel
theorem dX1_one_66 : decode cX1_one 66 = .ok (.iload_n 2, 1) := by decide +kernel
theorem dX1_one_67 : decode cX1_one 67 = .ok (.baload, 1) := by decide +kernel
theorem dX1_one_68 : decode cX1_one 68 = .ok (.ifCond .eq 21, 3) := by decide +kernel
theorem dX1_one_71 : decode cX1_one 71 = .ok (.aload_n 0, 1) := by decide +kernel
theorem dX1_one_72 : decode cX1_one 72 = .ok (.dload 5, 2) := by decide +kernel
theorem dX1_one_74 : decode cX1_one 74 = .ok (.aload_n 0, 1) := by decide +kernel
theorem dX1_one_75 : decode cX1_one 75 = .ok (.getfield 27, 3) := by decide +kernel
theorem dX1_one_78 : decode cX1_one 78 = .ok (.iload_n 2, 1) := by decide +kernel
theorem dX1_one_79 : decode cX1_one 79 = .ok (.daload, 1) := by decide +kernel
theorem dX1_one_80 : decode cX1_one 80 = .ok (.invokevirtual 87, 3) := by decide +kernel
theorem dX1_one_83 : decode cX1_one 83 = .ok (.ifCond .ne 6, 3) := by decide +kernel
theorem dX1_one_86 : decode cX1_one 86 = .ok (.goto 25, 3) := by decide +kernel
theorem dX1_one_89 : decode cX1_one 89 = .ok (.aload_n 0, 1) := by decide +kernel
theorem dX1_one_90 : decode cX1_one 90 = .ok (.getfield 30, 3) := by decide +kernel
theorem dX1_one_93 : decode cX1_one 93 = .ok (.iload_n 2, 1) := by decide +kernel
theorem dX1_one_94 : decode cX1_one 94 = .ok (.iconst 1, 1) := by decide +kernel
theorem dX1_one_95 : decode cX1_one 95 = .ok (.bastore, 1) := by decide +kernel
theorem dX1_one_96 : decode cX1_one 96 = .ok (.aload_n 0, 1) := by decide +kernel
theorem dX1_one_97 : decode cX1_one 97 = .ok (.getfield 27, 3) := by decide +kernel
theorem dX1_one_100 : decode cX1_one 100 = .ok (.iload_n 2, 1) := by decide +kernel
theorem dX1_one_101 : decode cX1_one 101 = .ok (.dload 5, 2) := by decide +kernel
theorem dX1_one_103 : decode cX1_one 103 = .ok (.dastore, 1) := by decide +kernel
theorem dX1_one_104 : decode cX1_one 104 = .ok (.aload_n 0, 1) := by decide +kernel
theorem dX1_one_105 : decode cX1_one 105 = .ok (.getfield 46, 3) := by decide +kernel
theorem dX1_one_108 : decode cX1_one 108 = .ok (.iload_n 2, 1) := by decide +kernel
theorem dX1_one_109 : decode cX1_one 109 = .ok (.iconst 1, 1) := by decide +kernel
theorem dX1_one_110 : decode cX1_one 110 = .ok (.bastore, 1) := by decide +kernel
theorem dX1_one_111 : decode cX1_one 111 = .ok (.iinc 4 1, 3) := by decide +kernel
theorem dX1_one_114 : decode cX1_one 114 = .ok (.goto (-90), 3) := by decide +kernel
theorem dX1_one_117 : decode cX1_one 117 = .ok (.iload_n 3, 1) := by decide +kernel
theorem dX1_one_118 : decode cX1_one 118 = .ok (.ifCond .eq 7, 3) := by decide +kernel
theorem dX1_one_121 : decode cX1_one 121 = .ok (.iload_n 1, 1) := by decide +kernel
theorem dX1_one_122 : decode cX1_one 122 = .ok (.iconst 1, 1) := by decide +kernel
theorem dX1_one_123 : decode cX1_one 123 = .ok (.iadd, 1) := by decide +kernel
theorem dX1_one_124 : decode cX1_one 124 = .ok (.istore_n 1, 1) := by decide +kernel
theorem dX1_one_125 : decode cX1_one 125 = .ok (.iinc 2 1, 3) := by decide +kernel
theorem dX1_one_128 : decode cX1_one 128 = .ok (.goto (-124), 3) := by decide +kernel
theorem dX1_one_131 : decode cX1_one 131 = .ok (.aload_n 0, 1) := by decide +kernel
theorem dX1_one_132 : decode cX1_one 132 = .ok (.invokevirtual 95, 3) := by decide +kernel
theorem dX1_one_135 : decode cX1_one 135 = .ok (.istore_n 2, 1) := by decide +kernel
theorem dX1_one_136 : decode cX1_one 136 = .ok (.iload_n 1, 1) := by decide +kernel
theorem dX1_one_137 : decode cX1_one 137 = .ok (.ireturn, 1) := by decide +kernel
set_option maxRecDepth 20000 in
theorem ggX1_step_X1_isAny : GoodIn wsX1_step wsX1_isAny := goodIn_r _ [7, 8, 46, 47, 48, 49, 50, 51, 52, 53, 54, 55, 56, 57, 58, 59, 60, 61, 62, 63, 64, 65] (by decide +kernel) (by decide +kernel)
set_option maxRecDepth 20000 in
theorem gX1_step_X1_isAny : GoodIn wsX1_step (wsV RX1 99 RX1 yX1_isAny wsX1_isAny) := goodIn_app (goodIn_of _ (by decide +kernel)) ggX1_step_X1_isAny
set_option maxRecDepth 20000 in
theorem ggX1_step_X1_one : GoodIn wsX1_step wsX1_one := goodIn_r _ [12, 13, 14, 8, 15, 16, 17, 18, 19, 20, 6, 21, 22, 23, 24, 25, 26, 27, 28, 29, 30, 31, 32, 33, 34, 35, 36, 37, 38, 39, 40, 41, 42, 43, 44, 45, 46, 47, 48, 49, 50, 51, 52, 53, 54, 55, 56, 57, 58, 59, 60, 61, 62, 63, 64, 65] (by decide +kernel) (by decide +kernel)
set_option maxRecDepth 20000 in
theorem gX1_step_X1_one : GoodIn wsX1_step (wsV RX1 103 RX1 yX1_one wsX1_one) := goodIn_app (goodIn_of _ (by decide +kernel)) ggX1_step_X1_one
theorem dX1_step_0 : decode cX1_step 0 = .ok (.aload_n 0, 1) := by decide +kernel
theorem dX1_step_1 : decode cX1_step 1 = .ok (.aload_n 0, 1) := by decide +kernel
theorem dX1_step_2 : decode cX1_step 2 = .ok (.getfield 52, 3) := by decide +kernel
theorem dX1_step_5 : decode cX1_step 5 = .ok (.ifCond .eq 10, 3) := by decide +kernel
theorem dX1_step_8 : decode cX1_step 8 = .ok (.aload_n 0, 1) := by decide +kernel
theorem dX1_step_9 : decode cX1_step 9 = .ok (.invokevirtual 99, 3) := by decide +kernel
theorem dX1_step_12 : decode cX1_step 12 = .ok (.ifCond .ne 7, 3) := by decide +kernel
theorem dX1_step_15 : decode cX1_step 15 = .ok (.iconst 1, 1) := by decide +kernel
theorem dX1_step_16 : decode cX1_step 16 = .ok (.goto 4, 3) := by decide +kernel
theorem dX1_step_19 : decode cX1_step 19 = .ok (.iconst 0, 1) := by decide +kernel
theorem dX1_step_20 : decode cX1_step 20 = .ok (.putfield 49, 3) := by decide +kernel
theorem dX1_step_23 : decode cX1_step 23 = .ok (.aload_n 0, 1) := by decide +kernel
theorem dX1_step_24 : decode cX1_step 24 = .ok (.getfield 49, 3) := by decide +kernel
theorem dX1_step_27 : decode cX1_step 27 = .ok (.ifCond .le 7, 3) := by decide +kernel
theorem dX1_step_30 : decode cX1_step 30 = .ok (.iconst 0, 1) := by decide +kernel
theorem dX1_step_31 : decode cX1_step 31 = .ok (.goto 7, 3) := by decide +kernel
theorem dX1_step_34 : decode cX1_step 34 = .ok (.aload_n 0, 1) := by decide +kernel
theorem dX1_step_35 : decode cX1_step 35 = .ok (.invokevirtual 103, 3) := by decide +kernel
theorem dX1_step_38 : decode cX1_step 38 = .ok (.ireturn, 1) := by decide +kernel
set_option maxRecDepth 20000 in
theorem ggX1_finish_X1_isAny : GoodIn wsX1_finish wsX1_isAny := goodIn_r _ [7, 8, 46, 47, 48, 49, 50, 51, 52, 53, 54, 55, 56, 57, 58, 59, 60, 61, 62, 63, 64, 65] (by decide +kernel) (by decide +kernel)
set_option maxRecDepth 20000 in
theorem gX1_finish_X1_isAny : GoodIn wsX1_finish (wsV RX1 99 RX1 yX1_isAny wsX1_isAny) := goodIn_app (goodIn_of _ (by decide +kernel)) ggX1_finish_X1_isAny
set_option maxRecDepth 20000 in
theorem ggX1_finish_X1_one : GoodIn wsX1_finish wsX1_one := goodIn_r _ [12, 13, 14, 8, 15, 16, 17, 18, 19, 20, 6, 21, 22, 23, 24, 25, 26, 27, 28, 29, 30, 31, 32, 33, 34, 35, 36, 37, 38, 39, 40, 41, 42, 43, 44, 45, 46, 47, 48, 49, 50, 51, 52, 53, 54, 55, 56, 57, 58, 59, 60, 61, 62, 63, 64, 65] (by decide +kernel) (by decide +kernel)
set_option maxRecDepth 20000 in
theorem gX1_finish_X1_one : GoodIn wsX1_finish (wsV RX1 103 RX1 yX1_one wsX1_one) := goodIn_app (goodIn_of _ (by decide +kernel)) ggX1_finish_X1_one
theorem dX1_finish_0 : decode cX1_finish 0 = .ok (.aload_n 0, 1) := by decide +kernel
theorem dX1_finish_1 : decode cX1_finish 1 = .ok (.aload_n 0, 1) := by decide +kernel
theorem dX1_finish_2 : decode cX1_finish 2 = .ok (.getfield 52, 3) := by decide +kernel
theorem dX1_finish_5 : decode cX1_finish 5 = .ok (.ifCond .eq 7, 3) := by decide +kernel
theorem dX1_finish_8 : decode cX1_finish 8 = .ok (.iconst 0, 1) := by decide +kernel
theorem dX1_finish_9 : decode cX1_finish 9 = .ok (.goto 4, 3) := by decide +kernel
theorem dX1_finish_12 : decode cX1_finish 12 = .ok (.iconst 1, 1) := by decide +kernel
theorem dX1_finish_13 : decode cX1_finish 13 = .ok (.putfield 49, 3) := by decide +kernel
theorem dX1_finish_16 : decode cX1_finish 16 = .ok (.aload_n 0, 1) := by decide +kernel
theorem dX1_finish_17 : decode cX1_finish 17 = .ok (.getfield 49, 3) := by decide +kernel
theorem dX1_finish_20 : decode cX1_finish 20 = .ok (.ifCond .le 5, 3) := by decide +kernel
theorem dX1_finish_23 : decode cX1_finish 23 = .ok (.iconst 0, 1) := by decide +kernel
theorem dX1_finish_24 : decode cX1_finish 24 = .ok (.ireturn, 1) := by decide +kernel
theorem dX1_finish_25 : decode cX1_finish 25 = .ok (.iconst 0, 1) := by decide +kernel
theorem dX1_finish_26 : decode cX1_finish 26 = .ok (.istore_n 2, 1) := by decide +kernel
theorem dX1_finish_27 : decode cX1_finish 27 = .ok (.iload_n 2, 1) := by decide +kernel
theorem dX1_finish_28 : decode cX1_finish 28 = .ok (.iload_n 1, 1) := by decide +kernel
theorem dX1_finish_29 : decode cX1_finish 29 = .ok (.if_icmp .ge 22, 3) := by decide +kernel
theorem dX1_finish_32 : decode cX1_finish 32 = .ok (.aload_n 0, 1) := by decide +kernel
theorem dX1_finish_33 : decode cX1_finish 33 = .ok (.invokevirtual 99, 3) := by decide +kernel
theorem dX1_finish_36 : decode cX1_finish 36 = .ok (.ifCond .eq 15, 3) := by decide +kernel
theorem dX1_finish_39 : decode cX1_finish 39 = .ok (.aload_n 0, 1) := by decide +kernel
theorem dX1_finish_40 : decode cX1_finish 40 = .ok (.invokevirtual 103, 3) := by decide +kernel
theorem dX1_finish_43 : decode cX1_finish 43 = .ok (.istore_n 3, 1) := by decide +kernel
theorem dX1_finish_44 : decode cX1_finish 44 = .ok (.iload_n 2, 1) := by decide +kernel
theorem dX1_finish_45 : decode cX1_finish 45 = .ok (.iconst 1, 1) := by decide +kernel
theorem dX1_finish_46 : decode cX1_finish 46 = .ok (.iadd, 1) := by decide +kernel
theorem dX1_finish_47 : decode cX1_finish 47 = .ok (.istore_n 2, 1) := by decide +kernel
theorem dX1_finish_48 : decode cX1_finish 48 = .ok (.goto (-21), 3) := by decide +kernel
theorem dX1_finish_51 : decode cX1_finish 51 = .ok (.iload_n 2, 1) := by decide +kernel
theorem dX1_finish_52 : decode cX1_finish 52 = .ok (.ireturn, 1) := by decide +kernel
set_option maxRecDepth 20000 in
theorem ggX1_over_X1_isAny : GoodIn wsX1_over wsX1_isAny := goodIn_r _ [6, 7, 8, 9, 10, 11, 12, 13, 14, 15, 16, 17, 18, 19, 20, 21, 22, 23, 24, 25, 26, 27] (by decide +kernel) (by decide +kernel)
set_option maxRecDepth 20000 in
theorem gX1_over_X1_isAny : GoodIn wsX1_over (wsV RX1 99 RX1 yX1_isAny wsX1_isAny) := goodIn_app (goodIn_of _ (by decide +kernel)) ggX1_over_X1_isAny
theorem dX1_over_0 : decode cX1_over 0 = .ok (.aload_n 0, 1) := by decide +kernel
theorem dX1_over_1 : decode cX1_over 1 = .ok (.getfield 52, 3) := by decide +kernel
theorem dX1_over_4 : decode cX1_over 4 = .ok (.ifCond .eq 14, 3) := by decide +kernel
theorem dX1_over_7 : decode cX1_over 7 = .ok (.aload_n 0, 1) := by decide +kernel
theorem dX1_over_8 : decode cX1_over 8 = .ok (.invokevirtual 99, 3) := by decide +kernel
theorem dX1_over_11 : decode cX1_over 11 = .ok (.ifCond .ne 7, 3) := by decide +kernel
theorem dX1_over_14 : decode cX1_over 14 = .ok (.iconst 1, 1) := by decide +kernel
theorem dX1_over_15 : decode cX1_over 15 = .ok (.goto 4, 3) := by decide +kernel
theorem dX1_over_18 : decode cX1_over 18 = .ok (.iconst 0, 1) := by decide +kernel
theorem dX1_over_19 : decode cX1_over 19 = .ok (.ireturn, 1) := by decide +kernel
set_option maxRecDepth 20000 in
theorem ggX1_value_X1_isVertex : GoodIn wsX1_value wsX1_isVertex := goodIn_r _ [9, 10, 11, 12, 13, 14, 15, 16, 17, 18, 19, 20, 21, 22, 23, 24, 25, 26, 27, 28, 29, 30] (by decide +kernel) (by decide +kernel)
set_option maxRecDepth 20000 in
theorem gX1_value_X1_isVertex : GoodIn wsX1_value (wsV RX1 74 RX1 yX1_isVertex wsX1_isVertex) := goodIn_app (goodIn_of _ (by decide +kernel)) ggX1_value_X1_isVertex
theorem dX1_value_0 : decode cX1_value 0 = .ok (.aload_n 0, 1) := by decide +kernel
theorem dX1_value_1 : decode cX1_value 1 = .ok (.getfield 52, 3) := by decide +kernel
theorem dX1_value_4 : decode cX1_value 4 = .ok (.ifCond .eq 29, 3) := by decide +kernel
theorem dX1_value_7 : decode cX1_value 7 = .ok (.aload_n 0, 1) := by decide +kernel
theorem dX1_value_8 : decode cX1_value 8 = .ok (.iload_n 1, 1) := by decide +kernel
theorem dX1_value_9 : decode cX1_value 9 = .ok (.invokevirtual 74, 3) := by decide +kernel
theorem dX1_value_12 : decode cX1_value 12 = .ok (.ifCond .eq 21, 3) := by decide +kernel
theorem dX1_value_15 : decode cX1_value 15 = .ok (.aload_n 0, 1) := by decide +kernel
theorem dX1_value_16 : decode cX1_value 16 = .ok (.getfield 30, 3) := by decide +kernel
theorem dX1_value_19 : decode cX1_value 19 = .ok (.iload_n 1, 1) := by decide +kernel
theorem dX1_value_20 : decode cX1_value 20 = .ok (.baload, 1) := by decide +kernel
theorem dX1_value_21 : decode cX1_value 21 = .ok (.ifCond .eq 12, 3) := by decide +kernel
theorem dX1_value_24 : decode cX1_value 24 = .ok (.aload_n 0, 1) := by decide +kernel
theorem dX1_value_25 : decode cX1_value 25 = .ok (.getfield 27, 3) := by decide +kernel
theorem dX1_value_28 : decode cX1_value 28 = .ok (.iload_n 1, 1) := by decide +kernel
theorem dX1_value_29 : decode cX1_value 29 = .ok (.daload, 1) := by decide +kernel
theorem dX1_value_30 : decode cX1_value 30 = .ok (.goto 6, 3) := by decide +kernel
theorem dX1_value_33 : decode cX1_value 33 = .ok (.ldc2_w 106, 3) := by decide +kernel
theorem dX1_value_36 : decode cX1_value 36 = .ok (.dreturn, 1) := by decide +kernel
theorem dX1_sum_0 : decode cX1_sum 0 = .ok (.dconst 0, 1) := by decide +kernel
theorem dX1_sum_1 : decode cX1_sum 1 = .ok (.dstore_n 1, 1) := by decide +kernel
theorem dX1_sum_2 : decode cX1_sum 2 = .ok (.iconst 0, 1) := by decide +kernel
theorem dX1_sum_3 : decode cX1_sum 3 = .ok (.istore_n 3, 1) := by decide +kernel
theorem dX1_sum_4 : decode cX1_sum 4 = .ok (.iload_n 3, 1) := by decide +kernel
theorem dX1_sum_5 : decode cX1_sum 5 = .ok (.aload_n 0, 1) := by decide +kernel
theorem dX1_sum_6 : decode cX1_sum 6 = .ok (.getfield 20, 3) := by decide +kernel
theorem dX1_sum_9 : decode cX1_sum 9 = .ok (.if_icmp .ge 34, 3) := by decide +kernel
theorem dX1_sum_12 : decode cX1_sum 12 = .ok (.aload_n 0, 1) := by decide +kernel
theorem dX1_sum_13 : decode cX1_sum 13 = .ok (.getfield 52, 3) := by decide +kernel
theorem dX1_sum_16 : decode cX1_sum 16 = .ok (.ifCond .eq 27, 3) := by decide +kernel
theorem dX1_sum_19 : decode cX1_sum 19 = .ok (.aload_n 0, 1) := by decide +kernel
theorem dX1_sum_20 : decode cX1_sum 20 = .ok (.getfield 30, 3) := by decide +kernel
theorem dX1_sum_23 : decode cX1_sum 23 = .ok (.iload_n 3, 1) := by decide +kernel
theorem dX1_sum_24 : decode cX1_sum 24 = .ok (.baload, 1) := by decide +kernel
theorem dX1_sum_25 : decode cX1_sum 25 = .ok (.ifCond .eq 12, 3) := by decide +kernel
theorem dX1_sum_28 : decode cX1_sum 28 = .ok (.dload_n 1, 1) := by decide +kernel
theorem dX1_sum_29 : decode cX1_sum 29 = .ok (.aload_n 0, 1) := by decide +kernel
theorem dX1_sum_30 : decode cX1_sum 30 = .ok (.getfield 27, 3) := by decide +kernel
theorem dX1_sum_33 : decode cX1_sum 33 = .ok (.iload_n 3, 1) := by decide +kernel
theorem dX1_sum_34 : decode cX1_sum 34 = .ok (.daload, 1) := by decide +kernel
theorem dX1_sum_35 : decode cX1_sum 35 = .ok (.dadd, 1) := by decide +kernel
theorem dX1_sum_36 : decode cX1_sum 36 = .ok (.dstore_n 1, 1) := by decide +kernel
theorem dX1_sum_37 : decode cX1_sum 37 = .ok (.iinc 3 1, 3) := by decide +kernel
theorem dX1_sum_40 : decode cX1_sum 40 = .ok (.goto (-36), 3) := by decide +kernel
theorem dX1_sum_43 : decode cX1_sum 43 = .ok (.dload_n 1, 1) := by decide +kernel
theorem dX1_sum_44 : decode cX1_sum 44 = .ok (.dreturn, 1) := by decide +kernel
theorem dX1_steps_0 : decode cX1_steps 0 = .ok (.aload_n 0, 1) := by decide +kernel
theorem dX1_steps_1 : decode cX1_steps 1 = .ok (.getfield 56, 3) := by decide +kernel
theorem dX1_steps_4 : decode cX1_steps 4 = .ok (.ireturn, 1) := by decide +kernel
theorem dX1_sent_0 : decode cX1_sent 0 = .ok (.aload_n 0, 1) := by decide +kernel
theorem dX1_sent_1 : decode cX1_sent 1 = .ok (.getfield 59, 3) := by decide +kernel
theorem dX1_sent_4 : decode cX1_sent 4 = .ok (.ireturn, 1) := by decide +kernel
theorem dX1_delivered_0 : decode cX1_delivered 0 = .ok (.aload_n 0, 1) := by decide +kernel
theorem dX1_delivered_1 : decode cX1_delivered 1 = .ok (.getfield 62, 3) := by decide +kernel
theorem dX1_delivered_4 : decode cX1_delivered 4 = .ok (.ireturn, 1) := by decide +kernel
theorem dX1_crossed_0 : decode cX1_crossed 0 = .ok (.aload_n 0, 1) := by decide +kernel
theorem dX1_crossed_1 : decode cX1_crossed 1 = .ok (.getfield 65, 3) := by decide +kernel
theorem dX1_crossed_4 : decode cX1_crossed 4 = .ok (.ireturn, 1) := by decide +kernel
set_option maxRecDepth 20000 in
theorem ggX1_pending_X1_isVertex : GoodIn wsX1_pending wsX1_isVertex := goodIn_r _ [9, 10, 11, 12, 13, 14, 15, 16, 17, 18, 19, 20, 21, 22, 23, 24, 25, 26, 27, 28, 29, 30] (by decide +kernel) (by decide +kernel)
set_option maxRecDepth 20000 in
theorem gX1_pending_X1_isVertex : GoodIn wsX1_pending (wsV RX1 74 RX1 yX1_isVertex wsX1_isVertex) := goodIn_app (goodIn_of _ (by decide +kernel)) ggX1_pending_X1_isVertex
theorem dX1_pending_0 : decode cX1_pending 0 = .ok (.aload_n 0, 1) := by decide +kernel
theorem dX1_pending_1 : decode cX1_pending 1 = .ok (.iload_n 1, 1) := by decide +kernel
theorem dX1_pending_2 : decode cX1_pending 2 = .ok (.invokevirtual 74, 3) := by decide +kernel
theorem dX1_pending_5 : decode cX1_pending 5 = .ok (.ifCond .eq 41, 3) := by decide +kernel
theorem dX1_pending_8 : decode cX1_pending 8 = .ok (.iload_n 2, 1) := by decide +kernel
theorem dX1_pending_9 : decode cX1_pending 9 = .ok (.ifCond .lt 37, 3) := by decide +kernel
theorem dX1_pending_12 : decode cX1_pending 12 = .ok (.iload_n 2, 1) := by decide +kernel
theorem dX1_pending_13 : decode cX1_pending 13 = .ok (.aload_n 0, 1) := by decide +kernel
theorem dX1_pending_14 : decode cX1_pending 14 = .ok (.getfield 24, 3) := by decide +kernel
theorem dX1_pending_17 : decode cX1_pending 17 = .ok (.if_icmp .ge 29, 3) := by decide +kernel
theorem dX1_pending_20 : decode cX1_pending 20 = .ok (.aload_n 0, 1) := by decide +kernel
theorem dX1_pending_21 : decode cX1_pending 21 = .ok (.getfield 37, 3) := by decide +kernel
theorem dX1_pending_24 : decode cX1_pending 24 = .ok (.iconst 4, 1) := by decide +kernel
theorem dX1_pending_25 : decode cX1_pending 25 = .ok (.iload_n 1, 1) := by decide +kernel
theorem dX1_pending_26 : decode cX1_pending 26 = .ok (.imul, 1) := by decide +kernel
theorem dX1_pending_27 : decode cX1_pending 27 = .ok (.iload_n 2, 1) := by decide +kernel
theorem dX1_pending_28 : decode cX1_pending 28 = .ok (.iadd, 1) := by decide +kernel
theorem dX1_pending_29 : decode cX1_pending 29 = .ok (.baload, 1) := by decide +kernel
theorem dX1_pending_30 : decode cX1_pending 30 = .ok (.ifCond .eq 16, 3) := by decide +kernel
theorem dX1_pending_33 : decode cX1_pending 33 = .ok (.aload_n 0, 1) := by decide +kernel
theorem dX1_pending_34 : decode cX1_pending 34 = .ok (.getfield 34, 3) := by decide +kernel
theorem dX1_pending_37 : decode cX1_pending 37 = .ok (.iconst 4, 1) := by decide +kernel
theorem dX1_pending_38 : decode cX1_pending 38 = .ok (.iload_n 1, 1) := by decide +kernel
theorem dX1_pending_39 : decode cX1_pending 39 = .ok (.imul, 1) := by decide +kernel
theorem dX1_pending_40 : decode cX1_pending 40 = .ok (.iload_n 2, 1) := by decide +kernel
theorem dX1_pending_41 : decode cX1_pending 41 = .ok (.iadd, 1) := by decide +kernel
theorem dX1_pending_42 : decode cX1_pending 42 = .ok (.daload, 1) := by decide +kernel
theorem dX1_pending_43 : decode cX1_pending 43 = .ok (.goto 6, 3) := by decide +kernel
theorem dX1_pending_46 : decode cX1_pending 46 = .ok (.ldc2_w 106, 3) := by decide +kernel
theorem dX1_pending_49 : decode cX1_pending 49 = .ok (.dreturn, 1) := by decide +kernel
set_option maxRecDepth 20000 in
theorem ggX1_degree_X1_isVertex : GoodIn wsX1_degree wsX1_isVertex := goodIn_r _ [8, 9, 10, 11, 12, 13, 14, 15, 16, 17, 18, 19, 20, 21, 22, 23, 24, 25, 26, 27, 28, 29] (by decide +kernel) (by decide +kernel)
set_option maxRecDepth 20000 in
theorem gX1_degree_X1_isVertex : GoodIn wsX1_degree (wsV RX1 74 RX1 yX1_isVertex wsX1_isVertex) := goodIn_app (goodIn_of _ (by decide +kernel)) ggX1_degree_X1_isVertex
theorem dX1_degree_0 : decode cX1_degree 0 = .ok (.aload_n 0, 1) := by decide +kernel
theorem dX1_degree_1 : decode cX1_degree 1 = .ok (.iload_n 1, 1) := by decide +kernel
theorem dX1_degree_2 : decode cX1_degree 2 = .ok (.invokevirtual 74, 3) := by decide +kernel
theorem dX1_degree_5 : decode cX1_degree 5 = .ok (.ifCond .ne 5, 3) := by decide +kernel
theorem dX1_degree_8 : decode cX1_degree 8 = .ok (.iconst (-1), 1) := by decide +kernel
theorem dX1_degree_9 : decode cX1_degree 9 = .ok (.ireturn, 1) := by decide +kernel
theorem dX1_degree_10 : decode cX1_degree 10 = .ok (.iconst 0, 1) := by decide +kernel
theorem dX1_degree_11 : decode cX1_degree 11 = .ok (.istore_n 2, 1) := by decide +kernel
theorem dX1_degree_12 : decode cX1_degree 12 = .ok (.iconst 0, 1) := by decide +kernel
theorem dX1_degree_13 : decode cX1_degree 13 = .ok (.istore_n 3, 1) := by decide +kernel
theorem dX1_degree_14 : decode cX1_degree 14 = .ok (.iload_n 3, 1) := by decide +kernel
theorem dX1_degree_15 : decode cX1_degree 15 = .ok (.aload_n 0, 1) := by decide +kernel
theorem dX1_degree_16 : decode cX1_degree 16 = .ok (.getfield 68, 3) := by decide +kernel
theorem dX1_degree_19 : decode cX1_degree 19 = .ok (.if_icmp .ge 33, 3) := by decide +kernel
theorem dX1_degree_22 : decode cX1_degree 22 = .ok (.aload_n 0, 1) := by decide +kernel
theorem dX1_degree_23 : decode cX1_degree 23 = .ok (.getfield 7, 3) := by decide +kernel
theorem dX1_degree_26 : decode cX1_degree 26 = .ok (.iload_n 3, 1) := by decide +kernel
theorem dX1_degree_27 : decode cX1_degree 27 = .ok (.iaload, 1) := by decide +kernel
theorem dX1_degree_28 : decode cX1_degree 28 = .ok (.iload_n 1, 1) := by decide +kernel
theorem dX1_degree_29 : decode cX1_degree 29 = .ok (.if_icmp .eq 13, 3) := by decide +kernel
theorem dX1_degree_32 : decode cX1_degree 32 = .ok (.aload_n 0, 1) := by decide +kernel
theorem dX1_degree_33 : decode cX1_degree 33 = .ok (.getfield 13, 3) := by decide +kernel
theorem dX1_degree_36 : decode cX1_degree 36 = .ok (.iload_n 3, 1) := by decide +kernel
theorem dX1_degree_37 : decode cX1_degree 37 = .ok (.iaload, 1) := by decide +kernel
theorem dX1_degree_38 : decode cX1_degree 38 = .ok (.iload_n 1, 1) := by decide +kernel
theorem dX1_degree_39 : decode cX1_degree 39 = .ok (.if_icmp .ne 7, 3) := by decide +kernel
theorem dX1_degree_42 : decode cX1_degree 42 = .ok (.iload_n 2, 1) := by decide +kernel
theorem dX1_degree_43 : decode cX1_degree 43 = .ok (.iconst 1, 1) := by decide +kernel
theorem dX1_degree_44 : decode cX1_degree 44 = .ok (.iadd, 1) := by decide +kernel
theorem dX1_degree_45 : decode cX1_degree 45 = .ok (.istore_n 2, 1) := by decide +kernel
theorem dX1_degree_46 : decode cX1_degree 46 = .ok (.iinc 3 1, 3) := by decide +kernel
theorem dX1_degree_49 : decode cX1_degree 49 = .ok (.goto (-35), 3) := by decide +kernel
theorem dX1_degree_52 : decode cX1_degree 52 = .ok (.iload_n 2, 1) := by decide +kernel
theorem dX1_degree_53 : decode cX1_degree 53 = .ok (.ireturn, 1) := by decide +kernel
set_option maxRecDepth 20000 in
theorem ggL_begin_X0_begin : GoodIn wsL_begin wsX0_begin := goodIn_ca (goodIn_r _ [6, 7, 8, 9, 10, 11, 12, 13, 14, 15, 16, 17, 18, 5, 19, 20, 21, 22, 23, 24, 25, 26, 27, 28, 29, 30, 31, 32, 33, 34, 35, 36, 37, 38, 39, 40, 41, 42, 43, 44, 45, 46, 47, 48, 49, 50, 51, 52, 53, 54, 55, 56, 57, 58, 59, 60, 61, 62, 63, 64, 65, 66, 67, 68, 69, 70, 71, 72, 73, 74, 75, 76, 77, 78, 79, 80, 81, 82] (by decide +kernel) (by decide +kernel)) (goodIn_sub (fun _ h => List.mem_cons_of_mem _ (List.mem_append_right _ h)) (by decide +kernel))
set_option maxRecDepth 20000 in
theorem gL_begin_X0_begin : GoodIn wsL_begin (wsV RL 7 RX0 yX0_begin wsX0_begin) := goodIn_app (goodIn_of _ (by decide +kernel)) ggL_begin_X0_begin
