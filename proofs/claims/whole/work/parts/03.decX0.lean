theorem dX0_init_0 : decode cX0_init 0 = .ok (.aload_n 0, 1) := by decide +kernel
theorem dX0_init_1 : decode cX0_init 1 = .ok (.invokespecial 1, 3) := by decide +kernel
theorem dX0_init_4 : decode cX0_init 4 = .ok (.aload_n 0, 1) := by decide +kernel
theorem dX0_init_5 : decode cX0_init 5 = .ok (.bipush 30, 2) := by decide +kernel
theorem dX0_init_7 : decode cX0_init 7 = .ok (.newarray .int, 2) := by decide +kernel
theorem dX0_init_9 : decode cX0_init 9 = .ok (.putfield 9, 3) := by decide +kernel
theorem dX0_init_12 : decode cX0_init 12 = .ok (.aload_n 0, 1) := by decide +kernel
theorem dX0_init_13 : decode cX0_init 13 = .ok (.bipush 30, 2) := by decide +kernel
theorem dX0_init_15 : decode cX0_init 15 = .ok (.newarray .int, 2) := by decide +kernel
theorem dX0_init_17 : decode cX0_init 17 = .ok (.putfield 13, 3) := by decide +kernel
theorem dX0_init_20 : decode cX0_init 20 = .ok (.aload_n 0, 1) := by decide +kernel
theorem dX0_init_21 : decode cX0_init 21 = .ok (.bipush 30, 2) := by decide +kernel
theorem dX0_init_23 : decode cX0_init 23 = .ok (.newarray .double, 2) := by decide +kernel
theorem dX0_init_25 : decode cX0_init 25 = .ok (.putfield 16, 3) := by decide +kernel
theorem dX0_init_28 : decode cX0_init 28 = .ok (.aload_n 0, 1) := by decide +kernel
theorem dX0_init_29 : decode cX0_init 29 = .ok (.iconst 1, 1) := by decide +kernel
theorem dX0_init_30 : decode cX0_init 30 = .ok (.putfield 20, 3) := by decide +kernel
theorem dX0_init_33 : decode cX0_init 33 = .ok (.aload_n 0, 1) := by decide +kernel
theorem dX0_init_34 : decode cX0_init 34 = .ok (.iconst 0, 1) := by decide +kernel
theorem dX0_init_35 : decode cX0_init 35 = .ok (.putfield 24, 3) := by decide +kernel
theorem dX0_init_38 : decode cX0_init 38 = .ok (.aload_n 0, 1) := by decide +kernel
theorem dX0_init_39 : decode cX0_init 39 = .ok (.iconst 1, 1) := by decide +kernel
theorem dX0_init_40 : decode cX0_init 40 = .ok (.putfield 27, 3) := by decide +kernel
theorem dX0_init_43 : decode cX0_init 43 = .ok (.aload_n 0, 1) := by decide +kernel
theorem dX0_init_44 : decode cX0_init 44 = .ok (.bipush 12, 2) := by decide +kernel
theorem dX0_init_46 : decode cX0_init 46 = .ok (.newarray .double, 2) := by decide +kernel
theorem dX0_init_48 : decode cX0_init 48 = .ok (.putfield 30, 3) := by decide +kernel
theorem dX0_init_51 : decode cX0_init 51 = .ok (.aload_n 0, 1) := by decide +kernel
theorem dX0_init_52 : decode cX0_init 52 = .ok (.bipush 12, 2) := by decide +kernel
theorem dX0_init_54 : decode cX0_init 54 = .ok (.newarray .boolean, 2) := by decide +kernel
theorem dX0_init_56 : decode cX0_init 56 = .ok (.putfield 33, 3) := by decide +kernel
theorem dX0_init_59 : decode cX0_init 59 = .ok (.aload_n 0, 1) := by decide +kernel
theorem dX0_init_60 : decode cX0_init 60 = .ok (.bipush 12, 2) := by decide +kernel
theorem dX0_init_62 : decode cX0_init 62 = .ok (.iconst 4, 1) := by decide +kernel
theorem dX0_init_63 : decode cX0_init 63 = .ok (.multianewarray 37 2, 4) := by decide +kernel
theorem dX0_init_67 : decode cX0_init 67 = .ok (.putfield 39, 3) := by decide +kernel
theorem dX0_init_70 : decode cX0_init 70 = .ok (.aload_n 0, 1) := by decide +kernel
theorem dX0_init_71 : decode cX0_init 71 = .ok (.iconst 0, 1) := by decide +kernel
theorem dX0_init_72 : decode cX0_init 72 = .ok (.putfield 42, 3) := by decide +kernel
theorem dX0_init_75 : decode cX0_init 75 = .ok (.aload_n 0, 1) := by decide +kernel
theorem dX0_init_76 : decode cX0_init 76 = .ok (.iconst 0, 1) := by decide +kernel
theorem dX0_init_77 : decode cX0_init 77 = .ok (.putfield 46, 3) := by decide +kernel
theorem dX0_init_80 : decode cX0_init 80 = .ok (.aload_n 0, 1) := by decide +kernel
theorem dX0_init_81 : decode cX0_init 81 = .ok (.iconst 0, 1) := by decide +kernel
theorem dX0_init_82 : decode cX0_init 82 = .ok (.putfield 49, 3) := by decide +kernel
theorem dX0_init_85 : decode cX0_init 85 = .ok (.aload_n 0, 1) := by decide +kernel
theorem dX0_init_86 : decode cX0_init 86 = .ok (.iconst 0, 1) := by decide +kernel
theorem dX0_init_87 : decode cX0_init 87 = .ok (.putfield 52, 3) := by decide +kernel
theorem dX0_init_90 : decode cX0_init 90 = .ok (.aload_n 0, 1) := by decide +kernel
theorem dX0_init_91 : decode cX0_init 91 = .ok (.iconst 0, 1) := by decide +kernel
theorem dX0_init_92 : decode cX0_init 92 = .ok (.putfield 55, 3) := by decide +kernel
theorem dX0_init_95 : decode cX0_init 95 = .ok (.aload_n 0, 1) := by decide +kernel
theorem dX0_init_96 : decode cX0_init 96 = .ok (.iconst 0, 1) := by decide +kernel
theorem dX0_init_97 : decode cX0_init 97 = .ok (.putfield 58, 3) := by decide +kernel
theorem dX0_init_100 : decode cX0_init 100 = .ok (.aload_n 0, 1) := by decide +kernel
theorem dX0_init_101 : decode cX0_init 101 = .ok (.iconst 0, 1) := by decide +kernel
theorem dX0_init_102 : decode cX0_init 102 = .ok (.putfield 61, 3) := by decide +kernel
theorem dX0_init_105 : decode cX0_init 105 = .ok (.return_, 1) := by decide +kernel
set_option maxRecDepth 20000 in
theorem ggX0_size_X0_endRun : GoodIn wsX0_size wsX0_endRun := goodIn_r _ [7, 8, 9, 10, 11, 12, 13, 14, 15, 16, 17, 18, 19, 20, 21, 22, 23, 24, 25, 26, 27, 28, 29] (by decide +kernel) (by decide +kernel)
set_option maxRecDepth 20000 in
theorem gX0_size_X0_endRun : GoodIn wsX0_size (wsV RX0 64 RX0 yX0_endRun wsX0_endRun) := goodIn_app (goodIn_of _ (by decide +kernel)) ggX0_size_X0_endRun
theorem dX0_size_0 : decode cX0_size 0 = .ok (.iload_n 1, 1) := by decide +kernel
theorem dX0_size_1 : decode cX0_size 1 = .ok (.iconst 1, 1) := by decide +kernel
theorem dX0_size_2 : decode cX0_size 2 = .ok (.if_icmp .lt 9, 3) := by decide +kernel
theorem dX0_size_5 : decode cX0_size 5 = .ok (.iload_n 1, 1) := by decide +kernel
theorem dX0_size_6 : decode cX0_size 6 = .ok (.bipush 12, 2) := by decide +kernel
theorem dX0_size_8 : decode cX0_size 8 = .ok (.if_icmp .le 5, 3) := by decide +kernel
theorem dX0_size_11 : decode cX0_size 11 = .ok (.iconst 0, 1) := by decide +kernel
theorem dX0_size_12 : decode cX0_size 12 = .ok (.ireturn, 1) := by decide +kernel
theorem dX0_size_13 : decode cX0_size 13 = .ok (.aload_n 0, 1) := by decide +kernel
theorem dX0_size_14 : decode cX0_size 14 = .ok (.iload_n 1, 1) := by decide +kernel
theorem dX0_size_15 : decode cX0_size 15 = .ok (.putfield 20, 3) := by decide +kernel
theorem dX0_size_18 : decode cX0_size 18 = .ok (.aload_n 0, 1) := by decide +kernel
theorem dX0_size_19 : decode cX0_size 19 = .ok (.iconst 0, 1) := by decide +kernel
theorem dX0_size_20 : decode cX0_size 20 = .ok (.putfield 24, 3) := by decide +kernel
theorem dX0_size_23 : decode cX0_size 23 = .ok (.aload_n 0, 1) := by decide +kernel
theorem dX0_size_24 : decode cX0_size 24 = .ok (.invokevirtual 64, 3) := by decide +kernel
theorem dX0_size_27 : decode cX0_size 27 = .ok (.iconst 1, 1) := by decide +kernel
theorem dX0_size_28 : decode cX0_size 28 = .ok (.ireturn, 1) := by decide +kernel
set_option maxRecDepth 20000 in
theorem ggX0_edge_X0_isVertex : GoodIn wsX0_edge wsX0_isVertex := goodIn_r _ [9, 10, 25, 26, 27, 28, 29, 30, 31, 32, 33, 34, 35, 36, 37, 38, 39, 40] (by decide +kernel) (by decide +kernel)
set_option maxRecDepth 20000 in
theorem gX0_edge_X0_isVertex : GoodIn wsX0_edge (wsV RX0 67 RX0 yX0_isVertex wsX0_isVertex) := goodIn_app (goodIn_of _ (by decide +kernel)) ggX0_edge_X0_isVertex
set_option maxRecDepth 20000 in
theorem ggX0_edge_X0_isWeight : GoodIn wsX0_edge wsX0_isWeight := goodIn_r _ [13, 14] (by decide +kernel) (by decide +kernel)
set_option maxRecDepth 20000 in
theorem gX0_edge_X0_isWeight : GoodIn wsX0_edge (va_wsS RX0 71 yX0_isWeight wsX0_isWeight) := goodIn_app (goodIn_of _ (by decide +kernel)) ggX0_edge_X0_isWeight
set_option maxRecDepth 20000 in
theorem ggX0_edge_X0_endRun : GoodIn wsX0_edge wsX0_endRun := goodIn_r _ [18, 19, 20, 21, 22, 23, 24, 25, 26, 27, 28, 29, 30, 31, 32, 33, 34, 35, 36, 37, 38, 39, 40] (by decide +kernel) (by decide +kernel)
set_option maxRecDepth 20000 in
theorem gX0_edge_X0_endRun : GoodIn wsX0_edge (wsV RX0 64 RX0 yX0_endRun wsX0_endRun) := goodIn_app (goodIn_of _ (by decide +kernel)) ggX0_edge_X0_endRun
theorem dX0_edge_0 : decode cX0_edge 0 = .ok (.aload_n 0, 1) := by decide +kernel
theorem dX0_edge_1 : decode cX0_edge 1 = .ok (.iload_n 1, 1) := by decide +kernel
theorem dX0_edge_2 : decode cX0_edge 2 = .ok (.invokevirtual 67, 3) := by decide +kernel
theorem dX0_edge_5 : decode cX0_edge 5 = .ok (.ifCond .eq 32, 3) := by decide +kernel
theorem dX0_edge_8 : decode cX0_edge 8 = .ok (.aload_n 0, 1) := by decide +kernel
theorem dX0_edge_9 : decode cX0_edge 9 = .ok (.iload_n 2, 1) := by decide +kernel
theorem dX0_edge_10 : decode cX0_edge 10 = .ok (.invokevirtual 67, 3) := by decide +kernel
theorem dX0_edge_13 : decode cX0_edge 13 = .ok (.ifCond .eq 24, 3) := by decide +kernel
theorem dX0_edge_16 : decode cX0_edge 16 = .ok (.iload_n 1, 1) := by decide +kernel
theorem dX0_edge_17 : decode cX0_edge 17 = .ok (.iload_n 2, 1) := by decide +kernel
theorem dX0_edge_18 : decode cX0_edge 18 = .ok (.if_icmp .eq 19, 3) := by decide +kernel
theorem dX0_edge_21 : decode cX0_edge 21 = .ok (.dload_n 3, 1) := by decide +kernel
theorem dX0_edge_22 : decode cX0_edge 22 = .ok (.invokestatic 71, 3) := by decide +kernel
theorem dX0_edge_25 : decode cX0_edge 25 = .ok (.ifCond .eq 12, 3) := by decide +kernel
theorem dX0_edge_28 : decode cX0_edge 28 = .ok (.aload_n 0, 1) := by decide +kernel
theorem dX0_edge_29 : decode cX0_edge 29 = .ok (.getfield 24, 3) := by decide +kernel
theorem dX0_edge_32 : decode cX0_edge 32 = .ok (.bipush 30, 2) := by decide +kernel
theorem dX0_edge_34 : decode cX0_edge 34 = .ok (.if_icmp .lt 5, 3) := by decide +kernel
theorem dX0_edge_37 : decode cX0_edge 37 = .ok (.iconst 0, 1) := by decide +kernel
theorem dX0_edge_38 : decode cX0_edge 38 = .ok (.ireturn, 1) := by decide +kernel
theorem dX0_edge_39 : decode cX0_edge 39 = .ok (.aload_n 0, 1) := by decide +kernel
theorem dX0_edge_40 : decode cX0_edge 40 = .ok (.getfield 9, 3) := by decide +kernel
theorem dX0_edge_43 : decode cX0_edge 43 = .ok (.aload_n 0, 1) := by decide +kernel
theorem dX0_edge_44 : decode cX0_edge 44 = .ok (.getfield 24, 3) := by decide +kernel
theorem dX0_edge_47 : decode cX0_edge 47 = .ok (.iload_n 1, 1) := by decide +kernel
theorem dX0_edge_48 : decode cX0_edge 48 = .ok (.iastore, 1) := by decide +kernel
theorem dX0_edge_49 : decode cX0_edge 49 = .ok (.aload_n 0, 1) := by decide +kernel
theorem dX0_edge_50 : decode cX0_edge 50 = .ok (.getfield 13, 3) := by decide +kernel
theorem dX0_edge_53 : decode cX0_edge 53 = .ok (.aload_n 0, 1) := by decide +kernel
theorem dX0_edge_54 : decode cX0_edge 54 = .ok (.getfield 24, 3) := by decide +kernel
theorem dX0_edge_57 : decode cX0_edge 57 = .ok (.iload_n 2, 1) := by decide +kernel
theorem dX0_edge_58 : decode cX0_edge 58 = .ok (.iastore, 1) := by decide +kernel
theorem dX0_edge_59 : decode cX0_edge 59 = .ok (.aload_n 0, 1) := by decide +kernel
theorem dX0_edge_60 : decode cX0_edge 60 = .ok (.getfield 16, 3) := by decide +kernel
theorem dX0_edge_63 : decode cX0_edge 63 = .ok (.aload_n 0, 1) := by decide +kernel
theorem dX0_edge_64 : decode cX0_edge 64 = .ok (.getfield 24, 3) := by decide +kernel
theorem dX0_edge_67 : decode cX0_edge 67 = .ok (.dload_n 3, 1) := by decide +kernel
theorem dX0_edge_68 : decode cX0_edge 68 = .ok (.dconst 0, 1) := by decide +kernel
theorem dX0_edge_69 : decode cX0_edge 69 = .ok (.dcmp .l, 1) := by decide +kernel
theorem dX0_edge_70 : decode cX0_edge 70 = .ok (.ifCond .le 7, 3) := by decide +kernel
theorem dX0_edge_73 : decode cX0_edge 73 = .ok (.dload_n 3, 1) := by decide +kernel
theorem dX0_edge_74 : decode cX0_edge 74 = .ok (.goto 4, 3) := by decide +kernel
theorem dX0_edge_77 : decode cX0_edge 77 = .ok (.dconst 0, 1) := by decide +kernel
theorem dX0_edge_78 : decode cX0_edge 78 = .ok (.dastore, 1) := by decide +kernel
theorem dX0_edge_79 : decode cX0_edge 79 = .ok (.aload_n 0, 1) := by decide +kernel
theorem dX0_edge_80 : decode cX0_edge 80 = .ok (.dup, 1) := by decide +kernel
theorem dX0_edge_81 : decode cX0_edge 81 = .ok (.getfield 24, 3) := by decide +kernel
theorem dX0_edge_84 : decode cX0_edge 84 = .ok (.iconst 1, 1) := by decide +kernel
theorem dX0_edge_85 : decode cX0_edge 85 = .ok (.iadd, 1) := by decide +kernel
theorem dX0_edge_86 : decode cX0_edge 86 = .ok (.putfield 24, 3) := by decide +kernel
theorem dX0_edge_89 : decode cX0_edge 89 = .ok (.aload_n 0, 1) := by decide +kernel
theorem dX0_edge_90 : decode cX0_edge 90 = .ok (.invokevirtual 64, 3) := by decide +kernel
theorem dX0_edge_93 : decode cX0_edge 93 = .ok (.iconst 1, 1) := by decide +kernel
theorem dX0_edge_94 : decode cX0_edge 94 = .ok (.ireturn, 1) := by decide +kernel
set_option maxRecDepth 20000 in
theorem ggX0_parts_X0_endRun : GoodIn wsX0_parts wsX0_endRun := goodIn_r _ [6, 7, 8, 9, 10, 11, 12, 13, 14, 15, 16, 17, 18, 19, 20, 21, 22, 23, 24, 25, 26, 27, 28] (by decide +kernel) (by decide +kernel)
set_option maxRecDepth 20000 in
theorem gX0_parts_X0_endRun : GoodIn wsX0_parts (wsV RX0 64 RX0 yX0_endRun wsX0_endRun) := goodIn_app (goodIn_of _ (by decide +kernel)) ggX0_parts_X0_endRun
theorem dX0_parts_0 : decode cX0_parts 0 = .ok (.iload_n 1, 1) := by decide +kernel
theorem dX0_parts_1 : decode cX0_parts 1 = .ok (.iconst 1, 1) := by decide +kernel
theorem dX0_parts_2 : decode cX0_parts 2 = .ok (.if_icmp .lt 8, 3) := by decide +kernel
theorem dX0_parts_5 : decode cX0_parts 5 = .ok (.iload_n 1, 1) := by decide +kernel
theorem dX0_parts_6 : decode cX0_parts 6 = .ok (.iconst 4, 1) := by decide +kernel
theorem dX0_parts_7 : decode cX0_parts 7 = .ok (.if_icmp .le 5, 3) := by decide +kernel
theorem dX0_parts_10 : decode cX0_parts 10 = .ok (.iconst 0, 1) := by decide +kernel
theorem dX0_parts_11 : decode cX0_parts 11 = .ok (.ireturn, 1) := by decide +kernel
theorem dX0_parts_12 : decode cX0_parts 12 = .ok (.aload_n 0, 1) := by decide +kernel
theorem dX0_parts_13 : decode cX0_parts 13 = .ok (.iload_n 1, 1) := by decide +kernel
theorem dX0_parts_14 : decode cX0_parts 14 = .ok (.putfield 27, 3) := by decide +kernel
theorem dX0_parts_17 : decode cX0_parts 17 = .ok (.aload_n 0, 1) := by decide +kernel
theorem dX0_parts_18 : decode cX0_parts 18 = .ok (.invokevirtual 64, 3) := by decide +kernel
theorem dX0_parts_21 : decode cX0_parts 21 = .ok (.iconst 1, 1) := by decide +kernel
theorem dX0_parts_22 : decode cX0_parts 22 = .ok (.ireturn, 1) := by decide +kernel
set_option maxRecDepth 20000 in
theorem ggX0_begin_X0_isVertex : GoodIn wsX0_begin wsX0_isVertex := goodIn_r _ [14, 5, 62, 63, 64, 65, 66, 67, 68, 69, 70, 71, 72, 73, 74, 75, 76, 77] (by decide +kernel) (by decide +kernel)
set_option maxRecDepth 20000 in
theorem gX0_begin_X0_isVertex : GoodIn wsX0_begin (wsV RX0 67 RX0 yX0_isVertex wsX0_isVertex) := goodIn_app (goodIn_of _ (by decide +kernel)) ggX0_begin_X0_isVertex
set_option maxRecDepth 20000 in
theorem ggX0_begin_X0_endRun : GoodIn wsX0_begin wsX0_endRun := goodIn_r _ [18, 3, 9, 19, 20, 21, 22, 62, 63, 64, 65, 66, 67, 68, 69, 70, 71, 72, 73, 74, 75, 76, 77] (by decide +kernel) (by decide +kernel)
set_option maxRecDepth 20000 in
theorem gX0_begin_X0_endRun : GoodIn wsX0_begin (wsV RX0 64 RX0 yX0_endRun wsX0_endRun) := goodIn_app (goodIn_of _ (by decide +kernel)) ggX0_begin_X0_endRun
set_option maxRecDepth 20000 in
theorem ggX0_begin_X0_firstValue : GoodIn wsX0_begin wsX0_firstValue := goodIn_r _ [26, 4, 8, 27, 62, 63, 64, 65, 66, 67, 68, 69, 70, 71, 72, 73, 74, 75, 76, 77] (by decide +kernel) (by decide +kernel)
set_option maxRecDepth 20000 in
theorem gX0_begin_X0_firstValue : GoodIn wsX0_begin (wsV RX0 84 RX0 yX0_firstValue wsX0_firstValue) := goodIn_app (goodIn_of _ (by decide +kernel)) ggX0_begin_X0_firstValue
set_option maxRecDepth 20000 in
theorem ggX0_begin_X0_endStep : GoodIn wsX0_begin wsX0_endStep := goodIn_r _ [31, 32, 33, 34, 35, 19, 36, 37, 38, 13, 39, 5, 40, 41, 8, 9, 42, 43, 44, 45, 7, 20, 6, 46, 47, 48, 49, 50, 51, 52, 53, 21, 22, 54, 55, 56, 57, 4, 58, 59, 60, 61, 62, 63, 64, 65, 66, 67, 68, 69, 70, 71, 72, 73, 74, 75, 76, 77] (by decide +kernel) (by decide +kernel)
set_option maxRecDepth 20000 in
theorem gX0_begin_X0_endStep : GoodIn wsX0_begin (wsV RX0 90 RX0 yX0_endStep wsX0_endStep) := goodIn_app (goodIn_of _ (by decide +kernel)) ggX0_begin_X0_endStep
theorem dX0_begin_0 : decode cX0_begin 0 = .ok (.iload_n 1, 1) := by decide +kernel
theorem dX0_begin_1 : decode cX0_begin 1 = .ok (.ifCond .lt 8, 3) := by decide +kernel
theorem dX0_begin_4 : decode cX0_begin 4 = .ok (.iload_n 1, 1) := by decide +kernel
theorem dX0_begin_5 : decode cX0_begin 5 = .ok (.iconst 3, 1) := by decide +kernel
theorem dX0_begin_6 : decode cX0_begin 6 = .ok (.if_icmp .le 13, 3) := by decide +kernel
theorem dX0_begin_9 : decode cX0_begin 9 = .ok (.new 75, 3) := by decide +kernel
theorem dX0_begin_12 : decode cX0_begin 12 = .ok (.dup, 1) := by decide +kernel
theorem dX0_begin_13 : decode cX0_begin 13 = .ok (.ldc 77, 2) := by decide +kernel
theorem dX0_begin_15 : decode cX0_begin 15 = .ok (.invokespecial 79, 3) := by decide +kernel
theorem dX0_begin_18 : decode cX0_begin 18 = .ok (.athrow, 1) := by decide +kernel
theorem dX0_begin_19 : decode cX0_begin 19 = .ok (.aload_n 0, 1) := by decide +kernel
theorem dX0_begin_20 : decode cX0_begin 20 = .ok (.iload_n 2, 1) := by decide +kernel
theorem dX0_begin_21 : decode cX0_begin 21 = .ok (.invokevirtual 67, 3) := by decide +kernel
theorem dX0_begin_24 : decode cX0_begin 24 = .ok (.ifCond .ne 13, 3) := by decide +kernel
theorem dX0_begin_27 : decode cX0_begin 27 = .ok (.new 75, 3) := by decide +kernel
theorem dX0_begin_30 : decode cX0_begin 30 = .ok (.dup, 1) := by decide +kernel
theorem dX0_begin_31 : decode cX0_begin 31 = .ok (.ldc 82, 2) := by decide +kernel
theorem dX0_begin_33 : decode cX0_begin 33 = .ok (.invokespecial 79, 3) := by decide +kernel
theorem dX0_begin_36 : decode cX0_begin 36 = .ok (.athrow, 1) := by decide +kernel
theorem dX0_begin_37 : decode cX0_begin 37 = .ok (.aload_n 0, 1) := by decide +kernel
theorem dX0_begin_38 : decode cX0_begin 38 = .ok (.invokevirtual 64, 3) := by decide +kernel
theorem dX0_begin_41 : decode cX0_begin 41 = .ok (.aload_n 0, 1) := by decide +kernel
theorem dX0_begin_42 : decode cX0_begin 42 = .ok (.iconst 1, 1) := by decide +kernel
theorem dX0_begin_43 : decode cX0_begin 43 = .ok (.putfield 42, 3) := by decide +kernel
theorem dX0_begin_46 : decode cX0_begin 46 = .ok (.aload_n 0, 1) := by decide +kernel
theorem dX0_begin_47 : decode cX0_begin 47 = .ok (.iload_n 1, 1) := by decide +kernel
theorem dX0_begin_48 : decode cX0_begin 48 = .ok (.putfield 46, 3) := by decide +kernel
theorem dX0_begin_51 : decode cX0_begin 51 = .ok (.iconst 0, 1) := by decide +kernel
theorem dX0_begin_52 : decode cX0_begin 52 = .ok (.istore_n 3, 1) := by decide +kernel
theorem dX0_begin_53 : decode cX0_begin 53 = .ok (.iload_n 3, 1) := by decide +kernel
theorem dX0_begin_54 : decode cX0_begin 54 = .ok (.aload_n 0, 1) := by decide +kernel
theorem dX0_begin_55 : decode cX0_begin 55 = .ok (.getfield 20, 3) := by decide +kernel
theorem dX0_begin_58 : decode cX0_begin 58 = .ok (.if_icmp .ge 45, 3) := by decide +kernel
theorem dX0_begin_61 : decode cX0_begin 61 = .ok (.aload_n 0, 1) := by decide +kernel
theorem dX0_begin_62 : decode cX0_begin 62 = .ok (.getfield 30, 3) := by decide +kernel
theorem dX0_begin_65 : decode cX0_begin 65 = .ok (.iload_n 3, 1) := by decide +kernel
theorem dX0_begin_66 : decode cX0_begin 66 = .ok (.aload_n 0, 1) := by decide +kernel
theorem dX0_begin_67 : decode cX0_begin 67 = .ok (.iload_n 3, 1) := by decide +kernel
theorem dX0_begin_68 : decode cX0_begin 68 = .ok (.iload_n 2, 1) := by decide +kernel
theorem dX0_begin_69 : decode cX0_begin 69 = .ok (.invokevirtual 84, 3) := by decide +kernel
theorem dX0_begin_72 : decode cX0_begin 72 = .ok (.dastore, 1) := by decide +kernel
theorem dX0_begin_73 : decode cX0_begin 73 = .ok (.aload_n 0, 1) := by decide +kernel
theorem dX0_begin_74 : decode cX0_begin 74 = .ok (.getfield 33, 3) := by decide +kernel
theorem dX0_begin_77 : decode cX0_begin 77 = .ok (.iload_n 3, 1) := by decide +kernel
theorem dX0_begin_78 : decode cX0_begin 78 = .ok (.aload_n 0, 1) := by decide +kernel
theorem dX0_begin_79 : decode cX0_begin 79 = .ok (.getfield 30, 3) := by decide +kernel
theorem dX0_begin_82 : decode cX0_begin 82 = .ok (.iload_n 3, 1) := by decide +kernel
theorem dX0_begin_83 : decode cX0_begin 83 = .ok (.daload, 1) := by decide +kernel
theorem dX0_begin_84 : decode cX0_begin 84 = .ok (.ldc2_w 88, 3) := by decide +kernel
theorem dX0_begin_87 : decode cX0_begin 87 = .ok (.dcmp .l, 1) := by decide +kernel
theorem dX0_begin_88 : decode cX0_begin 88 = .ok (.ifCond .eq 7, 3) := by decide +kernel
theorem dX0_begin_91 : decode cX0_begin 91 = .ok (.iconst 1, 1) := by decide +kernel
theorem dX0_begin_92 : decode cX0_begin 92 = .ok (.goto 4, 3) := by decide +kernel
theorem dX0_begin_95 : decode cX0_begin 95 = .ok (.iconst 0, 1) := by decide +kernel
theorem dX0_begin_96 : decode cX0_begin 96 = .ok (.bastore, 1) := by decide +kernel
theorem dX0_begin_97 : decode cX0_begin 97 = .ok (.iinc 3 1, 3) := by decide +kernel
theorem dX0_begin_100 : decode cX0_begin 100 = .ok (.goto (-47), 3) := by decide +kernel
theorem dX0_begin_103 : decode cX0_begin 103 = .ok (.aload_n 0, 1) := by decide +kernel
theorem dX0_begin_104 : decode cX0_begin 104 = .ok (.invokevirtual 90, 3) := by decide +kernel
theorem dX0_begin_107 : decode cX0_begin 107 = .ok (.aload_n 0, 1) := by decide +kernel
theorem dX0_begin_108 : decode cX0_begin 108 = .ok (.getfield 49, 3) := by decide +kernel
theorem dX0_begin_111 : decode cX0_begin 111 = .ok (.ireturn, 1) := by decide +kernel
set_option maxRecDepth 20000 in
theorem ggX0_step_X0_doStep : GoodIn wsX0_step wsX0_doStep := goodIn_r _ [9, 10, 11, 12, 13, 14, 15, 16, 8, 17, 18, 19, 20, 21, 22, 23, 24, 25, 26, 27, 28, 29, 30, 31, 32, 33, 34, 35, 36, 37, 4, 38, 39, 40, 41, 42, 43, 44, 45, 46, 47, 48, 49, 50, 51, 52, 53, 54, 55, 56, 57, 58, 59, 60, 61, 62, 63, 64, 65, 66, 67, 68, 69, 70, 71, 72] (by decide +kernel) (by decide +kernel)
set_option maxRecDepth 20000 in
theorem gX0_step_X0_doStep : GoodIn wsX0_step (wsV RX0 100 RX0 yX0_doStep wsX0_doStep) := goodIn_app (goodIn_of _ (by decide +kernel)) ggX0_step_X0_doStep
theorem dX0_step_0 : decode cX0_step 0 = .ok (.aload_n 0, 1) := by decide +kernel
theorem dX0_step_1 : decode cX0_step 1 = .ok (.getfield 42, 3) := by decide +kernel
theorem dX0_step_4 : decode cX0_step 4 = .ok (.ifCond .ne 13, 3) := by decide +kernel
theorem dX0_step_7 : decode cX0_step 7 = .ok (.new 93, 3) := by decide +kernel
theorem dX0_step_10 : decode cX0_step 10 = .ok (.dup, 1) := by decide +kernel
theorem dX0_step_11 : decode cX0_step 11 = .ok (.ldc 95, 2) := by decide +kernel
theorem dX0_step_13 : decode cX0_step 13 = .ok (.invokespecial 97, 3) := by decide +kernel
theorem dX0_step_16 : decode cX0_step 16 = .ok (.athrow, 1) := by decide +kernel
theorem dX0_step_17 : decode cX0_step 17 = .ok (.aload_n 0, 1) := by decide +kernel
theorem dX0_step_18 : decode cX0_step 18 = .ok (.getfield 49, 3) := by decide +kernel
theorem dX0_step_21 : decode cX0_step 21 = .ok (.ifCond .ne 13, 3) := by decide +kernel
theorem dX0_step_24 : decode cX0_step 24 = .ok (.new 93, 3) := by decide +kernel
theorem dX0_step_27 : decode cX0_step 27 = .ok (.dup, 1) := by decide +kernel
theorem dX0_step_28 : decode cX0_step 28 = .ok (.ldc 98, 2) := by decide +kernel
theorem dX0_step_30 : decode cX0_step 30 = .ok (.invokespecial 97, 3) := by decide +kernel
theorem dX0_step_33 : decode cX0_step 33 = .ok (.athrow, 1) := by decide +kernel
theorem dX0_step_34 : decode cX0_step 34 = .ok (.aload_n 0, 1) := by decide +kernel
theorem dX0_step_35 : decode cX0_step 35 = .ok (.invokevirtual 100, 3) := by decide +kernel
theorem dX0_step_38 : decode cX0_step 38 = .ok (.ireturn, 1) := by decide +kernel
set_option maxRecDepth 20000 in
theorem ggX0_finish_X0_doStep : GoodIn wsX0_finish wsX0_doStep := goodIn_r _ [9, 10, 11, 12, 13, 14, 15, 16, 8, 17, 18, 19, 20, 21, 22, 23, 24, 25, 26, 27, 28, 29, 30, 31, 32, 33, 34, 35, 36, 37, 4, 38, 39, 40, 41, 42, 43, 44, 45, 46, 47, 48, 49, 50, 51, 52, 53, 54, 55, 56, 57, 58, 59, 60, 61, 62, 63, 64, 65, 66, 67, 68, 69, 70, 71, 72] (by decide +kernel) (by decide +kernel)
set_option maxRecDepth 20000 in
theorem gX0_finish_X0_doStep : GoodIn wsX0_finish (wsV RX0 100 RX0 yX0_doStep wsX0_doStep) := goodIn_app (goodIn_of _ (by decide +kernel)) ggX0_finish_X0_doStep
theorem dX0_finish_0 : decode cX0_finish 0 = .ok (.aload_n 0, 1) := by decide +kernel
theorem dX0_finish_1 : decode cX0_finish 1 = .ok (.getfield 42, 3) := by decide +kernel
theorem dX0_finish_4 : decode cX0_finish 4 = .ok (.ifCond .ne 13, 3) := by decide +kernel
theorem dX0_finish_7 : decode cX0_finish 7 = .ok (.new 93, 3) := by decide +kernel
theorem dX0_finish_10 : decode cX0_finish 10 = .ok (.dup, 1) := by decide +kernel
theorem dX0_finish_11 : decode cX0_finish 11 = .ok (.ldc 95, 2) := by decide +kernel
theorem dX0_finish_13 : decode cX0_finish 13 = .ok (.invokespecial 97, 3) := by decide +kernel
theorem dX0_finish_16 : decode cX0_finish 16 = .ok (.athrow, 1) := by decide +kernel
theorem dX0_finish_17 : decode cX0_finish 17 = .ok (.iconst 0, 1) := by decide +kernel
theorem dX0_finish_18 : decode cX0_finish 18 = .ok (.istore_n 2, 1) := by decide +kernel
theorem dX0_finish_19 : decode cX0_finish 19 = .ok (.iload_n 2, 1) := by decide +kernel
theorem dX0_finish_20 : decode cX0_finish 20 = .ok (.iload_n 1, 1) := by decide +kernel
theorem dX0_finish_21 : decode cX0_finish 21 = .ok (.if_icmp .ge 21, 3) := by decide +kernel
theorem dX0_finish_24 : decode cX0_finish 24 = .ok (.aload_n 0, 1) := by decide +kernel
theorem dX0_finish_25 : decode cX0_finish 25 = .ok (.getfield 49, 3) := by decide +kernel
theorem dX0_finish_28 : decode cX0_finish 28 = .ok (.ifCond .le 14, 3) := by decide +kernel
theorem dX0_finish_31 : decode cX0_finish 31 = .ok (.aload_n 0, 1) := by decide +kernel
theorem dX0_finish_32 : decode cX0_finish 32 = .ok (.invokevirtual 100, 3) := by decide +kernel
theorem dX0_finish_35 : decode cX0_finish 35 = .ok (.pop, 1) := by decide +kernel
theorem dX0_finish_36 : decode cX0_finish 36 = .ok (.iinc 2 1, 3) := by decide +kernel
theorem dX0_finish_39 : decode cX0_finish 39 = .ok (.goto (-20), 3) := by decide +kernel
theorem dX0_finish_42 : decode cX0_finish 42 = .ok (.iload_n 2, 1) := by decide +kernel
theorem dX0_finish_43 : decode cX0_finish 43 = .ok (.ireturn, 1) := by decide +kernel
theorem dX0_over_0 : decode cX0_over 0 = .ok (.aload_n 0, 1) := by decide +kernel
theorem dX0_over_1 : decode cX0_over 1 = .ok (.getfield 42, 3) := by decide +kernel
theorem dX0_over_4 : decode cX0_over 4 = .ok (.ifCond .eq 14, 3) := by decide +kernel
theorem dX0_over_7 : decode cX0_over 7 = .ok (.aload_n 0, 1) := by decide +kernel
theorem dX0_over_8 : decode cX0_over 8 = .ok (.getfield 49, 3) := by decide +kernel
theorem dX0_over_11 : decode cX0_over 11 = .ok (.ifCond .ne 7, 3) := by decide +kernel
theorem dX0_over_14 : decode cX0_over 14 = .ok (.iconst 1, 1) := by decide +kernel
theorem dX0_over_15 : decode cX0_over 15 = .ok (.goto 4, 3) := by decide +kernel
theorem dX0_over_18 : decode cX0_over 18 = .ok (.iconst 0, 1) := by decide +kernel
theorem dX0_over_19 : decode cX0_over 19 = .ok (.ireturn, 1) := by decide +kernel
set_option maxRecDepth 20000 in
theorem ggX0_value_X0_isVertex : GoodIn wsX0_value wsX0_isVertex := goodIn_r _ [8, 9, 10, 11, 12, 13, 14, 15, 16, 17, 18, 19, 20, 21, 22, 23, 24, 25] (by decide +kernel) (by decide +kernel)
set_option maxRecDepth 20000 in
theorem gX0_value_X0_isVertex : GoodIn wsX0_value (wsV RX0 67 RX0 yX0_isVertex wsX0_isVertex) := goodIn_app (goodIn_of _ (by decide +kernel)) ggX0_value_X0_isVertex
theorem dX0_value_0 : decode cX0_value 0 = .ok (.aload_n 0, 1) := by decide +kernel
theorem dX0_value_1 : decode cX0_value 1 = .ok (.getfield 42, 3) := by decide +kernel
theorem dX0_value_4 : decode cX0_value 4 = .ok (.ifCond .eq 20, 3) := by decide +kernel
theorem dX0_value_7 : decode cX0_value 7 = .ok (.aload_n 0, 1) := by decide +kernel
theorem dX0_value_8 : decode cX0_value 8 = .ok (.iload_n 1, 1) := by decide +kernel
theorem dX0_value_9 : decode cX0_value 9 = .ok (.invokevirtual 67, 3) := by decide +kernel
theorem dX0_value_12 : decode cX0_value 12 = .ok (.ifCond .eq 12, 3) := by decide +kernel
theorem dX0_value_15 : decode cX0_value 15 = .ok (.aload_n 0, 1) := by decide +kernel
theorem dX0_value_16 : decode cX0_value 16 = .ok (.getfield 30, 3) := by decide +kernel
theorem dX0_value_19 : decode cX0_value 19 = .ok (.iload_n 1, 1) := by decide +kernel
theorem dX0_value_20 : decode cX0_value 20 = .ok (.daload, 1) := by decide +kernel
theorem dX0_value_21 : decode cX0_value 21 = .ok (.goto 6, 3) := by decide +kernel
theorem dX0_value_24 : decode cX0_value 24 = .ok (.ldc2_w 88, 3) := by decide +kernel
theorem dX0_value_27 : decode cX0_value 27 = .ok (.dreturn, 1) := by decide +kernel
theorem dX0_sum_0 : decode cX0_sum 0 = .ok (.dconst 0, 1) := by decide +kernel
theorem dX0_sum_1 : decode cX0_sum 1 = .ok (.dstore_n 1, 1) := by decide +kernel
theorem dX0_sum_2 : decode cX0_sum 2 = .ok (.aload_n 0, 1) := by decide +kernel
theorem dX0_sum_3 : decode cX0_sum 3 = .ok (.getfield 42, 3) := by decide +kernel
theorem dX0_sum_6 : decode cX0_sum 6 = .ok (.ifCond .eq 41, 3) := by decide +kernel
theorem dX0_sum_9 : decode cX0_sum 9 = .ok (.iconst 0, 1) := by decide +kernel
theorem dX0_sum_10 : decode cX0_sum 10 = .ok (.istore_n 3, 1) := by decide +kernel
theorem dX0_sum_11 : decode cX0_sum 11 = .ok (.iload_n 3, 1) := by decide +kernel
theorem dX0_sum_12 : decode cX0_sum 12 = .ok (.aload_n 0, 1) := by decide +kernel
theorem dX0_sum_13 : decode cX0_sum 13 = .ok (.getfield 20, 3) := by decide +kernel
theorem dX0_sum_16 : decode cX0_sum 16 = .ok (.if_icmp .ge 31, 3) := by decide +kernel
theorem dX0_sum_19 : decode cX0_sum 19 = .ok (.aload_n 0, 1) := by decide +kernel
theorem dX0_sum_20 : decode cX0_sum 20 = .ok (.getfield 30, 3) := by decide +kernel
theorem dX0_sum_23 : decode cX0_sum 23 = .ok (.iload_n 3, 1) := by decide +kernel
theorem dX0_sum_24 : decode cX0_sum 24 = .ok (.daload, 1) := by decide +kernel
theorem dX0_sum_25 : decode cX0_sum 25 = .ok (.ldc2_w 88, 3) := by decide +kernel
theorem dX0_sum_28 : decode cX0_sum 28 = .ok (.dcmp .l, 1) := by decide +kernel
theorem dX0_sum_29 : decode cX0_sum 29 = .ok (.ifCond .eq 12, 3) := by decide +kernel
theorem dX0_sum_32 : decode cX0_sum 32 = .ok (.dload_n 1, 1) := by decide +kernel
theorem dX0_sum_33 : decode cX0_sum 33 = .ok (.aload_n 0, 1) := by decide +kernel
theorem dX0_sum_34 : decode cX0_sum 34 = .ok (.getfield 30, 3) := by decide +kernel
theorem dX0_sum_37 : decode cX0_sum 37 = .ok (.iload_n 3, 1) := by decide +kernel
theorem dX0_sum_38 : decode cX0_sum 38 = .ok (.daload, 1) := by decide +kernel
theorem dX0_sum_39 : decode cX0_sum 39 = .ok (.dadd, 1) := by decide +kernel
theorem dX0_sum_40 : decode cX0_sum 40 = .ok (.dstore_n 1, 1) := by decide +kernel
theorem dX0_sum_41 : decode cX0_sum 41 = .ok (.iinc 3 1, 3) := by decide +kernel
theorem dX0_sum_44 : decode cX0_sum 44 = .ok (.goto (-33), 3) := by decide +kernel
theorem dX0_sum_47 : decode cX0_sum 47 = .ok (.dload_n 1, 1) := by decide +kernel
theorem dX0_sum_48 : decode cX0_sum 48 = .ok (.dreturn, 1) := by decide +kernel
theorem dX0_steps_0 : decode cX0_steps 0 = .ok (.aload_n 0, 1) := by decide +kernel
theorem dX0_steps_1 : decode cX0_steps 1 = .ok (.getfield 52, 3) := by decide +kernel
theorem dX0_steps_4 : decode cX0_steps 4 = .ok (.ireturn, 1) := by decide +kernel
theorem dX0_sent_0 : decode cX0_sent 0 = .ok (.aload_n 0, 1) := by decide +kernel
theorem dX0_sent_1 : decode cX0_sent 1 = .ok (.getfield 55, 3) := by decide +kernel
theorem dX0_sent_4 : decode cX0_sent 4 = .ok (.ireturn, 1) := by decide +kernel
theorem dX0_delivered_0 : decode cX0_delivered 0 = .ok (.aload_n 0, 1) := by decide +kernel
theorem dX0_delivered_1 : decode cX0_delivered 1 = .ok (.getfield 58, 3) := by decide +kernel
theorem dX0_delivered_4 : decode cX0_delivered 4 = .ok (.ireturn, 1) := by decide +kernel
theorem dX0_crossed_0 : decode cX0_crossed 0 = .ok (.aload_n 0, 1) := by decide +kernel
theorem dX0_crossed_1 : decode cX0_crossed 1 = .ok (.getfield 61, 3) := by decide +kernel
theorem dX0_crossed_4 : decode cX0_crossed 4 = .ok (.ireturn, 1) := by decide +kernel
set_option maxRecDepth 20000 in
theorem ggX0_pending_X0_isVertex : GoodIn wsX0_pending wsX0_isVertex := goodIn_r _ [8, 9, 15, 16, 17, 18, 19, 20, 21, 22, 23, 24, 25, 26, 27, 28, 29, 30] (by decide +kernel) (by decide +kernel)
set_option maxRecDepth 20000 in
theorem gX0_pending_X0_isVertex : GoodIn wsX0_pending (wsV RX0 67 RX0 yX0_isVertex wsX0_isVertex) := goodIn_app (goodIn_of _ (by decide +kernel)) ggX0_pending_X0_isVertex
set_option maxRecDepth 20000 in
theorem ggX0_pending_X0_isPart : GoodIn wsX0_pending wsX0_isPart := goodIn_r _ [13, 14, 15, 16, 17, 18, 19, 20, 21, 22, 23, 24, 25, 26, 27, 28, 29, 30] (by decide +kernel) (by decide +kernel)
set_option maxRecDepth 20000 in
theorem gX0_pending_X0_isPart : GoodIn wsX0_pending (wsV RX0 104 RX0 yX0_isPart wsX0_isPart) := goodIn_app (goodIn_of _ (by decide +kernel)) ggX0_pending_X0_isPart
theorem dX0_pending_0 : decode cX0_pending 0 = .ok (.aload_n 0, 1) := by decide +kernel
theorem dX0_pending_1 : decode cX0_pending 1 = .ok (.getfield 42, 3) := by decide +kernel
theorem dX0_pending_4 : decode cX0_pending 4 = .ok (.ifCond .eq 30, 3) := by decide +kernel
theorem dX0_pending_7 : decode cX0_pending 7 = .ok (.aload_n 0, 1) := by decide +kernel
theorem dX0_pending_8 : decode cX0_pending 8 = .ok (.iload_n 1, 1) := by decide +kernel
theorem dX0_pending_9 : decode cX0_pending 9 = .ok (.invokevirtual 67, 3) := by decide +kernel
theorem dX0_pending_12 : decode cX0_pending 12 = .ok (.ifCond .eq 22, 3) := by decide +kernel
theorem dX0_pending_15 : decode cX0_pending 15 = .ok (.aload_n 0, 1) := by decide +kernel
theorem dX0_pending_16 : decode cX0_pending 16 = .ok (.iload_n 2, 1) := by decide +kernel
theorem dX0_pending_17 : decode cX0_pending 17 = .ok (.invokevirtual 104, 3) := by decide +kernel
theorem dX0_pending_20 : decode cX0_pending 20 = .ok (.ifCond .eq 14, 3) := by decide +kernel
theorem dX0_pending_23 : decode cX0_pending 23 = .ok (.aload_n 0, 1) := by decide +kernel
theorem dX0_pending_24 : decode cX0_pending 24 = .ok (.getfield 39, 3) := by decide +kernel
theorem dX0_pending_27 : decode cX0_pending 27 = .ok (.iload_n 1, 1) := by decide +kernel
theorem dX0_pending_28 : decode cX0_pending 28 = .ok (.aaload, 1) := by decide +kernel
theorem dX0_pending_29 : decode cX0_pending 29 = .ok (.iload_n 2, 1) := by decide +kernel
theorem dX0_pending_30 : decode cX0_pending 30 = .ok (.daload, 1) := by decide +kernel
theorem dX0_pending_31 : decode cX0_pending 31 = .ok (.goto 6, 3) := by decide +kernel
theorem dX0_pending_34 : decode cX0_pending 34 = .ok (.ldc2_w 88, 3) := by decide +kernel
theorem dX0_pending_37 : decode cX0_pending 37 = .ok (.dreturn, 1) := by decide +kernel
set_option maxRecDepth 20000 in
theorem ggX0_degree_X0_isVertex : GoodIn wsX0_degree wsX0_isVertex := goodIn_r _ [8, 9, 10, 11, 12, 13, 14, 15, 16, 17, 18, 19, 20, 21, 22, 23, 24, 25] (by decide +kernel) (by decide +kernel)
set_option maxRecDepth 20000 in
theorem gX0_degree_X0_isVertex : GoodIn wsX0_degree (wsV RX0 67 RX0 yX0_isVertex wsX0_isVertex) := goodIn_app (goodIn_of _ (by decide +kernel)) ggX0_degree_X0_isVertex
theorem dX0_degree_0 : decode cX0_degree 0 = .ok (.aload_n 0, 1) := by decide +kernel
theorem dX0_degree_1 : decode cX0_degree 1 = .ok (.iload_n 1, 1) := by decide +kernel
theorem dX0_degree_2 : decode cX0_degree 2 = .ok (.invokevirtual 67, 3) := by decide +kernel
theorem dX0_degree_5 : decode cX0_degree 5 = .ok (.ifCond .ne 5, 3) := by decide +kernel
theorem dX0_degree_8 : decode cX0_degree 8 = .ok (.iconst (-1), 1) := by decide +kernel
theorem dX0_degree_9 : decode cX0_degree 9 = .ok (.ireturn, 1) := by decide +kernel
theorem dX0_degree_10 : decode cX0_degree 10 = .ok (.iconst 0, 1) := by decide +kernel
theorem dX0_degree_11 : decode cX0_degree 11 = .ok (.istore_n 2, 1) := by decide +kernel
theorem dX0_degree_12 : decode cX0_degree 12 = .ok (.iconst 0, 1) := by decide +kernel
theorem dX0_degree_13 : decode cX0_degree 13 = .ok (.istore_n 3, 1) := by decide +kernel
theorem dX0_degree_14 : decode cX0_degree 14 = .ok (.iload_n 3, 1) := by decide +kernel
theorem dX0_degree_15 : decode cX0_degree 15 = .ok (.aload_n 0, 1) := by decide +kernel
theorem dX0_degree_16 : decode cX0_degree 16 = .ok (.getfield 24, 3) := by decide +kernel
theorem dX0_degree_19 : decode cX0_degree 19 = .ok (.if_icmp .ge 32, 3) := by decide +kernel
theorem dX0_degree_22 : decode cX0_degree 22 = .ok (.aload_n 0, 1) := by decide +kernel
theorem dX0_degree_23 : decode cX0_degree 23 = .ok (.getfield 9, 3) := by decide +kernel
theorem dX0_degree_26 : decode cX0_degree 26 = .ok (.iload_n 3, 1) := by decide +kernel
theorem dX0_degree_27 : decode cX0_degree 27 = .ok (.iaload, 1) := by decide +kernel
theorem dX0_degree_28 : decode cX0_degree 28 = .ok (.iload_n 1, 1) := by decide +kernel
theorem dX0_degree_29 : decode cX0_degree 29 = .ok (.if_icmp .eq 13, 3) := by decide +kernel
theorem dX0_degree_32 : decode cX0_degree 32 = .ok (.aload_n 0, 1) := by decide +kernel
theorem dX0_degree_33 : decode cX0_degree 33 = .ok (.getfield 13, 3) := by decide +kernel
theorem dX0_degree_36 : decode cX0_degree 36 = .ok (.iload_n 3, 1) := by decide +kernel
theorem dX0_degree_37 : decode cX0_degree 37 = .ok (.iaload, 1) := by decide +kernel
theorem dX0_degree_38 : decode cX0_degree 38 = .ok (.iload_n 1, 1) := by decide +kernel
theorem dX0_degree_39 : decode cX0_degree 39 = .ok (.if_icmp .ne 6, 3) := by decide +kernel
theorem dX0_degree_42 : decode cX0_degree 42 = .ok (.iinc 2 1, 3) := by decide +kernel
theorem dX0_degree_45 : decode cX0_degree 45 = .ok (.iinc 3 1, 3) := by decide +kernel
theorem dX0_degree_48 : decode cX0_degree 48 = .ok (.goto (-34), 3) := by decide +kernel
theorem dX0_degree_51 : decode cX0_degree 51 = .ok (.iload_n 2, 1) := by decide +kernel
theorem dX0_degree_52 : decode cX0_degree 52 = .ok (.ireturn, 1) := by decide +kernel
theorem dX0_isVertex_0 : decode cX0_isVertex 0 = .ok (.iload_n 1, 1) := by decide +kernel
theorem dX0_isVertex_1 : decode cX0_isVertex 1 = .ok (.ifCond .lt 15, 3) := by decide +kernel
theorem dX0_isVertex_4 : decode cX0_isVertex 4 = .ok (.iload_n 1, 1) := by decide +kernel
theorem dX0_isVertex_5 : decode cX0_isVertex 5 = .ok (.aload_n 0, 1) := by decide +kernel
theorem dX0_isVertex_6 : decode cX0_isVertex 6 = .ok (.getfield 20, 3) := by decide +kernel
theorem dX0_isVertex_9 : decode cX0_isVertex 9 = .ok (.if_icmp .ge 7, 3) := by decide +kernel
theorem dX0_isVertex_12 : decode cX0_isVertex 12 = .ok (.iconst 1, 1) := by decide +kernel
theorem dX0_isVertex_13 : decode cX0_isVertex 13 = .ok (.goto 4, 3) := by decide +kernel
theorem dX0_isVertex_16 : decode cX0_isVertex 16 = .ok (.iconst 0, 1) := by decide +kernel
theorem dX0_isVertex_17 : decode cX0_isVertex 17 = .ok (.ireturn, 1) := by decide +kernel
theorem dX0_isPart_0 : decode cX0_isPart 0 = .ok (.iload_n 1, 1) := by decide +kernel
theorem dX0_isPart_1 : decode cX0_isPart 1 = .ok (.ifCond .lt 15, 3) := by decide +kernel
theorem dX0_isPart_4 : decode cX0_isPart 4 = .ok (.iload_n 1, 1) := by decide +kernel
theorem dX0_isPart_5 : decode cX0_isPart 5 = .ok (.aload_n 0, 1) := by decide +kernel
theorem dX0_isPart_6 : decode cX0_isPart 6 = .ok (.getfield 27, 3) := by decide +kernel
theorem dX0_isPart_9 : decode cX0_isPart 9 = .ok (.if_icmp .ge 7, 3) := by decide +kernel
theorem dX0_isPart_12 : decode cX0_isPart 12 = .ok (.iconst 1, 1) := by decide +kernel
theorem dX0_isPart_13 : decode cX0_isPart 13 = .ok (.goto 4, 3) := by decide +kernel
theorem dX0_isPart_16 : decode cX0_isPart 16 = .ok (.iconst 0, 1) := by decide +kernel
theorem dX0_isPart_17 : decode cX0_isPart 17 = .ok (.ireturn, 1) := by decide +kernel
theorem dX0_isWeight_0 : decode cX0_isWeight 0 = .ok (.dload_n 0, 1) := by decide +kernel
theorem dX0_isWeight_1 : decode cX0_isWeight 1 = .ok (.dconst 0, 1) := by decide +kernel
theorem dX0_isWeight_2 : decode cX0_isWeight 2 = .ok (.dcmp .l, 1) := by decide +kernel
theorem dX0_isWeight_3 : decode cX0_isWeight 3 = .ok (.ifCond .lt 15, 3) := by decide +kernel
theorem dX0_isWeight_6 : decode cX0_isWeight 6 = .ok (.dload_n 0, 1) := by decide +kernel
theorem dX0_isWeight_7 : decode cX0_isWeight 7 = .ok (.ldc2_w 107, 3) := by decide +kernel
theorem dX0_isWeight_10 : decode cX0_isWeight 10 = .ok (.dcmp .g, 1) := by decide +kernel
theorem dX0_isWeight_11 : decode cX0_isWeight 11 = .ok (.ifCond .gt 7, 3) := by decide +kernel
theorem dX0_isWeight_14 : decode cX0_isWeight 14 = .ok (.iconst 1, 1) := by decide +kernel
theorem dX0_isWeight_15 : decode cX0_isWeight 15 = .ok (.goto 4, 3) := by decide +kernel
theorem dX0_isWeight_18 : decode cX0_isWeight 18 = .ok (.iconst 0, 1) := by decide +kernel
theorem dX0_isWeight_19 : decode cX0_isWeight 19 = .ok (.ireturn, 1) := by decide +kernel
theorem dX0_partOf_0 : decode cX0_partOf 0 = .ok (.iload_n 1, 1) := by decide +kernel
theorem dX0_partOf_1 : decode cX0_partOf 1 = .ok (.aload_n 0, 1) := by decide +kernel
theorem dX0_partOf_2 : decode cX0_partOf 2 = .ok (.getfield 27, 3) := by decide +kernel
theorem dX0_partOf_5 : decode cX0_partOf 5 = .ok (.irem, 1) := by decide +kernel
theorem dX0_partOf_6 : decode cX0_partOf 6 = .ok (.ireturn, 1) := by decide +kernel
theorem dX0_endRun_0 : decode cX0_endRun 0 = .ok (.aload_n 0, 1) := by decide +kernel
theorem dX0_endRun_1 : decode cX0_endRun 1 = .ok (.iconst 0, 1) := by decide +kernel
theorem dX0_endRun_2 : decode cX0_endRun 2 = .ok (.putfield 42, 3) := by decide +kernel
theorem dX0_endRun_5 : decode cX0_endRun 5 = .ok (.aload_n 0, 1) := by decide +kernel
theorem dX0_endRun_6 : decode cX0_endRun 6 = .ok (.iconst 0, 1) := by decide +kernel
theorem dX0_endRun_7 : decode cX0_endRun 7 = .ok (.putfield 49, 3) := by decide +kernel
theorem dX0_endRun_10 : decode cX0_endRun 10 = .ok (.aload_n 0, 1) := by decide +kernel
theorem dX0_endRun_11 : decode cX0_endRun 11 = .ok (.iconst 0, 1) := by decide +kernel
theorem dX0_endRun_12 : decode cX0_endRun 12 = .ok (.putfield 52, 3) := by decide +kernel
theorem dX0_endRun_15 : decode cX0_endRun 15 = .ok (.aload_n 0, 1) := by decide +kernel
theorem dX0_endRun_16 : decode cX0_endRun 16 = .ok (.iconst 0, 1) := by decide +kernel
theorem dX0_endRun_17 : decode cX0_endRun 17 = .ok (.putfield 55, 3) := by decide +kernel
theorem dX0_endRun_20 : decode cX0_endRun 20 = .ok (.aload_n 0, 1) := by decide +kernel
theorem dX0_endRun_21 : decode cX0_endRun 21 = .ok (.iconst 0, 1) := by decide +kernel
theorem dX0_endRun_22 : decode cX0_endRun 22 = .ok (.putfield 58, 3) := by decide +kernel
theorem dX0_endRun_25 : decode cX0_endRun 25 = .ok (.aload_n 0, 1) := by decide +kernel
theorem dX0_endRun_26 : decode cX0_endRun 26 = .ok (.iconst 0, 1) := by decide +kernel
theorem dX0_endRun_27 : decode cX0_endRun 27 = .ok (.putfield 61, 3) := by decide +kernel
theorem dX0_endRun_30 : decode cX0_endRun 30 = .ok (.return_, 1) := by decide +kernel
theorem dX0_firstValue_0 : decode cX0_firstValue 0 = .ok (.aload_n 0, 1) := by decide +kernel
theorem dX0_firstValue_1 : decode cX0_firstValue 1 = .ok (.getfield 46, 3) := by decide +kernel
theorem dX0_firstValue_4 : decode cX0_firstValue 4 = .ok (.iconst 1, 1) := by decide +kernel
theorem dX0_firstValue_5 : decode cX0_firstValue 5 = .ok (.if_icmp .ne 6, 3) := by decide +kernel
theorem dX0_firstValue_8 : decode cX0_firstValue 8 = .ok (.iload_n 1, 1) := by decide +kernel
theorem dX0_firstValue_9 : decode cX0_firstValue 9 = .ok (.i2d, 1) := by decide +kernel
theorem dX0_firstValue_10 : decode cX0_firstValue 10 = .ok (.dreturn, 1) := by decide +kernel
theorem dX0_firstValue_11 : decode cX0_firstValue 11 = .ok (.iload_n 1, 1) := by decide +kernel
theorem dX0_firstValue_12 : decode cX0_firstValue 12 = .ok (.iload_n 2, 1) := by decide +kernel
theorem dX0_firstValue_13 : decode cX0_firstValue 13 = .ok (.if_icmp .eq 7, 3) := by decide +kernel
theorem dX0_firstValue_16 : decode cX0_firstValue 16 = .ok (.ldc2_w 88, 3) := by decide +kernel
theorem dX0_firstValue_19 : decode cX0_firstValue 19 = .ok (.dreturn, 1) := by decide +kernel
theorem dX0_firstValue_20 : decode cX0_firstValue 20 = .ok (.aload_n 0, 1) := by decide +kernel
theorem dX0_firstValue_21 : decode cX0_firstValue 21 = .ok (.getfield 46, 3) := by decide +kernel
theorem dX0_firstValue_24 : decode cX0_firstValue 24 = .ok (.iconst 3, 1) := by decide +kernel
theorem dX0_firstValue_25 : decode cX0_firstValue 25 = .ok (.if_icmp .ne 9, 3) := by decide +kernel
theorem dX0_firstValue_28 : decode cX0_firstValue 28 = .ok (.ldc2_w 107, 3) := by decide +kernel
theorem dX0_firstValue_31 : decode cX0_firstValue 31 = .ok (.goto 4, 3) := by decide +kernel
theorem dX0_firstValue_34 : decode cX0_firstValue 34 = .ok (.dconst 0, 1) := by decide +kernel
theorem dX0_firstValue_35 : decode cX0_firstValue 35 = .ok (.dreturn, 1) := by decide +kernel
theorem dX0_messageOf_0 : decode cX0_messageOf 0 = .ok (.aload_n 0, 1) := by decide +kernel
theorem dX0_messageOf_1 : decode cX0_messageOf 1 = .ok (.getfield 46, 3) := by decide +kernel
theorem dX0_messageOf_4 : decode cX0_messageOf 4 = .ok (.ifCond .ne 7, 3) := by decide +kernel
theorem dX0_messageOf_7 : decode cX0_messageOf 7 = .ok (.dload_n 1, 1) := by decide +kernel
theorem dX0_messageOf_8 : decode cX0_messageOf 8 = .ok (.dload_n 3, 1) := by decide +kernel
theorem dX0_messageOf_9 : decode cX0_messageOf 9 = .ok (.dadd, 1) := by decide +kernel
theorem dX0_messageOf_10 : decode cX0_messageOf 10 = .ok (.dreturn, 1) := by decide +kernel
theorem dX0_messageOf_11 : decode cX0_messageOf 11 = .ok (.aload_n 0, 1) := by decide +kernel
theorem dX0_messageOf_12 : decode cX0_messageOf 12 = .ok (.getfield 46, 3) := by decide +kernel
theorem dX0_messageOf_15 : decode cX0_messageOf 15 = .ok (.iconst 1, 1) := by decide +kernel
theorem dX0_messageOf_16 : decode cX0_messageOf 16 = .ok (.if_icmp .ne 5, 3) := by decide +kernel
theorem dX0_messageOf_19 : decode cX0_messageOf 19 = .ok (.dload_n 1, 1) := by decide +kernel
theorem dX0_messageOf_20 : decode cX0_messageOf 20 = .ok (.dreturn, 1) := by decide +kernel
theorem dX0_messageOf_21 : decode cX0_messageOf 21 = .ok (.aload_n 0, 1) := by decide +kernel
theorem dX0_messageOf_22 : decode cX0_messageOf 22 = .ok (.getfield 46, 3) := by decide +kernel
theorem dX0_messageOf_25 : decode cX0_messageOf 25 = .ok (.iconst 2, 1) := by decide +kernel
theorem dX0_messageOf_26 : decode cX0_messageOf 26 = .ok (.if_icmp .ne 7, 3) := by decide +kernel
theorem dX0_messageOf_29 : decode cX0_messageOf 29 = .ok (.dload_n 1, 1) := by decide +kernel
theorem dX0_messageOf_30 : decode cX0_messageOf 30 = .ok (.dconst 1, 1) := by decide +kernel
theorem dX0_messageOf_31 : decode cX0_messageOf 31 = .ok (.dadd, 1) := by decide +kernel
theorem dX0_messageOf_32 : decode cX0_messageOf 32 = .ok (.dreturn, 1) := by decide +kernel
theorem dX0_messageOf_33 : decode cX0_messageOf 33 = .ok (.dload_n 1, 1) := by decide +kernel
theorem dX0_messageOf_34 : decode cX0_messageOf 34 = .ok (.dload_n 3, 1) := by decide +kernel
theorem dX0_messageOf_35 : decode cX0_messageOf 35 = .ok (.dcmp .g, 1) := by decide +kernel
theorem dX0_messageOf_36 : decode cX0_messageOf 36 = .ok (.ifCond .gt 7, 3) := by decide +kernel
theorem dX0_messageOf_39 : decode cX0_messageOf 39 = .ok (.dload_n 1, 1) := by decide +kernel
theorem dX0_messageOf_40 : decode cX0_messageOf 40 = .ok (.goto 4, 3) := by decide +kernel
theorem dX0_messageOf_43 : decode cX0_messageOf 43 = .ok (.dload_n 3, 1) := by decide +kernel
theorem dX0_messageOf_44 : decode cX0_messageOf 44 = .ok (.dreturn, 1) := by decide +kernel
theorem dX0_isBetter_0 : decode cX0_isBetter 0 = .ok (.dload_n 1, 1) := by decide +kernel
theorem dX0_isBetter_1 : decode cX0_isBetter 1 = .ok (.ldc2_w 88, 3) := by decide +kernel
theorem dX0_isBetter_4 : decode cX0_isBetter 4 = .ok (.dcmp .l, 1) := by decide +kernel
theorem dX0_isBetter_5 : decode cX0_isBetter 5 = .ok (.ifCond .ne 5, 3) := by decide +kernel
theorem dX0_isBetter_8 : decode cX0_isBetter 8 = .ok (.iconst 0, 1) := by decide +kernel
theorem dX0_isBetter_9 : decode cX0_isBetter 9 = .ok (.ireturn, 1) := by decide +kernel
theorem dX0_isBetter_10 : decode cX0_isBetter 10 = .ok (.dload_n 3, 1) := by decide +kernel
theorem dX0_isBetter_11 : decode cX0_isBetter 11 = .ok (.ldc2_w 88, 3) := by decide +kernel
theorem dX0_isBetter_14 : decode cX0_isBetter 14 = .ok (.dcmp .l, 1) := by decide +kernel
theorem dX0_isBetter_15 : decode cX0_isBetter 15 = .ok (.ifCond .ne 5, 3) := by decide +kernel
theorem dX0_isBetter_18 : decode cX0_isBetter 18 = .ok (.iconst 1, 1) := by decide +kernel
theorem dX0_isBetter_19 : decode cX0_isBetter 19 = .ok (.ireturn, 1) := by decide +kernel
theorem dX0_isBetter_20 : decode cX0_isBetter 20 = .ok (.aload_n 0, 1) := by decide +kernel
theorem dX0_isBetter_21 : decode cX0_isBetter 21 = .ok (.getfield 46, 3) := by decide +kernel
theorem dX0_isBetter_24 : decode cX0_isBetter 24 = .ok (.iconst 3, 1) := by decide +kernel
theorem dX0_isBetter_25 : decode cX0_isBetter 25 = .ok (.if_icmp .ne 17, 3) := by decide +kernel
theorem dX0_isBetter_28 : decode cX0_isBetter 28 = .ok (.dload_n 1, 1) := by decide +kernel
theorem dX0_isBetter_29 : decode cX0_isBetter 29 = .ok (.dload_n 3, 1) := by decide +kernel
theorem dX0_isBetter_30 : decode cX0_isBetter 30 = .ok (.dcmp .l, 1) := by decide +kernel
theorem dX0_isBetter_31 : decode cX0_isBetter 31 = .ok (.ifCond .le 7, 3) := by decide +kernel
theorem dX0_isBetter_34 : decode cX0_isBetter 34 = .ok (.iconst 1, 1) := by decide +kernel
theorem dX0_isBetter_35 : decode cX0_isBetter 35 = .ok (.goto 18, 3) := by decide +kernel
theorem dX0_isBetter_38 : decode cX0_isBetter 38 = .ok (.iconst 0, 1) := by decide +kernel
theorem dX0_isBetter_39 : decode cX0_isBetter 39 = .ok (.goto 14, 3) := by decide +kernel
theorem dX0_isBetter_42 : decode cX0_isBetter 42 = .ok (.dload_n 1, 1) := by decide +kernel
theorem dX0_isBetter_43 : decode cX0_isBetter 43 = .ok (.dload_n 3, 1) := by decide +kernel
theorem dX0_isBetter_44 : decode cX0_isBetter 44 = .ok (.dcmp .g, 1) := by decide +kernel
theorem dX0_isBetter_45 : decode cX0_isBetter 45 = .ok (.ifCond .ge 7, 3) := by decide +kernel
theorem dX0_isBetter_48 : decode cX0_isBetter 48 = .ok (.iconst 1, 1) := by decide +kernel
theorem dX0_isBetter_49 : decode cX0_isBetter 49 = .ok (.goto 4, 3) := by decide +kernel
theorem dX0_isBetter_52 : decode cX0_isBetter 52 = .ok (.iconst 0, 1) := by decide +kernel
theorem dX0_isBetter_53 : decode cX0_isBetter 53 = .ok (.ireturn, 1) := by decide +kernel
set_option maxRecDepth 20000 in
theorem ggX0_doStep_X0_bestWaiting : GoodIn wsX0_doStep wsX0_bestWaiting := goodIn_r _ [9, 2, 10, 11, 12, 13, 14, 8, 15, 16, 50, 51, 52, 53, 54, 55, 56, 57, 58, 59, 60, 61, 62, 63, 64, 65] (by decide +kernel) (by decide +kernel)
set_option maxRecDepth 20000 in
theorem gX0_doStep_X0_bestWaiting : GoodIn wsX0_doStep (wsV RX0 109 RX0 yX0_bestWaiting wsX0_bestWaiting) := goodIn_app (goodIn_of _ (by decide +kernel)) ggX0_doStep_X0_bestWaiting
set_option maxRecDepth 20000 in
theorem ggX0_doStep_X0_isBetter : GoodIn wsX0_doStep wsX0_isBetter := goodIn_r _ [15, 2, 16, 50, 51, 52, 53, 54, 55, 56, 57, 58, 59, 60, 61, 62, 63, 64, 65] (by decide +kernel) (by decide +kernel)
set_option maxRecDepth 20000 in
theorem gX0_doStep_X0_isBetter : GoodIn wsX0_doStep (wsV RX0 113 RX0 yX0_isBetter wsX0_isBetter) := goodIn_app (goodIn_of _ (by decide +kernel)) ggX0_doStep_X0_isBetter
set_option maxRecDepth 20000 in
theorem ggX0_doStep_X0_endStep : GoodIn wsX0_doStep wsX0_endStep := goodIn_r _ [20, 21, 22, 23, 24, 25, 26, 27, 28, 8, 29, 1, 10, 11, 2, 30, 31, 32, 33, 34, 3, 35, 4, 36, 37, 38, 39, 40, 41, 42, 43, 44, 45, 46, 47, 48, 49, 16, 12, 13, 14, 15, 50, 51, 52, 53, 54, 55, 56, 57, 58, 59, 60, 61, 62, 63, 64, 65] (by decide +kernel) (by decide +kernel)
set_option maxRecDepth 20000 in
theorem gX0_doStep_X0_endStep : GoodIn wsX0_doStep (wsV RX0 90 RX0 yX0_endStep wsX0_endStep) := goodIn_app (goodIn_of _ (by decide +kernel)) ggX0_doStep_X0_endStep
theorem dX0_doStep_0 : decode cX0_doStep 0 = .ok (.iconst 0, 1) := by decide +kernel
theorem dX0_doStep_1 : decode cX0_doStep 1 = .ok (.istore_n 1, 1) := by decide +kernel
theorem dX0_doStep_2 : decode cX0_doStep 2 = .ok (.iconst 0, 1) := by decide +kernel
theorem dX0_doStep_3 : decode cX0_doStep 3 = .ok (.istore_n 2, 1) := by decide +kernel
theorem dX0_doStep_4 : decode cX0_doStep 4 = .ok (.iload_n 2, 1) := by decide +kernel
theorem dX0_doStep_5 : decode cX0_doStep 5 = .ok (.aload_n 0, 1) := by decide +kernel
theorem dX0_doStep_6 : decode cX0_doStep 6 = .ok (.getfield 20, 3) := by decide +kernel
theorem dX0_doStep_9 : decode cX0_doStep 9 = .ok (.if_icmp .ge 59, 3) := by decide +kernel
theorem dX0_doStep_12 : decode cX0_doStep 12 = .ok (.aload_n 0, 1) := by decide +kernel
theorem dX0_doStep_13 : decode cX0_doStep 13 = .ok (.iload_n 2, 1) := by decide +kernel
theorem dX0_doStep_14 : decode cX0_doStep 14 = .ok (.invokevirtual 109, 3) := by decide +kernel
theorem dX0_doStep_17 : decode cX0_doStep 17 = .ok (.dstore_n 3, 1) := by decide +kernel
theorem dX0_doStep_18 : decode cX0_doStep 18 = .ok (.dload_n 3, 1) := by decide +kernel
theorem dX0_doStep_19 : decode cX0_doStep 19 = .ok (.ldc2_w 88, 3) := by decide +kernel
theorem dX0_doStep_22 : decode cX0_doStep 22 = .ok (.dcmp .l, 1) := by decide +kernel
theorem dX0_doStep_23 : decode cX0_doStep 23 = .ok (.ifCond .eq 6, 3) := by decide +kernel
theorem dX0_doStep_26 : decode cX0_doStep 26 = .ok (.iinc 1 1, 3) := by decide +kernel
theorem dX0_doStep_29 : decode cX0_doStep 29 = .ok (.aload_n 0, 1) := by decide +kernel
theorem dX0_doStep_30 : decode cX0_doStep 30 = .ok (.getfield 33, 3) := by decide +kernel
theorem dX0_doStep_33 : decode cX0_doStep 33 = .ok (.iload_n 2, 1) := by decide +kernel
theorem dX0_doStep_34 : decode cX0_doStep 34 = .ok (.aload_n 0, 1) := by decide +kernel
theorem dX0_doStep_35 : decode cX0_doStep 35 = .ok (.dload_n 3, 1) := by decide +kernel
theorem dX0_doStep_36 : decode cX0_doStep 36 = .ok (.aload_n 0, 1) := by decide +kernel
theorem dX0_doStep_37 : decode cX0_doStep 37 = .ok (.getfield 30, 3) := by decide +kernel
theorem dX0_doStep_40 : decode cX0_doStep 40 = .ok (.iload_n 2, 1) := by decide +kernel
theorem dX0_doStep_41 : decode cX0_doStep 41 = .ok (.daload, 1) := by decide +kernel
theorem dX0_doStep_42 : decode cX0_doStep 42 = .ok (.invokevirtual 113, 3) := by decide +kernel
theorem dX0_doStep_45 : decode cX0_doStep 45 = .ok (.bastore, 1) := by decide +kernel
theorem dX0_doStep_46 : decode cX0_doStep 46 = .ok (.aload_n 0, 1) := by decide +kernel
theorem dX0_doStep_47 : decode cX0_doStep 47 = .ok (.getfield 33, 3) := by decide +kernel
theorem dX0_doStep_50 : decode cX0_doStep 50 = .ok (.iload_n 2, 1) := by decide +kernel
theorem dX0_doStep_51 : decode cX0_doStep 51 = .ok (.baload, 1) := by decide +kernel
theorem dX0_doStep_52 : decode cX0_doStep 52 = .ok (.ifCond .eq 10, 3) := by decide +kernel
theorem dX0_doStep_55 : decode cX0_doStep 55 = .ok (.aload_n 0, 1) := by decide +kernel
theorem dX0_doStep_56 : decode cX0_doStep 56 = .ok (.getfield 30, 3) := by decide +kernel
theorem dX0_doStep_59 : decode cX0_doStep 59 = .ok (.iload_n 2, 1) := by decide +kernel
theorem dX0_doStep_60 : decode cX0_doStep 60 = .ok (.dload_n 3, 1) := by decide +kernel
theorem dX0_doStep_61 : decode cX0_doStep 61 = .ok (.dastore, 1) := by decide +kernel
theorem dX0_doStep_62 : decode cX0_doStep 62 = .ok (.iinc 2 1, 3) := by decide +kernel
theorem dX0_doStep_65 : decode cX0_doStep 65 = .ok (.goto (-61), 3) := by decide +kernel
theorem dX0_doStep_68 : decode cX0_doStep 68 = .ok (.aload_n 0, 1) := by decide +kernel
theorem dX0_doStep_69 : decode cX0_doStep 69 = .ok (.invokevirtual 90, 3) := by decide +kernel
theorem dX0_doStep_72 : decode cX0_doStep 72 = .ok (.iload_n 1, 1) := by decide +kernel
theorem dX0_doStep_73 : decode cX0_doStep 73 = .ok (.ireturn, 1) := by decide +kernel
set_option maxRecDepth 20000 in
theorem ggX0_bestWaiting_X0_isBetter : GoodIn wsX0_bestWaiting wsX0_isBetter := goodIn_r _ [8, 1, 9, 10, 11, 12, 13, 14, 15, 16, 17, 18, 19, 20, 21, 22, 23, 24, 25] (by decide +kernel) (by decide +kernel)
set_option maxRecDepth 20000 in
theorem gX0_bestWaiting_X0_isBetter : GoodIn wsX0_bestWaiting (wsV RX0 113 RX0 yX0_isBetter wsX0_isBetter) := goodIn_app (goodIn_of _ (by decide +kernel)) ggX0_bestWaiting_X0_isBetter
theorem dX0_bestWaiting_0 : decode cX0_bestWaiting 0 = .ok (.ldc2_w 88, 3) := by decide +kernel
theorem dX0_bestWaiting_3 : decode cX0_bestWaiting 3 = .ok (.dstore_n 2, 1) := by decide +kernel
theorem dX0_bestWaiting_4 : decode cX0_bestWaiting 4 = .ok (.iconst 0, 1) := by decide +kernel
theorem dX0_bestWaiting_5 : decode cX0_bestWaiting 5 = .ok (.istore 4, 2) := by decide +kernel
theorem dX0_bestWaiting_7 : decode cX0_bestWaiting 7 = .ok (.iload 4, 2) := by decide +kernel
theorem dX0_bestWaiting_9 : decode cX0_bestWaiting 9 = .ok (.aload_n 0, 1) := by decide +kernel
theorem dX0_bestWaiting_10 : decode cX0_bestWaiting 10 = .ok (.getfield 27, 3) := by decide +kernel
theorem dX0_bestWaiting_13 : decode cX0_bestWaiting 13 = .ok (.if_icmp .ge 36, 3) := by decide +kernel
theorem dX0_bestWaiting_16 : decode cX0_bestWaiting 16 = .ok (.aload_n 0, 1) := by decide +kernel
theorem dX0_bestWaiting_17 : decode cX0_bestWaiting 17 = .ok (.aload_n 0, 1) := by decide +kernel
theorem dX0_bestWaiting_18 : decode cX0_bestWaiting 18 = .ok (.getfield 39, 3) := by decide +kernel
theorem dX0_bestWaiting_21 : decode cX0_bestWaiting 21 = .ok (.iload_n 1, 1) := by decide +kernel
theorem dX0_bestWaiting_22 : decode cX0_bestWaiting 22 = .ok (.aaload, 1) := by decide +kernel
theorem dX0_bestWaiting_23 : decode cX0_bestWaiting 23 = .ok (.iload 4, 2) := by decide +kernel
theorem dX0_bestWaiting_25 : decode cX0_bestWaiting 25 = .ok (.daload, 1) := by decide +kernel
theorem dX0_bestWaiting_26 : decode cX0_bestWaiting 26 = .ok (.dload_n 2, 1) := by decide +kernel
theorem dX0_bestWaiting_27 : decode cX0_bestWaiting 27 = .ok (.invokevirtual 113, 3) := by decide +kernel
theorem dX0_bestWaiting_30 : decode cX0_bestWaiting 30 = .ok (.ifCond .eq 13, 3) := by decide +kernel
theorem dX0_bestWaiting_33 : decode cX0_bestWaiting 33 = .ok (.aload_n 0, 1) := by decide +kernel
theorem dX0_bestWaiting_34 : decode cX0_bestWaiting 34 = .ok (.getfield 39, 3) := by decide +kernel
theorem dX0_bestWaiting_37 : decode cX0_bestWaiting 37 = .ok (.iload_n 1, 1) := by decide +kernel
theorem dX0_bestWaiting_38 : decode cX0_bestWaiting 38 = .ok (.aaload, 1) := by decide +kernel
theorem dX0_bestWaiting_39 : decode cX0_bestWaiting 39 = .ok (.iload 4, 2) := by decide +kernel
theorem dX0_bestWaiting_41 : decode cX0_bestWaiting 41 = .ok (.daload, 1) := by decide +kernel
theorem dX0_bestWaiting_42 : decode cX0_bestWaiting 42 = .ok (.dstore_n 2, 1) := by decide +kernel
theorem dX0_bestWaiting_43 : decode cX0_bestWaiting 43 = .ok (.iinc 4 1, 3) := by decide +kernel
theorem dX0_bestWaiting_46 : decode cX0_bestWaiting 46 = .ok (.goto (-39), 3) := by decide +kernel
theorem dX0_bestWaiting_49 : decode cX0_bestWaiting 49 = .ok (.dload_n 2, 1) := by decide +kernel
theorem dX0_bestWaiting_50 : decode cX0_bestWaiting 50 = .ok (.dreturn, 1) := by decide +kernel
set_option maxRecDepth 20000 in
theorem ggX0_endStep_X0_clearWaiting : GoodIn wsX0_endStep wsX0_clearWaiting := goodIn_r _ [10, 11, 12, 13, 14, 15, 42, 43, 44, 45, 46, 47, 48, 49, 50, 51, 52, 53, 54, 55, 56, 57] (by decide +kernel) (by decide +kernel)
set_option maxRecDepth 20000 in
theorem gX0_endStep_X0_clearWaiting : GoodIn wsX0_endStep (wsV RX0 117 RX0 yX0_clearWaiting wsX0_clearWaiting) := goodIn_app (goodIn_of _ (by decide +kernel)) ggX0_endStep_X0_clearWaiting
set_option maxRecDepth 20000 in
theorem ggX0_endStep_X0_sendAlong : GoodIn wsX0_endStep wsX0_sendAlong := goodIn_r _ [19, 20, 21, 13, 14, 22, 23, 24, 25, 9, 26, 12, 27, 28, 29, 30, 15, 31, 32, 33, 34, 35, 36, 37, 38, 39, 40, 41, 42, 43, 44, 45, 46, 47, 48, 49, 50, 51, 52, 53, 54, 55, 56, 57] (by decide +kernel) (by decide +kernel)
set_option maxRecDepth 20000 in
theorem gX0_endStep_X0_sendAlong : GoodIn wsX0_endStep (wsV RX0 120 RX0 yX0_sendAlong wsX0_sendAlong) := goodIn_app (goodIn_of _ (by decide +kernel)) ggX0_endStep_X0_sendAlong
theorem dX0_endStep_0 : decode cX0_endStep 0 = .ok (.aload_n 0, 1) := by decide +kernel
theorem dX0_endStep_1 : decode cX0_endStep 1 = .ok (.invokevirtual 117, 3) := by decide +kernel
theorem dX0_endStep_4 : decode cX0_endStep 4 = .ok (.iconst 0, 1) := by decide +kernel
theorem dX0_endStep_5 : decode cX0_endStep 5 = .ok (.istore_n 1, 1) := by decide +kernel
theorem dX0_endStep_6 : decode cX0_endStep 6 = .ok (.iload_n 1, 1) := by decide +kernel
theorem dX0_endStep_7 : decode cX0_endStep 7 = .ok (.aload_n 0, 1) := by decide +kernel
theorem dX0_endStep_8 : decode cX0_endStep 8 = .ok (.getfield 24, 3) := by decide +kernel
theorem dX0_endStep_11 : decode cX0_endStep 11 = .ok (.if_icmp .ge 53, 3) := by decide +kernel
theorem dX0_endStep_14 : decode cX0_endStep 14 = .ok (.aload_n 0, 1) := by decide +kernel
theorem dX0_endStep_15 : decode cX0_endStep 15 = .ok (.aload_n 0, 1) := by decide +kernel
theorem dX0_endStep_16 : decode cX0_endStep 16 = .ok (.getfield 9, 3) := by decide +kernel
theorem dX0_endStep_19 : decode cX0_endStep 19 = .ok (.iload_n 1, 1) := by decide +kernel
theorem dX0_endStep_20 : decode cX0_endStep 20 = .ok (.iaload, 1) := by decide +kernel
theorem dX0_endStep_21 : decode cX0_endStep 21 = .ok (.aload_n 0, 1) := by decide +kernel
theorem dX0_endStep_22 : decode cX0_endStep 22 = .ok (.getfield 13, 3) := by decide +kernel
theorem dX0_endStep_25 : decode cX0_endStep 25 = .ok (.iload_n 1, 1) := by decide +kernel
theorem dX0_endStep_26 : decode cX0_endStep 26 = .ok (.iaload, 1) := by decide +kernel
theorem dX0_endStep_27 : decode cX0_endStep 27 = .ok (.aload_n 0, 1) := by decide +kernel
theorem dX0_endStep_28 : decode cX0_endStep 28 = .ok (.getfield 16, 3) := by decide +kernel
theorem dX0_endStep_31 : decode cX0_endStep 31 = .ok (.iload_n 1, 1) := by decide +kernel
theorem dX0_endStep_32 : decode cX0_endStep 32 = .ok (.daload, 1) := by decide +kernel
theorem dX0_endStep_33 : decode cX0_endStep 33 = .ok (.invokevirtual 120, 3) := by decide +kernel
theorem dX0_endStep_36 : decode cX0_endStep 36 = .ok (.aload_n 0, 1) := by decide +kernel
theorem dX0_endStep_37 : decode cX0_endStep 37 = .ok (.aload_n 0, 1) := by decide +kernel
theorem dX0_endStep_38 : decode cX0_endStep 38 = .ok (.getfield 13, 3) := by decide +kernel
theorem dX0_endStep_41 : decode cX0_endStep 41 = .ok (.iload_n 1, 1) := by decide +kernel
theorem dX0_endStep_42 : decode cX0_endStep 42 = .ok (.iaload, 1) := by decide +kernel
theorem dX0_endStep_43 : decode cX0_endStep 43 = .ok (.aload_n 0, 1) := by decide +kernel
theorem dX0_endStep_44 : decode cX0_endStep 44 = .ok (.getfield 9, 3) := by decide +kernel
theorem dX0_endStep_47 : decode cX0_endStep 47 = .ok (.iload_n 1, 1) := by decide +kernel
theorem dX0_endStep_48 : decode cX0_endStep 48 = .ok (.iaload, 1) := by decide +kernel
theorem dX0_endStep_49 : decode cX0_endStep 49 = .ok (.aload_n 0, 1) := by decide +kernel
theorem dX0_endStep_50 : decode cX0_endStep 50 = .ok (.getfield 16, 3) := by decide +kernel
theorem dX0_endStep_53 : decode cX0_endStep 53 = .ok (.iload_n 1, 1) := by decide +kernel
theorem dX0_endStep_54 : decode cX0_endStep 54 = .ok (.daload, 1) := by decide +kernel
theorem dX0_endStep_55 : decode cX0_endStep 55 = .ok (.invokevirtual 120, 3) := by decide +kernel
theorem dX0_endStep_58 : decode cX0_endStep 58 = .ok (.iinc 1 1, 3) := by decide +kernel
theorem dX0_endStep_61 : decode cX0_endStep 61 = .ok (.goto (-55), 3) := by decide +kernel
theorem dX0_endStep_64 : decode cX0_endStep 64 = .ok (.aload_n 0, 1) := by decide +kernel
theorem dX0_endStep_65 : decode cX0_endStep 65 = .ok (.dup, 1) := by decide +kernel
theorem dX0_endStep_66 : decode cX0_endStep 66 = .ok (.getfield 52, 3) := by decide +kernel
theorem dX0_endStep_69 : decode cX0_endStep 69 = .ok (.iconst 1, 1) := by decide +kernel
theorem dX0_endStep_70 : decode cX0_endStep 70 = .ok (.iadd, 1) := by decide +kernel
theorem dX0_endStep_71 : decode cX0_endStep 71 = .ok (.putfield 52, 3) := by decide +kernel
theorem dX0_endStep_74 : decode cX0_endStep 74 = .ok (.return_, 1) := by decide +kernel
theorem dX0_clearWaiting_0 : decode cX0_clearWaiting 0 = .ok (.iconst 0, 1) := by decide +kernel
theorem dX0_clearWaiting_1 : decode cX0_clearWaiting 1 = .ok (.istore_n 1, 1) := by decide +kernel
theorem dX0_clearWaiting_2 : decode cX0_clearWaiting 2 = .ok (.iload_n 1, 1) := by decide +kernel
theorem dX0_clearWaiting_3 : decode cX0_clearWaiting 3 = .ok (.aload_n 0, 1) := by decide +kernel
theorem dX0_clearWaiting_4 : decode cX0_clearWaiting 4 = .ok (.getfield 20, 3) := by decide +kernel
theorem dX0_clearWaiting_7 : decode cX0_clearWaiting 7 = .ok (.if_icmp .ge 36, 3) := by decide +kernel
theorem dX0_clearWaiting_10 : decode cX0_clearWaiting 10 = .ok (.iconst 0, 1) := by decide +kernel
theorem dX0_clearWaiting_11 : decode cX0_clearWaiting 11 = .ok (.istore_n 2, 1) := by decide +kernel
theorem dX0_clearWaiting_12 : decode cX0_clearWaiting 12 = .ok (.iload_n 2, 1) := by decide +kernel
theorem dX0_clearWaiting_13 : decode cX0_clearWaiting 13 = .ok (.aload_n 0, 1) := by decide +kernel
theorem dX0_clearWaiting_14 : decode cX0_clearWaiting 14 = .ok (.getfield 27, 3) := by decide +kernel
theorem dX0_clearWaiting_17 : decode cX0_clearWaiting 17 = .ok (.if_icmp .ge 20, 3) := by decide +kernel
theorem dX0_clearWaiting_20 : decode cX0_clearWaiting 20 = .ok (.aload_n 0, 1) := by decide +kernel
theorem dX0_clearWaiting_21 : decode cX0_clearWaiting 21 = .ok (.getfield 39, 3) := by decide +kernel
theorem dX0_clearWaiting_24 : decode cX0_clearWaiting 24 = .ok (.iload_n 1, 1) := by decide +kernel
theorem dX0_clearWaiting_25 : decode cX0_clearWaiting 25 = .ok (.aaload, 1) := by decide +kernel
theorem dX0_clearWaiting_26 : decode cX0_clearWaiting 26 = .ok (.iload_n 2, 1) := by decide +kernel
theorem dX0_clearWaiting_27 : decode cX0_clearWaiting 27 = .ok (.ldc2_w 88, 3) := by decide +kernel
theorem dX0_clearWaiting_30 : decode cX0_clearWaiting 30 = .ok (.dastore, 1) := by decide +kernel
theorem dX0_clearWaiting_31 : decode cX0_clearWaiting 31 = .ok (.iinc 2 1, 3) := by decide +kernel
theorem dX0_clearWaiting_34 : decode cX0_clearWaiting 34 = .ok (.goto (-22), 3) := by decide +kernel
theorem dX0_clearWaiting_37 : decode cX0_clearWaiting 37 = .ok (.iinc 1 1, 3) := by decide +kernel
theorem dX0_clearWaiting_40 : decode cX0_clearWaiting 40 = .ok (.goto (-38), 3) := by decide +kernel
theorem dX0_clearWaiting_43 : decode cX0_clearWaiting 43 = .ok (.aload_n 0, 1) := by decide +kernel
theorem dX0_clearWaiting_44 : decode cX0_clearWaiting 44 = .ok (.iconst 0, 1) := by decide +kernel
theorem dX0_clearWaiting_45 : decode cX0_clearWaiting 45 = .ok (.putfield 49, 3) := by decide +kernel
theorem dX0_clearWaiting_48 : decode cX0_clearWaiting 48 = .ok (.return_, 1) := by decide +kernel
set_option maxRecDepth 20000 in
theorem ggX0_sendAlong_X0_partOf : GoodIn wsX0_sendAlong wsX0_partOf := goodIn_r _ [10, 11, 28, 29, 30, 31, 32, 33, 34, 35, 36, 37, 38, 39, 40, 41, 42, 43] (by decide +kernel) (by decide +kernel)
set_option maxRecDepth 20000 in
theorem gX0_sendAlong_X0_partOf : GoodIn wsX0_sendAlong (wsV RX0 124 RX0 yX0_partOf wsX0_partOf) := goodIn_app (goodIn_of _ (by decide +kernel)) ggX0_sendAlong_X0_partOf
set_option maxRecDepth 20000 in
theorem ggX0_sendAlong_X0_countDelivery : GoodIn wsX0_sendAlong wsX0_countDelivery := goodIn_r _ [15, 16, 17, 18, 6, 7, 8, 9, 10, 11, 28, 29, 30, 31, 32, 33, 34, 35, 36, 37, 38, 39, 40, 41, 42, 43] (by decide +kernel) (by decide +kernel)
set_option maxRecDepth 20000 in
theorem gX0_sendAlong_X0_countDelivery : GoodIn wsX0_sendAlong (wsV RX0 128 RX0 yX0_countDelivery wsX0_countDelivery) := goodIn_app (goodIn_of _ (by decide +kernel)) ggX0_sendAlong_X0_countDelivery
set_option maxRecDepth 20000 in
theorem ggX0_sendAlong_X0_messageOf : GoodIn wsX0_sendAlong wsX0_messageOf := goodIn_r _ [22, 23, 28, 29, 30, 31, 32, 33, 34, 35, 36, 37, 38, 39, 40, 41, 42, 43] (by decide +kernel) (by decide +kernel)
set_option maxRecDepth 20000 in
theorem gX0_sendAlong_X0_messageOf : GoodIn wsX0_sendAlong (wsV RX0 132 RX0 yX0_messageOf wsX0_messageOf) := goodIn_app (goodIn_of _ (by decide +kernel)) ggX0_sendAlong_X0_messageOf
set_option maxRecDepth 20000 in
theorem ggX0_sendAlong_X0_isBetter : GoodIn wsX0_sendAlong wsX0_isBetter := goodIn_r _ [27, 4, 23, 28, 29, 30, 31, 32, 33, 34, 35, 36, 37, 38, 39, 40, 41, 42, 43] (by decide +kernel) (by decide +kernel)
set_option maxRecDepth 20000 in
theorem gX0_sendAlong_X0_isBetter : GoodIn wsX0_sendAlong (wsV RX0 113 RX0 yX0_isBetter wsX0_isBetter) := goodIn_app (goodIn_of _ (by decide +kernel)) ggX0_sendAlong_X0_isBetter
theorem dX0_sendAlong_0 : decode cX0_sendAlong 0 = .ok (.aload_n 0, 1) := by decide +kernel
theorem dX0_sendAlong_1 : decode cX0_sendAlong 1 = .ok (.getfield 33, 3) := by decide +kernel
theorem dX0_sendAlong_4 : decode cX0_sendAlong 4 = .ok (.iload_n 1, 1) := by decide +kernel
theorem dX0_sendAlong_5 : decode cX0_sendAlong 5 = .ok (.baload, 1) := by decide +kernel
theorem dX0_sendAlong_6 : decode cX0_sendAlong 6 = .ok (.ifCond .ne 4, 3) := by decide +kernel
theorem dX0_sendAlong_9 : decode cX0_sendAlong 9 = .ok (.return_, 1) := by decide +kernel
theorem dX0_sendAlong_10 : decode cX0_sendAlong 10 = .ok (.aload_n 0, 1) := by decide +kernel
theorem dX0_sendAlong_11 : decode cX0_sendAlong 11 = .ok (.dup, 1) := by decide +kernel
theorem dX0_sendAlong_12 : decode cX0_sendAlong 12 = .ok (.getfield 55, 3) := by decide +kernel
theorem dX0_sendAlong_15 : decode cX0_sendAlong 15 = .ok (.iconst 1, 1) := by decide +kernel
theorem dX0_sendAlong_16 : decode cX0_sendAlong 16 = .ok (.iadd, 1) := by decide +kernel
theorem dX0_sendAlong_17 : decode cX0_sendAlong 17 = .ok (.putfield 55, 3) := by decide +kernel
theorem dX0_sendAlong_20 : decode cX0_sendAlong 20 = .ok (.aload_n 0, 1) := by decide +kernel
theorem dX0_sendAlong_21 : decode cX0_sendAlong 21 = .ok (.iload_n 1, 1) := by decide +kernel
theorem dX0_sendAlong_22 : decode cX0_sendAlong 22 = .ok (.invokevirtual 124, 3) := by decide +kernel
theorem dX0_sendAlong_25 : decode cX0_sendAlong 25 = .ok (.istore 5, 2) := by decide +kernel
theorem dX0_sendAlong_27 : decode cX0_sendAlong 27 = .ok (.aload_n 0, 1) := by decide +kernel
theorem dX0_sendAlong_28 : decode cX0_sendAlong 28 = .ok (.getfield 39, 3) := by decide +kernel
theorem dX0_sendAlong_31 : decode cX0_sendAlong 31 = .ok (.iload_n 2, 1) := by decide +kernel
theorem dX0_sendAlong_32 : decode cX0_sendAlong 32 = .ok (.aaload, 1) := by decide +kernel
theorem dX0_sendAlong_33 : decode cX0_sendAlong 33 = .ok (.iload 5, 2) := by decide +kernel
theorem dX0_sendAlong_35 : decode cX0_sendAlong 35 = .ok (.daload, 1) := by decide +kernel
theorem dX0_sendAlong_36 : decode cX0_sendAlong 36 = .ok (.ldc2_w 88, 3) := by decide +kernel
theorem dX0_sendAlong_39 : decode cX0_sendAlong 39 = .ok (.dcmp .l, 1) := by decide +kernel
theorem dX0_sendAlong_40 : decode cX0_sendAlong 40 = .ok (.ifCond .ne 10, 3) := by decide +kernel
theorem dX0_sendAlong_43 : decode cX0_sendAlong 43 = .ok (.aload_n 0, 1) := by decide +kernel
theorem dX0_sendAlong_44 : decode cX0_sendAlong 44 = .ok (.iload 5, 2) := by decide +kernel
theorem dX0_sendAlong_46 : decode cX0_sendAlong 46 = .ok (.iload_n 2, 1) := by decide +kernel
theorem dX0_sendAlong_47 : decode cX0_sendAlong 47 = .ok (.invokevirtual 128, 3) := by decide +kernel
theorem dX0_sendAlong_50 : decode cX0_sendAlong 50 = .ok (.aload_n 0, 1) := by decide +kernel
theorem dX0_sendAlong_51 : decode cX0_sendAlong 51 = .ok (.aload_n 0, 1) := by decide +kernel
theorem dX0_sendAlong_52 : decode cX0_sendAlong 52 = .ok (.getfield 30, 3) := by decide +kernel
theorem dX0_sendAlong_55 : decode cX0_sendAlong 55 = .ok (.iload_n 1, 1) := by decide +kernel
theorem dX0_sendAlong_56 : decode cX0_sendAlong 56 = .ok (.daload, 1) := by decide +kernel
theorem dX0_sendAlong_57 : decode cX0_sendAlong 57 = .ok (.dload_n 3, 1) := by decide +kernel
theorem dX0_sendAlong_58 : decode cX0_sendAlong 58 = .ok (.invokevirtual 132, 3) := by decide +kernel
theorem dX0_sendAlong_61 : decode cX0_sendAlong 61 = .ok (.dstore 6, 2) := by decide +kernel
theorem dX0_sendAlong_63 : decode cX0_sendAlong 63 = .ok (.aload_n 0, 1) := by decide +kernel
theorem dX0_sendAlong_64 : decode cX0_sendAlong 64 = .ok (.dload 6, 2) := by decide +kernel
theorem dX0_sendAlong_66 : decode cX0_sendAlong 66 = .ok (.aload_n 0, 1) := by decide +kernel
theorem dX0_sendAlong_67 : decode cX0_sendAlong 67 = .ok (.getfield 39, 3) := by decide +kernel
theorem dX0_sendAlong_70 : decode cX0_sendAlong 70 = .ok (.iload_n 2, 1) := by decide +kernel
theorem dX0_sendAlong_71 : decode cX0_sendAlong 71 = .ok (.aaload, 1) := by decide +kernel
theorem dX0_sendAlong_72 : decode cX0_sendAlong 72 = .ok (.iload 5, 2) := by decide +kernel
theorem dX0_sendAlong_74 : decode cX0_sendAlong 74 = .ok (.daload, 1) := by decide +kernel
theorem dX0_sendAlong_75 : decode cX0_sendAlong 75 = .ok (.invokevirtual 113, 3) := by decide +kernel
theorem dX0_sendAlong_78 : decode cX0_sendAlong 78 = .ok (.ifCond .eq 14, 3) := by decide +kernel
theorem dX0_sendAlong_81 : decode cX0_sendAlong 81 = .ok (.aload_n 0, 1) := by decide +kernel
theorem dX0_sendAlong_82 : decode cX0_sendAlong 82 = .ok (.getfield 39, 3) := by decide +kernel
theorem dX0_sendAlong_85 : decode cX0_sendAlong 85 = .ok (.iload_n 2, 1) := by decide +kernel
theorem dX0_sendAlong_86 : decode cX0_sendAlong 86 = .ok (.aaload, 1) := by decide +kernel
theorem dX0_sendAlong_87 : decode cX0_sendAlong 87 = .ok (.iload 5, 2) := by decide +kernel
theorem dX0_sendAlong_89 : decode cX0_sendAlong 89 = .ok (.dload 6, 2) := by decide +kernel
theorem dX0_sendAlong_91 : decode cX0_sendAlong 91 = .ok (.dastore, 1) := by decide +kernel
theorem dX0_sendAlong_92 : decode cX0_sendAlong 92 = .ok (.return_, 1) := by decide +kernel
set_option maxRecDepth 20000 in
theorem ggX0_countDelivery_X0_partOf : GoodIn wsX0_countDelivery wsX0_partOf := goodIn_r _ [8, 9, 10, 11, 12, 13, 14, 15, 16, 17, 18, 19, 20, 21, 22, 23, 24, 25] (by decide +kernel) (by decide +kernel)
set_option maxRecDepth 20000 in
theorem gX0_countDelivery_X0_partOf : GoodIn wsX0_countDelivery (wsV RX0 124 RX0 yX0_partOf wsX0_partOf) := goodIn_app (goodIn_of _ (by decide +kernel)) ggX0_countDelivery_X0_partOf
theorem dX0_countDelivery_0 : decode cX0_countDelivery 0 = .ok (.aload_n 0, 1) := by decide +kernel
theorem dX0_countDelivery_1 : decode cX0_countDelivery 1 = .ok (.dup, 1) := by decide +kernel
theorem dX0_countDelivery_2 : decode cX0_countDelivery 2 = .ok (.getfield 49, 3) := by decide +kernel
theorem dX0_countDelivery_5 : decode cX0_countDelivery 5 = .ok (.iconst 1, 1) := by decide +kernel
theorem dX0_countDelivery_6 : decode cX0_countDelivery 6 = .ok (.iadd, 1) := by decide +kernel
theorem dX0_countDelivery_7 : decode cX0_countDelivery 7 = .ok (.putfield 49, 3) := by decide +kernel
theorem dX0_countDelivery_10 : decode cX0_countDelivery 10 = .ok (.aload_n 0, 1) := by decide +kernel
theorem dX0_countDelivery_11 : decode cX0_countDelivery 11 = .ok (.dup, 1) := by decide +kernel
theorem dX0_countDelivery_12 : decode cX0_countDelivery 12 = .ok (.getfield 58, 3) := by decide +kernel
theorem dX0_countDelivery_15 : decode cX0_countDelivery 15 = .ok (.iconst 1, 1) := by decide +kernel
theorem dX0_countDelivery_16 : decode cX0_countDelivery 16 = .ok (.iadd, 1) := by decide +kernel
theorem dX0_countDelivery_17 : decode cX0_countDelivery 17 = .ok (.putfield 58, 3) := by decide +kernel
theorem dX0_countDelivery_20 : decode cX0_countDelivery 20 = .ok (.aload_n 0, 1) := by decide +kernel
theorem dX0_countDelivery_21 : decode cX0_countDelivery 21 = .ok (.iload_n 2, 1) := by decide +kernel
theorem dX0_countDelivery_22 : decode cX0_countDelivery 22 = .ok (.invokevirtual 124, 3) := by decide +kernel
theorem dX0_countDelivery_25 : decode cX0_countDelivery 25 = .ok (.iload_n 1, 1) := by decide +kernel
theorem dX0_countDelivery_26 : decode cX0_countDelivery 26 = .ok (.if_icmp .eq 13, 3) := by decide +kernel
theorem dX0_countDelivery_29 : decode cX0_countDelivery 29 = .ok (.aload_n 0, 1) := by decide +kernel
theorem dX0_countDelivery_30 : decode cX0_countDelivery 30 = .ok (.dup, 1) := by decide +kernel
theorem dX0_countDelivery_31 : decode cX0_countDelivery 31 = .ok (.getfield 61, 3) := by decide +kernel
theorem dX0_countDelivery_34 : decode cX0_countDelivery 34 = .ok (.iconst 1, 1) := by decide +kernel
theorem dX0_countDelivery_35 : decode cX0_countDelivery 35 = .ok (.iadd, 1) := by decide +kernel
theorem dX0_countDelivery_36 : decode cX0_countDelivery 36 = .ok (.putfield 61, 3) := by decide +kernel
theorem dX0_countDelivery_39 : decode cX0_countDelivery 39 = .ok (.return_, 1) := by decide +kernel
