theorem dL_begin_0 : decode cL_begin 0 = .ok (.aload_n 3, 1) := by decide +kernel
theorem dL_begin_1 : decode cL_begin 1 = .ok (.iconst 0, 1) := by decide +kernel
theorem dL_begin_2 : decode cL_begin 2 = .ok (.aload_n 0, 1) := by decide +kernel
theorem dL_begin_3 : decode cL_begin 3 = .ok (.iload_n 1, 1) := by decide +kernel
theorem dL_begin_4 : decode cL_begin 4 = .ok (.iload_n 2, 1) := by decide +kernel
theorem dL_begin_5 : decode cL_begin 5 = .ok (.invokevirtual 7, 3) := by decide +kernel
theorem dL_begin_8 : decode cL_begin 8 = .ok (.i2l, 1) := by decide +kernel
theorem dL_begin_9 : decode cL_begin 9 = .ok (.lastore, 1) := by decide +kernel
theorem dL_begin_10 : decode cL_begin 10 = .ok (.goto 7, 3) := by decide +kernel
theorem dL_begin_13 : decode cL_begin 13 = .ok (.astore 4, 2) := by decide +kernel
theorem dL_begin_15 : decode cL_begin 15 = .ok (.iconst 1, 1) := by decide +kernel
theorem dL_begin_16 : decode cL_begin 16 = .ok (.ireturn, 1) := by decide +kernel
theorem dL_begin_17 : decode cL_begin 17 = .ok (.iconst 0, 1) := by decide +kernel
theorem dL_begin_18 : decode cL_begin 18 = .ok (.ireturn, 1) := by decide +kernel
set_option maxRecDepth 20000 in
theorem ggL_step_X0_step : GoodIn wsL_step wsX0_step := goodIn_ca (goodIn_r _ [6, 7, 8, 9, 10, 11, 12, 13, 5, 14, 15, 16, 17, 18, 19, 20, 21, 22, 23, 24, 25, 26, 27, 28, 29, 30, 31, 32, 33, 34, 35, 36, 37, 38, 39, 40, 41, 42, 43, 44, 45, 46, 47, 48, 49, 50, 51, 52, 53, 54, 55, 56, 57, 58, 59, 60, 61, 62, 63, 64, 65, 66, 67, 68, 69, 70, 71, 72, 73, 74, 75, 76, 77] (by decide +kernel) (by decide +kernel)) (goodIn_sub (fun _ h => List.mem_cons_of_mem _ (List.mem_append_right _ h)) (by decide +kernel))
set_option maxRecDepth 20000 in
theorem gL_step_X0_step : GoodIn wsL_step (wsV RL 15 RX0 yX0_step wsX0_step) := goodIn_app (goodIn_of _ (by decide +kernel)) ggL_step_X0_step
theorem dL_step_0 : decode cL_step 0 = .ok (.aload_n 1, 1) := by decide +kernel
theorem dL_step_1 : decode cL_step 1 = .ok (.iconst 0, 1) := by decide +kernel
theorem dL_step_2 : decode cL_step 2 = .ok (.aload_n 0, 1) := by decide +kernel
theorem dL_step_3 : decode cL_step 3 = .ok (.invokevirtual 15, 3) := by decide +kernel
theorem dL_step_6 : decode cL_step 6 = .ok (.i2l, 1) := by decide +kernel
theorem dL_step_7 : decode cL_step 7 = .ok (.lastore, 1) := by decide +kernel
theorem dL_step_8 : decode cL_step 8 = .ok (.goto 6, 3) := by decide +kernel
theorem dL_step_11 : decode cL_step 11 = .ok (.astore_n 2, 1) := by decide +kernel
theorem dL_step_12 : decode cL_step 12 = .ok (.iconst 1, 1) := by decide +kernel
theorem dL_step_13 : decode cL_step 13 = .ok (.ireturn, 1) := by decide +kernel
theorem dL_step_14 : decode cL_step 14 = .ok (.iconst 0, 1) := by decide +kernel
theorem dL_step_15 : decode cL_step 15 = .ok (.ireturn, 1) := by decide +kernel
set_option maxRecDepth 20000 in
theorem ggL_finish_X0_finish : GoodIn wsL_finish wsX0_finish := goodIn_ca (goodIn_r _ [6, 7, 8, 9, 10, 11, 12, 13, 5, 14, 15, 16, 17, 18, 19, 20, 21, 22, 23, 24, 25, 26, 27, 28, 29, 30, 31, 32, 33, 34, 35, 36, 37, 38, 39, 40, 41, 42, 43, 44, 45, 46, 47, 48, 49, 50, 51, 52, 53, 54, 55, 56, 57, 58, 59, 60, 61, 62, 63, 64, 65, 66, 67, 68, 69, 70, 71, 72, 73, 74, 75, 76, 77] (by decide +kernel) (by decide +kernel)) (goodIn_sub (fun _ h => List.mem_cons_of_mem _ (List.mem_append_right _ h)) (by decide +kernel))
set_option maxRecDepth 20000 in
theorem gL_finish_X0_finish : GoodIn wsL_finish (wsV RL 21 RX0 yX0_finish wsX0_finish) := goodIn_app (goodIn_of _ (by decide +kernel)) ggL_finish_X0_finish
theorem dL_finish_0 : decode cL_finish 0 = .ok (.aload_n 2, 1) := by decide +kernel
theorem dL_finish_1 : decode cL_finish 1 = .ok (.iconst 0, 1) := by decide +kernel
theorem dL_finish_2 : decode cL_finish 2 = .ok (.aload_n 0, 1) := by decide +kernel
theorem dL_finish_3 : decode cL_finish 3 = .ok (.iload_n 1, 1) := by decide +kernel
theorem dL_finish_4 : decode cL_finish 4 = .ok (.invokevirtual 21, 3) := by decide +kernel
theorem dL_finish_7 : decode cL_finish 7 = .ok (.i2l, 1) := by decide +kernel
theorem dL_finish_8 : decode cL_finish 8 = .ok (.lastore, 1) := by decide +kernel
theorem dL_finish_9 : decode cL_finish 9 = .ok (.goto 6, 3) := by decide +kernel
theorem dL_finish_12 : decode cL_finish 12 = .ok (.astore_n 3, 1) := by decide +kernel
theorem dL_finish_13 : decode cL_finish 13 = .ok (.iconst 1, 1) := by decide +kernel
theorem dL_finish_14 : decode cL_finish 14 = .ok (.ireturn, 1) := by decide +kernel
theorem dL_finish_15 : decode cL_finish 15 = .ok (.iconst 0, 1) := by decide +kernel
theorem dL_finish_16 : decode cL_finish 16 = .ok (.ireturn, 1) := by decide +kernel
set_option maxRecDepth 20000 in
theorem ggL_law_X0_init : GoodIn wsL_law wsX0_init := goodIn_r _ [10, 11, 12, 13, 14, 15, 16, 17, 18, 19, 20, 21, 22, 23, 24, 25, 26, 27, 28, 29, 30, 31, 32, 33, 289, 290, 291, 292, 293, 294, 295, 296, 297, 298, 299, 300, 301, 302, 303, 304] (by decide +kernel) (by decide +kernel)
set_option maxRecDepth 20000 in
theorem gL_law_X0_init : GoodIn wsL_law (wsX0_init) := ggL_law_X0_init
set_option maxRecDepth 20000 in
theorem ggL_law_X1_init : GoodIn wsL_law wsX1_init := goodIn_r _ [36, 37, 12, 13, 14, 38, 39, 17, 40, 41, 42, 43, 23, 44, 45, 46, 47, 48, 49, 305, 306, 307, 308, 309, 310, 311, 312, 313, 314, 315, 316, 317, 318, 319, 320, 321, 322, 323, 324] (by decide +kernel) (by decide +kernel)
set_option maxRecDepth 20000 in
theorem gL_law_X1_init : GoodIn wsL_law (wsX1_init) := ggL_law_X1_init
set_option maxRecDepth 20000 in
theorem ggL_law_X0_size : GoodIn wsL_law wsX0_size := goodIn_r _ [53, 19, 20, 54, 55, 56, 2, 57, 27, 29, 30, 31, 32, 33, 289, 290, 291, 292, 293, 294, 295, 296, 297, 298, 299, 300, 301, 302, 303, 304] (by decide +kernel) (by decide +kernel)
set_option maxRecDepth 20000 in
theorem gL_law_X0_size : GoodIn wsL_law (wsV RL 29 RX0 yX0_size wsX0_size) := goodIn_app (goodIn_of _ (by decide +kernel)) ggL_law_X0_size
set_option maxRecDepth 20000 in
theorem ggL_law_X1_size : GoodIn wsL_law wsX1_size := goodIn_r _ [61, 41, 62, 63, 64, 65, 5, 66, 67, 68, 69, 70, 71, 46, 44, 305, 306, 307, 308, 309, 310, 311, 312, 313, 314, 315, 316, 317, 318, 319, 320, 321, 322, 323, 324] (by decide +kernel) (by decide +kernel)
set_option maxRecDepth 20000 in
theorem gL_law_X1_size : GoodIn wsL_law (wsV RL 33 RX1 yX1_size wsX1_size) := goodIn_app (goodIn_of _ (by decide +kernel)) ggL_law_X1_size
set_option maxRecDepth 20000 in
theorem ggL_law_X0_edge : GoodIn wsL_law wsX0_edge := goodIn_r _ [75, 20, 15, 16, 18, 76, 77, 78, 2, 79, 19, 80, 81, 82, 83, 54, 55, 56, 57, 27, 29, 30, 31, 32, 33, 289, 290, 291, 292, 293, 294, 295, 296, 297, 298, 299, 300, 301, 302, 303, 304] (by decide +kernel) (by decide +kernel)
set_option maxRecDepth 20000 in
theorem gL_law_X0_edge : GoodIn wsL_law (wsV RL 36 RX0 yX0_edge wsX0_edge) := goodIn_app (goodIn_of _ (by decide +kernel)) ggL_law_X0_edge
set_option maxRecDepth 20000 in
theorem ggL_law_X1_edge : GoodIn wsL_law wsX1_edge := goodIn_r _ [87, 88, 62, 38, 39, 40, 89, 90, 91, 5, 92, 41, 63, 64, 65, 66, 67, 68, 69, 70, 71, 46, 44, 305, 306, 307, 308, 309, 310, 311, 312, 313, 314, 315, 316, 317, 318, 319, 320, 321, 322, 323, 324] (by decide +kernel) (by decide +kernel)
set_option maxRecDepth 20000 in
theorem gL_law_X1_edge : GoodIn wsL_law (wsV RL 40 RX1 yX1_edge wsX1_edge) := goodIn_app (goodIn_of _ (by decide +kernel)) ggL_law_X1_edge
set_option maxRecDepth 20000 in
theorem ggL_law_X0_parts : GoodIn wsL_law wsX0_parts := goodIn_r _ [96, 21, 54, 55, 56, 2, 57, 27, 29, 30, 31, 32, 33, 289, 290, 291, 292, 293, 294, 295, 296, 297, 298, 299, 300, 301, 302, 303, 304] (by decide +kernel) (by decide +kernel)
set_option maxRecDepth 20000 in
theorem gL_law_X0_parts : GoodIn wsL_law (wsV RL 41 RX0 yX0_parts wsX0_parts) := goodIn_app (goodIn_of _ (by decide +kernel)) ggL_law_X0_parts
set_option maxRecDepth 20000 in
theorem ggL_law_X1_parts : GoodIn wsL_law wsX1_parts := goodIn_r _ [100, 42, 63, 64, 65, 5, 66, 67, 68, 69, 70, 71, 46, 44, 305, 306, 307, 308, 309, 310, 311, 312, 313, 314, 315, 316, 317, 318, 319, 320, 321, 322, 323, 324] (by decide +kernel) (by decide +kernel)
set_option maxRecDepth 20000 in
theorem gL_law_X1_parts : GoodIn wsL_law (wsV RL 44 RX1 yX1_parts wsX1_parts) := goodIn_app (goodIn_of _ (by decide +kernel)) ggL_law_X1_parts
set_option maxRecDepth 20000 in
theorem ggL_law_L_begin : GoodIn wsL_law wsL_begin := goodIn_ca (goodIn_r _ [104, 105, 106, 107, 108, 2, 109, 110, 111, 27, 28, 19, 22, 24, 112, 29, 76, 77, 78, 79, 54, 55, 56, 57, 30, 31, 32, 33, 113, 114, 115, 116, 83, 117, 118, 119, 120, 20, 15, 16, 18, 121, 122, 123, 124, 21, 26, 125, 126, 127, 128, 129, 130, 131, 132, 133, 134, 135, 136, 137, 138, 139, 140, 141, 142, 143, 144, 289, 290, 291, 292, 293, 294, 295, 296, 297, 298, 299, 300, 301, 302, 303, 304] (by decide +kernel) (by decide +kernel)) (goodIn_sub (fun _ h => List.mem_append_left _ (List.mem_append_right _ h)) (by decide +kernel))
set_option maxRecDepth 20000 in
theorem gL_law_L_begin : GoodIn wsL_law (va_wsS RL 45 yL_begin wsL_begin) := goodIn_app (goodIn_of _ (by decide +kernel)) ggL_law_L_begin
set_option maxRecDepth 20000 in
theorem ggL_law_X1_begin : GoodIn wsL_law wsX1_begin := goodIn_r _ [148, 149, 67, 150, 41, 44, 43, 88, 49, 89, 90, 91, 5, 92, 63, 64, 65, 66, 68, 69, 70, 71, 46, 151, 152, 153, 154, 48, 62, 38, 39, 40, 45, 47, 42, 155, 156, 157, 158, 159, 160, 161, 162, 163, 164, 165, 166, 305, 306, 307, 308, 309, 310, 311, 312, 313, 314, 315, 316, 317, 318, 319, 320, 321, 322, 323, 324] (by decide +kernel) (by decide +kernel)
set_option maxRecDepth 20000 in
theorem gL_law_X1_begin : GoodIn wsL_law (wsV RL 50 RX1 yX1_begin wsX1_begin) := goodIn_app (goodIn_of _ (by decide +kernel)) ggL_law_X1_begin
set_option maxRecDepth 20000 in
theorem ggL_law_X1_thrown : GoodIn wsL_law wsX1_thrown := goodIn_r _ [170, 149, 305, 306, 307, 308, 309, 310, 311, 312, 313, 314, 315, 316, 317, 318, 319, 320, 321, 322, 323, 324] (by decide +kernel) (by decide +kernel)
set_option maxRecDepth 20000 in
theorem gL_law_X1_thrown : GoodIn wsL_law (wsV RL 51 RX1 yX1_thrown wsX1_thrown) := goodIn_app (goodIn_of _ (by decide +kernel)) ggL_law_X1_thrown
set_option maxRecDepth 20000 in
theorem ggL_law_L_step : GoodIn wsL_law wsL_step := goodIn_ca (goodIn_r _ [173, 174, 175, 176, 177, 2, 178, 179, 180, 27, 29, 181, 182, 183, 184, 19, 112, 24, 22, 185, 186, 187, 188, 21, 26, 141, 142, 143, 144, 28, 117, 118, 119, 120, 20, 15, 16, 18, 30, 121, 122, 123, 124, 125, 126, 127, 128, 31, 129, 130, 131, 132, 133, 134, 135, 136, 32, 33, 137, 138, 139, 140, 289, 290, 291, 292, 293, 294, 295, 296, 297, 298, 299, 300, 301, 302, 303, 304] (by decide +kernel) (by decide +kernel)) (goodIn_sub (fun _ h => List.mem_append_right _ h) (by decide +kernel))
set_option maxRecDepth 20000 in
theorem gL_law_L_step : GoodIn wsL_law (va_wsS RL 54 yL_step wsL_step) := goodIn_app (goodIn_of _ (by decide +kernel)) ggL_law_L_step
set_option maxRecDepth 20000 in
theorem ggL_law_X1_step : GoodIn wsL_law wsX1_step := goodIn_r _ [192, 67, 149, 193, 194, 195, 5, 196, 46, 197, 198, 199, 200, 41, 49, 45, 44, 43, 163, 164, 165, 166, 150, 151, 152, 153, 154, 48, 62, 38, 39, 40, 47, 42, 71, 70, 68, 155, 156, 157, 158, 69, 159, 160, 161, 162, 305, 306, 307, 308, 309, 310, 311, 312, 313, 314, 315, 316, 317, 318, 319, 320, 321, 322, 323, 324] (by decide +kernel) (by decide +kernel)
set_option maxRecDepth 20000 in
theorem gL_law_X1_step : GoodIn wsL_law (wsV RL 57 RX1 yX1_step wsX1_step) := goodIn_app (goodIn_of _ (by decide +kernel)) ggL_law_X1_step
set_option maxRecDepth 20000 in
theorem ggL_law_L_finish : GoodIn wsL_law wsL_finish := goodIn_ca (goodIn_r _ [203, 174, 204, 205, 206, 2, 207, 179, 180, 27, 29, 181, 182, 183, 184, 19, 112, 24, 22, 185, 186, 187, 188, 21, 26, 141, 142, 143, 144, 28, 117, 118, 119, 120, 20, 15, 16, 18, 30, 121, 122, 123, 124, 125, 126, 127, 128, 31, 129, 130, 131, 132, 133, 134, 135, 136, 32, 33, 137, 138, 139, 140, 289, 290, 291, 292, 293, 294, 295, 296, 297, 298, 299, 300, 301, 302, 303, 304] (by decide +kernel) (by decide +kernel)) (goodIn_sub (fun _ h => List.mem_append_right _ h) (by decide +kernel))
set_option maxRecDepth 20000 in
theorem gL_law_L_finish : GoodIn wsL_law (va_wsS RL 58 yL_finish wsL_finish) := goodIn_app (goodIn_of _ (by decide +kernel)) ggL_law_L_finish
set_option maxRecDepth 20000 in
theorem ggL_law_X1_finish : GoodIn wsL_law wsX1_finish := goodIn_r _ [211, 67, 149, 193, 194, 195, 5, 196, 46, 197, 198, 199, 200, 41, 49, 45, 44, 43, 163, 164, 165, 166, 150, 151, 152, 153, 154, 48, 62, 38, 39, 40, 47, 42, 71, 70, 68, 155, 156, 157, 158, 69, 159, 160, 161, 162, 305, 306, 307, 308, 309, 310, 311, 312, 313, 314, 315, 316, 317, 318, 319, 320, 321, 322, 323, 324] (by decide +kernel) (by decide +kernel)
set_option maxRecDepth 20000 in
theorem gL_law_X1_finish : GoodIn wsL_law (wsV RL 61 RX1 yX1_finish wsX1_finish) := goodIn_app (goodIn_of _ (by decide +kernel)) ggL_law_X1_finish
set_option maxRecDepth 20000 in
theorem ggL_law_X0_over : GoodIn wsL_law wsX0_over := goodIn_r _ [215, 27, 29, 289, 290, 291, 292, 293, 294, 295, 296, 297, 298, 299, 300, 301, 302, 303, 304] (by decide +kernel) (by decide +kernel)
set_option maxRecDepth 20000 in
theorem gL_law_X0_over : GoodIn wsL_law (wsV RL 62 RX0 yX0_over wsX0_over) := goodIn_app (goodIn_of _ (by decide +kernel)) ggL_law_X0_over
set_option maxRecDepth 20000 in
theorem ggL_law_X1_over : GoodIn wsL_law wsX1_over := goodIn_r _ [219, 67, 193, 194, 195, 5, 196, 46, 305, 306, 307, 308, 309, 310, 311, 312, 313, 314, 315, 316, 317, 318, 319, 320, 321, 322, 323, 324] (by decide +kernel) (by decide +kernel)
set_option maxRecDepth 20000 in
theorem gL_law_X1_over : GoodIn wsL_law (wsV RL 66 RX1 yX1_over wsX1_over) := goodIn_app (goodIn_of _ (by decide +kernel)) ggL_law_X1_over
set_option maxRecDepth 20000 in
theorem ggL_law_X0_value : GoodIn wsL_law wsX0_value := goodIn_r _ [223, 27, 22, 112, 76, 77, 78, 2, 79, 19, 289, 290, 291, 292, 293, 294, 295, 296, 297, 298, 299, 300, 301, 302, 303, 304] (by decide +kernel) (by decide +kernel)
set_option maxRecDepth 20000 in
theorem gL_law_X0_value : GoodIn wsL_law (wsV RL 67 RX0 yX0_value wsX0_value) := goodIn_app (goodIn_of _ (by decide +kernel)) ggL_law_X0_value
set_option maxRecDepth 20000 in
theorem ggL_law_X1_value : GoodIn wsL_law wsX1_value := goodIn_r _ [227, 67, 44, 43, 228, 89, 90, 91, 5, 92, 41, 305, 306, 307, 308, 309, 310, 311, 312, 313, 314, 315, 316, 317, 318, 319, 320, 321, 322, 323, 324] (by decide +kernel) (by decide +kernel)
set_option maxRecDepth 20000 in
theorem gL_law_X1_value : GoodIn wsL_law (wsV RL 71 RX1 yX1_value wsX1_value) := goodIn_app (goodIn_of _ (by decide +kernel)) ggL_law_X1_value
set_option maxRecDepth 20000 in
theorem ggL_law_X0_sum : GoodIn wsL_law wsX0_sum := goodIn_r _ [232, 27, 19, 22, 112, 289, 290, 291, 292, 293, 294, 295, 296, 297, 298, 299, 300, 301, 302, 303, 304] (by decide +kernel) (by decide +kernel)
set_option maxRecDepth 20000 in
theorem gL_law_X0_sum : GoodIn wsL_law (wsV RL 72 RX0 yX0_sum wsX0_sum) := goodIn_app (goodIn_of _ (by decide +kernel)) ggL_law_X0_sum
set_option maxRecDepth 20000 in
theorem ggL_law_X1_sum : GoodIn wsL_law wsX1_sum := goodIn_r _ [236, 41, 67, 44, 43, 305, 306, 307, 308, 309, 310, 311, 312, 313, 314, 315, 316, 317, 318, 319, 320, 321, 322, 323, 324] (by decide +kernel) (by decide +kernel)
set_option maxRecDepth 20000 in
theorem gL_law_X1_sum : GoodIn wsL_law (wsV RL 76 RX1 yX1_sum wsX1_sum) := goodIn_app (goodIn_of _ (by decide +kernel)) ggL_law_X1_sum
set_option maxRecDepth 20000 in
theorem ggL_law_X0_steps : GoodIn wsL_law wsX0_steps := goodIn_r _ [240, 30, 289, 290, 291, 292, 293, 294, 295, 296, 297, 298, 299, 300, 301, 302, 303, 304] (by decide +kernel) (by decide +kernel)
set_option maxRecDepth 20000 in
theorem gL_law_X0_steps : GoodIn wsL_law (wsV RL 77 RX0 yX0_steps wsX0_steps) := goodIn_app (goodIn_of _ (by decide +kernel)) ggL_law_X0_steps
set_option maxRecDepth 20000 in
theorem ggL_law_X1_steps : GoodIn wsL_law wsX1_steps := goodIn_r _ [244, 68, 305, 306, 307, 308, 309, 310, 311, 312, 313, 314, 315, 316, 317, 318, 319, 320, 321, 322, 323, 324] (by decide +kernel) (by decide +kernel)
set_option maxRecDepth 20000 in
theorem gL_law_X1_steps : GoodIn wsL_law (wsV RL 80 RX1 yX1_steps wsX1_steps) := goodIn_app (goodIn_of _ (by decide +kernel)) ggL_law_X1_steps
set_option maxRecDepth 20000 in
theorem ggL_law_X0_sent : GoodIn wsL_law wsX0_sent := goodIn_r _ [248, 31, 289, 290, 291, 292, 293, 294, 295, 296, 297, 298, 299, 300, 301, 302, 303, 304] (by decide +kernel) (by decide +kernel)
set_option maxRecDepth 20000 in
theorem gL_law_X0_sent : GoodIn wsL_law (wsV RL 81 RX0 yX0_sent wsX0_sent) := goodIn_app (goodIn_of _ (by decide +kernel)) ggL_law_X0_sent
set_option maxRecDepth 20000 in
theorem ggL_law_X1_sent : GoodIn wsL_law wsX1_sent := goodIn_r _ [252, 69, 305, 306, 307, 308, 309, 310, 311, 312, 313, 314, 315, 316, 317, 318, 319, 320, 321, 322, 323, 324] (by decide +kernel) (by decide +kernel)
set_option maxRecDepth 20000 in
theorem gL_law_X1_sent : GoodIn wsL_law (wsV RL 84 RX1 yX1_sent wsX1_sent) := goodIn_app (goodIn_of _ (by decide +kernel)) ggL_law_X1_sent
set_option maxRecDepth 20000 in
theorem ggL_law_X0_delivered : GoodIn wsL_law wsX0_delivered := goodIn_r _ [256, 32, 289, 290, 291, 292, 293, 294, 295, 296, 297, 298, 299, 300, 301, 302, 303, 304] (by decide +kernel) (by decide +kernel)
set_option maxRecDepth 20000 in
theorem gL_law_X0_delivered : GoodIn wsL_law (wsV RL 85 RX0 yX0_delivered wsX0_delivered) := goodIn_app (goodIn_of _ (by decide +kernel)) ggL_law_X0_delivered
set_option maxRecDepth 20000 in
theorem ggL_law_X1_delivered : GoodIn wsL_law wsX1_delivered := goodIn_r _ [260, 70, 305, 306, 307, 308, 309, 310, 311, 312, 313, 314, 315, 316, 317, 318, 319, 320, 321, 322, 323, 324] (by decide +kernel) (by decide +kernel)
set_option maxRecDepth 20000 in
theorem gL_law_X1_delivered : GoodIn wsL_law (wsV RL 88 RX1 yX1_delivered wsX1_delivered) := goodIn_app (goodIn_of _ (by decide +kernel)) ggL_law_X1_delivered
set_option maxRecDepth 20000 in
theorem ggL_law_X0_crossed : GoodIn wsL_law wsX0_crossed := goodIn_r _ [264, 33, 289, 290, 291, 292, 293, 294, 295, 296, 297, 298, 299, 300, 301, 302, 303, 304] (by decide +kernel) (by decide +kernel)
set_option maxRecDepth 20000 in
theorem gL_law_X0_crossed : GoodIn wsL_law (wsV RL 89 RX0 yX0_crossed wsX0_crossed) := goodIn_app (goodIn_of _ (by decide +kernel)) ggL_law_X0_crossed
set_option maxRecDepth 20000 in
theorem ggL_law_X1_crossed : GoodIn wsL_law wsX1_crossed := goodIn_r _ [268, 71, 305, 306, 307, 308, 309, 310, 311, 312, 313, 314, 315, 316, 317, 318, 319, 320, 321, 322, 323, 324] (by decide +kernel) (by decide +kernel)
set_option maxRecDepth 20000 in
theorem gL_law_X1_crossed : GoodIn wsL_law (wsV RL 92 RX1 yX1_crossed wsX1_crossed) := goodIn_app (goodIn_of _ (by decide +kernel)) ggL_law_X1_crossed
set_option maxRecDepth 20000 in
theorem ggL_law_X0_pending : GoodIn wsL_law wsX0_pending := goodIn_r _ [272, 27, 26, 112, 76, 77, 78, 2, 79, 19, 273, 274, 275, 276, 21, 289, 290, 291, 292, 293, 294, 295, 296, 297, 298, 299, 300, 301, 302, 303, 304] (by decide +kernel) (by decide +kernel)
set_option maxRecDepth 20000 in
theorem gL_law_X0_pending : GoodIn wsL_law (wsV RL 93 RX0 yX0_pending wsX0_pending) := goodIn_app (goodIn_of _ (by decide +kernel)) ggL_law_X0_pending
set_option maxRecDepth 20000 in
theorem ggL_law_X1_pending : GoodIn wsL_law wsX1_pending := goodIn_r _ [280, 42, 46, 45, 228, 89, 90, 91, 5, 92, 41, 305, 306, 307, 308, 309, 310, 311, 312, 313, 314, 315, 316, 317, 318, 319, 320, 321, 322, 323, 324] (by decide +kernel) (by decide +kernel)
set_option maxRecDepth 20000 in
theorem gL_law_X1_pending : GoodIn wsL_law (wsV RL 97 RX1 yX1_pending wsX1_pending) := goodIn_app (goodIn_of _ (by decide +kernel)) ggL_law_X1_pending
set_option maxRecDepth 20000 in
theorem ggL_law_X0_degree : GoodIn wsL_law wsX0_degree := goodIn_r _ [284, 20, 15, 16, 76, 77, 78, 2, 79, 19, 289, 290, 291, 292, 293, 294, 295, 296, 297, 298, 299, 300, 301, 302, 303, 304] (by decide +kernel) (by decide +kernel)
set_option maxRecDepth 20000 in
theorem gL_law_X0_degree : GoodIn wsL_law (wsV RL 98 RX0 yX0_degree wsX0_degree) := goodIn_app (goodIn_of _ (by decide +kernel)) ggL_law_X0_degree
set_option maxRecDepth 20000 in
theorem ggL_law_X1_degree : GoodIn wsL_law wsX1_degree := goodIn_r _ [288, 62, 38, 39, 89, 90, 91, 5, 92, 41, 305, 306, 307, 308, 309, 310, 311, 312, 313, 314, 315, 316, 317, 318, 319, 320, 321, 322, 323, 324] (by decide +kernel) (by decide +kernel)
set_option maxRecDepth 20000 in
theorem gL_law_X1_degree : GoodIn wsL_law (wsV RL 101 RX1 yX1_degree wsX1_degree) := goodIn_app (goodIn_of _ (by decide +kernel)) ggL_law_X1_degree
