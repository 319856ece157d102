theorem dX4_init_0 : decode cX4_init 0 = .ok (.aload_n 0, 1) := by decide +kernel
theorem dX4_init_1 : decode cX4_init 1 = .ok (.invokespecial 1, 3) := by decide +kernel
theorem dX4_init_4 : decode cX4_init 4 = .ok (.aload_n 0, 1) := by decide +kernel
theorem dX4_init_5 : decode cX4_init 5 = .ok (.new 7, 3) := by decide +kernel
theorem dX4_init_8 : decode cX4_init 8 = .ok (.dup, 1) := by decide +kernel
theorem dX4_init_9 : decode cX4_init 9 = .ok (.invokespecial 9, 3) := by decide +kernel
theorem dX4_init_12 : decode cX4_init 12 = .ok (.putfield 10, 3) := by decide +kernel
theorem dX4_init_15 : decode cX4_init 15 = .ok (.aload_n 0, 1) := by decide +kernel
theorem dX4_init_16 : decode cX4_init 16 = .ok (.new 16, 3) := by decide +kernel
theorem dX4_init_19 : decode cX4_init 19 = .ok (.dup, 1) := by decide +kernel
theorem dX4_init_20 : decode cX4_init 20 = .ok (.invokespecial 18, 3) := by decide +kernel
theorem dX4_init_23 : decode cX4_init 23 = .ok (.putfield 19, 3) := by decide +kernel
theorem dX4_init_26 : decode cX4_init 26 = .ok (.aload_n 0, 1) := by decide +kernel
theorem dX4_init_27 : decode cX4_init 27 = .ok (.new 23, 3) := by decide +kernel
theorem dX4_init_30 : decode cX4_init 30 = .ok (.dup, 1) := by decide +kernel
theorem dX4_init_31 : decode cX4_init 31 = .ok (.aload_n 0, 1) := by decide +kernel
theorem dX4_init_32 : decode cX4_init 32 = .ok (.getfield 10, 3) := by decide +kernel
theorem dX4_init_35 : decode cX4_init 35 = .ok (.aload_n 0, 1) := by decide +kernel
theorem dX4_init_36 : decode cX4_init 36 = .ok (.getfield 19, 3) := by decide +kernel
theorem dX4_init_39 : decode cX4_init 39 = .ok (.invokespecial 25, 3) := by decide +kernel
theorem dX4_init_42 : decode cX4_init 42 = .ok (.putfield 28, 3) := by decide +kernel
theorem dX4_init_45 : decode cX4_init 45 = .ok (.aload_n 0, 1) := by decide +kernel
theorem dX4_init_46 : decode cX4_init 46 = .ok (.new 32, 3) := by decide +kernel
theorem dX4_init_49 : decode cX4_init 49 = .ok (.dup, 1) := by decide +kernel
theorem dX4_init_50 : decode cX4_init 50 = .ok (.invokespecial 34, 3) := by decide +kernel
theorem dX4_init_53 : decode cX4_init 53 = .ok (.putfield 35, 3) := by decide +kernel
theorem dX4_init_56 : decode cX4_init 56 = .ok (.return_, 1) := by decide +kernel
set_option maxRecDepth 20000 in
theorem ggX4_load_X1_burn : GoodIn wsX4_load wsX1_burn := goodIn_r _ [8, 9, 14, 15] (by decide +kernel) (by decide +kernel)
set_option maxRecDepth 20000 in
theorem gX4_load_X1_burn : GoodIn wsX4_load (wsV RX4 48 RX1 yX1_burn wsX1_burn) := goodIn_app (goodIn_of _ (by decide +kernel)) ggX4_load_X1_burn
theorem dX4_load_0 : decode cX4_load 0 = .ok (.iload_n 3, 1) := by decide +kernel
theorem dX4_load_1 : decode cX4_load 1 = .ok (.iconst 1, 1) := by decide +kernel
theorem dX4_load_2 : decode cX4_load 2 = .ok (.if_icmp .lt 8, 3) := by decide +kernel
theorem dX4_load_5 : decode cX4_load 5 = .ok (.iload_n 3, 1) := by decide +kernel
theorem dX4_load_6 : decode cX4_load 6 = .ok (.iconst 4, 1) := by decide +kernel
theorem dX4_load_7 : decode cX4_load 7 = .ok (.if_icmp .le 13, 3) := by decide +kernel
theorem dX4_load_10 : decode cX4_load 10 = .ok (.new 39, 3) := by decide +kernel
theorem dX4_load_13 : decode cX4_load 13 = .ok (.dup, 1) := by decide +kernel
theorem dX4_load_14 : decode cX4_load 14 = .ok (.ldc 41, 2) := by decide +kernel
theorem dX4_load_16 : decode cX4_load 16 = .ok (.invokespecial 43, 3) := by decide +kernel
theorem dX4_load_19 : decode cX4_load 19 = .ok (.athrow, 1) := by decide +kernel
theorem dX4_load_20 : decode cX4_load 20 = .ok (.iload_n 1, 1) := by decide +kernel
theorem dX4_load_21 : decode cX4_load 21 = .ok (.ifCond .lt 12, 3) := by decide +kernel
theorem dX4_load_24 : decode cX4_load 24 = .ok (.iload_n 1, 1) := by decide +kernel
theorem dX4_load_25 : decode cX4_load 25 = .ok (.sipush 2048, 3) := by decide +kernel
theorem dX4_load_28 : decode cX4_load 28 = .ok (.iload_n 3, 1) := by decide +kernel
theorem dX4_load_29 : decode cX4_load 29 = .ok (.isub, 1) := by decide +kernel
theorem dX4_load_30 : decode cX4_load 30 = .ok (.if_icmp .le 13, 3) := by decide +kernel
theorem dX4_load_33 : decode cX4_load 33 = .ok (.new 39, 3) := by decide +kernel
theorem dX4_load_36 : decode cX4_load 36 = .ok (.dup, 1) := by decide +kernel
theorem dX4_load_37 : decode cX4_load 37 = .ok (.ldc 46, 2) := by decide +kernel
theorem dX4_load_39 : decode cX4_load 39 = .ok (.invokespecial 43, 3) := by decide +kernel
theorem dX4_load_42 : decode cX4_load 42 = .ok (.athrow, 1) := by decide +kernel
theorem dX4_load_43 : decode cX4_load 43 = .ok (.iconst 0, 1) := by decide +kernel
theorem dX4_load_44 : decode cX4_load 44 = .ok (.istore 4, 2) := by decide +kernel
theorem dX4_load_46 : decode cX4_load 46 = .ok (.iload 4, 2) := by decide +kernel
theorem dX4_load_48 : decode cX4_load 48 = .ok (.iload_n 3, 1) := by decide +kernel
theorem dX4_load_49 : decode cX4_load 49 = .ok (.if_icmp .ge 31, 3) := by decide +kernel
theorem dX4_load_52 : decode cX4_load 52 = .ok (.aload_n 0, 1) := by decide +kernel
theorem dX4_load_53 : decode cX4_load 53 = .ok (.getfield 10, 3) := by decide +kernel
theorem dX4_load_56 : decode cX4_load 56 = .ok (.iload_n 1, 1) := by decide +kernel
theorem dX4_load_57 : decode cX4_load 57 = .ok (.iload 4, 2) := by decide +kernel
theorem dX4_load_59 : decode cX4_load 59 = .ok (.iadd, 1) := by decide +kernel
theorem dX4_load_60 : decode cX4_load 60 = .ok (.iload_n 2, 1) := by decide +kernel
theorem dX4_load_61 : decode cX4_load 61 = .ok (.bipush 8, 2) := by decide +kernel
theorem dX4_load_63 : decode cX4_load 63 = .ok (.iload_n 3, 1) := by decide +kernel
theorem dX4_load_64 : decode cX4_load 64 = .ok (.iconst 1, 1) := by decide +kernel
theorem dX4_load_65 : decode cX4_load 65 = .ok (.isub, 1) := by decide +kernel
theorem dX4_load_66 : decode cX4_load 66 = .ok (.iload 4, 2) := by decide +kernel
theorem dX4_load_68 : decode cX4_load 68 = .ok (.isub, 1) := by decide +kernel
theorem dX4_load_69 : decode cX4_load 69 = .ok (.imul, 1) := by decide +kernel
theorem dX4_load_70 : decode cX4_load 70 = .ok (.ishr, 1) := by decide +kernel
theorem dX4_load_71 : decode cX4_load 71 = .ok (.invokevirtual 48, 3) := by decide +kernel
theorem dX4_load_74 : decode cX4_load 74 = .ok (.iinc 4 1, 3) := by decide +kernel
theorem dX4_load_77 : decode cX4_load 77 = .ok (.goto (-31), 3) := by decide +kernel
theorem dX4_load_80 : decode cX4_load 80 = .ok (.iload_n 1, 1) := by decide +kernel
theorem dX4_load_81 : decode cX4_load 81 = .ok (.iload_n 3, 1) := by decide +kernel
theorem dX4_load_82 : decode cX4_load 82 = .ok (.iadd, 1) := by decide +kernel
theorem dX4_load_83 : decode cX4_load 83 = .ok (.ireturn, 1) := by decide +kernel
set_option maxRecDepth 20000 in
theorem ggX4_reset_X4_resetParts : GoodIn wsX4_reset wsX4_resetParts := goodIn_r _ [6, 7, 8, 1, 9, 10, 11, 12, 13, 14, 15, 16, 17, 18, 19, 20, 21, 22, 23, 24, 25, 26, 27, 28, 29, 30, 31, 32, 33, 34, 35, 41, 42, 43, 44, 45, 46, 47, 48, 49, 50, 51, 52, 53, 54, 55, 56, 57, 58, 59, 60, 61, 62] (by decide +kernel) (by decide +kernel)
set_option maxRecDepth 20000 in
theorem gX4_reset_X4_resetParts : GoodIn wsX4_reset (wsV RX4 52 RX4 yX4_resetParts wsX4_resetParts) := goodIn_app (goodIn_of _ (by decide +kernel)) ggX4_reset_X4_resetParts
set_option maxRecDepth 20000 in
theorem ggX4_reset_X0_beginAnew : GoodIn wsX4_reset wsX0_beginAnew := goodIn_r _ [39, 40, 60, 61, 62] (by decide +kernel) (by decide +kernel)
set_option maxRecDepth 20000 in
theorem gX4_reset_X0_beginAnew : GoodIn wsX4_reset (wsV RX4 55 RX0 yX0_beginAnew wsX0_beginAnew) := goodIn_app (goodIn_of _ (by decide +kernel)) ggX4_reset_X0_beginAnew
theorem dX4_reset_0 : decode cX4_reset 0 = .ok (.aload_n 0, 1) := by decide +kernel
theorem dX4_reset_1 : decode cX4_reset 1 = .ok (.invokevirtual 52, 3) := by decide +kernel
theorem dX4_reset_4 : decode cX4_reset 4 = .ok (.aload_n 0, 1) := by decide +kernel
theorem dX4_reset_5 : decode cX4_reset 5 = .ok (.getfield 35, 3) := by decide +kernel
theorem dX4_reset_8 : decode cX4_reset 8 = .ok (.invokevirtual 55, 3) := by decide +kernel
theorem dX4_reset_11 : decode cX4_reset 11 = .ok (.return_, 1) := by decide +kernel
set_option maxRecDepth 20000 in
theorem ggX4_input_X2_setInput : GoodIn wsX4_input wsX2_setInput := goodIn_r _ [8, 9, 14, 15, 16, 17, 18, 19] (by decide +kernel) (by decide +kernel)
set_option maxRecDepth 20000 in
theorem gX4_input_X2_setInput : GoodIn wsX4_input (wsV RX4 60 RX2 yX2_setInput wsX2_setInput) := goodIn_app (goodIn_of _ (by decide +kernel)) ggX4_input_X2_setInput
theorem dX4_input_0 : decode cX4_input 0 = .ok (.iload_n 1, 1) := by decide +kernel
theorem dX4_input_1 : decode cX4_input 1 = .ok (.ifCond .lt 8, 3) := by decide +kernel
theorem dX4_input_4 : decode cX4_input 4 = .ok (.iload_n 1, 1) := by decide +kernel
theorem dX4_input_5 : decode cX4_input 5 = .ok (.iconst 3, 1) := by decide +kernel
theorem dX4_input_6 : decode cX4_input 6 = .ok (.if_icmp .lt 13, 3) := by decide +kernel
theorem dX4_input_9 : decode cX4_input 9 = .ok (.new 39, 3) := by decide +kernel
theorem dX4_input_12 : decode cX4_input 12 = .ok (.dup, 1) := by decide +kernel
theorem dX4_input_13 : decode cX4_input 13 = .ok (.ldc 58, 2) := by decide +kernel
theorem dX4_input_15 : decode cX4_input 15 = .ok (.invokespecial 43, 3) := by decide +kernel
theorem dX4_input_18 : decode cX4_input 18 = .ok (.athrow, 1) := by decide +kernel
theorem dX4_input_19 : decode cX4_input 19 = .ok (.aload_n 0, 1) := by decide +kernel
theorem dX4_input_20 : decode cX4_input 20 = .ok (.getfield 19, 3) := by decide +kernel
theorem dX4_input_23 : decode cX4_input 23 = .ok (.iload_n 1, 1) := by decide +kernel
theorem dX4_input_24 : decode cX4_input 24 = .ok (.iload_n 2, 1) := by decide +kernel
theorem dX4_input_25 : decode cX4_input 25 = .ok (.invokevirtual 60, 3) := by decide +kernel
theorem dX4_input_28 : decode cX4_input 28 = .ok (.return_, 1) := by decide +kernel
set_option maxRecDepth 20000 in
theorem ggX4_step_X4_advance : GoodIn wsX4_step wsX4_advance := goodIn_r _ [5, 6, 7, 8, 9, 10, 11, 12, 13, 14, 15, 16, 17, 18, 19, 20, 21, 22, 23, 24, 25, 26, 27, 28, 29, 30, 31, 32, 33, 34, 35, 36, 37, 38, 39, 40, 41, 42, 43, 44, 45, 46, 47, 48, 49, 50, 51, 52, 53, 54, 55, 56, 57, 58, 59, 60, 61, 62, 63, 64, 65, 66, 67, 68, 69, 70, 71, 72, 73, 74, 75, 76, 77, 78, 79, 80, 81, 82, 83, 84, 85, 86, 87, 88, 89, 90, 91, 92, 93, 94, 95, 96, 97, 98, 99, 100, 101, 102, 103, 104, 105, 106, 107, 108, 109, 110, 111, 112, 113, 114, 115, 116, 117, 118, 119, 120, 121, 122, 123, 124, 125, 126, 127, 128, 129, 130, 131, 132, 133, 134, 135, 136, 137, 138, 139, 140, 141, 142, 143, 144, 145, 146, 147, 148, 149, 150, 151, 152, 153, 154, 155, 156, 157, 158, 159, 160, 161, 162, 163, 164, 165, 166, 167, 168, 169, 170, 171, 172, 173, 174, 175, 176, 177, 178, 179, 180, 181, 182, 183, 184, 185, 186, 187, 188, 189, 190, 191, 192, 193, 194, 195, 196, 197, 198, 199, 200, 201, 202, 203, 204, 205, 206, 207, 208, 209, 210, 211, 212, 213, 214, 215, 216, 217, 218, 219, 220, 221, 222, 223, 224, 225, 226, 227, 228, 229, 230, 231, 232, 233, 234, 235, 236, 237, 238, 239, 240, 241, 242, 243, 244, 245, 246, 247, 4, 248, 249, 250, 251, 252, 253, 254, 255, 256, 257, 258, 259, 260, 261, 262, 263, 264, 265, 266, 267, 268, 269, 270, 271, 272, 273, 274, 275, 276, 277, 278, 279, 280, 281, 282, 283, 284] (by decide +kernel) (by decide +kernel)
set_option maxRecDepth 20000 in
theorem gX4_step_X4_advance : GoodIn wsX4_step (wsV RX4 63 RX4 yX4_advance wsX4_advance) := goodIn_app (goodIn_of _ (by decide +kernel)) ggX4_step_X4_advance
theorem dX4_step_0 : decode cX4_step 0 = .ok (.aload_n 0, 1) := by decide +kernel
theorem dX4_step_1 : decode cX4_step 1 = .ok (.iconst 1, 1) := by decide +kernel
theorem dX4_step_2 : decode cX4_step 2 = .ok (.invokevirtual 63, 3) := by decide +kernel
theorem dX4_step_5 : decode cX4_step 5 = .ok (.ireturn, 1) := by decide +kernel
set_option maxRecDepth 20000 in
theorem ggX4_run_X4_advance : GoodIn wsX4_run wsX4_advance := goodIn_r _ [8, 9, 10, 11, 12, 13, 14, 15, 16, 17, 18, 19, 20, 21, 22, 23, 24, 25, 26, 27, 28, 29, 30, 31, 32, 33, 34, 35, 36, 37, 38, 39, 40, 41, 42, 43, 44, 45, 46, 47, 48, 49, 50, 51, 52, 53, 54, 55, 56, 57, 58, 59, 60, 61, 62, 63, 64, 65, 66, 67, 68, 69, 70, 71, 72, 73, 74, 75, 76, 77, 78, 79, 80, 81, 82, 83, 84, 85, 86, 87, 88, 89, 90, 91, 92, 93, 94, 95, 96, 97, 98, 99, 100, 101, 102, 103, 104, 105, 106, 107, 108, 109, 110, 111, 112, 113, 114, 115, 116, 117, 118, 119, 120, 121, 122, 123, 124, 125, 126, 127, 128, 129, 130, 131, 132, 133, 134, 135, 136, 137, 138, 139, 140, 141, 142, 143, 144, 145, 146, 147, 148, 149, 150, 151, 152, 153, 154, 155, 156, 157, 158, 159, 160, 161, 162, 163, 164, 165, 166, 167, 168, 169, 170, 171, 172, 173, 174, 175, 176, 177, 178, 179, 180, 181, 182, 183, 184, 185, 186, 187, 188, 189, 190, 191, 192, 193, 194, 195, 196, 197, 198, 199, 200, 201, 202, 203, 204, 205, 206, 207, 208, 209, 210, 211, 212, 213, 214, 215, 216, 217, 218, 219, 220, 221, 222, 223, 224, 225, 226, 227, 228, 229, 230, 231, 232, 233, 234, 235, 236, 237, 238, 239, 240, 241, 242, 243, 244, 245, 246, 247, 248, 249, 250, 7, 251, 252, 253, 254, 255, 256, 257, 258, 259, 260, 261, 262, 263, 264, 265, 266, 267, 268, 269, 270, 271, 272, 273, 274, 275, 276, 277, 278, 279, 280, 281, 282, 283, 284, 285, 286, 287] (by decide +kernel) (by decide +kernel)
set_option maxRecDepth 20000 in
theorem gX4_run_X4_advance : GoodIn wsX4_run (wsV RX4 63 RX4 yX4_advance wsX4_advance) := goodIn_app (goodIn_of _ (by decide +kernel)) ggX4_run_X4_advance
theorem dX4_run_0 : decode cX4_run 0 = .ok (.iload_n 1, 1) := by decide +kernel
theorem dX4_run_1 : decode cX4_run 1 = .ok (.iconst 1, 1) := by decide +kernel
theorem dX4_run_2 : decode cX4_run 2 = .ok (.if_icmp .lt 9, 3) := by decide +kernel
theorem dX4_run_5 : decode cX4_run 5 = .ok (.iload_n 1, 1) := by decide +kernel
theorem dX4_run_6 : decode cX4_run 6 = .ok (.ldc 67, 2) := by decide +kernel
theorem dX4_run_8 : decode cX4_run 8 = .ok (.if_icmp .le 13, 3) := by decide +kernel
theorem dX4_run_11 : decode cX4_run 11 = .ok (.new 39, 3) := by decide +kernel
theorem dX4_run_14 : decode cX4_run 14 = .ok (.dup, 1) := by decide +kernel
theorem dX4_run_15 : decode cX4_run 15 = .ok (.ldc 68, 2) := by decide +kernel
theorem dX4_run_17 : decode cX4_run 17 = .ok (.invokespecial 43, 3) := by decide +kernel
theorem dX4_run_20 : decode cX4_run 20 = .ok (.athrow, 1) := by decide +kernel
theorem dX4_run_21 : decode cX4_run 21 = .ok (.iconst 0, 1) := by decide +kernel
theorem dX4_run_22 : decode cX4_run 22 = .ok (.istore_n 2, 1) := by decide +kernel
theorem dX4_run_23 : decode cX4_run 23 = .ok (.iconst 0, 1) := by decide +kernel
theorem dX4_run_24 : decode cX4_run 24 = .ok (.istore_n 3, 1) := by decide +kernel
theorem dX4_run_25 : decode cX4_run 25 = .ok (.iload_n 3, 1) := by decide +kernel
theorem dX4_run_26 : decode cX4_run 26 = .ok (.ldc 67, 2) := by decide +kernel
theorem dX4_run_28 : decode cX4_run 28 = .ok (.if_icmp .ge 24, 3) := by decide +kernel
theorem dX4_run_31 : decode cX4_run 31 = .ok (.iload_n 2, 1) := by decide +kernel
theorem dX4_run_32 : decode cX4_run 32 = .ok (.iload_n 1, 1) := by decide +kernel
theorem dX4_run_33 : decode cX4_run 33 = .ok (.if_icmp .ge 19, 3) := by decide +kernel
theorem dX4_run_36 : decode cX4_run 36 = .ok (.iload_n 2, 1) := by decide +kernel
theorem dX4_run_37 : decode cX4_run 37 = .ok (.aload_n 0, 1) := by decide +kernel
theorem dX4_run_38 : decode cX4_run 38 = .ok (.iload_n 1, 1) := by decide +kernel
theorem dX4_run_39 : decode cX4_run 39 = .ok (.iload_n 2, 1) := by decide +kernel
theorem dX4_run_40 : decode cX4_run 40 = .ok (.isub, 1) := by decide +kernel
theorem dX4_run_41 : decode cX4_run 41 = .ok (.invokevirtual 63, 3) := by decide +kernel
theorem dX4_run_44 : decode cX4_run 44 = .ok (.iadd, 1) := by decide +kernel
theorem dX4_run_45 : decode cX4_run 45 = .ok (.istore_n 2, 1) := by decide +kernel
theorem dX4_run_46 : decode cX4_run 46 = .ok (.iinc 3 1, 3) := by decide +kernel
theorem dX4_run_49 : decode cX4_run 49 = .ok (.goto (-24), 3) := by decide +kernel
theorem dX4_run_52 : decode cX4_run 52 = .ok (.iload_n 2, 1) := by decide +kernel
theorem dX4_run_53 : decode cX4_run 53 = .ok (.ireturn, 1) := by decide +kernel
set_option maxRecDepth 20000 in
theorem ggX4_register_X3_contentOf : GoodIn wsX4_register wsX3_contentOf := goodIn_r _ [8, 9, 10, 11, 12, 13, 14, 19, 20, 21, 22, 23, 24, 25, 26, 27] (by decide +kernel) (by decide +kernel)
set_option maxRecDepth 20000 in
theorem gX4_register_X3_contentOf : GoodIn wsX4_register (wsV RX4 72 RX3 yX3_contentOf wsX3_contentOf) := goodIn_app (goodIn_of _ (by decide +kernel)) ggX4_register_X3_contentOf
theorem dX4_register_0 : decode cX4_register 0 = .ok (.iload_n 1, 1) := by decide +kernel
theorem dX4_register_1 : decode cX4_register 1 = .ok (.ifCond .lt 9, 3) := by decide +kernel
theorem dX4_register_4 : decode cX4_register 4 = .ok (.iload_n 1, 1) := by decide +kernel
theorem dX4_register_5 : decode cX4_register 5 = .ok (.bipush 11, 2) := by decide +kernel
theorem dX4_register_7 : decode cX4_register 7 = .ok (.if_icmp .le 13, 3) := by decide +kernel
theorem dX4_register_10 : decode cX4_register 10 = .ok (.new 39, 3) := by decide +kernel
theorem dX4_register_13 : decode cX4_register 13 = .ok (.dup, 1) := by decide +kernel
theorem dX4_register_14 : decode cX4_register 14 = .ok (.ldc 70, 2) := by decide +kernel
theorem dX4_register_16 : decode cX4_register 16 = .ok (.invokespecial 43, 3) := by decide +kernel
theorem dX4_register_19 : decode cX4_register 19 = .ok (.athrow, 1) := by decide +kernel
theorem dX4_register_20 : decode cX4_register 20 = .ok (.aload_n 0, 1) := by decide +kernel
theorem dX4_register_21 : decode cX4_register 21 = .ok (.getfield 28, 3) := by decide +kernel
theorem dX4_register_24 : decode cX4_register 24 = .ok (.iload_n 1, 1) := by decide +kernel
theorem dX4_register_25 : decode cX4_register 25 = .ok (.invokevirtual 72, 3) := by decide +kernel
theorem dX4_register_28 : decode cX4_register 28 = .ok (.ireturn, 1) := by decide +kernel
set_option maxRecDepth 20000 in
theorem ggX4_memory_X1_read : GoodIn wsX4_memory wsX1_read := goodIn_r _ [6, 7, 8, 9, 14, 15] (by decide +kernel) (by decide +kernel)
set_option maxRecDepth 20000 in
theorem gX4_memory_X1_read : GoodIn wsX4_memory (wsV RX4 75 RX1 yX1_read wsX1_read) := goodIn_app (goodIn_of _ (by decide +kernel)) ggX4_memory_X1_read
theorem dX4_memory_0 : decode cX4_memory 0 = .ok (.aload_n 0, 1) := by decide +kernel
theorem dX4_memory_1 : decode cX4_memory 1 = .ok (.getfield 10, 3) := by decide +kernel
theorem dX4_memory_4 : decode cX4_memory 4 = .ok (.iload_n 1, 1) := by decide +kernel
theorem dX4_memory_5 : decode cX4_memory 5 = .ok (.invokevirtual 75, 3) := by decide +kernel
theorem dX4_memory_8 : decode cX4_memory 8 = .ok (.ireturn, 1) := by decide +kernel
set_option maxRecDepth 20000 in
theorem ggX4_poke_X1_write : GoodIn wsX4_poke wsX1_write := goodIn_r _ [6, 7, 18, 19] (by decide +kernel) (by decide +kernel)
set_option maxRecDepth 20000 in
theorem gX4_poke_X1_write : GoodIn wsX4_poke (wsV RX4 78 RX1 yX1_write wsX1_write) := goodIn_app (goodIn_of _ (by decide +kernel)) ggX4_poke_X1_write
set_option maxRecDepth 20000 in
theorem ggX4_poke_X1_read : GoodIn wsX4_poke wsX1_read := goodIn_r _ [11, 7, 12, 13, 18, 19] (by decide +kernel) (by decide +kernel)
set_option maxRecDepth 20000 in
theorem gX4_poke_X1_read : GoodIn wsX4_poke (wsV RX4 75 RX1 yX1_read wsX1_read) := goodIn_app (goodIn_of _ (by decide +kernel)) ggX4_poke_X1_read
theorem dX4_poke_0 : decode cX4_poke 0 = .ok (.aload_n 0, 1) := by decide +kernel
theorem dX4_poke_1 : decode cX4_poke 1 = .ok (.getfield 10, 3) := by decide +kernel
theorem dX4_poke_4 : decode cX4_poke 4 = .ok (.iload_n 1, 1) := by decide +kernel
theorem dX4_poke_5 : decode cX4_poke 5 = .ok (.iload_n 2, 1) := by decide +kernel
theorem dX4_poke_6 : decode cX4_poke 6 = .ok (.invokevirtual 78, 3) := by decide +kernel
theorem dX4_poke_9 : decode cX4_poke 9 = .ok (.aload_n 0, 1) := by decide +kernel
theorem dX4_poke_10 : decode cX4_poke 10 = .ok (.getfield 10, 3) := by decide +kernel
theorem dX4_poke_13 : decode cX4_poke 13 = .ok (.iload_n 1, 1) := by decide +kernel
theorem dX4_poke_14 : decode cX4_poke 14 = .ok (.invokevirtual 75, 3) := by decide +kernel
theorem dX4_poke_17 : decode cX4_poke 17 = .ok (.ireturn, 1) := by decide +kernel
set_option maxRecDepth 20000 in
theorem ggX4_dot_X1_dotsInColumn : GoodIn wsX4_dot wsX1_dotsInColumn := goodIn_r _ [8, 9, 10, 11, 12, 13, 14, 15, 16, 17, 18, 7, 19, 20, 21, 22, 23, 24, 25, 26, 27, 28, 29, 34, 35] (by decide +kernel) (by decide +kernel)
set_option maxRecDepth 20000 in
theorem gX4_dot_X1_dotsInColumn : GoodIn wsX4_dot (wsV RX4 86 RX1 yX1_dotsInColumn wsX1_dotsInColumn) := goodIn_app (goodIn_of _ (by decide +kernel)) ggX4_dot_X1_dotsInColumn
theorem dX4_dot_0 : decode cX4_dot 0 = .ok (.iload_n 1, 1) := by decide +kernel
theorem dX4_dot_1 : decode cX4_dot 1 = .ok (.ifCond .lt 21, 3) := by decide +kernel
theorem dX4_dot_4 : decode cX4_dot 4 = .ok (.iload_n 1, 1) := by decide +kernel
theorem dX4_dot_5 : decode cX4_dot 5 = .ok (.sipush 224, 3) := by decide +kernel
theorem dX4_dot_8 : decode cX4_dot 8 = .ok (.if_icmp .ge 14, 3) := by decide +kernel
theorem dX4_dot_11 : decode cX4_dot 11 = .ok (.iload_n 2, 1) := by decide +kernel
theorem dX4_dot_12 : decode cX4_dot 12 = .ok (.ifCond .lt 10, 3) := by decide +kernel
theorem dX4_dot_15 : decode cX4_dot 15 = .ok (.iload_n 2, 1) := by decide +kernel
theorem dX4_dot_16 : decode cX4_dot 16 = .ok (.sipush 256, 3) := by decide +kernel
theorem dX4_dot_19 : decode cX4_dot 19 = .ok (.if_icmp .lt 13, 3) := by decide +kernel
theorem dX4_dot_22 : decode cX4_dot 22 = .ok (.new 81, 3) := by decide +kernel
theorem dX4_dot_25 : decode cX4_dot 25 = .ok (.dup, 1) := by decide +kernel
theorem dX4_dot_26 : decode cX4_dot 26 = .ok (.ldc 83, 2) := by decide +kernel
theorem dX4_dot_28 : decode cX4_dot 28 = .ok (.invokespecial 85, 3) := by decide +kernel
theorem dX4_dot_31 : decode cX4_dot 31 = .ok (.athrow, 1) := by decide +kernel
theorem dX4_dot_32 : decode cX4_dot 32 = .ok (.aload_n 0, 1) := by decide +kernel
theorem dX4_dot_33 : decode cX4_dot 33 = .ok (.getfield 10, 3) := by decide +kernel
theorem dX4_dot_36 : decode cX4_dot 36 = .ok (.iload_n 1, 1) := by decide +kernel
theorem dX4_dot_37 : decode cX4_dot 37 = .ok (.iload_n 2, 1) := by decide +kernel
theorem dX4_dot_38 : decode cX4_dot 38 = .ok (.iload_n 2, 1) := by decide +kernel
theorem dX4_dot_39 : decode cX4_dot 39 = .ok (.iconst 1, 1) := by decide +kernel
theorem dX4_dot_40 : decode cX4_dot 40 = .ok (.iadd, 1) := by decide +kernel
theorem dX4_dot_41 : decode cX4_dot 41 = .ok (.invokevirtual 86, 3) := by decide +kernel
theorem dX4_dot_44 : decode cX4_dot 44 = .ok (.ireturn, 1) := by decide +kernel
set_option maxRecDepth 20000 in
theorem ggX4_lit_X4_onScreen : GoodIn wsX4_lit wsX4_onScreen := goodIn_r _ [5, 6, 7, 8, 9, 10, 11, 12] (by decide +kernel) (by decide +kernel)
set_option maxRecDepth 20000 in
theorem gX4_lit_X4_onScreen : GoodIn wsX4_lit (va_wsS RX4 90 yX4_onScreen wsX4_onScreen) := goodIn_app (goodIn_of _ (by decide +kernel)) ggX4_lit_X4_onScreen
set_option maxRecDepth 20000 in
theorem ggX4_lit_X1_dotsInColumn : GoodIn wsX4_lit wsX1_dotsInColumn := goodIn_r _ [17, 18, 19, 8, 20, 21, 22, 23, 24, 25, 26, 16, 27, 28, 29, 30, 31, 32, 33, 34, 35, 36, 37, 42, 43] (by decide +kernel) (by decide +kernel)
set_option maxRecDepth 20000 in
theorem gX4_lit_X1_dotsInColumn : GoodIn wsX4_lit (wsV RX4 86 RX1 yX1_dotsInColumn wsX1_dotsInColumn) := goodIn_app (goodIn_of _ (by decide +kernel)) ggX4_lit_X1_dotsInColumn
theorem dX4_lit_0 : decode cX4_lit 0 = .ok (.iload_n 1, 1) := by decide +kernel
theorem dX4_lit_1 : decode cX4_lit 1 = .ok (.i2l, 1) := by decide +kernel
theorem dX4_lit_2 : decode cX4_lit 2 = .ok (.sipush 224, 3) := by decide +kernel
theorem dX4_lit_5 : decode cX4_lit 5 = .ok (.invokestatic 90, 3) := by decide +kernel
theorem dX4_lit_8 : decode cX4_lit 8 = .ok (.istore 5, 2) := by decide +kernel
theorem dX4_lit_10 : decode cX4_lit 10 = .ok (.iload_n 1, 1) := by decide +kernel
theorem dX4_lit_11 : decode cX4_lit 11 = .ok (.i2l, 1) := by decide +kernel
theorem dX4_lit_12 : decode cX4_lit 12 = .ok (.iload_n 3, 1) := by decide +kernel
theorem dX4_lit_13 : decode cX4_lit 13 = .ok (.i2l, 1) := by decide +kernel
theorem dX4_lit_14 : decode cX4_lit 14 = .ok (.ladd, 1) := by decide +kernel
theorem dX4_lit_15 : decode cX4_lit 15 = .ok (.sipush 224, 3) := by decide +kernel
theorem dX4_lit_18 : decode cX4_lit 18 = .ok (.invokestatic 90, 3) := by decide +kernel
theorem dX4_lit_21 : decode cX4_lit 21 = .ok (.istore 6, 2) := by decide +kernel
theorem dX4_lit_23 : decode cX4_lit 23 = .ok (.iload_n 2, 1) := by decide +kernel
theorem dX4_lit_24 : decode cX4_lit 24 = .ok (.i2l, 1) := by decide +kernel
theorem dX4_lit_25 : decode cX4_lit 25 = .ok (.sipush 256, 3) := by decide +kernel
theorem dX4_lit_28 : decode cX4_lit 28 = .ok (.invokestatic 90, 3) := by decide +kernel
theorem dX4_lit_31 : decode cX4_lit 31 = .ok (.istore 7, 2) := by decide +kernel
theorem dX4_lit_33 : decode cX4_lit 33 = .ok (.iload_n 2, 1) := by decide +kernel
theorem dX4_lit_34 : decode cX4_lit 34 = .ok (.i2l, 1) := by decide +kernel
theorem dX4_lit_35 : decode cX4_lit 35 = .ok (.iload 4, 2) := by decide +kernel
theorem dX4_lit_37 : decode cX4_lit 37 = .ok (.i2l, 1) := by decide +kernel
theorem dX4_lit_38 : decode cX4_lit 38 = .ok (.ladd, 1) := by decide +kernel
theorem dX4_lit_39 : decode cX4_lit 39 = .ok (.sipush 256, 3) := by decide +kernel
theorem dX4_lit_42 : decode cX4_lit 42 = .ok (.invokestatic 90, 3) := by decide +kernel
theorem dX4_lit_45 : decode cX4_lit 45 = .ok (.istore 8, 2) := by decide +kernel
theorem dX4_lit_47 : decode cX4_lit 47 = .ok (.iconst 0, 1) := by decide +kernel
theorem dX4_lit_48 : decode cX4_lit 48 = .ok (.istore 9, 2) := by decide +kernel
theorem dX4_lit_50 : decode cX4_lit 50 = .ok (.iload 5, 2) := by decide +kernel
theorem dX4_lit_52 : decode cX4_lit 52 = .ok (.istore 10, 2) := by decide +kernel
theorem dX4_lit_54 : decode cX4_lit 54 = .ok (.iload 10, 2) := by decide +kernel
theorem dX4_lit_56 : decode cX4_lit 56 = .ok (.iload 6, 2) := by decide +kernel
theorem dX4_lit_58 : decode cX4_lit 58 = .ok (.if_icmp .ge 27, 3) := by decide +kernel
theorem dX4_lit_61 : decode cX4_lit 61 = .ok (.iload 9, 2) := by decide +kernel
theorem dX4_lit_63 : decode cX4_lit 63 = .ok (.aload_n 0, 1) := by decide +kernel
theorem dX4_lit_64 : decode cX4_lit 64 = .ok (.getfield 10, 3) := by decide +kernel
theorem dX4_lit_67 : decode cX4_lit 67 = .ok (.iload 10, 2) := by decide +kernel
theorem dX4_lit_69 : decode cX4_lit 69 = .ok (.iload 7, 2) := by decide +kernel
theorem dX4_lit_71 : decode cX4_lit 71 = .ok (.iload 8, 2) := by decide +kernel
theorem dX4_lit_73 : decode cX4_lit 73 = .ok (.invokevirtual 86, 3) := by decide +kernel
theorem dX4_lit_76 : decode cX4_lit 76 = .ok (.iadd, 1) := by decide +kernel
theorem dX4_lit_77 : decode cX4_lit 77 = .ok (.istore 9, 2) := by decide +kernel
theorem dX4_lit_79 : decode cX4_lit 79 = .ok (.iinc 10 1, 3) := by decide +kernel
theorem dX4_lit_82 : decode cX4_lit 82 = .ok (.goto (-28), 3) := by decide +kernel
theorem dX4_lit_85 : decode cX4_lit 85 = .ok (.iload 9, 2) := by decide +kernel
theorem dX4_lit_87 : decode cX4_lit 87 = .ok (.ireturn, 1) := by decide +kernel
set_option maxRecDepth 20000 in
theorem ggX4_state_X2_latchOf : GoodIn wsX4_state wsX2_latchOf := goodIn_r _ [9, 10, 24, 25, 26, 27, 28, 29] (by decide +kernel) (by decide +kernel)
set_option maxRecDepth 20000 in
theorem gX4_state_X2_latchOf : GoodIn wsX4_state (wsV RX4 94 RX2 yX2_latchOf wsX2_latchOf) := goodIn_app (goodIn_of _ (by decide +kernel)) ggX4_state_X2_latchOf
set_option maxRecDepth 20000 in
theorem ggX4_state_X2_shifted : GoodIn wsX4_state wsX2_shifted := goodIn_r _ [14, 15, 16, 24, 25, 26, 27, 28, 29] (by decide +kernel) (by decide +kernel)
set_option maxRecDepth 20000 in
theorem gX4_state_X2_shifted : GoodIn wsX4_state (wsV RX4 110 RX2 yX2_shifted wsX2_shifted) := goodIn_app (goodIn_of _ (by decide +kernel)) ggX4_state_X2_shifted
theorem dX4_state_0 : decode cX4_state 0 = .ok (.iload_n 1, 1) := by decide +kernel
theorem dX4_state_1 : decode cX4_state 1 = .ok (.tableswitch 101 0 6 #[43, 52, 61, 69, 77, 85, 93], 43) := by decide +kernel
theorem dX4_state_44 : decode cX4_state 44 = .ok (.aload_n 0, 1) := by decide +kernel
theorem dX4_state_45 : decode cX4_state 45 = .ok (.getfield 19, 3) := by decide +kernel
theorem dX4_state_48 : decode cX4_state 48 = .ok (.iconst 0, 1) := by decide +kernel
theorem dX4_state_49 : decode cX4_state 49 = .ok (.invokevirtual 94, 3) := by decide +kernel
theorem dX4_state_52 : decode cX4_state 52 = .ok (.ireturn, 1) := by decide +kernel
theorem dX4_state_53 : decode cX4_state 53 = .ok (.aload_n 0, 1) := by decide +kernel
theorem dX4_state_54 : decode cX4_state 54 = .ok (.getfield 19, 3) := by decide +kernel
theorem dX4_state_57 : decode cX4_state 57 = .ok (.iconst 1, 1) := by decide +kernel
theorem dX4_state_58 : decode cX4_state 58 = .ok (.invokevirtual 94, 3) := by decide +kernel
theorem dX4_state_61 : decode cX4_state 61 = .ok (.ireturn, 1) := by decide +kernel
theorem dX4_state_62 : decode cX4_state 62 = .ok (.aload_n 0, 1) := by decide +kernel
theorem dX4_state_63 : decode cX4_state 63 = .ok (.getfield 35, 3) := by decide +kernel
theorem dX4_state_66 : decode cX4_state 66 = .ok (.getfield 97, 3) := by decide +kernel
theorem dX4_state_69 : decode cX4_state 69 = .ok (.ireturn, 1) := by decide +kernel
theorem dX4_state_70 : decode cX4_state 70 = .ok (.aload_n 0, 1) := by decide +kernel
theorem dX4_state_71 : decode cX4_state 71 = .ok (.getfield 35, 3) := by decide +kernel
theorem dX4_state_74 : decode cX4_state 74 = .ok (.getfield 101, 3) := by decide +kernel
theorem dX4_state_77 : decode cX4_state 77 = .ok (.ireturn, 1) := by decide +kernel
theorem dX4_state_78 : decode cX4_state 78 = .ok (.aload_n 0, 1) := by decide +kernel
theorem dX4_state_79 : decode cX4_state 79 = .ok (.getfield 35, 3) := by decide +kernel
theorem dX4_state_82 : decode cX4_state 82 = .ok (.getfield 104, 3) := by decide +kernel
theorem dX4_state_85 : decode cX4_state 85 = .ok (.ireturn, 1) := by decide +kernel
theorem dX4_state_86 : decode cX4_state 86 = .ok (.aload_n 0, 1) := by decide +kernel
theorem dX4_state_87 : decode cX4_state 87 = .ok (.getfield 19, 3) := by decide +kernel
theorem dX4_state_90 : decode cX4_state 90 = .ok (.getfield 107, 3) := by decide +kernel
theorem dX4_state_93 : decode cX4_state 93 = .ok (.ireturn, 1) := by decide +kernel
theorem dX4_state_94 : decode cX4_state 94 = .ok (.aload_n 0, 1) := by decide +kernel
theorem dX4_state_95 : decode cX4_state 95 = .ok (.getfield 19, 3) := by decide +kernel
theorem dX4_state_98 : decode cX4_state 98 = .ok (.invokevirtual 110, 3) := by decide +kernel
theorem dX4_state_101 : decode cX4_state 101 = .ok (.ireturn, 1) := by decide +kernel
theorem dX4_state_102 : decode cX4_state 102 = .ok (.new 39, 3) := by decide +kernel
theorem dX4_state_105 : decode cX4_state 105 = .ok (.dup, 1) := by decide +kernel
theorem dX4_state_106 : decode cX4_state 106 = .ok (.ldc 114, 2) := by decide +kernel
theorem dX4_state_108 : decode cX4_state 108 = .ok (.invokespecial 43, 3) := by decide +kernel
theorem dX4_state_111 : decode cX4_state 111 = .ok (.athrow, 1) := by decide +kernel
set_option maxRecDepth 20000 in
theorem ggX4_sounds_X2_risesOf : GoodIn wsX4_sounds wsX2_risesOf := goodIn_r _ [8, 9, 14, 15, 16, 17, 18, 19] (by decide +kernel) (by decide +kernel)
set_option maxRecDepth 20000 in
theorem gX4_sounds_X2_risesOf : GoodIn wsX4_sounds (wsV RX4 118 RX2 yX2_risesOf wsX2_risesOf) := goodIn_app (goodIn_of _ (by decide +kernel)) ggX4_sounds_X2_risesOf
theorem dX4_sounds_0 : decode cX4_sounds 0 = .ok (.iload_n 1, 1) := by decide +kernel
theorem dX4_sounds_1 : decode cX4_sounds 1 = .ok (.ifCond .lt 9, 3) := by decide +kernel
theorem dX4_sounds_4 : decode cX4_sounds 4 = .ok (.iload_n 1, 1) := by decide +kernel
theorem dX4_sounds_5 : decode cX4_sounds 5 = .ok (.bipush 16, 2) := by decide +kernel
theorem dX4_sounds_7 : decode cX4_sounds 7 = .ok (.if_icmp .lt 13, 3) := by decide +kernel
theorem dX4_sounds_10 : decode cX4_sounds 10 = .ok (.new 39, 3) := by decide +kernel
theorem dX4_sounds_13 : decode cX4_sounds 13 = .ok (.dup, 1) := by decide +kernel
theorem dX4_sounds_14 : decode cX4_sounds 14 = .ok (.ldc 116, 2) := by decide +kernel
theorem dX4_sounds_16 : decode cX4_sounds 16 = .ok (.invokespecial 43, 3) := by decide +kernel
theorem dX4_sounds_19 : decode cX4_sounds 19 = .ok (.athrow, 1) := by decide +kernel
theorem dX4_sounds_20 : decode cX4_sounds 20 = .ok (.aload_n 0, 1) := by decide +kernel
theorem dX4_sounds_21 : decode cX4_sounds 21 = .ok (.getfield 19, 3) := by decide +kernel
theorem dX4_sounds_24 : decode cX4_sounds 24 = .ok (.iload_n 1, 1) := by decide +kernel
theorem dX4_sounds_25 : decode cX4_sounds 25 = .ok (.invokevirtual 118, 3) := by decide +kernel
theorem dX4_sounds_28 : decode cX4_sounds 28 = .ok (.ireturn, 1) := by decide +kernel
set_option maxRecDepth 20000 in
theorem ggX4_advance_X0_takeWaiting : GoodIn wsX4_advance wsX0_takeWaiting := goodIn_r _ [12, 13, 270, 271, 272] (by decide +kernel) (by decide +kernel)
set_option maxRecDepth 20000 in
theorem gX4_advance_X0_takeWaiting : GoodIn wsX4_advance (wsV RX4 125 RX0 yX0_takeWaiting wsX0_takeWaiting) := goodIn_app (goodIn_of _ (by decide +kernel)) ggX4_advance_X0_takeWaiting
set_option maxRecDepth 20000 in
theorem ggX4_advance_X3_takeRequest : GoodIn wsX4_advance wsX3_takeRequest := goodIn_r _ [18, 19, 20, 21, 22, 23, 24, 17, 25, 26, 27, 28, 29, 30, 31, 32, 33, 34, 35, 36, 37, 38, 261, 262, 263, 264, 265, 266, 267, 268, 269, 273, 274] (by decide +kernel) (by decide +kernel)
set_option maxRecDepth 20000 in
theorem gX4_advance_X3_takeRequest : GoodIn wsX4_advance (wsV RX4 128 RX3 yX3_takeRequest wsX3_takeRequest) := goodIn_app (goodIn_of _ (by decide +kernel)) ggX4_advance_X3_takeRequest
set_option maxRecDepth 20000 in
theorem ggX4_advance_X0_untilRequest : GoodIn wsX4_advance wsX0_untilRequest := goodIn_r _ [42, 43, 44, 270, 271, 272] (by decide +kernel) (by decide +kernel)
set_option maxRecDepth 20000 in
theorem gX4_advance_X0_untilRequest : GoodIn wsX4_advance (wsV RX4 134 RX0 yX0_untilRequest wsX0_untilRequest) := goodIn_app (goodIn_of _ (by decide +kernel)) ggX4_advance_X0_untilRequest
set_option maxRecDepth 20000 in
theorem ggX4_advance_X3_execute : GoodIn wsX4_advance wsX3_execute := goodIn_r _ [48, 49, 50, 19, 51, 52, 53, 17, 54, 28, 21, 27, 55, 56, 57, 32, 58, 38, 59, 60, 61, 62, 63, 64, 65, 66, 67, 68, 26, 69, 70, 71, 72, 73, 74, 75, 76, 77, 78, 79, 80, 81, 82, 83, 84, 85, 86, 87, 88, 89, 90, 91, 92, 93, 94, 95, 96, 97, 98, 99, 100, 101, 102, 103, 104, 35, 36, 37, 29, 30, 31, 33, 34, 105, 106, 107, 108, 109, 110, 111, 112, 113, 114, 115, 116, 117, 118, 119, 120, 121, 122, 123, 124, 125, 126, 127, 128, 129, 130, 131, 132, 133, 134, 135, 136, 137, 138, 139, 140, 141, 142, 143, 144, 145, 146, 20, 147, 148, 149, 150, 151, 152, 153, 154, 155, 156, 157, 158, 159, 160, 161, 162, 163, 164, 165, 166, 167, 168, 169, 170, 171, 172, 173, 174, 175, 176, 177, 178, 179, 180, 181, 182, 183, 184, 185, 186, 187, 188, 189, 190, 191, 192, 193, 194, 195, 196, 197, 198, 199, 200, 201, 202, 203, 204, 205, 206, 207, 208, 209, 210, 211, 212, 213, 214, 215, 216, 217, 218, 219, 220, 221, 222, 223, 224, 225, 226, 22, 23, 24, 25, 227, 228, 229, 230, 261, 262, 263, 264, 265, 266, 267, 268, 269, 273, 274, 275, 276, 277, 278, 279, 280] (by decide +kernel) (by decide +kernel)
set_option maxRecDepth 20000 in
theorem gX4_advance_X3_execute : GoodIn wsX4_advance (wsV RX4 143 RX3 yX3_execute wsX3_execute) := goodIn_app (goodIn_of _ (by decide +kernel)) ggX4_advance_X3_execute
set_option maxRecDepth 20000 in
theorem ggX4_advance_X0_pass : GoodIn wsX4_advance wsX0_pass := goodIn_r _ [234, 43, 13, 44, 235, 270, 271, 272] (by decide +kernel) (by decide +kernel)
set_option maxRecDepth 20000 in
theorem gX4_advance_X0_pass : GoodIn wsX4_advance (wsV RX4 146 RX0 yX0_pass wsX0_pass) := goodIn_app (goodIn_of _ (by decide +kernel)) ggX4_advance_X0_pass
set_option maxRecDepth 20000 in
theorem ggX4_advance_X2_endFrameUnfed : GoodIn wsX4_advance wsX2_endFrameUnfed := goodIn_r _ [239, 199, 275, 276, 277, 278, 279, 280] (by decide +kernel) (by decide +kernel)
set_option maxRecDepth 20000 in
theorem gX4_advance_X2_endFrameUnfed : GoodIn wsX4_advance (wsV RX4 150 RX2 yX2_endFrameUnfed wsX2_endFrameUnfed) := goodIn_app (goodIn_of _ (by decide +kernel)) ggX4_advance_X2_endFrameUnfed
set_option maxRecDepth 20000 in
theorem ggX4_advance_X4_resetParts : GoodIn wsX4_advance wsX4_resetParts := goodIn_r _ [244, 1, 7, 2, 245, 246, 247, 17, 248, 73, 86, 26, 21, 19, 49, 20, 249, 250, 251, 195, 252, 198, 197, 204, 199, 253, 254, 255, 11, 256, 13, 257, 258, 259, 260, 261, 262, 263, 264, 265, 266, 267, 268, 269, 275, 276, 277, 278, 279, 280, 270, 271, 272] (by decide +kernel) (by decide +kernel)
set_option maxRecDepth 20000 in
theorem gX4_advance_X4_resetParts : GoodIn wsX4_advance (wsV RX4 52 RX4 yX4_resetParts wsX4_resetParts) := goodIn_app (goodIn_of _ (by decide +kernel)) ggX4_advance_X4_resetParts
theorem dX4_advance_0 : decode cX4_advance 0 = .ok (.aload_n 0, 1) := by decide +kernel
theorem dX4_advance_1 : decode cX4_advance 1 = .ok (.getfield 28, 3) := by decide +kernel
theorem dX4_advance_4 : decode cX4_advance 4 = .ok (.getfield 121, 3) := by decide +kernel
theorem dX4_advance_7 : decode cX4_advance 7 = .ok (.ifCond .eq 31, 3) := by decide +kernel
theorem dX4_advance_10 : decode cX4_advance 10 = .ok (.aload_n 0, 1) := by decide +kernel
theorem dX4_advance_11 : decode cX4_advance 11 = .ok (.getfield 35, 3) := by decide +kernel
theorem dX4_advance_14 : decode cX4_advance 14 = .ok (.getfield 104, 3) := by decide +kernel
theorem dX4_advance_17 : decode cX4_advance 17 = .ok (.ifCond .eq 21, 3) := by decide +kernel
theorem dX4_advance_20 : decode cX4_advance 20 = .ok (.aload_n 0, 1) := by decide +kernel
theorem dX4_advance_21 : decode cX4_advance 21 = .ok (.getfield 28, 3) := by decide +kernel
theorem dX4_advance_24 : decode cX4_advance 24 = .ok (.aload_n 0, 1) := by decide +kernel
theorem dX4_advance_25 : decode cX4_advance 25 = .ok (.getfield 35, 3) := by decide +kernel
theorem dX4_advance_28 : decode cX4_advance 28 = .ok (.invokevirtual 125, 3) := by decide +kernel
theorem dX4_advance_31 : decode cX4_advance 31 = .ok (.invokevirtual 128, 3) := by decide +kernel
theorem dX4_advance_34 : decode cX4_advance 34 = .ok (.istore_n 2, 1) := by decide +kernel
theorem dX4_advance_35 : decode cX4_advance 35 = .ok (.goto 36, 3) := by decide +kernel
theorem dX4_advance_38 : decode cX4_advance 38 = .ok (.aload_n 0, 1) := by decide +kernel
theorem dX4_advance_39 : decode cX4_advance 39 = .ok (.getfield 28, 3) := by decide +kernel
theorem dX4_advance_42 : decode cX4_advance 42 = .ok (.getfield 131, 3) := by decide +kernel
theorem dX4_advance_45 : decode cX4_advance 45 = .ok (.ifCond .eq 18, 3) := by decide +kernel
theorem dX4_advance_48 : decode cX4_advance 48 = .ok (.iload_n 1, 1) := by decide +kernel
theorem dX4_advance_49 : decode cX4_advance 49 = .ok (.aload_n 0, 1) := by decide +kernel
theorem dX4_advance_50 : decode cX4_advance 50 = .ok (.getfield 35, 3) := by decide +kernel
theorem dX4_advance_53 : decode cX4_advance 53 = .ok (.invokevirtual 134, 3) := by decide +kernel
theorem dX4_advance_56 : decode cX4_advance 56 = .ok (.invokestatic 137, 3) := by decide +kernel
theorem dX4_advance_59 : decode cX4_advance 59 = .ok (.istore_n 2, 1) := by decide +kernel
theorem dX4_advance_60 : decode cX4_advance 60 = .ok (.goto 11, 3) := by decide +kernel
theorem dX4_advance_63 : decode cX4_advance 63 = .ok (.aload_n 0, 1) := by decide +kernel
theorem dX4_advance_64 : decode cX4_advance 64 = .ok (.getfield 28, 3) := by decide +kernel
theorem dX4_advance_67 : decode cX4_advance 67 = .ok (.invokevirtual 143, 3) := by decide +kernel
theorem dX4_advance_70 : decode cX4_advance 70 = .ok (.istore_n 2, 1) := by decide +kernel
theorem dX4_advance_71 : decode cX4_advance 71 = .ok (.aload_n 0, 1) := by decide +kernel
theorem dX4_advance_72 : decode cX4_advance 72 = .ok (.getfield 35, 3) := by decide +kernel
theorem dX4_advance_75 : decode cX4_advance 75 = .ok (.iload_n 2, 1) := by decide +kernel
theorem dX4_advance_76 : decode cX4_advance 76 = .ok (.invokevirtual 146, 3) := by decide +kernel
theorem dX4_advance_79 : decode cX4_advance 79 = .ok (.ifCond .eq 17, 3) := by decide +kernel
theorem dX4_advance_82 : decode cX4_advance 82 = .ok (.aload_n 0, 1) := by decide +kernel
theorem dX4_advance_83 : decode cX4_advance 83 = .ok (.getfield 19, 3) := by decide +kernel
theorem dX4_advance_86 : decode cX4_advance 86 = .ok (.invokevirtual 150, 3) := by decide +kernel
theorem dX4_advance_89 : decode cX4_advance 89 = .ok (.ifCond .eq 7, 3) := by decide +kernel
theorem dX4_advance_92 : decode cX4_advance 92 = .ok (.aload_n 0, 1) := by decide +kernel
theorem dX4_advance_93 : decode cX4_advance 93 = .ok (.invokevirtual 52, 3) := by decide +kernel
theorem dX4_advance_96 : decode cX4_advance 96 = .ok (.iload_n 2, 1) := by decide +kernel
theorem dX4_advance_97 : decode cX4_advance 97 = .ok (.ireturn, 1) := by decide +kernel
set_option maxRecDepth 20000 in
theorem ggX4_resetParts_X3_clear : GoodIn wsX4_resetParts wsX3_clear := goodIn_r _ [8, 9, 10, 11, 12, 13, 14, 15, 35, 36, 37, 38, 39, 40, 41, 42, 43] (by decide +kernel) (by decide +kernel)
set_option maxRecDepth 20000 in
theorem gX4_resetParts_X3_clear : GoodIn wsX4_resetParts (wsV RX4 154 RX3 yX3_clear wsX3_clear) := goodIn_app (goodIn_of _ (by decide +kernel)) ggX4_resetParts_X3_clear
set_option maxRecDepth 20000 in
theorem ggX4_resetParts_X2_clear : GoodIn wsX4_resetParts wsX2_clear := goodIn_r _ [20, 21, 22, 23, 24, 44, 45, 46, 47, 48, 49] (by decide +kernel) (by decide +kernel)
set_option maxRecDepth 20000 in
theorem gX4_resetParts_X2_clear : GoodIn wsX4_resetParts (wsV RX4 157 RX2 yX2_clear wsX2_clear) := goodIn_app (goodIn_of _ (by decide +kernel)) ggX4_resetParts_X2_clear
set_option maxRecDepth 20000 in
theorem ggX4_resetParts_X0_dropWaiting : GoodIn wsX4_resetParts wsX0_dropWaiting := goodIn_r _ [29, 30, 50, 51, 52] (by decide +kernel) (by decide +kernel)
set_option maxRecDepth 20000 in
theorem gX4_resetParts_X0_dropWaiting : GoodIn wsX4_resetParts (wsV RX4 158 RX0 yX0_dropWaiting wsX0_dropWaiting) := goodIn_app (goodIn_of _ (by decide +kernel)) ggX4_resetParts_X0_dropWaiting
theorem dX4_resetParts_0 : decode cX4_resetParts 0 = .ok (.aload_n 0, 1) := by decide +kernel
theorem dX4_resetParts_1 : decode cX4_resetParts 1 = .ok (.getfield 28, 3) := by decide +kernel
theorem dX4_resetParts_4 : decode cX4_resetParts 4 = .ok (.invokevirtual 154, 3) := by decide +kernel
theorem dX4_resetParts_7 : decode cX4_resetParts 7 = .ok (.aload_n 0, 1) := by decide +kernel
theorem dX4_resetParts_8 : decode cX4_resetParts 8 = .ok (.getfield 19, 3) := by decide +kernel
theorem dX4_resetParts_11 : decode cX4_resetParts 11 = .ok (.invokevirtual 157, 3) := by decide +kernel
theorem dX4_resetParts_14 : decode cX4_resetParts 14 = .ok (.aload_n 0, 1) := by decide +kernel
theorem dX4_resetParts_15 : decode cX4_resetParts 15 = .ok (.getfield 35, 3) := by decide +kernel
theorem dX4_resetParts_18 : decode cX4_resetParts 18 = .ok (.invokevirtual 158, 3) := by decide +kernel
theorem dX4_resetParts_21 : decode cX4_resetParts 21 = .ok (.return_, 1) := by decide +kernel
theorem dX4_onScreen_0 : decode cX4_onScreen 0 = .ok (.lconst 0, 1) := by decide +kernel
theorem dX4_onScreen_1 : decode cX4_onScreen 1 = .ok (.lload_n 0, 1) := by decide +kernel
theorem dX4_onScreen_2 : decode cX4_onScreen 2 = .ok (.iload_n 2, 1) := by decide +kernel
theorem dX4_onScreen_3 : decode cX4_onScreen 3 = .ok (.i2l, 1) := by decide +kernel
theorem dX4_onScreen_4 : decode cX4_onScreen 4 = .ok (.invokestatic 161, 3) := by decide +kernel
theorem dX4_onScreen_7 : decode cX4_onScreen 7 = .ok (.invokestatic 164, 3) := by decide +kernel
theorem dX4_onScreen_10 : decode cX4_onScreen 10 = .ok (.l2i, 1) := by decide +kernel
theorem dX4_onScreen_11 : decode cX4_onScreen 11 = .ok (.ireturn, 1) := by decide +kernel
