theorem dX3_init_0 : decode cX3_init 0 = .ok (.aload_n 0, 1) := by decide +kernel
theorem dX3_init_1 : decode cX3_init 1 = .ok (.invokespecial 3, 3) := by decide +kernel
theorem dX3_init_4 : decode cX3_init 4 = .ok (.aload_n 0, 1) := by decide +kernel
theorem dX3_init_5 : decode cX3_init 5 = .ok (.bipush 8, 2) := by decide +kernel
theorem dX3_init_7 : decode cX3_init 7 = .ok (.newarray .int, 2) := by decide +kernel
theorem dX3_init_9 : decode cX3_init 9 = .ok (.putfield 9, 3) := by decide +kernel
theorem dX3_init_12 : decode cX3_init 12 = .ok (.aload_n 0, 1) := by decide +kernel
theorem dX3_init_13 : decode cX3_init 13 = .ok (.iconst 2, 1) := by decide +kernel
theorem dX3_init_14 : decode cX3_init 14 = .ok (.putfield 13, 3) := by decide +kernel
theorem dX3_init_17 : decode cX3_init 17 = .ok (.aload_n 0, 1) := by decide +kernel
theorem dX3_init_18 : decode cX3_init 18 = .ok (.aload_n 1, 1) := by decide +kernel
theorem dX3_init_19 : decode cX3_init 19 = .ok (.putfield 17, 3) := by decide +kernel
theorem dX3_init_22 : decode cX3_init 22 = .ok (.aload_n 0, 1) := by decide +kernel
theorem dX3_init_23 : decode cX3_init 23 = .ok (.aload_n 2, 1) := by decide +kernel
theorem dX3_init_24 : decode cX3_init 24 = .ok (.putfield 21, 3) := by decide +kernel
theorem dX3_init_27 : decode cX3_init 27 = .ok (.return_, 1) := by decide +kernel
theorem dX3_clear_0 : decode cX3_clear 0 = .ok (.iconst 0, 1) := by decide +kernel
theorem dX3_clear_1 : decode cX3_clear 1 = .ok (.istore_n 1, 1) := by decide +kernel
theorem dX3_clear_2 : decode cX3_clear 2 = .ok (.iload_n 1, 1) := by decide +kernel
theorem dX3_clear_3 : decode cX3_clear 3 = .ok (.aload_n 0, 1) := by decide +kernel
theorem dX3_clear_4 : decode cX3_clear 4 = .ok (.getfield 9, 3) := by decide +kernel
theorem dX3_clear_7 : decode cX3_clear 7 = .ok (.arraylength, 1) := by decide +kernel
theorem dX3_clear_8 : decode cX3_clear 8 = .ok (.if_icmp .ge 16, 3) := by decide +kernel
theorem dX3_clear_11 : decode cX3_clear 11 = .ok (.aload_n 0, 1) := by decide +kernel
theorem dX3_clear_12 : decode cX3_clear 12 = .ok (.getfield 9, 3) := by decide +kernel
theorem dX3_clear_15 : decode cX3_clear 15 = .ok (.iload_n 1, 1) := by decide +kernel
theorem dX3_clear_16 : decode cX3_clear 16 = .ok (.iconst 0, 1) := by decide +kernel
theorem dX3_clear_17 : decode cX3_clear 17 = .ok (.iastore, 1) := by decide +kernel
theorem dX3_clear_18 : decode cX3_clear 18 = .ok (.iinc 1 1, 3) := by decide +kernel
theorem dX3_clear_21 : decode cX3_clear 21 = .ok (.goto (-19), 3) := by decide +kernel
theorem dX3_clear_24 : decode cX3_clear 24 = .ok (.aload_n 0, 1) := by decide +kernel
theorem dX3_clear_25 : decode cX3_clear 25 = .ok (.iconst 2, 1) := by decide +kernel
theorem dX3_clear_26 : decode cX3_clear 26 = .ok (.putfield 13, 3) := by decide +kernel
theorem dX3_clear_29 : decode cX3_clear 29 = .ok (.aload_n 0, 1) := by decide +kernel
theorem dX3_clear_30 : decode cX3_clear 30 = .ok (.iconst 0, 1) := by decide +kernel
theorem dX3_clear_31 : decode cX3_clear 31 = .ok (.putfield 25, 3) := by decide +kernel
theorem dX3_clear_34 : decode cX3_clear 34 = .ok (.aload_n 0, 1) := by decide +kernel
theorem dX3_clear_35 : decode cX3_clear 35 = .ok (.iconst 0, 1) := by decide +kernel
theorem dX3_clear_36 : decode cX3_clear 36 = .ok (.putfield 28, 3) := by decide +kernel
theorem dX3_clear_39 : decode cX3_clear 39 = .ok (.aload_n 0, 1) := by decide +kernel
theorem dX3_clear_40 : decode cX3_clear 40 = .ok (.iconst 0, 1) := by decide +kernel
theorem dX3_clear_41 : decode cX3_clear 41 = .ok (.putfield 31, 3) := by decide +kernel
theorem dX3_clear_44 : decode cX3_clear 44 = .ok (.aload_n 0, 1) := by decide +kernel
theorem dX3_clear_45 : decode cX3_clear 45 = .ok (.iconst 0, 1) := by decide +kernel
theorem dX3_clear_46 : decode cX3_clear 46 = .ok (.putfield 35, 3) := by decide +kernel
theorem dX3_clear_49 : decode cX3_clear 49 = .ok (.aload_n 0, 1) := by decide +kernel
theorem dX3_clear_50 : decode cX3_clear 50 = .ok (.iconst 0, 1) := by decide +kernel
theorem dX3_clear_51 : decode cX3_clear 51 = .ok (.putfield 38, 3) := by decide +kernel
theorem dX3_clear_54 : decode cX3_clear 54 = .ok (.return_, 1) := by decide +kernel
theorem dX3_contentOf_0 : decode cX3_contentOf 0 = .ok (.iload_n 1, 1) := by decide +kernel
theorem dX3_contentOf_1 : decode cX3_contentOf 1 = .ok (.tableswitch 80 6 11 #[39, 80, 44, 49, 54, 67], 39) := by decide +kernel
theorem dX3_contentOf_40 : decode cX3_contentOf 40 = .ok (.aload_n 0, 1) := by decide +kernel
theorem dX3_contentOf_41 : decode cX3_contentOf 41 = .ok (.getfield 13, 3) := by decide +kernel
theorem dX3_contentOf_44 : decode cX3_contentOf 44 = .ok (.ireturn, 1) := by decide +kernel
theorem dX3_contentOf_45 : decode cX3_contentOf 45 = .ok (.aload_n 0, 1) := by decide +kernel
theorem dX3_contentOf_46 : decode cX3_contentOf 46 = .ok (.getfield 25, 3) := by decide +kernel
theorem dX3_contentOf_49 : decode cX3_contentOf 49 = .ok (.ireturn, 1) := by decide +kernel
theorem dX3_contentOf_50 : decode cX3_contentOf 50 = .ok (.aload_n 0, 1) := by decide +kernel
theorem dX3_contentOf_51 : decode cX3_contentOf 51 = .ok (.getfield 28, 3) := by decide +kernel
theorem dX3_contentOf_54 : decode cX3_contentOf 54 = .ok (.ireturn, 1) := by decide +kernel
theorem dX3_contentOf_55 : decode cX3_contentOf 55 = .ok (.aload_n 0, 1) := by decide +kernel
theorem dX3_contentOf_56 : decode cX3_contentOf 56 = .ok (.getfield 31, 3) := by decide +kernel
theorem dX3_contentOf_59 : decode cX3_contentOf 59 = .ok (.ifCond .eq 7, 3) := by decide +kernel
theorem dX3_contentOf_62 : decode cX3_contentOf 62 = .ok (.iconst 1, 1) := by decide +kernel
theorem dX3_contentOf_63 : decode cX3_contentOf 63 = .ok (.goto 4, 3) := by decide +kernel
theorem dX3_contentOf_66 : decode cX3_contentOf 66 = .ok (.iconst 0, 1) := by decide +kernel
theorem dX3_contentOf_67 : decode cX3_contentOf 67 = .ok (.ireturn, 1) := by decide +kernel
theorem dX3_contentOf_68 : decode cX3_contentOf 68 = .ok (.aload_n 0, 1) := by decide +kernel
theorem dX3_contentOf_69 : decode cX3_contentOf 69 = .ok (.getfield 38, 3) := by decide +kernel
theorem dX3_contentOf_72 : decode cX3_contentOf 72 = .ok (.ifCond .eq 7, 3) := by decide +kernel
theorem dX3_contentOf_75 : decode cX3_contentOf 75 = .ok (.iconst 1, 1) := by decide +kernel
theorem dX3_contentOf_76 : decode cX3_contentOf 76 = .ok (.goto 4, 3) := by decide +kernel
theorem dX3_contentOf_79 : decode cX3_contentOf 79 = .ok (.iconst 0, 1) := by decide +kernel
theorem dX3_contentOf_80 : decode cX3_contentOf 80 = .ok (.ireturn, 1) := by decide +kernel
theorem dX3_contentOf_81 : decode cX3_contentOf 81 = .ok (.aload_n 0, 1) := by decide +kernel
theorem dX3_contentOf_82 : decode cX3_contentOf 82 = .ok (.getfield 9, 3) := by decide +kernel
theorem dX3_contentOf_85 : decode cX3_contentOf 85 = .ok (.iload_n 1, 1) := by decide +kernel
theorem dX3_contentOf_86 : decode cX3_contentOf 86 = .ok (.bipush 7, 2) := by decide +kernel
theorem dX3_contentOf_88 : decode cX3_contentOf 88 = .ok (.iand, 1) := by decide +kernel
theorem dX3_contentOf_89 : decode cX3_contentOf 89 = .ok (.iaload, 1) := by decide +kernel
theorem dX3_contentOf_90 : decode cX3_contentOf 90 = .ok (.ireturn, 1) := by decide +kernel
set_option maxRecDepth 20000 in
theorem ggX3_takeRequest_X3_push : GoodIn wsX3_takeRequest wsX3_push := goodIn_r _ [8, 9, 10, 11, 12, 13, 14, 15, 16, 17, 18, 19, 20, 21, 22, 23, 24, 25, 26, 27, 28, 29, 30, 31, 32] (by decide +kernel) (by decide +kernel)
set_option maxRecDepth 20000 in
theorem gX3_takeRequest_X3_push : GoodIn wsX3_takeRequest (wsV RX3 41 RX3 yX3_push wsX3_push) := goodIn_app (goodIn_of _ (by decide +kernel)) ggX3_takeRequest_X3_push
theorem dX3_takeRequest_0 : decode cX3_takeRequest 0 = .ok (.aload_n 0, 1) := by decide +kernel
theorem dX3_takeRequest_1 : decode cX3_takeRequest 1 = .ok (.iconst 0, 1) := by decide +kernel
theorem dX3_takeRequest_2 : decode cX3_takeRequest 2 = .ok (.putfield 31, 3) := by decide +kernel
theorem dX3_takeRequest_5 : decode cX3_takeRequest 5 = .ok (.aload_n 0, 1) := by decide +kernel
theorem dX3_takeRequest_6 : decode cX3_takeRequest 6 = .ok (.iconst 0, 1) := by decide +kernel
theorem dX3_takeRequest_7 : decode cX3_takeRequest 7 = .ok (.putfield 38, 3) := by decide +kernel
theorem dX3_takeRequest_10 : decode cX3_takeRequest 10 = .ok (.aload_n 0, 1) := by decide +kernel
theorem dX3_takeRequest_11 : decode cX3_takeRequest 11 = .ok (.aload_n 0, 1) := by decide +kernel
theorem dX3_takeRequest_12 : decode cX3_takeRequest 12 = .ok (.getfield 28, 3) := by decide +kernel
theorem dX3_takeRequest_15 : decode cX3_takeRequest 15 = .ok (.invokevirtual 41, 3) := by decide +kernel
theorem dX3_takeRequest_18 : decode cX3_takeRequest 18 = .ok (.aload_n 0, 1) := by decide +kernel
theorem dX3_takeRequest_19 : decode cX3_takeRequest 19 = .ok (.bipush 8, 2) := by decide +kernel
theorem dX3_takeRequest_21 : decode cX3_takeRequest 21 = .ok (.iload_n 1, 1) := by decide +kernel
theorem dX3_takeRequest_22 : decode cX3_takeRequest 22 = .ok (.imul, 1) := by decide +kernel
theorem dX3_takeRequest_23 : decode cX3_takeRequest 23 = .ok (.putfield 28, 3) := by decide +kernel
theorem dX3_takeRequest_26 : decode cX3_takeRequest 26 = .ok (.bipush 11, 2) := by decide +kernel
theorem dX3_takeRequest_28 : decode cX3_takeRequest 28 = .ok (.ireturn, 1) := by decide +kernel
set_option maxRecDepth 20000 in
theorem ggX3_execute_X3_fetch : GoodIn wsX3_execute wsX3_fetch := goodIn_r _ [8, 9, 10, 11, 12, 13, 14, 15, 16, 17, 18, 19, 204, 205, 206, 207, 208, 209, 210, 211, 212, 213, 214] (by decide +kernel) (by decide +kernel)
set_option maxRecDepth 20000 in
theorem gX3_execute_X3_fetch : GoodIn wsX3_execute (wsV RX3 45 RX3 yX3_fetch wsX3_fetch) := goodIn_app (goodIn_of _ (by decide +kernel)) ggX3_execute_X3_fetch
set_option maxRecDepth 20000 in
theorem ggX3_execute_X3_executeLow : GoodIn wsX3_execute wsX3_executeLow := goodIn_r _ [23, 24, 25, 26, 7, 27, 28, 29, 30, 31, 32, 33, 34, 35, 36, 37, 38, 39, 40, 41, 42, 43, 44, 45, 46, 47, 48, 49, 50, 9, 10, 11, 51, 52, 53, 15, 54, 55, 13, 14, 16, 17, 18, 19, 56, 57, 58, 59, 60, 61, 62, 63, 64, 65, 66, 67, 12, 68, 69, 70, 71, 72, 73, 74, 75, 76, 77, 78, 79, 80, 81, 82, 83, 84, 85, 86, 87, 88, 89, 90, 91, 92, 93, 94, 95, 96, 97, 98, 4, 5, 6, 8, 99, 100, 101, 102, 103, 104, 105, 106, 107, 108, 109, 110, 204, 205, 206, 207, 208, 209, 210, 211, 212, 213, 214] (by decide +kernel) (by decide +kernel)
set_option maxRecDepth 20000 in
theorem gX3_execute_X3_executeLow : GoodIn wsX3_execute (wsV RX3 52 RX3 yX3_executeLow wsX3_executeLow) := goodIn_app (goodIn_of _ (by decide +kernel)) ggX3_execute_X3_executeLow
set_option maxRecDepth 20000 in
theorem ggX3_execute_X3_executeMove : GoodIn wsX3_execute wsX3_executeMove := goodIn_r _ [114, 115, 73, 74, 75, 7, 76, 9, 33, 29, 30, 31, 32, 12, 13, 14, 15, 16, 17, 18, 19, 91, 92, 93, 94, 64, 65, 66, 67, 204, 205, 206, 207, 208, 209, 210, 211, 212, 213, 214] (by decide +kernel) (by decide +kernel)
set_option maxRecDepth 20000 in
theorem gX3_execute_X3_executeMove : GoodIn wsX3_execute (wsV RX3 55 RX3 yX3_executeMove wsX3_executeMove) := goodIn_app (goodIn_of _ (by decide +kernel)) ggX3_execute_X3_executeMove
set_option maxRecDepth 20000 in
theorem ggX3_execute_X3_operand : GoodIn wsX3_execute wsX3_operand := goodIn_r _ [76, 9, 33, 29, 30, 31, 7, 32, 12, 13, 14, 15, 16, 17, 18, 19, 204, 205, 206, 207, 208, 209, 210, 211, 212, 213, 214] (by decide +kernel) (by decide +kernel)
set_option maxRecDepth 20000 in
theorem gX3_execute_X3_operand : GoodIn wsX3_execute (wsV RX3 58 RX3 yX3_operand wsX3_operand) := goodIn_app (goodIn_of _ (by decide +kernel)) ggX3_execute_X3_operand
set_option maxRecDepth 20000 in
theorem ggX3_execute_X3_calculate : GoodIn wsX3_execute wsX3_calculate := goodIn_r _ [119, 33, 46, 120, 121, 122, 7, 123, 81, 82, 83, 84, 85, 86, 87, 88, 89, 90, 124, 125, 126, 127, 204, 205, 206, 207, 208, 209, 210, 211, 212] (by decide +kernel) (by decide +kernel)
set_option maxRecDepth 20000 in
theorem gX3_execute_X3_calculate : GoodIn wsX3_execute (wsV RX3 62 RX3 yX3_calculate wsX3_calculate) := goodIn_app (goodIn_of _ (by decide +kernel)) ggX3_execute_X3_calculate
set_option maxRecDepth 20000 in
theorem ggX3_execute_X3_executeHigh : GoodIn wsX3_execute wsX3_executeHigh := goodIn_r _ [131, 10, 132, 133, 134, 7, 135, 46, 136, 137, 138, 139, 140, 141, 142, 143, 9, 28, 11, 51, 52, 53, 15, 54, 55, 13, 14, 16, 17, 18, 19, 144, 145, 146, 147, 29, 30, 31, 32, 33, 148, 149, 150, 151, 38, 39, 40, 41, 152, 153, 154, 155, 47, 48, 49, 50, 156, 157, 158, 159, 160, 3, 1, 4, 5, 6, 8, 12, 161, 162, 163, 164, 165, 166, 167, 168, 169, 170, 171, 172, 173, 174, 175, 176, 177, 178, 179, 180, 181, 182, 183, 184, 185, 186, 187, 68, 69, 70, 71, 72, 65, 66, 67, 188, 189, 190, 191, 192, 193, 194, 195, 196, 197, 198, 199, 200, 201, 202, 203, 116, 117, 118, 119, 120, 121, 122, 123, 81, 82, 83, 84, 85, 86, 87, 88, 89, 90, 124, 125, 126, 127, 204, 205, 206, 207, 208, 209, 210, 211, 212, 213, 214, 215, 216, 217, 218, 219, 220] (by decide +kernel) (by decide +kernel)
set_option maxRecDepth 20000 in
theorem gX3_execute_X3_executeHigh : GoodIn wsX3_execute (wsV RX3 66 RX3 yX3_executeHigh wsX3_executeHigh) := goodIn_app (goodIn_of _ (by decide +kernel)) ggX3_execute_X3_executeHigh
theorem dX3_execute_0 : decode cX3_execute 0 = .ok (.aload_n 0, 1) := by decide +kernel
theorem dX3_execute_1 : decode cX3_execute 1 = .ok (.getfield 35, 3) := by decide +kernel
theorem dX3_execute_4 : decode cX3_execute 4 = .ok (.istore_n 1, 1) := by decide +kernel
theorem dX3_execute_5 : decode cX3_execute 5 = .ok (.aload_n 0, 1) := by decide +kernel
theorem dX3_execute_6 : decode cX3_execute 6 = .ok (.invokevirtual 45, 3) := by decide +kernel
theorem dX3_execute_9 : decode cX3_execute 9 = .ok (.istore_n 2, 1) := by decide +kernel
theorem dX3_execute_10 : decode cX3_execute 10 = .ok (.getstatic 49, 3) := by decide +kernel
theorem dX3_execute_13 : decode cX3_execute 13 = .ok (.iload_n 2, 1) := by decide +kernel
theorem dX3_execute_14 : decode cX3_execute 14 = .ok (.sipush 255, 3) := by decide +kernel
theorem dX3_execute_17 : decode cX3_execute 17 = .ok (.iand, 1) := by decide +kernel
theorem dX3_execute_18 : decode cX3_execute 18 = .ok (.iaload, 1) := by decide +kernel
theorem dX3_execute_19 : decode cX3_execute 19 = .ok (.istore_n 3, 1) := by decide +kernel
theorem dX3_execute_20 : decode cX3_execute 20 = .ok (.iload_n 2, 1) := by decide +kernel
theorem dX3_execute_21 : decode cX3_execute 21 = .ok (.bipush 6, 2) := by decide +kernel
theorem dX3_execute_23 : decode cX3_execute 23 = .ok (.ishr, 1) := by decide +kernel
theorem dX3_execute_24 : decode cX3_execute 24 = .ok (.tableswitch 59 0 2 #[28, 36, 44], 28) := by decide +kernel
theorem dX3_execute_52 : decode cX3_execute 52 = .ok (.aload_n 0, 1) := by decide +kernel
theorem dX3_execute_53 : decode cX3_execute 53 = .ok (.iload_n 2, 1) := by decide +kernel
theorem dX3_execute_54 : decode cX3_execute 54 = .ok (.invokevirtual 52, 3) := by decide +kernel
theorem dX3_execute_57 : decode cX3_execute 57 = .ok (.goto 34, 3) := by decide +kernel
theorem dX3_execute_60 : decode cX3_execute 60 = .ok (.aload_n 0, 1) := by decide +kernel
theorem dX3_execute_61 : decode cX3_execute 61 = .ok (.iload_n 2, 1) := by decide +kernel
theorem dX3_execute_62 : decode cX3_execute 62 = .ok (.invokevirtual 55, 3) := by decide +kernel
theorem dX3_execute_65 : decode cX3_execute 65 = .ok (.goto 26, 3) := by decide +kernel
theorem dX3_execute_68 : decode cX3_execute 68 = .ok (.aload_n 0, 1) := by decide +kernel
theorem dX3_execute_69 : decode cX3_execute 69 = .ok (.iload_n 2, 1) := by decide +kernel
theorem dX3_execute_70 : decode cX3_execute 70 = .ok (.iconst 3, 1) := by decide +kernel
theorem dX3_execute_71 : decode cX3_execute 71 = .ok (.ishr, 1) := by decide +kernel
theorem dX3_execute_72 : decode cX3_execute 72 = .ok (.aload_n 0, 1) := by decide +kernel
theorem dX3_execute_73 : decode cX3_execute 73 = .ok (.iload_n 2, 1) := by decide +kernel
theorem dX3_execute_74 : decode cX3_execute 74 = .ok (.invokevirtual 58, 3) := by decide +kernel
theorem dX3_execute_77 : decode cX3_execute 77 = .ok (.invokevirtual 62, 3) := by decide +kernel
theorem dX3_execute_80 : decode cX3_execute 80 = .ok (.goto 11, 3) := by decide +kernel
theorem dX3_execute_83 : decode cX3_execute 83 = .ok (.iload_n 3, 1) := by decide +kernel
theorem dX3_execute_84 : decode cX3_execute 84 = .ok (.aload_n 0, 1) := by decide +kernel
theorem dX3_execute_85 : decode cX3_execute 85 = .ok (.iload_n 2, 1) := by decide +kernel
theorem dX3_execute_86 : decode cX3_execute 86 = .ok (.invokevirtual 66, 3) := by decide +kernel
theorem dX3_execute_89 : decode cX3_execute 89 = .ok (.iadd, 1) := by decide +kernel
theorem dX3_execute_90 : decode cX3_execute 90 = .ok (.istore_n 3, 1) := by decide +kernel
theorem dX3_execute_91 : decode cX3_execute 91 = .ok (.iload_n 1, 1) := by decide +kernel
theorem dX3_execute_92 : decode cX3_execute 92 = .ok (.ifCond .eq 20, 3) := by decide +kernel
theorem dX3_execute_95 : decode cX3_execute 95 = .ok (.aload_n 0, 1) := by decide +kernel
theorem dX3_execute_96 : decode cX3_execute 96 = .ok (.getfield 35, 3) := by decide +kernel
theorem dX3_execute_99 : decode cX3_execute 99 = .ok (.ifCond .eq 13, 3) := by decide +kernel
theorem dX3_execute_102 : decode cX3_execute 102 = .ok (.aload_n 0, 1) := by decide +kernel
theorem dX3_execute_103 : decode cX3_execute 103 = .ok (.iconst 1, 1) := by decide +kernel
theorem dX3_execute_104 : decode cX3_execute 104 = .ok (.putfield 31, 3) := by decide +kernel
theorem dX3_execute_107 : decode cX3_execute 107 = .ok (.aload_n 0, 1) := by decide +kernel
theorem dX3_execute_108 : decode cX3_execute 108 = .ok (.iconst 0, 1) := by decide +kernel
theorem dX3_execute_109 : decode cX3_execute 109 = .ok (.putfield 35, 3) := by decide +kernel
theorem dX3_execute_112 : decode cX3_execute 112 = .ok (.iload_n 3, 1) := by decide +kernel
theorem dX3_execute_113 : decode cX3_execute 113 = .ok (.ireturn, 1) := by decide +kernel
set_option maxRecDepth 20000 in
theorem ggX3_executeLow_X3_pairOrSp : GoodIn wsX3_executeLow wsX3_pairOrSp := goodIn_r _ [5, 6, 7, 8, 9, 4, 10, 11, 104, 105, 106, 107, 108, 109, 110, 111, 112] (by decide +kernel) (by decide +kernel)
set_option maxRecDepth 20000 in
theorem gX3_executeLow_X3_pairOrSp : GoodIn wsX3_executeLow (wsV RX3 69 RX3 yX3_pairOrSp wsX3_pairOrSp) := goodIn_app (goodIn_of _ (by decide +kernel)) ggX3_executeLow_X3_pairOrSp
set_option maxRecDepth 20000 in
theorem ggX3_executeLow_X3_addToHl : GoodIn wsX3_executeLow wsX3_addToHl := goodIn_r _ [15, 7, 8, 9, 4, 10, 11, 16, 17, 18, 19, 20, 21, 22, 23, 24, 104, 105, 106, 107, 108, 109, 110, 111, 112] (by decide +kernel) (by decide +kernel)
set_option maxRecDepth 20000 in
theorem gX3_executeLow_X3_addToHl : GoodIn wsX3_executeLow (wsV RX3 72 RX3 yX3_addToHl wsX3_addToHl) := goodIn_app (goodIn_of _ (by decide +kernel)) ggX3_executeLow_X3_addToHl
set_option maxRecDepth 20000 in
theorem ggX3_executeLow_X3_fetchWord : GoodIn wsX3_executeLow wsX3_fetchWord := goodIn_r _ [28, 29, 30, 31, 32, 33, 34, 35, 36, 37, 38, 39, 40, 41, 42, 43, 104, 105, 106, 107, 108, 109, 110, 111, 112, 113, 114] (by decide +kernel) (by decide +kernel)
set_option maxRecDepth 20000 in
theorem gX3_executeLow_X3_fetchWord : GoodIn wsX3_executeLow (wsV RX3 75 RX3 yX3_fetchWord wsX3_fetchWord) := goodIn_app (goodIn_of _ (by decide +kernel)) ggX3_executeLow_X3_fetchWord
set_option maxRecDepth 20000 in
theorem ggX3_executeLow_X3_setPairOrSp : GoodIn wsX3_executeLow wsX3_setPairOrSp := goodIn_r _ [47, 31, 6, 16, 17, 18, 4, 19, 11, 104, 105, 106, 107, 108, 109, 110, 111, 112] (by decide +kernel) (by decide +kernel)
set_option maxRecDepth 20000 in
theorem gX3_executeLow_X3_setPairOrSp : GoodIn wsX3_executeLow (wsV RX3 78 RX3 yX3_setPairOrSp wsX3_setPairOrSp) := goodIn_app (goodIn_of _ (by decide +kernel)) ggX3_executeLow_X3_setPairOrSp
set_option maxRecDepth 20000 in
theorem ggX3_executeLow_X3_loadOrStore : GoodIn wsX3_executeLow wsX3_loadOrStore := goodIn_r _ [51, 29, 11, 7, 8, 9, 4, 10, 52, 53, 54, 35, 55, 41, 56, 38, 39, 40, 42, 43, 25, 26, 27, 28, 30, 31, 32, 33, 34, 36, 37, 57, 58, 59, 60, 61, 16, 17, 18, 19, 104, 105, 106, 107, 108, 109, 110, 111, 112, 113, 114] (by decide +kernel) (by decide +kernel)
set_option maxRecDepth 20000 in
theorem gX3_executeLow_X3_loadOrStore : GoodIn wsX3_executeLow (wsV RX3 81 RX3 yX3_loadOrStore wsX3_loadOrStore) := goodIn_app (goodIn_of _ (by decide +kernel)) ggX3_executeLow_X3_loadOrStore
set_option maxRecDepth 20000 in
theorem ggX3_executeLow_X3_operand : GoodIn wsX3_executeLow wsX3_operand := goodIn_r _ [65, 29, 11, 7, 8, 9, 4, 10, 56, 38, 39, 35, 40, 41, 42, 43, 104, 105, 106, 107, 108, 109, 110, 111, 112, 113, 114] (by decide +kernel) (by decide +kernel)
set_option maxRecDepth 20000 in
theorem gX3_executeLow_X3_operand : GoodIn wsX3_executeLow (wsV RX3 58 RX3 yX3_operand wsX3_operand) := goodIn_app (goodIn_of _ (by decide +kernel)) ggX3_executeLow_X3_operand
set_option maxRecDepth 20000 in
theorem ggX3_executeLow_X3_increment : GoodIn wsX3_executeLow wsX3_increment := goodIn_r _ [69, 24, 70, 71, 4, 72, 73, 74, 75, 76, 77, 78, 79, 104, 105, 106, 107, 108, 109, 110, 111, 112] (by decide +kernel) (by decide +kernel)
set_option maxRecDepth 20000 in
theorem gX3_executeLow_X3_increment : GoodIn wsX3_executeLow (wsV RX3 84 RX3 yX3_increment wsX3_increment) := goodIn_app (goodIn_of _ (by decide +kernel)) ggX3_executeLow_X3_increment
set_option maxRecDepth 20000 in
theorem ggX3_executeLow_X3_setOperand : GoodIn wsX3_executeLow wsX3_setOperand := goodIn_r _ [83, 29, 11, 7, 8, 9, 4, 10, 52, 53, 54, 35, 55, 41, 104, 105, 106, 107, 108, 109, 110, 111, 112, 113, 114] (by decide +kernel) (by decide +kernel)
set_option maxRecDepth 20000 in
theorem gX3_executeLow_X3_setOperand : GoodIn wsX3_executeLow (wsV RX3 87 RX3 yX3_setOperand wsX3_setOperand) := goodIn_app (goodIn_of _ (by decide +kernel)) ggX3_executeLow_X3_setOperand
set_option maxRecDepth 20000 in
theorem ggX3_executeLow_X3_decrement : GoodIn wsX3_executeLow wsX3_decrement := goodIn_r _ [87, 24, 70, 71, 4, 72, 73, 74, 75, 76, 77, 78, 79, 104, 105, 106, 107, 108, 109, 110, 111, 112] (by decide +kernel) (by decide +kernel)
set_option maxRecDepth 20000 in
theorem gX3_executeLow_X3_decrement : GoodIn wsX3_executeLow (wsV RX3 90 RX3 yX3_decrement wsX3_decrement) := goodIn_app (goodIn_of _ (by decide +kernel)) ggX3_executeLow_X3_decrement
set_option maxRecDepth 20000 in
theorem ggX3_executeLow_X3_fetch : GoodIn wsX3_executeLow wsX3_fetch := goodIn_r _ [91, 29, 30, 31, 56, 38, 39, 35, 40, 41, 42, 43, 104, 105, 106, 107, 108, 109, 110, 111, 112, 113, 114] (by decide +kernel) (by decide +kernel)
set_option maxRecDepth 20000 in
theorem gX3_executeLow_X3_fetch : GoodIn wsX3_executeLow (wsV RX3 45 RX3 yX3_fetch wsX3_fetch) := goodIn_app (goodIn_of _ (by decide +kernel)) ggX3_executeLow_X3_fetch
set_option maxRecDepth 20000 in
theorem ggX3_executeLow_X3_changeAccumulator : GoodIn wsX3_executeLow wsX3_changeAccumulator := goodIn_r _ [95, 11, 24, 96, 97, 98, 4, 99, 20, 21, 22, 23, 100, 101, 102, 103, 70, 71, 72, 73, 74, 75, 76, 77, 78, 79, 104, 105, 106, 107, 108, 109, 110, 111, 112] (by decide +kernel) (by decide +kernel)
set_option maxRecDepth 20000 in
theorem gX3_executeLow_X3_changeAccumulator : GoodIn wsX3_executeLow (wsV RX3 93 RX3 yX3_changeAccumulator wsX3_changeAccumulator) := goodIn_app (goodIn_of _ (by decide +kernel)) ggX3_executeLow_X3_changeAccumulator
theorem dX3_executeLow_0 : decode cX3_executeLow 0 = .ok (.iload_n 1, 1) := by decide +kernel
theorem dX3_executeLow_1 : decode cX3_executeLow 1 = .ok (.iconst 4, 1) := by decide +kernel
theorem dX3_executeLow_2 : decode cX3_executeLow 2 = .ok (.ishr, 1) := by decide +kernel
theorem dX3_executeLow_3 : decode cX3_executeLow 3 = .ok (.iconst 3, 1) := by decide +kernel
theorem dX3_executeLow_4 : decode cX3_executeLow 4 = .ok (.iand, 1) := by decide +kernel
theorem dX3_executeLow_5 : decode cX3_executeLow 5 = .ok (.istore_n 2, 1) := by decide +kernel
theorem dX3_executeLow_6 : decode cX3_executeLow 6 = .ok (.iload_n 1, 1) := by decide +kernel
theorem dX3_executeLow_7 : decode cX3_executeLow 7 = .ok (.iconst 3, 1) := by decide +kernel
theorem dX3_executeLow_8 : decode cX3_executeLow 8 = .ok (.ishr, 1) := by decide +kernel
theorem dX3_executeLow_9 : decode cX3_executeLow 9 = .ok (.bipush 7, 2) := by decide +kernel
theorem dX3_executeLow_11 : decode cX3_executeLow 11 = .ok (.iand, 1) := by decide +kernel
theorem dX3_executeLow_12 : decode cX3_executeLow 12 = .ok (.istore_n 3, 1) := by decide +kernel
theorem dX3_executeLow_13 : decode cX3_executeLow 13 = .ok (.iload_n 1, 1) := by decide +kernel
theorem dX3_executeLow_14 : decode cX3_executeLow 14 = .ok (.bipush 8, 2) := by decide +kernel
theorem dX3_executeLow_16 : decode cX3_executeLow 16 = .ok (.iand, 1) := by decide +kernel
theorem dX3_executeLow_17 : decode cX3_executeLow 17 = .ok (.ifCond .eq 7, 3) := by decide +kernel
theorem dX3_executeLow_20 : decode cX3_executeLow 20 = .ok (.iconst 1, 1) := by decide +kernel
theorem dX3_executeLow_21 : decode cX3_executeLow 21 = .ok (.goto 4, 3) := by decide +kernel
theorem dX3_executeLow_24 : decode cX3_executeLow 24 = .ok (.iconst 0, 1) := by decide +kernel
theorem dX3_executeLow_25 : decode cX3_executeLow 25 = .ok (.istore 4, 2) := by decide +kernel
theorem dX3_executeLow_27 : decode cX3_executeLow 27 = .ok (.iload_n 1, 1) := by decide +kernel
theorem dX3_executeLow_28 : decode cX3_executeLow 28 = .ok (.bipush 7, 2) := by decide +kernel
theorem dX3_executeLow_30 : decode cX3_executeLow 30 = .ok (.iand, 1) := by decide +kernel
theorem dX3_executeLow_31 : decode cX3_executeLow 31 = .ok (.tableswitch 156 1 7 #[41, 70, 78, 102, 119, 136, 148], 41) := by decide +kernel
theorem dX3_executeLow_72 : decode cX3_executeLow 72 = .ok (.iload 4, 2) := by decide +kernel
theorem dX3_executeLow_74 : decode cX3_executeLow 74 = .ok (.ifCond .eq 15, 3) := by decide +kernel
theorem dX3_executeLow_77 : decode cX3_executeLow 77 = .ok (.aload_n 0, 1) := by decide +kernel
theorem dX3_executeLow_78 : decode cX3_executeLow 78 = .ok (.aload_n 0, 1) := by decide +kernel
theorem dX3_executeLow_79 : decode cX3_executeLow 79 = .ok (.iload_n 2, 1) := by decide +kernel
theorem dX3_executeLow_80 : decode cX3_executeLow 80 = .ok (.invokevirtual 69, 3) := by decide +kernel
theorem dX3_executeLow_83 : decode cX3_executeLow 83 = .ok (.invokevirtual 72, 3) := by decide +kernel
theorem dX3_executeLow_86 : decode cX3_executeLow 86 = .ok (.goto 101, 3) := by decide +kernel
theorem dX3_executeLow_89 : decode cX3_executeLow 89 = .ok (.aload_n 0, 1) := by decide +kernel
theorem dX3_executeLow_90 : decode cX3_executeLow 90 = .ok (.iload_n 2, 1) := by decide +kernel
theorem dX3_executeLow_91 : decode cX3_executeLow 91 = .ok (.aload_n 0, 1) := by decide +kernel
theorem dX3_executeLow_92 : decode cX3_executeLow 92 = .ok (.invokevirtual 75, 3) := by decide +kernel
theorem dX3_executeLow_95 : decode cX3_executeLow 95 = .ok (.invokevirtual 78, 3) := by decide +kernel
theorem dX3_executeLow_98 : decode cX3_executeLow 98 = .ok (.goto 89, 3) := by decide +kernel
theorem dX3_executeLow_101 : decode cX3_executeLow 101 = .ok (.aload_n 0, 1) := by decide +kernel
theorem dX3_executeLow_102 : decode cX3_executeLow 102 = .ok (.iload_n 3, 1) := by decide +kernel
theorem dX3_executeLow_103 : decode cX3_executeLow 103 = .ok (.invokevirtual 81, 3) := by decide +kernel
theorem dX3_executeLow_106 : decode cX3_executeLow 106 = .ok (.goto 81, 3) := by decide +kernel
theorem dX3_executeLow_109 : decode cX3_executeLow 109 = .ok (.aload_n 0, 1) := by decide +kernel
theorem dX3_executeLow_110 : decode cX3_executeLow 110 = .ok (.iload_n 2, 1) := by decide +kernel
theorem dX3_executeLow_111 : decode cX3_executeLow 111 = .ok (.aload_n 0, 1) := by decide +kernel
theorem dX3_executeLow_112 : decode cX3_executeLow 112 = .ok (.iload_n 2, 1) := by decide +kernel
theorem dX3_executeLow_113 : decode cX3_executeLow 113 = .ok (.invokevirtual 69, 3) := by decide +kernel
theorem dX3_executeLow_116 : decode cX3_executeLow 116 = .ok (.iload 4, 2) := by decide +kernel
theorem dX3_executeLow_118 : decode cX3_executeLow 118 = .ok (.ifCond .eq 7, 3) := by decide +kernel
theorem dX3_executeLow_121 : decode cX3_executeLow 121 = .ok (.iconst (-1), 1) := by decide +kernel
theorem dX3_executeLow_122 : decode cX3_executeLow 122 = .ok (.goto 4, 3) := by decide +kernel
theorem dX3_executeLow_125 : decode cX3_executeLow 125 = .ok (.iconst 1, 1) := by decide +kernel
theorem dX3_executeLow_126 : decode cX3_executeLow 126 = .ok (.iadd, 1) := by decide +kernel
theorem dX3_executeLow_127 : decode cX3_executeLow 127 = .ok (.invokevirtual 78, 3) := by decide +kernel
theorem dX3_executeLow_130 : decode cX3_executeLow 130 = .ok (.goto 57, 3) := by decide +kernel
theorem dX3_executeLow_133 : decode cX3_executeLow 133 = .ok (.aload_n 0, 1) := by decide +kernel
theorem dX3_executeLow_134 : decode cX3_executeLow 134 = .ok (.iload_n 3, 1) := by decide +kernel
theorem dX3_executeLow_135 : decode cX3_executeLow 135 = .ok (.aload_n 0, 1) := by decide +kernel
theorem dX3_executeLow_136 : decode cX3_executeLow 136 = .ok (.aload_n 0, 1) := by decide +kernel
theorem dX3_executeLow_137 : decode cX3_executeLow 137 = .ok (.iload_n 3, 1) := by decide +kernel
theorem dX3_executeLow_138 : decode cX3_executeLow 138 = .ok (.invokevirtual 58, 3) := by decide +kernel
theorem dX3_executeLow_141 : decode cX3_executeLow 141 = .ok (.invokevirtual 84, 3) := by decide +kernel
theorem dX3_executeLow_144 : decode cX3_executeLow 144 = .ok (.invokevirtual 87, 3) := by decide +kernel
theorem dX3_executeLow_147 : decode cX3_executeLow 147 = .ok (.goto 40, 3) := by decide +kernel
theorem dX3_executeLow_150 : decode cX3_executeLow 150 = .ok (.aload_n 0, 1) := by decide +kernel
theorem dX3_executeLow_151 : decode cX3_executeLow 151 = .ok (.iload_n 3, 1) := by decide +kernel
theorem dX3_executeLow_152 : decode cX3_executeLow 152 = .ok (.aload_n 0, 1) := by decide +kernel
theorem dX3_executeLow_153 : decode cX3_executeLow 153 = .ok (.aload_n 0, 1) := by decide +kernel
theorem dX3_executeLow_154 : decode cX3_executeLow 154 = .ok (.iload_n 3, 1) := by decide +kernel
theorem dX3_executeLow_155 : decode cX3_executeLow 155 = .ok (.invokevirtual 58, 3) := by decide +kernel
theorem dX3_executeLow_158 : decode cX3_executeLow 158 = .ok (.invokevirtual 90, 3) := by decide +kernel
theorem dX3_executeLow_161 : decode cX3_executeLow 161 = .ok (.invokevirtual 87, 3) := by decide +kernel
theorem dX3_executeLow_164 : decode cX3_executeLow 164 = .ok (.goto 23, 3) := by decide +kernel
theorem dX3_executeLow_167 : decode cX3_executeLow 167 = .ok (.aload_n 0, 1) := by decide +kernel
theorem dX3_executeLow_168 : decode cX3_executeLow 168 = .ok (.iload_n 3, 1) := by decide +kernel
theorem dX3_executeLow_169 : decode cX3_executeLow 169 = .ok (.aload_n 0, 1) := by decide +kernel
theorem dX3_executeLow_170 : decode cX3_executeLow 170 = .ok (.invokevirtual 45, 3) := by decide +kernel
theorem dX3_executeLow_173 : decode cX3_executeLow 173 = .ok (.invokevirtual 87, 3) := by decide +kernel
theorem dX3_executeLow_176 : decode cX3_executeLow 176 = .ok (.goto 11, 3) := by decide +kernel
theorem dX3_executeLow_179 : decode cX3_executeLow 179 = .ok (.aload_n 0, 1) := by decide +kernel
theorem dX3_executeLow_180 : decode cX3_executeLow 180 = .ok (.iload_n 3, 1) := by decide +kernel
theorem dX3_executeLow_181 : decode cX3_executeLow 181 = .ok (.invokevirtual 93, 3) := by decide +kernel
theorem dX3_executeLow_184 : decode cX3_executeLow 184 = .ok (.goto 3, 3) := by decide +kernel
theorem dX3_executeLow_187 : decode cX3_executeLow 187 = .ok (.return_, 1) := by decide +kernel
set_option maxRecDepth 20000 in
theorem ggX3_executeMove_X3_operand : GoodIn wsX3_executeMove wsX3_operand := goodIn_r _ [6, 7, 8, 9, 10, 11, 5, 12, 13, 14, 15, 16, 17, 18, 19, 20, 29, 30, 31, 32, 33, 34, 35, 36, 37, 38, 39] (by decide +kernel) (by decide +kernel)
set_option maxRecDepth 20000 in
theorem gX3_executeMove_X3_operand : GoodIn wsX3_executeMove (wsV RX3 58 RX3 yX3_operand wsX3_operand) := goodIn_app (goodIn_of _ (by decide +kernel)) ggX3_executeMove_X3_operand
set_option maxRecDepth 20000 in
theorem ggX3_executeMove_X3_setOperand : GoodIn wsX3_executeMove wsX3_setOperand := goodIn_r _ [24, 7, 8, 9, 10, 11, 5, 12, 25, 26, 27, 16, 28, 18, 29, 30, 31, 32, 33, 34, 35, 36, 37, 38, 39] (by decide +kernel) (by decide +kernel)
set_option maxRecDepth 20000 in
theorem gX3_executeMove_X3_setOperand : GoodIn wsX3_executeMove (wsV RX3 87 RX3 yX3_setOperand wsX3_setOperand) := goodIn_app (goodIn_of _ (by decide +kernel)) ggX3_executeMove_X3_setOperand
theorem dX3_executeMove_0 : decode cX3_executeMove 0 = .ok (.iload_n 1, 1) := by decide +kernel
theorem dX3_executeMove_1 : decode cX3_executeMove 1 = .ok (.bipush 7, 2) := by decide +kernel
theorem dX3_executeMove_3 : decode cX3_executeMove 3 = .ok (.iand, 1) := by decide +kernel
theorem dX3_executeMove_4 : decode cX3_executeMove 4 = .ok (.istore_n 2, 1) := by decide +kernel
theorem dX3_executeMove_5 : decode cX3_executeMove 5 = .ok (.iload_n 1, 1) := by decide +kernel
theorem dX3_executeMove_6 : decode cX3_executeMove 6 = .ok (.iconst 3, 1) := by decide +kernel
theorem dX3_executeMove_7 : decode cX3_executeMove 7 = .ok (.ishr, 1) := by decide +kernel
theorem dX3_executeMove_8 : decode cX3_executeMove 8 = .ok (.bipush 7, 2) := by decide +kernel
theorem dX3_executeMove_10 : decode cX3_executeMove 10 = .ok (.iand, 1) := by decide +kernel
theorem dX3_executeMove_11 : decode cX3_executeMove 11 = .ok (.istore_n 3, 1) := by decide +kernel
theorem dX3_executeMove_12 : decode cX3_executeMove 12 = .ok (.iload_n 2, 1) := by decide +kernel
theorem dX3_executeMove_13 : decode cX3_executeMove 13 = .ok (.bipush 6, 2) := by decide +kernel
theorem dX3_executeMove_15 : decode cX3_executeMove 15 = .ok (.if_icmp .ne 17, 3) := by decide +kernel
theorem dX3_executeMove_18 : decode cX3_executeMove 18 = .ok (.iload_n 3, 1) := by decide +kernel
theorem dX3_executeMove_19 : decode cX3_executeMove 19 = .ok (.bipush 6, 2) := by decide +kernel
theorem dX3_executeMove_21 : decode cX3_executeMove 21 = .ok (.if_icmp .ne 11, 3) := by decide +kernel
theorem dX3_executeMove_24 : decode cX3_executeMove 24 = .ok (.aload_n 0, 1) := by decide +kernel
theorem dX3_executeMove_25 : decode cX3_executeMove 25 = .ok (.iconst 1, 1) := by decide +kernel
theorem dX3_executeMove_26 : decode cX3_executeMove 26 = .ok (.putfield 38, 3) := by decide +kernel
theorem dX3_executeMove_29 : decode cX3_executeMove 29 = .ok (.goto 13, 3) := by decide +kernel
theorem dX3_executeMove_32 : decode cX3_executeMove 32 = .ok (.aload_n 0, 1) := by decide +kernel
theorem dX3_executeMove_33 : decode cX3_executeMove 33 = .ok (.iload_n 3, 1) := by decide +kernel
theorem dX3_executeMove_34 : decode cX3_executeMove 34 = .ok (.aload_n 0, 1) := by decide +kernel
theorem dX3_executeMove_35 : decode cX3_executeMove 35 = .ok (.iload_n 2, 1) := by decide +kernel
theorem dX3_executeMove_36 : decode cX3_executeMove 36 = .ok (.invokevirtual 58, 3) := by decide +kernel
theorem dX3_executeMove_39 : decode cX3_executeMove 39 = .ok (.invokevirtual 87, 3) := by decide +kernel
theorem dX3_executeMove_42 : decode cX3_executeMove 42 = .ok (.return_, 1) := by decide +kernel
set_option maxRecDepth 20000 in
theorem ggX3_executeHigh_X3_holds : GoodIn wsX3_executeHigh wsX3_holds := goodIn_r _ [6, 7, 141, 142, 143, 144, 145, 146, 147, 148, 149] (by decide +kernel) (by decide +kernel)
set_option maxRecDepth 20000 in
theorem gX3_executeHigh_X3_holds : GoodIn wsX3_executeHigh (wsV RX3 96 RX3 yX3_holds wsX3_holds) := goodIn_app (goodIn_of _ (by decide +kernel)) ggX3_executeHigh_X3_holds
set_option maxRecDepth 20000 in
theorem ggX3_executeHigh_X3_returnIf : GoodIn wsX3_executeHigh wsX3_returnIf := goodIn_r _ [11, 1, 12, 13, 14, 5, 15, 16, 17, 18, 19, 20, 21, 22, 23, 24, 25, 26, 27, 28, 29, 30, 141, 142, 143, 144, 145, 146, 147, 148, 149, 150, 151] (by decide +kernel) (by decide +kernel)
set_option maxRecDepth 20000 in
theorem gX3_executeHigh_X3_returnIf : GoodIn wsX3_executeHigh (wsV RX3 100 RX3 yX3_returnIf wsX3_returnIf) := goodIn_app (goodIn_of _ (by decide +kernel)) ggX3_executeHigh_X3_returnIf
set_option maxRecDepth 20000 in
theorem ggX3_executeHigh_X3_popOrReturn : GoodIn wsX3_executeHigh wsX3_popOrReturn := goodIn_r _ [34, 1, 17, 12, 13, 14, 5, 15, 16, 18, 19, 20, 21, 22, 23, 24, 25, 26, 27, 28, 29, 30, 35, 36, 37, 38, 39, 40, 41, 42, 43, 7, 44, 45, 46, 47, 141, 142, 143, 144, 145, 146, 147, 148, 149, 150, 151] (by decide +kernel) (by decide +kernel)
set_option maxRecDepth 20000 in
theorem gX3_executeHigh_X3_popOrReturn : GoodIn wsX3_executeHigh (wsV RX3 104 RX3 yX3_popOrReturn wsX3_popOrReturn) := goodIn_app (goodIn_of _ (by decide +kernel)) ggX3_executeHigh_X3_popOrReturn
set_option maxRecDepth 20000 in
theorem ggX3_executeHigh_X3_jumpIf : GoodIn wsX3_executeHigh wsX3_jumpIf := goodIn_r _ [51, 1, 52, 53, 54, 5, 55, 16, 18, 19, 20, 21, 22, 23, 24, 25, 26, 27, 28, 29, 30, 141, 142, 143, 144, 145, 146, 147, 148, 149, 150, 151] (by decide +kernel) (by decide +kernel)
set_option maxRecDepth 20000 in
theorem gX3_executeHigh_X3_jumpIf : GoodIn wsX3_executeHigh (wsV RX3 107 RX3 yX3_jumpIf wsX3_jumpIf) := goodIn_app (goodIn_of _ (by decide +kernel)) ggX3_executeHigh_X3_jumpIf
set_option maxRecDepth 20000 in
theorem ggX3_executeHigh_X3_executeSingle : GoodIn wsX3_executeHigh wsX3_executeSingle := goodIn_r _ [59, 60, 39, 61, 62, 1, 63, 64, 65, 5, 66, 16, 18, 67, 25, 26, 22, 27, 28, 29, 30, 68, 69, 70, 71, 72, 73, 74, 75, 76, 77, 78, 79, 80, 81, 82, 83, 84, 85, 86, 87, 88, 89, 90, 35, 36, 37, 38, 91, 92, 93, 94, 17, 19, 20, 21, 23, 24, 95, 96, 97, 98, 99, 100, 101, 102, 44, 45, 46, 47, 103, 104, 105, 106, 52, 53, 54, 55, 141, 142, 143, 144, 145, 146, 147, 148, 149, 150, 151, 152, 153, 154, 155, 156, 157] (by decide +kernel) (by decide +kernel)
set_option maxRecDepth 20000 in
theorem gX3_executeHigh_X3_executeSingle : GoodIn wsX3_executeHigh (wsV RX3 111 RX3 yX3_executeSingle wsX3_executeSingle) := goodIn_app (goodIn_of _ (by decide +kernel)) ggX3_executeHigh_X3_executeSingle
set_option maxRecDepth 20000 in
theorem ggX3_executeHigh_X3_callIf : GoodIn wsX3_executeHigh wsX3_callIf := goodIn_r _ [110, 1, 52, 53, 54, 5, 55, 16, 18, 19, 20, 21, 22, 23, 24, 25, 26, 27, 28, 29, 30, 111, 112, 113, 114, 17, 95, 96, 97, 98, 99, 100, 101, 102, 141, 142, 143, 144, 145, 146, 147, 148, 149, 150, 151] (by decide +kernel) (by decide +kernel)
set_option maxRecDepth 20000 in
theorem gX3_executeHigh_X3_callIf : GoodIn wsX3_executeHigh (wsV RX3 114 RX3 yX3_callIf wsX3_callIf) := goodIn_app (goodIn_of _ (by decide +kernel)) ggX3_executeHigh_X3_callIf
set_option maxRecDepth 20000 in
theorem ggX3_executeHigh_X3_statusWord : GoodIn wsX3_executeHigh wsX3_statusWord := goodIn_r _ [118, 39, 7, 141, 142, 143, 144, 145, 146, 147, 148, 149] (by decide +kernel) (by decide +kernel)
set_option maxRecDepth 20000 in
theorem gX3_executeHigh_X3_statusWord : GoodIn wsX3_executeHigh (wsV RX3 117 RX3 yX3_statusWord wsX3_statusWord) := goodIn_app (goodIn_of _ (by decide +kernel)) ggX3_executeHigh_X3_statusWord
set_option maxRecDepth 20000 in
theorem ggX3_executeHigh_X3_pairAt : GoodIn wsX3_executeHigh wsX3_pairAt := goodIn_r _ [38, 39, 141, 142, 143, 144, 145, 146, 147, 148, 149] (by decide +kernel) (by decide +kernel)
set_option maxRecDepth 20000 in
theorem gX3_executeHigh_X3_pairAt : GoodIn wsX3_executeHigh (wsV RX3 120 RX3 yX3_pairAt wsX3_pairAt) := goodIn_app (goodIn_of _ (by decide +kernel)) ggX3_executeHigh_X3_pairAt
set_option maxRecDepth 20000 in
theorem ggX3_executeHigh_X3_push : GoodIn wsX3_executeHigh wsX3_push := goodIn_r _ [114, 17, 18, 16, 95, 96, 97, 22, 98, 99, 100, 101, 102, 28, 141, 142, 143, 144, 145, 146, 147, 148, 149, 150, 151] (by decide +kernel) (by decide +kernel)
set_option maxRecDepth 20000 in
theorem gX3_executeHigh_X3_push : GoodIn wsX3_executeHigh (wsV RX3 41 RX3 yX3_push wsX3_push) := goodIn_app (goodIn_of _ (by decide +kernel)) ggX3_executeHigh_X3_push
set_option maxRecDepth 20000 in
theorem ggX3_executeHigh_X3_fetch : GoodIn wsX3_executeHigh wsX3_fetch := goodIn_r _ [66, 16, 1, 18, 67, 25, 26, 22, 27, 28, 29, 30, 141, 142, 143, 144, 145, 146, 147, 148, 149, 150, 151] (by decide +kernel) (by decide +kernel)
set_option maxRecDepth 20000 in
theorem gX3_executeHigh_X3_fetch : GoodIn wsX3_executeHigh (wsV RX3 45 RX3 yX3_fetch wsX3_fetch) := goodIn_app (goodIn_of _ (by decide +kernel)) ggX3_executeHigh_X3_fetch
set_option maxRecDepth 20000 in
theorem ggX3_executeHigh_X3_calculate : GoodIn wsX3_executeHigh wsX3_calculate := goodIn_r _ [122, 39, 7, 123, 124, 125, 5, 126, 127, 128, 129, 130, 131, 132, 133, 134, 135, 136, 137, 138, 139, 140, 141, 142, 143, 144, 145, 146, 147, 148, 149] (by decide +kernel) (by decide +kernel)
set_option maxRecDepth 20000 in
theorem gX3_executeHigh_X3_calculate : GoodIn wsX3_executeHigh (wsV RX3 62 RX3 yX3_calculate wsX3_calculate) := goodIn_app (goodIn_of _ (by decide +kernel)) ggX3_executeHigh_X3_calculate
theorem dX3_executeHigh_0 : decode cX3_executeHigh 0 = .ok (.iload_n 1, 1) := by decide +kernel
theorem dX3_executeHigh_1 : decode cX3_executeHigh 1 = .ok (.iconst 3, 1) := by decide +kernel
theorem dX3_executeHigh_2 : decode cX3_executeHigh 2 = .ok (.ishr, 1) := by decide +kernel
theorem dX3_executeHigh_3 : decode cX3_executeHigh 3 = .ok (.bipush 7, 2) := by decide +kernel
theorem dX3_executeHigh_5 : decode cX3_executeHigh 5 = .ok (.iand, 1) := by decide +kernel
theorem dX3_executeHigh_6 : decode cX3_executeHigh 6 = .ok (.istore_n 2, 1) := by decide +kernel
theorem dX3_executeHigh_7 : decode cX3_executeHigh 7 = .ok (.iload_n 1, 1) := by decide +kernel
theorem dX3_executeHigh_8 : decode cX3_executeHigh 8 = .ok (.bipush 7, 2) := by decide +kernel
theorem dX3_executeHigh_10 : decode cX3_executeHigh 10 = .ok (.iand, 1) := by decide +kernel
theorem dX3_executeHigh_11 : decode cX3_executeHigh 11 = .ok (.tableswitch 136 0 6 #[41, 51, 58, 69, 76, 86, 125], 41) := by decide +kernel
theorem dX3_executeHigh_52 : decode cX3_executeHigh 52 = .ok (.aload_n 0, 1) := by decide +kernel
theorem dX3_executeHigh_53 : decode cX3_executeHigh 53 = .ok (.aload_n 0, 1) := by decide +kernel
theorem dX3_executeHigh_54 : decode cX3_executeHigh 54 = .ok (.iload_n 2, 1) := by decide +kernel
theorem dX3_executeHigh_55 : decode cX3_executeHigh 55 = .ok (.invokevirtual 96, 3) := by decide +kernel
theorem dX3_executeHigh_58 : decode cX3_executeHigh 58 = .ok (.invokevirtual 100, 3) := by decide +kernel
theorem dX3_executeHigh_61 : decode cX3_executeHigh 61 = .ok (.ireturn, 1) := by decide +kernel
theorem dX3_executeHigh_62 : decode cX3_executeHigh 62 = .ok (.aload_n 0, 1) := by decide +kernel
theorem dX3_executeHigh_63 : decode cX3_executeHigh 63 = .ok (.iload_n 2, 1) := by decide +kernel
theorem dX3_executeHigh_64 : decode cX3_executeHigh 64 = .ok (.invokevirtual 104, 3) := by decide +kernel
theorem dX3_executeHigh_67 : decode cX3_executeHigh 67 = .ok (.iconst 0, 1) := by decide +kernel
theorem dX3_executeHigh_68 : decode cX3_executeHigh 68 = .ok (.ireturn, 1) := by decide +kernel
theorem dX3_executeHigh_69 : decode cX3_executeHigh 69 = .ok (.aload_n 0, 1) := by decide +kernel
theorem dX3_executeHigh_70 : decode cX3_executeHigh 70 = .ok (.aload_n 0, 1) := by decide +kernel
theorem dX3_executeHigh_71 : decode cX3_executeHigh 71 = .ok (.iload_n 2, 1) := by decide +kernel
theorem dX3_executeHigh_72 : decode cX3_executeHigh 72 = .ok (.invokevirtual 96, 3) := by decide +kernel
theorem dX3_executeHigh_75 : decode cX3_executeHigh 75 = .ok (.invokevirtual 107, 3) := by decide +kernel
theorem dX3_executeHigh_78 : decode cX3_executeHigh 78 = .ok (.iconst 0, 1) := by decide +kernel
theorem dX3_executeHigh_79 : decode cX3_executeHigh 79 = .ok (.ireturn, 1) := by decide +kernel
theorem dX3_executeHigh_80 : decode cX3_executeHigh 80 = .ok (.aload_n 0, 1) := by decide +kernel
theorem dX3_executeHigh_81 : decode cX3_executeHigh 81 = .ok (.iload_n 2, 1) := by decide +kernel
theorem dX3_executeHigh_82 : decode cX3_executeHigh 82 = .ok (.invokevirtual 111, 3) := by decide +kernel
theorem dX3_executeHigh_85 : decode cX3_executeHigh 85 = .ok (.iconst 0, 1) := by decide +kernel
theorem dX3_executeHigh_86 : decode cX3_executeHigh 86 = .ok (.ireturn, 1) := by decide +kernel
theorem dX3_executeHigh_87 : decode cX3_executeHigh 87 = .ok (.aload_n 0, 1) := by decide +kernel
theorem dX3_executeHigh_88 : decode cX3_executeHigh 88 = .ok (.aload_n 0, 1) := by decide +kernel
theorem dX3_executeHigh_89 : decode cX3_executeHigh 89 = .ok (.iload_n 2, 1) := by decide +kernel
theorem dX3_executeHigh_90 : decode cX3_executeHigh 90 = .ok (.invokevirtual 96, 3) := by decide +kernel
theorem dX3_executeHigh_93 : decode cX3_executeHigh 93 = .ok (.invokevirtual 114, 3) := by decide +kernel
theorem dX3_executeHigh_96 : decode cX3_executeHigh 96 = .ok (.ireturn, 1) := by decide +kernel
theorem dX3_executeHigh_97 : decode cX3_executeHigh 97 = .ok (.iload_n 2, 1) := by decide +kernel
theorem dX3_executeHigh_98 : decode cX3_executeHigh 98 = .ok (.iconst 1, 1) := by decide +kernel
theorem dX3_executeHigh_99 : decode cX3_executeHigh 99 = .ok (.iand, 1) := by decide +kernel
theorem dX3_executeHigh_100 : decode cX3_executeHigh 100 = .ok (.ifCond .eq 12, 3) := by decide +kernel
theorem dX3_executeHigh_103 : decode cX3_executeHigh 103 = .ok (.aload_n 0, 1) := by decide +kernel
theorem dX3_executeHigh_104 : decode cX3_executeHigh 104 = .ok (.iconst 1, 1) := by decide +kernel
theorem dX3_executeHigh_105 : decode cX3_executeHigh 105 = .ok (.invokevirtual 114, 3) := by decide +kernel
theorem dX3_executeHigh_108 : decode cX3_executeHigh 108 = .ok (.pop, 1) := by decide +kernel
theorem dX3_executeHigh_109 : decode cX3_executeHigh 109 = .ok (.goto 25, 3) := by decide +kernel
theorem dX3_executeHigh_112 : decode cX3_executeHigh 112 = .ok (.aload_n 0, 1) := by decide +kernel
theorem dX3_executeHigh_113 : decode cX3_executeHigh 113 = .ok (.iload_n 2, 1) := by decide +kernel
theorem dX3_executeHigh_114 : decode cX3_executeHigh 114 = .ok (.bipush 6, 2) := by decide +kernel
theorem dX3_executeHigh_116 : decode cX3_executeHigh 116 = .ok (.if_icmp .ne 10, 3) := by decide +kernel
theorem dX3_executeHigh_119 : decode cX3_executeHigh 119 = .ok (.aload_n 0, 1) := by decide +kernel
theorem dX3_executeHigh_120 : decode cX3_executeHigh 120 = .ok (.invokevirtual 117, 3) := by decide +kernel
theorem dX3_executeHigh_123 : decode cX3_executeHigh 123 = .ok (.goto 8, 3) := by decide +kernel
theorem dX3_executeHigh_126 : decode cX3_executeHigh 126 = .ok (.aload_n 0, 1) := by decide +kernel
theorem dX3_executeHigh_127 : decode cX3_executeHigh 127 = .ok (.iload_n 2, 1) := by decide +kernel
theorem dX3_executeHigh_128 : decode cX3_executeHigh 128 = .ok (.invokevirtual 120, 3) := by decide +kernel
theorem dX3_executeHigh_131 : decode cX3_executeHigh 131 = .ok (.invokevirtual 41, 3) := by decide +kernel
theorem dX3_executeHigh_134 : decode cX3_executeHigh 134 = .ok (.iconst 0, 1) := by decide +kernel
theorem dX3_executeHigh_135 : decode cX3_executeHigh 135 = .ok (.ireturn, 1) := by decide +kernel
theorem dX3_executeHigh_136 : decode cX3_executeHigh 136 = .ok (.aload_n 0, 1) := by decide +kernel
theorem dX3_executeHigh_137 : decode cX3_executeHigh 137 = .ok (.iload_n 2, 1) := by decide +kernel
theorem dX3_executeHigh_138 : decode cX3_executeHigh 138 = .ok (.aload_n 0, 1) := by decide +kernel
theorem dX3_executeHigh_139 : decode cX3_executeHigh 139 = .ok (.invokevirtual 45, 3) := by decide +kernel
theorem dX3_executeHigh_142 : decode cX3_executeHigh 142 = .ok (.invokevirtual 62, 3) := by decide +kernel
theorem dX3_executeHigh_145 : decode cX3_executeHigh 145 = .ok (.iconst 0, 1) := by decide +kernel
theorem dX3_executeHigh_146 : decode cX3_executeHigh 146 = .ok (.ireturn, 1) := by decide +kernel
theorem dX3_executeHigh_147 : decode cX3_executeHigh 147 = .ok (.aload_n 0, 1) := by decide +kernel
theorem dX3_executeHigh_148 : decode cX3_executeHigh 148 = .ok (.aload_n 0, 1) := by decide +kernel
theorem dX3_executeHigh_149 : decode cX3_executeHigh 149 = .ok (.getfield 28, 3) := by decide +kernel
theorem dX3_executeHigh_152 : decode cX3_executeHigh 152 = .ok (.invokevirtual 41, 3) := by decide +kernel
theorem dX3_executeHigh_155 : decode cX3_executeHigh 155 = .ok (.aload_n 0, 1) := by decide +kernel
theorem dX3_executeHigh_156 : decode cX3_executeHigh 156 = .ok (.bipush 8, 2) := by decide +kernel
theorem dX3_executeHigh_158 : decode cX3_executeHigh 158 = .ok (.iload_n 2, 1) := by decide +kernel
theorem dX3_executeHigh_159 : decode cX3_executeHigh 159 = .ok (.imul, 1) := by decide +kernel
theorem dX3_executeHigh_160 : decode cX3_executeHigh 160 = .ok (.putfield 28, 3) := by decide +kernel
theorem dX3_executeHigh_163 : decode cX3_executeHigh 163 = .ok (.iconst 0, 1) := by decide +kernel
theorem dX3_executeHigh_164 : decode cX3_executeHigh 164 = .ok (.ireturn, 1) := by decide +kernel
set_option maxRecDepth 20000 in
theorem ggX3_loadOrStore_X3_pairAt : GoodIn wsX3_loadOrStore wsX3_pairAt := goodIn_r _ [7, 2, 40, 41, 42, 43, 44, 45, 46, 47, 48] (by decide +kernel) (by decide +kernel)
set_option maxRecDepth 20000 in
theorem gX3_loadOrStore_X3_pairAt : GoodIn wsX3_loadOrStore (wsV RX3 120 RX3 yX3_pairAt wsX3_pairAt) := goodIn_app (goodIn_of _ (by decide +kernel)) ggX3_loadOrStore_X3_pairAt
set_option maxRecDepth 20000 in
theorem ggX3_loadOrStore_X1_write : GoodIn wsX3_loadOrStore wsX1_write := goodIn_r _ [12, 13, 49, 50] (by decide +kernel) (by decide +kernel)
set_option maxRecDepth 20000 in
theorem gX3_loadOrStore_X1_write : GoodIn wsX3_loadOrStore (wsV RX3 123 RX1 yX1_write wsX1_write) := goodIn_app (goodIn_of _ (by decide +kernel)) ggX3_loadOrStore_X1_write
set_option maxRecDepth 20000 in
theorem ggX3_loadOrStore_X1_read : GoodIn wsX3_loadOrStore wsX1_read := goodIn_r _ [17, 13, 18, 19, 49, 50] (by decide +kernel) (by decide +kernel)
set_option maxRecDepth 20000 in
theorem gX3_loadOrStore_X1_read : GoodIn wsX3_loadOrStore (wsV RX3 128 RX1 yX1_read wsX1_read) := goodIn_app (goodIn_of _ (by decide +kernel)) ggX3_loadOrStore_X1_read
set_option maxRecDepth 20000 in
theorem ggX3_loadOrStore_X3_fetchWord : GoodIn wsX3_loadOrStore wsX3_fetchWord := goodIn_r _ [23, 1, 24, 25, 26, 27, 28, 11, 29, 30, 15, 16, 17, 13, 18, 19, 40, 41, 42, 43, 44, 45, 46, 47, 48, 49, 50] (by decide +kernel) (by decide +kernel)
set_option maxRecDepth 20000 in
theorem gX3_loadOrStore_X3_fetchWord : GoodIn wsX3_loadOrStore (wsV RX3 75 RX3 yX3_fetchWord wsX3_fetchWord) := goodIn_app (goodIn_of _ (by decide +kernel)) ggX3_loadOrStore_X3_fetchWord
set_option maxRecDepth 20000 in
theorem ggX3_loadOrStore_X1_writeWord : GoodIn wsX3_loadOrStore wsX1_writeWord := goodIn_r _ [34, 35, 9, 10, 11, 12, 13, 49, 50] (by decide +kernel) (by decide +kernel)
set_option maxRecDepth 20000 in
theorem gX3_loadOrStore_X1_writeWord : GoodIn wsX3_loadOrStore (wsV RX3 131 RX1 yX1_writeWord wsX1_writeWord) := goodIn_app (goodIn_of _ (by decide +kernel)) ggX3_loadOrStore_X1_writeWord
set_option maxRecDepth 20000 in
theorem ggX3_loadOrStore_X1_readWord : GoodIn wsX3_loadOrStore wsX1_readWord := goodIn_r _ [29, 30, 15, 16, 11, 17, 13, 18, 19, 49, 50] (by decide +kernel) (by decide +kernel)
set_option maxRecDepth 20000 in
theorem gX3_loadOrStore_X1_readWord : GoodIn wsX3_loadOrStore (wsV RX3 134 RX1 yX1_readWord wsX1_readWord) := goodIn_app (goodIn_of _ (by decide +kernel)) ggX3_loadOrStore_X1_readWord
set_option maxRecDepth 20000 in
theorem ggX3_loadOrStore_X3_setPairAt : GoodIn wsX3_loadOrStore wsX3_setPairAt := goodIn_r _ [39, 2, 40, 41, 42, 43, 44, 45, 46, 47, 48] (by decide +kernel) (by decide +kernel)
set_option maxRecDepth 20000 in
theorem gX3_loadOrStore_X3_setPairAt : GoodIn wsX3_loadOrStore (wsV RX3 137 RX3 yX3_setPairAt wsX3_setPairAt) := goodIn_app (goodIn_of _ (by decide +kernel)) ggX3_loadOrStore_X3_setPairAt
theorem dX3_loadOrStore_0 : decode cX3_loadOrStore 0 = .ok (.iload_n 1, 1) := by decide +kernel
theorem dX3_loadOrStore_1 : decode cX3_loadOrStore 1 = .ok (.tableswitch 190 0 6 #[43, 65, 87, 109, 131, 150, 169], 43) := by decide +kernel
theorem dX3_loadOrStore_44 : decode cX3_loadOrStore 44 = .ok (.aload_n 0, 1) := by decide +kernel
theorem dX3_loadOrStore_45 : decode cX3_loadOrStore 45 = .ok (.getfield 17, 3) := by decide +kernel
theorem dX3_loadOrStore_48 : decode cX3_loadOrStore 48 = .ok (.aload_n 0, 1) := by decide +kernel
theorem dX3_loadOrStore_49 : decode cX3_loadOrStore 49 = .ok (.iconst 0, 1) := by decide +kernel
theorem dX3_loadOrStore_50 : decode cX3_loadOrStore 50 = .ok (.invokevirtual 120, 3) := by decide +kernel
theorem dX3_loadOrStore_53 : decode cX3_loadOrStore 53 = .ok (.aload_n 0, 1) := by decide +kernel
theorem dX3_loadOrStore_54 : decode cX3_loadOrStore 54 = .ok (.getfield 9, 3) := by decide +kernel
theorem dX3_loadOrStore_57 : decode cX3_loadOrStore 57 = .ok (.bipush 7, 2) := by decide +kernel
theorem dX3_loadOrStore_59 : decode cX3_loadOrStore 59 = .ok (.iaload, 1) := by decide +kernel
theorem dX3_loadOrStore_60 : decode cX3_loadOrStore 60 = .ok (.invokevirtual 123, 3) := by decide +kernel
theorem dX3_loadOrStore_63 : decode cX3_loadOrStore 63 = .ok (.goto 146, 3) := by decide +kernel
theorem dX3_loadOrStore_66 : decode cX3_loadOrStore 66 = .ok (.aload_n 0, 1) := by decide +kernel
theorem dX3_loadOrStore_67 : decode cX3_loadOrStore 67 = .ok (.getfield 9, 3) := by decide +kernel
theorem dX3_loadOrStore_70 : decode cX3_loadOrStore 70 = .ok (.bipush 7, 2) := by decide +kernel
theorem dX3_loadOrStore_72 : decode cX3_loadOrStore 72 = .ok (.aload_n 0, 1) := by decide +kernel
theorem dX3_loadOrStore_73 : decode cX3_loadOrStore 73 = .ok (.getfield 17, 3) := by decide +kernel
theorem dX3_loadOrStore_76 : decode cX3_loadOrStore 76 = .ok (.aload_n 0, 1) := by decide +kernel
theorem dX3_loadOrStore_77 : decode cX3_loadOrStore 77 = .ok (.iconst 0, 1) := by decide +kernel
theorem dX3_loadOrStore_78 : decode cX3_loadOrStore 78 = .ok (.invokevirtual 120, 3) := by decide +kernel
theorem dX3_loadOrStore_81 : decode cX3_loadOrStore 81 = .ok (.invokevirtual 128, 3) := by decide +kernel
theorem dX3_loadOrStore_84 : decode cX3_loadOrStore 84 = .ok (.iastore, 1) := by decide +kernel
theorem dX3_loadOrStore_85 : decode cX3_loadOrStore 85 = .ok (.goto 124, 3) := by decide +kernel
theorem dX3_loadOrStore_88 : decode cX3_loadOrStore 88 = .ok (.aload_n 0, 1) := by decide +kernel
theorem dX3_loadOrStore_89 : decode cX3_loadOrStore 89 = .ok (.getfield 17, 3) := by decide +kernel
theorem dX3_loadOrStore_92 : decode cX3_loadOrStore 92 = .ok (.aload_n 0, 1) := by decide +kernel
theorem dX3_loadOrStore_93 : decode cX3_loadOrStore 93 = .ok (.iconst 2, 1) := by decide +kernel
theorem dX3_loadOrStore_94 : decode cX3_loadOrStore 94 = .ok (.invokevirtual 120, 3) := by decide +kernel
theorem dX3_loadOrStore_97 : decode cX3_loadOrStore 97 = .ok (.aload_n 0, 1) := by decide +kernel
theorem dX3_loadOrStore_98 : decode cX3_loadOrStore 98 = .ok (.getfield 9, 3) := by decide +kernel
theorem dX3_loadOrStore_101 : decode cX3_loadOrStore 101 = .ok (.bipush 7, 2) := by decide +kernel
theorem dX3_loadOrStore_103 : decode cX3_loadOrStore 103 = .ok (.iaload, 1) := by decide +kernel
theorem dX3_loadOrStore_104 : decode cX3_loadOrStore 104 = .ok (.invokevirtual 123, 3) := by decide +kernel
theorem dX3_loadOrStore_107 : decode cX3_loadOrStore 107 = .ok (.goto 102, 3) := by decide +kernel
theorem dX3_loadOrStore_110 : decode cX3_loadOrStore 110 = .ok (.aload_n 0, 1) := by decide +kernel
theorem dX3_loadOrStore_111 : decode cX3_loadOrStore 111 = .ok (.getfield 9, 3) := by decide +kernel
theorem dX3_loadOrStore_114 : decode cX3_loadOrStore 114 = .ok (.bipush 7, 2) := by decide +kernel
theorem dX3_loadOrStore_116 : decode cX3_loadOrStore 116 = .ok (.aload_n 0, 1) := by decide +kernel
theorem dX3_loadOrStore_117 : decode cX3_loadOrStore 117 = .ok (.getfield 17, 3) := by decide +kernel
theorem dX3_loadOrStore_120 : decode cX3_loadOrStore 120 = .ok (.aload_n 0, 1) := by decide +kernel
theorem dX3_loadOrStore_121 : decode cX3_loadOrStore 121 = .ok (.iconst 2, 1) := by decide +kernel
theorem dX3_loadOrStore_122 : decode cX3_loadOrStore 122 = .ok (.invokevirtual 120, 3) := by decide +kernel
theorem dX3_loadOrStore_125 : decode cX3_loadOrStore 125 = .ok (.invokevirtual 128, 3) := by decide +kernel
theorem dX3_loadOrStore_128 : decode cX3_loadOrStore 128 = .ok (.iastore, 1) := by decide +kernel
theorem dX3_loadOrStore_129 : decode cX3_loadOrStore 129 = .ok (.goto 80, 3) := by decide +kernel
theorem dX3_loadOrStore_132 : decode cX3_loadOrStore 132 = .ok (.aload_n 0, 1) := by decide +kernel
theorem dX3_loadOrStore_133 : decode cX3_loadOrStore 133 = .ok (.getfield 17, 3) := by decide +kernel
theorem dX3_loadOrStore_136 : decode cX3_loadOrStore 136 = .ok (.aload_n 0, 1) := by decide +kernel
theorem dX3_loadOrStore_137 : decode cX3_loadOrStore 137 = .ok (.invokevirtual 75, 3) := by decide +kernel
theorem dX3_loadOrStore_140 : decode cX3_loadOrStore 140 = .ok (.aload_n 0, 1) := by decide +kernel
theorem dX3_loadOrStore_141 : decode cX3_loadOrStore 141 = .ok (.iconst 4, 1) := by decide +kernel
theorem dX3_loadOrStore_142 : decode cX3_loadOrStore 142 = .ok (.invokevirtual 120, 3) := by decide +kernel
theorem dX3_loadOrStore_145 : decode cX3_loadOrStore 145 = .ok (.invokevirtual 131, 3) := by decide +kernel
theorem dX3_loadOrStore_148 : decode cX3_loadOrStore 148 = .ok (.goto 61, 3) := by decide +kernel
theorem dX3_loadOrStore_151 : decode cX3_loadOrStore 151 = .ok (.aload_n 0, 1) := by decide +kernel
theorem dX3_loadOrStore_152 : decode cX3_loadOrStore 152 = .ok (.iconst 4, 1) := by decide +kernel
theorem dX3_loadOrStore_153 : decode cX3_loadOrStore 153 = .ok (.aload_n 0, 1) := by decide +kernel
theorem dX3_loadOrStore_154 : decode cX3_loadOrStore 154 = .ok (.getfield 17, 3) := by decide +kernel
theorem dX3_loadOrStore_157 : decode cX3_loadOrStore 157 = .ok (.aload_n 0, 1) := by decide +kernel
theorem dX3_loadOrStore_158 : decode cX3_loadOrStore 158 = .ok (.invokevirtual 75, 3) := by decide +kernel
theorem dX3_loadOrStore_161 : decode cX3_loadOrStore 161 = .ok (.invokevirtual 134, 3) := by decide +kernel
theorem dX3_loadOrStore_164 : decode cX3_loadOrStore 164 = .ok (.invokevirtual 137, 3) := by decide +kernel
theorem dX3_loadOrStore_167 : decode cX3_loadOrStore 167 = .ok (.goto 42, 3) := by decide +kernel
theorem dX3_loadOrStore_170 : decode cX3_loadOrStore 170 = .ok (.aload_n 0, 1) := by decide +kernel
theorem dX3_loadOrStore_171 : decode cX3_loadOrStore 171 = .ok (.getfield 17, 3) := by decide +kernel
theorem dX3_loadOrStore_174 : decode cX3_loadOrStore 174 = .ok (.aload_n 0, 1) := by decide +kernel
theorem dX3_loadOrStore_175 : decode cX3_loadOrStore 175 = .ok (.invokevirtual 75, 3) := by decide +kernel
theorem dX3_loadOrStore_178 : decode cX3_loadOrStore 178 = .ok (.aload_n 0, 1) := by decide +kernel
theorem dX3_loadOrStore_179 : decode cX3_loadOrStore 179 = .ok (.getfield 9, 3) := by decide +kernel
theorem dX3_loadOrStore_182 : decode cX3_loadOrStore 182 = .ok (.bipush 7, 2) := by decide +kernel
theorem dX3_loadOrStore_184 : decode cX3_loadOrStore 184 = .ok (.iaload, 1) := by decide +kernel
theorem dX3_loadOrStore_185 : decode cX3_loadOrStore 185 = .ok (.invokevirtual 123, 3) := by decide +kernel
theorem dX3_loadOrStore_188 : decode cX3_loadOrStore 188 = .ok (.goto 21, 3) := by decide +kernel
theorem dX3_loadOrStore_191 : decode cX3_loadOrStore 191 = .ok (.aload_n 0, 1) := by decide +kernel
theorem dX3_loadOrStore_192 : decode cX3_loadOrStore 192 = .ok (.getfield 9, 3) := by decide +kernel
theorem dX3_loadOrStore_195 : decode cX3_loadOrStore 195 = .ok (.bipush 7, 2) := by decide +kernel
theorem dX3_loadOrStore_197 : decode cX3_loadOrStore 197 = .ok (.aload_n 0, 1) := by decide +kernel
theorem dX3_loadOrStore_198 : decode cX3_loadOrStore 198 = .ok (.getfield 17, 3) := by decide +kernel
theorem dX3_loadOrStore_201 : decode cX3_loadOrStore 201 = .ok (.aload_n 0, 1) := by decide +kernel
theorem dX3_loadOrStore_202 : decode cX3_loadOrStore 202 = .ok (.invokevirtual 75, 3) := by decide +kernel
theorem dX3_loadOrStore_205 : decode cX3_loadOrStore 205 = .ok (.invokevirtual 128, 3) := by decide +kernel
theorem dX3_loadOrStore_208 : decode cX3_loadOrStore 208 = .ok (.iastore, 1) := by decide +kernel
theorem dX3_loadOrStore_209 : decode cX3_loadOrStore 209 = .ok (.return_, 1) := by decide +kernel
set_option maxRecDepth 20000 in
theorem ggX3_changeAccumulator_X3_setRotated : GoodIn wsX3_changeAccumulator wsX3_setRotated := goodIn_r _ [7, 1, 8, 9, 10, 6, 11, 2, 26, 27, 28, 29, 30, 31, 32, 33, 34] (by decide +kernel) (by decide +kernel)
set_option maxRecDepth 20000 in
theorem gX3_changeAccumulator_X3_setRotated : GoodIn wsX3_changeAccumulator (wsV RX3 140 RX3 yX3_setRotated wsX3_setRotated) := goodIn_app (goodIn_of _ (by decide +kernel)) ggX3_changeAccumulator_X3_setRotated
set_option maxRecDepth 20000 in
theorem ggX3_changeAccumulator_X3_adjustDecimal : GoodIn wsX3_changeAccumulator wsX3_adjustDecimal := goodIn_r _ [15, 1, 2, 16, 17, 6, 18, 19, 20, 21, 22, 23, 24, 25, 26, 27, 28, 29, 30, 31, 32, 33, 34] (by decide +kernel) (by decide +kernel)
set_option maxRecDepth 20000 in
theorem gX3_changeAccumulator_X3_adjustDecimal : GoodIn wsX3_changeAccumulator (wsV RX3 143 RX3 yX3_adjustDecimal wsX3_adjustDecimal) := goodIn_app (goodIn_of _ (by decide +kernel)) ggX3_changeAccumulator_X3_adjustDecimal
theorem dX3_changeAccumulator_0 : decode cX3_changeAccumulator 0 = .ok (.aload_n 0, 1) := by decide +kernel
theorem dX3_changeAccumulator_1 : decode cX3_changeAccumulator 1 = .ok (.getfield 9, 3) := by decide +kernel
theorem dX3_changeAccumulator_4 : decode cX3_changeAccumulator 4 = .ok (.bipush 7, 2) := by decide +kernel
theorem dX3_changeAccumulator_6 : decode cX3_changeAccumulator 6 = .ok (.iaload, 1) := by decide +kernel
theorem dX3_changeAccumulator_7 : decode cX3_changeAccumulator 7 = .ok (.istore_n 2, 1) := by decide +kernel
theorem dX3_changeAccumulator_8 : decode cX3_changeAccumulator 8 = .ok (.aload_n 0, 1) := by decide +kernel
theorem dX3_changeAccumulator_9 : decode cX3_changeAccumulator 9 = .ok (.getfield 13, 3) := by decide +kernel
theorem dX3_changeAccumulator_12 : decode cX3_changeAccumulator 12 = .ok (.iconst 1, 1) := by decide +kernel
theorem dX3_changeAccumulator_13 : decode cX3_changeAccumulator 13 = .ok (.iand, 1) := by decide +kernel
theorem dX3_changeAccumulator_14 : decode cX3_changeAccumulator 14 = .ok (.istore_n 3, 1) := by decide +kernel
theorem dX3_changeAccumulator_15 : decode cX3_changeAccumulator 15 = .ok (.iload_n 1, 1) := by decide +kernel
theorem dX3_changeAccumulator_16 : decode cX3_changeAccumulator 16 = .ok (.tableswitch 146 0 6 #[44, 63, 79, 95, 111, 118, 133], 44) := by decide +kernel
theorem dX3_changeAccumulator_60 : decode cX3_changeAccumulator 60 = .ok (.aload_n 0, 1) := by decide +kernel
theorem dX3_changeAccumulator_61 : decode cX3_changeAccumulator 61 = .ok (.iload_n 2, 1) := by decide +kernel
theorem dX3_changeAccumulator_62 : decode cX3_changeAccumulator 62 = .ok (.iconst 1, 1) := by decide +kernel
theorem dX3_changeAccumulator_63 : decode cX3_changeAccumulator 63 = .ok (.ishl, 1) := by decide +kernel
theorem dX3_changeAccumulator_64 : decode cX3_changeAccumulator 64 = .ok (.iload_n 2, 1) := by decide +kernel
theorem dX3_changeAccumulator_65 : decode cX3_changeAccumulator 65 = .ok (.bipush 7, 2) := by decide +kernel
theorem dX3_changeAccumulator_67 : decode cX3_changeAccumulator 67 = .ok (.ishr, 1) := by decide +kernel
theorem dX3_changeAccumulator_68 : decode cX3_changeAccumulator 68 = .ok (.ior, 1) := by decide +kernel
theorem dX3_changeAccumulator_69 : decode cX3_changeAccumulator 69 = .ok (.iload_n 2, 1) := by decide +kernel
theorem dX3_changeAccumulator_70 : decode cX3_changeAccumulator 70 = .ok (.bipush 7, 2) := by decide +kernel
theorem dX3_changeAccumulator_72 : decode cX3_changeAccumulator 72 = .ok (.ishr, 1) := by decide +kernel
theorem dX3_changeAccumulator_73 : decode cX3_changeAccumulator 73 = .ok (.invokevirtual 140, 3) := by decide +kernel
theorem dX3_changeAccumulator_76 : decode cX3_changeAccumulator 76 = .ok (.goto 96, 3) := by decide +kernel
theorem dX3_changeAccumulator_79 : decode cX3_changeAccumulator 79 = .ok (.aload_n 0, 1) := by decide +kernel
theorem dX3_changeAccumulator_80 : decode cX3_changeAccumulator 80 = .ok (.iload_n 2, 1) := by decide +kernel
theorem dX3_changeAccumulator_81 : decode cX3_changeAccumulator 81 = .ok (.iconst 1, 1) := by decide +kernel
theorem dX3_changeAccumulator_82 : decode cX3_changeAccumulator 82 = .ok (.ishr, 1) := by decide +kernel
theorem dX3_changeAccumulator_83 : decode cX3_changeAccumulator 83 = .ok (.iload_n 2, 1) := by decide +kernel
theorem dX3_changeAccumulator_84 : decode cX3_changeAccumulator 84 = .ok (.bipush 7, 2) := by decide +kernel
theorem dX3_changeAccumulator_86 : decode cX3_changeAccumulator 86 = .ok (.ishl, 1) := by decide +kernel
theorem dX3_changeAccumulator_87 : decode cX3_changeAccumulator 87 = .ok (.ior, 1) := by decide +kernel
theorem dX3_changeAccumulator_88 : decode cX3_changeAccumulator 88 = .ok (.iload_n 2, 1) := by decide +kernel
theorem dX3_changeAccumulator_89 : decode cX3_changeAccumulator 89 = .ok (.invokevirtual 140, 3) := by decide +kernel
theorem dX3_changeAccumulator_92 : decode cX3_changeAccumulator 92 = .ok (.goto 80, 3) := by decide +kernel
theorem dX3_changeAccumulator_95 : decode cX3_changeAccumulator 95 = .ok (.aload_n 0, 1) := by decide +kernel
theorem dX3_changeAccumulator_96 : decode cX3_changeAccumulator 96 = .ok (.iload_n 2, 1) := by decide +kernel
theorem dX3_changeAccumulator_97 : decode cX3_changeAccumulator 97 = .ok (.iconst 1, 1) := by decide +kernel
theorem dX3_changeAccumulator_98 : decode cX3_changeAccumulator 98 = .ok (.ishl, 1) := by decide +kernel
theorem dX3_changeAccumulator_99 : decode cX3_changeAccumulator 99 = .ok (.iload_n 3, 1) := by decide +kernel
theorem dX3_changeAccumulator_100 : decode cX3_changeAccumulator 100 = .ok (.ior, 1) := by decide +kernel
theorem dX3_changeAccumulator_101 : decode cX3_changeAccumulator 101 = .ok (.iload_n 2, 1) := by decide +kernel
theorem dX3_changeAccumulator_102 : decode cX3_changeAccumulator 102 = .ok (.bipush 7, 2) := by decide +kernel
theorem dX3_changeAccumulator_104 : decode cX3_changeAccumulator 104 = .ok (.ishr, 1) := by decide +kernel
theorem dX3_changeAccumulator_105 : decode cX3_changeAccumulator 105 = .ok (.invokevirtual 140, 3) := by decide +kernel
theorem dX3_changeAccumulator_108 : decode cX3_changeAccumulator 108 = .ok (.goto 64, 3) := by decide +kernel
theorem dX3_changeAccumulator_111 : decode cX3_changeAccumulator 111 = .ok (.aload_n 0, 1) := by decide +kernel
theorem dX3_changeAccumulator_112 : decode cX3_changeAccumulator 112 = .ok (.iload_n 2, 1) := by decide +kernel
theorem dX3_changeAccumulator_113 : decode cX3_changeAccumulator 113 = .ok (.iconst 1, 1) := by decide +kernel
theorem dX3_changeAccumulator_114 : decode cX3_changeAccumulator 114 = .ok (.ishr, 1) := by decide +kernel
theorem dX3_changeAccumulator_115 : decode cX3_changeAccumulator 115 = .ok (.iload_n 3, 1) := by decide +kernel
theorem dX3_changeAccumulator_116 : decode cX3_changeAccumulator 116 = .ok (.bipush 7, 2) := by decide +kernel
theorem dX3_changeAccumulator_118 : decode cX3_changeAccumulator 118 = .ok (.ishl, 1) := by decide +kernel
theorem dX3_changeAccumulator_119 : decode cX3_changeAccumulator 119 = .ok (.ior, 1) := by decide +kernel
theorem dX3_changeAccumulator_120 : decode cX3_changeAccumulator 120 = .ok (.iload_n 2, 1) := by decide +kernel
theorem dX3_changeAccumulator_121 : decode cX3_changeAccumulator 121 = .ok (.invokevirtual 140, 3) := by decide +kernel
theorem dX3_changeAccumulator_124 : decode cX3_changeAccumulator 124 = .ok (.goto 48, 3) := by decide +kernel
theorem dX3_changeAccumulator_127 : decode cX3_changeAccumulator 127 = .ok (.aload_n 0, 1) := by decide +kernel
theorem dX3_changeAccumulator_128 : decode cX3_changeAccumulator 128 = .ok (.invokevirtual 143, 3) := by decide +kernel
theorem dX3_changeAccumulator_131 : decode cX3_changeAccumulator 131 = .ok (.goto 41, 3) := by decide +kernel
theorem dX3_changeAccumulator_134 : decode cX3_changeAccumulator 134 = .ok (.aload_n 0, 1) := by decide +kernel
theorem dX3_changeAccumulator_135 : decode cX3_changeAccumulator 135 = .ok (.getfield 9, 3) := by decide +kernel
theorem dX3_changeAccumulator_138 : decode cX3_changeAccumulator 138 = .ok (.bipush 7, 2) := by decide +kernel
theorem dX3_changeAccumulator_140 : decode cX3_changeAccumulator 140 = .ok (.iload_n 2, 1) := by decide +kernel
theorem dX3_changeAccumulator_141 : decode cX3_changeAccumulator 141 = .ok (.sipush 255, 3) := by decide +kernel
theorem dX3_changeAccumulator_144 : decode cX3_changeAccumulator 144 = .ok (.ixor, 1) := by decide +kernel
theorem dX3_changeAccumulator_145 : decode cX3_changeAccumulator 145 = .ok (.iastore, 1) := by decide +kernel
theorem dX3_changeAccumulator_146 : decode cX3_changeAccumulator 146 = .ok (.goto 26, 3) := by decide +kernel
theorem dX3_changeAccumulator_149 : decode cX3_changeAccumulator 149 = .ok (.aload_n 0, 1) := by decide +kernel
theorem dX3_changeAccumulator_150 : decode cX3_changeAccumulator 150 = .ok (.dup, 1) := by decide +kernel
theorem dX3_changeAccumulator_151 : decode cX3_changeAccumulator 151 = .ok (.getfield 13, 3) := by decide +kernel
theorem dX3_changeAccumulator_154 : decode cX3_changeAccumulator 154 = .ok (.iconst 1, 1) := by decide +kernel
theorem dX3_changeAccumulator_155 : decode cX3_changeAccumulator 155 = .ok (.ior, 1) := by decide +kernel
theorem dX3_changeAccumulator_156 : decode cX3_changeAccumulator 156 = .ok (.putfield 13, 3) := by decide +kernel
theorem dX3_changeAccumulator_159 : decode cX3_changeAccumulator 159 = .ok (.goto 13, 3) := by decide +kernel
theorem dX3_changeAccumulator_162 : decode cX3_changeAccumulator 162 = .ok (.aload_n 0, 1) := by decide +kernel
theorem dX3_changeAccumulator_163 : decode cX3_changeAccumulator 163 = .ok (.dup, 1) := by decide +kernel
theorem dX3_changeAccumulator_164 : decode cX3_changeAccumulator 164 = .ok (.getfield 13, 3) := by decide +kernel
theorem dX3_changeAccumulator_167 : decode cX3_changeAccumulator 167 = .ok (.iconst 1, 1) := by decide +kernel
theorem dX3_changeAccumulator_168 : decode cX3_changeAccumulator 168 = .ok (.ixor, 1) := by decide +kernel
theorem dX3_changeAccumulator_169 : decode cX3_changeAccumulator 169 = .ok (.putfield 13, 3) := by decide +kernel
theorem dX3_changeAccumulator_172 : decode cX3_changeAccumulator 172 = .ok (.return_, 1) := by decide +kernel
set_option maxRecDepth 20000 in
theorem ggX3_setRotated_X3_setCarry : GoodIn wsX3_setRotated wsX3_setCarry := goodIn_r _ [6, 7, 8, 9, 10, 11, 12, 13, 14, 15, 16] (by decide +kernel) (by decide +kernel)
set_option maxRecDepth 20000 in
theorem gX3_setRotated_X3_setCarry : GoodIn wsX3_setRotated (wsV RX3 146 RX3 yX3_setCarry wsX3_setCarry) := goodIn_app (goodIn_of _ (by decide +kernel)) ggX3_setRotated_X3_setCarry
theorem dX3_setRotated_0 : decode cX3_setRotated 0 = .ok (.aload_n 0, 1) := by decide +kernel
theorem dX3_setRotated_1 : decode cX3_setRotated 1 = .ok (.getfield 9, 3) := by decide +kernel
theorem dX3_setRotated_4 : decode cX3_setRotated 4 = .ok (.bipush 7, 2) := by decide +kernel
theorem dX3_setRotated_6 : decode cX3_setRotated 6 = .ok (.iload_n 1, 1) := by decide +kernel
theorem dX3_setRotated_7 : decode cX3_setRotated 7 = .ok (.sipush 255, 3) := by decide +kernel
theorem dX3_setRotated_10 : decode cX3_setRotated 10 = .ok (.iand, 1) := by decide +kernel
theorem dX3_setRotated_11 : decode cX3_setRotated 11 = .ok (.iastore, 1) := by decide +kernel
theorem dX3_setRotated_12 : decode cX3_setRotated 12 = .ok (.aload_n 0, 1) := by decide +kernel
theorem dX3_setRotated_13 : decode cX3_setRotated 13 = .ok (.iload_n 2, 1) := by decide +kernel
theorem dX3_setRotated_14 : decode cX3_setRotated 14 = .ok (.invokevirtual 146, 3) := by decide +kernel
theorem dX3_setRotated_17 : decode cX3_setRotated 17 = .ok (.return_, 1) := by decide +kernel
theorem dX3_setCarry_0 : decode cX3_setCarry 0 = .ok (.aload_n 0, 1) := by decide +kernel
theorem dX3_setCarry_1 : decode cX3_setCarry 1 = .ok (.aload_n 0, 1) := by decide +kernel
theorem dX3_setCarry_2 : decode cX3_setCarry 2 = .ok (.getfield 13, 3) := by decide +kernel
theorem dX3_setCarry_5 : decode cX3_setCarry 5 = .ok (.bipush (-2), 2) := by decide +kernel
theorem dX3_setCarry_7 : decode cX3_setCarry 7 = .ok (.iand, 1) := by decide +kernel
theorem dX3_setCarry_8 : decode cX3_setCarry 8 = .ok (.iload_n 1, 1) := by decide +kernel
theorem dX3_setCarry_9 : decode cX3_setCarry 9 = .ok (.iconst 1, 1) := by decide +kernel
theorem dX3_setCarry_10 : decode cX3_setCarry 10 = .ok (.iand, 1) := by decide +kernel
theorem dX3_setCarry_11 : decode cX3_setCarry 11 = .ok (.ior, 1) := by decide +kernel
theorem dX3_setCarry_12 : decode cX3_setCarry 12 = .ok (.putfield 13, 3) := by decide +kernel
theorem dX3_setCarry_15 : decode cX3_setCarry 15 = .ok (.return_, 1) := by decide +kernel
set_option maxRecDepth 20000 in
theorem ggX3_adjustDecimal_X3_flagsOf : GoodIn wsX3_adjustDecimal wsX3_flagsOf := goodIn_r _ [6, 7, 8, 9, 10, 11, 12, 13] (by decide +kernel) (by decide +kernel)
set_option maxRecDepth 20000 in
theorem gX3_adjustDecimal_X3_flagsOf : GoodIn wsX3_adjustDecimal (va_wsS RX3 149 yX3_flagsOf wsX3_flagsOf) := goodIn_app (goodIn_of _ (by decide +kernel)) ggX3_adjustDecimal_X3_flagsOf
theorem dX3_adjustDecimal_0 : decode cX3_adjustDecimal 0 = .ok (.aload_n 0, 1) := by decide +kernel
theorem dX3_adjustDecimal_1 : decode cX3_adjustDecimal 1 = .ok (.getfield 9, 3) := by decide +kernel
theorem dX3_adjustDecimal_4 : decode cX3_adjustDecimal 4 = .ok (.bipush 7, 2) := by decide +kernel
theorem dX3_adjustDecimal_6 : decode cX3_adjustDecimal 6 = .ok (.iaload, 1) := by decide +kernel
theorem dX3_adjustDecimal_7 : decode cX3_adjustDecimal 7 = .ok (.istore_n 1, 1) := by decide +kernel
theorem dX3_adjustDecimal_8 : decode cX3_adjustDecimal 8 = .ok (.iload_n 1, 1) := by decide +kernel
theorem dX3_adjustDecimal_9 : decode cX3_adjustDecimal 9 = .ok (.bipush 15, 2) := by decide +kernel
theorem dX3_adjustDecimal_11 : decode cX3_adjustDecimal 11 = .ok (.iand, 1) := by decide +kernel
theorem dX3_adjustDecimal_12 : decode cX3_adjustDecimal 12 = .ok (.istore_n 2, 1) := by decide +kernel
theorem dX3_adjustDecimal_13 : decode cX3_adjustDecimal 13 = .ok (.iload_n 2, 1) := by decide +kernel
theorem dX3_adjustDecimal_14 : decode cX3_adjustDecimal 14 = .ok (.bipush 9, 2) := by decide +kernel
theorem dX3_adjustDecimal_16 : decode cX3_adjustDecimal 16 = .ok (.if_icmp .gt 13, 3) := by decide +kernel
theorem dX3_adjustDecimal_19 : decode cX3_adjustDecimal 19 = .ok (.aload_n 0, 1) := by decide +kernel
theorem dX3_adjustDecimal_20 : decode cX3_adjustDecimal 20 = .ok (.getfield 13, 3) := by decide +kernel
theorem dX3_adjustDecimal_23 : decode cX3_adjustDecimal 23 = .ok (.bipush 16, 2) := by decide +kernel
theorem dX3_adjustDecimal_25 : decode cX3_adjustDecimal 25 = .ok (.iand, 1) := by decide +kernel
theorem dX3_adjustDecimal_26 : decode cX3_adjustDecimal 26 = .ok (.ifCond .eq 8, 3) := by decide +kernel
theorem dX3_adjustDecimal_29 : decode cX3_adjustDecimal 29 = .ok (.bipush 6, 2) := by decide +kernel
theorem dX3_adjustDecimal_31 : decode cX3_adjustDecimal 31 = .ok (.goto 4, 3) := by decide +kernel
theorem dX3_adjustDecimal_34 : decode cX3_adjustDecimal 34 = .ok (.iconst 0, 1) := by decide +kernel
theorem dX3_adjustDecimal_35 : decode cX3_adjustDecimal 35 = .ok (.istore_n 3, 1) := by decide +kernel
theorem dX3_adjustDecimal_36 : decode cX3_adjustDecimal 36 = .ok (.iload_n 2, 1) := by decide +kernel
theorem dX3_adjustDecimal_37 : decode cX3_adjustDecimal 37 = .ok (.iload_n 3, 1) := by decide +kernel
theorem dX3_adjustDecimal_38 : decode cX3_adjustDecimal 38 = .ok (.iadd, 1) := by decide +kernel
theorem dX3_adjustDecimal_39 : decode cX3_adjustDecimal 39 = .ok (.bipush 15, 2) := by decide +kernel
theorem dX3_adjustDecimal_41 : decode cX3_adjustDecimal 41 = .ok (.if_icmp .le 8, 3) := by decide +kernel
theorem dX3_adjustDecimal_44 : decode cX3_adjustDecimal 44 = .ok (.bipush 16, 2) := by decide +kernel
theorem dX3_adjustDecimal_46 : decode cX3_adjustDecimal 46 = .ok (.goto 4, 3) := by decide +kernel
theorem dX3_adjustDecimal_49 : decode cX3_adjustDecimal 49 = .ok (.iconst 0, 1) := by decide +kernel
theorem dX3_adjustDecimal_50 : decode cX3_adjustDecimal 50 = .ok (.istore 4, 2) := by decide +kernel
theorem dX3_adjustDecimal_52 : decode cX3_adjustDecimal 52 = .ok (.iload_n 1, 1) := by decide +kernel
theorem dX3_adjustDecimal_53 : decode cX3_adjustDecimal 53 = .ok (.sipush 153, 3) := by decide +kernel
theorem dX3_adjustDecimal_56 : decode cX3_adjustDecimal 56 = .ok (.if_icmp .gt 12, 3) := by decide +kernel
theorem dX3_adjustDecimal_59 : decode cX3_adjustDecimal 59 = .ok (.aload_n 0, 1) := by decide +kernel
theorem dX3_adjustDecimal_60 : decode cX3_adjustDecimal 60 = .ok (.getfield 13, 3) := by decide +kernel
theorem dX3_adjustDecimal_63 : decode cX3_adjustDecimal 63 = .ok (.iconst 1, 1) := by decide +kernel
theorem dX3_adjustDecimal_64 : decode cX3_adjustDecimal 64 = .ok (.iand, 1) := by decide +kernel
theorem dX3_adjustDecimal_65 : decode cX3_adjustDecimal 65 = .ok (.ifCond .eq 12, 3) := by decide +kernel
theorem dX3_adjustDecimal_68 : decode cX3_adjustDecimal 68 = .ok (.iinc 3 96, 3) := by decide +kernel
theorem dX3_adjustDecimal_71 : decode cX3_adjustDecimal 71 = .ok (.iload 4, 2) := by decide +kernel
theorem dX3_adjustDecimal_73 : decode cX3_adjustDecimal 73 = .ok (.iconst 1, 1) := by decide +kernel
theorem dX3_adjustDecimal_74 : decode cX3_adjustDecimal 74 = .ok (.ior, 1) := by decide +kernel
theorem dX3_adjustDecimal_75 : decode cX3_adjustDecimal 75 = .ok (.istore 4, 2) := by decide +kernel
theorem dX3_adjustDecimal_77 : decode cX3_adjustDecimal 77 = .ok (.aload_n 0, 1) := by decide +kernel
theorem dX3_adjustDecimal_78 : decode cX3_adjustDecimal 78 = .ok (.getfield 9, 3) := by decide +kernel
theorem dX3_adjustDecimal_81 : decode cX3_adjustDecimal 81 = .ok (.bipush 7, 2) := by decide +kernel
theorem dX3_adjustDecimal_83 : decode cX3_adjustDecimal 83 = .ok (.iload_n 1, 1) := by decide +kernel
theorem dX3_adjustDecimal_84 : decode cX3_adjustDecimal 84 = .ok (.iload_n 3, 1) := by decide +kernel
theorem dX3_adjustDecimal_85 : decode cX3_adjustDecimal 85 = .ok (.iadd, 1) := by decide +kernel
theorem dX3_adjustDecimal_86 : decode cX3_adjustDecimal 86 = .ok (.sipush 255, 3) := by decide +kernel
theorem dX3_adjustDecimal_89 : decode cX3_adjustDecimal 89 = .ok (.iand, 1) := by decide +kernel
theorem dX3_adjustDecimal_90 : decode cX3_adjustDecimal 90 = .ok (.iastore, 1) := by decide +kernel
theorem dX3_adjustDecimal_91 : decode cX3_adjustDecimal 91 = .ok (.aload_n 0, 1) := by decide +kernel
theorem dX3_adjustDecimal_92 : decode cX3_adjustDecimal 92 = .ok (.aload_n 0, 1) := by decide +kernel
theorem dX3_adjustDecimal_93 : decode cX3_adjustDecimal 93 = .ok (.getfield 9, 3) := by decide +kernel
theorem dX3_adjustDecimal_96 : decode cX3_adjustDecimal 96 = .ok (.bipush 7, 2) := by decide +kernel
theorem dX3_adjustDecimal_98 : decode cX3_adjustDecimal 98 = .ok (.iaload, 1) := by decide +kernel
theorem dX3_adjustDecimal_99 : decode cX3_adjustDecimal 99 = .ok (.invokestatic 149, 3) := by decide +kernel
theorem dX3_adjustDecimal_102 : decode cX3_adjustDecimal 102 = .ok (.iload 4, 2) := by decide +kernel
theorem dX3_adjustDecimal_104 : decode cX3_adjustDecimal 104 = .ok (.ior, 1) := by decide +kernel
theorem dX3_adjustDecimal_105 : decode cX3_adjustDecimal 105 = .ok (.putfield 13, 3) := by decide +kernel
theorem dX3_adjustDecimal_108 : decode cX3_adjustDecimal 108 = .ok (.return_, 1) := by decide +kernel
set_option maxRecDepth 20000 in
theorem ggX3_executeSingle_X3_fetch : GoodIn wsX3_executeSingle wsX3_fetch := goodIn_r _ [10, 11, 5, 12, 13, 14, 15, 16, 17, 18, 19, 20, 78, 79, 80, 81, 82, 83, 84, 85, 86, 87, 88] (by decide +kernel) (by decide +kernel)
set_option maxRecDepth 20000 in
theorem gX3_executeSingle_X3_fetch : GoodIn wsX3_executeSingle (wsV RX3 45 RX3 yX3_fetch wsX3_fetch) := goodIn_app (goodIn_of _ (by decide +kernel)) ggX3_executeSingle_X3_fetch
set_option maxRecDepth 20000 in
theorem ggX3_executeSingle_X2_out : GoodIn wsX3_executeSingle wsX2_out := goodIn_r _ [25, 26, 27, 28, 29, 30, 31, 24, 32, 33, 34, 89, 90, 91, 92, 93, 94] (by decide +kernel) (by decide +kernel)
set_option maxRecDepth 20000 in
theorem gX3_executeSingle_X2_out : GoodIn wsX3_executeSingle (wsV RX3 152 RX2 yX2_out wsX2_out) := goodIn_app (goodIn_of _ (by decide +kernel)) ggX3_executeSingle_X2_out
set_option maxRecDepth 20000 in
theorem ggX3_executeSingle_X2_in : GoodIn wsX3_executeSingle wsX2_in := goodIn_r _ [38, 39, 40, 41, 42, 24, 43, 27, 26, 89, 90, 91, 92, 93, 94] (by decide +kernel) (by decide +kernel)
set_option maxRecDepth 20000 in
theorem gX3_executeSingle_X2_in : GoodIn wsX3_executeSingle (wsV RX3 157 RX2 yX2_in wsX2_in) := goodIn_app (goodIn_of _ (by decide +kernel)) ggX3_executeSingle_X2_in
set_option maxRecDepth 20000 in
theorem ggX3_executeSingle_X3_pairAt : GoodIn wsX3_executeSingle wsX3_pairAt := goodIn_r _ [47, 2, 78, 79, 80, 81, 82, 83, 84, 85, 86] (by decide +kernel) (by decide +kernel)
set_option maxRecDepth 20000 in
theorem gX3_executeSingle_X3_pairAt : GoodIn wsX3_executeSingle (wsV RX3 120 RX3 yX3_pairAt wsX3_pairAt) := goodIn_app (goodIn_of _ (by decide +kernel)) ggX3_executeSingle_X3_pairAt
set_option maxRecDepth 20000 in
theorem ggX3_executeSingle_X3_exchangeTop : GoodIn wsX3_executeSingle wsX3_exchangeTop := goodIn_r _ [51, 11, 52, 53, 54, 55, 16, 56, 57, 14, 15, 17, 18, 19, 20, 58, 59, 60, 61, 62, 63, 64, 65, 78, 79, 80, 81, 82, 83, 84, 85, 86, 87, 88] (by decide +kernel) (by decide +kernel)
set_option maxRecDepth 20000 in
theorem gX3_executeSingle_X3_exchangeTop : GoodIn wsX3_executeSingle (wsV RX3 160 RX3 yX3_exchangeTop wsX3_exchangeTop) := goodIn_app (goodIn_of _ (by decide +kernel)) ggX3_executeSingle_X3_exchangeTop
set_option maxRecDepth 20000 in
theorem ggX3_executeSingle_X3_setPairAt : GoodIn wsX3_executeSingle wsX3_setPairAt := goodIn_r _ [69, 2, 78, 79, 80, 81, 82, 83, 84, 85, 86] (by decide +kernel) (by decide +kernel)
set_option maxRecDepth 20000 in
theorem gX3_executeSingle_X3_setPairAt : GoodIn wsX3_executeSingle (wsV RX3 137 RX3 yX3_setPairAt wsX3_setPairAt) := goodIn_app (goodIn_of _ (by decide +kernel)) ggX3_executeSingle_X3_setPairAt
set_option maxRecDepth 20000 in
theorem ggX3_executeSingle_X3_exchangePairs : GoodIn wsX3_executeSingle wsX3_exchangePairs := goodIn_r _ [73, 44, 45, 46, 9, 47, 2, 66, 67, 68, 69, 78, 79, 80, 81, 82, 83, 84, 85, 86] (by decide +kernel) (by decide +kernel)
set_option maxRecDepth 20000 in
theorem gX3_executeSingle_X3_exchangePairs : GoodIn wsX3_executeSingle (wsV RX3 163 RX3 yX3_exchangePairs wsX3_exchangePairs) := goodIn_app (goodIn_of _ (by decide +kernel)) ggX3_executeSingle_X3_exchangePairs
set_option maxRecDepth 20000 in
theorem ggX3_executeSingle_X3_fetchWord : GoodIn wsX3_executeSingle wsX3_fetchWord := goodIn_r _ [77, 11, 5, 12, 53, 54, 55, 16, 56, 57, 14, 15, 17, 18, 19, 20, 78, 79, 80, 81, 82, 83, 84, 85, 86, 87, 88] (by decide +kernel) (by decide +kernel)
set_option maxRecDepth 20000 in
theorem gX3_executeSingle_X3_fetchWord : GoodIn wsX3_executeSingle (wsV RX3 75 RX3 yX3_fetchWord wsX3_fetchWord) := goodIn_app (goodIn_of _ (by decide +kernel)) ggX3_executeSingle_X3_fetchWord
theorem dX3_executeSingle_0 : decode cX3_executeSingle 0 = .ok (.iload_n 1, 1) := by decide +kernel
theorem dX3_executeSingle_1 : decode cX3_executeSingle 1 = .ok (.tableswitch 137 2 7 #[39, 60, 81, 98, 105, 118], 39) := by decide +kernel
theorem dX3_executeSingle_40 : decode cX3_executeSingle 40 = .ok (.aload_n 0, 1) := by decide +kernel
theorem dX3_executeSingle_41 : decode cX3_executeSingle 41 = .ok (.getfield 21, 3) := by decide +kernel
theorem dX3_executeSingle_44 : decode cX3_executeSingle 44 = .ok (.aload_n 0, 1) := by decide +kernel
theorem dX3_executeSingle_45 : decode cX3_executeSingle 45 = .ok (.invokevirtual 45, 3) := by decide +kernel
theorem dX3_executeSingle_48 : decode cX3_executeSingle 48 = .ok (.aload_n 0, 1) := by decide +kernel
theorem dX3_executeSingle_49 : decode cX3_executeSingle 49 = .ok (.getfield 9, 3) := by decide +kernel
theorem dX3_executeSingle_52 : decode cX3_executeSingle 52 = .ok (.bipush 7, 2) := by decide +kernel
theorem dX3_executeSingle_54 : decode cX3_executeSingle 54 = .ok (.iaload, 1) := by decide +kernel
theorem dX3_executeSingle_55 : decode cX3_executeSingle 55 = .ok (.invokevirtual 152, 3) := by decide +kernel
theorem dX3_executeSingle_58 : decode cX3_executeSingle 58 = .ok (.goto 88, 3) := by decide +kernel
theorem dX3_executeSingle_61 : decode cX3_executeSingle 61 = .ok (.aload_n 0, 1) := by decide +kernel
theorem dX3_executeSingle_62 : decode cX3_executeSingle 62 = .ok (.getfield 9, 3) := by decide +kernel
theorem dX3_executeSingle_65 : decode cX3_executeSingle 65 = .ok (.bipush 7, 2) := by decide +kernel
theorem dX3_executeSingle_67 : decode cX3_executeSingle 67 = .ok (.aload_n 0, 1) := by decide +kernel
theorem dX3_executeSingle_68 : decode cX3_executeSingle 68 = .ok (.getfield 21, 3) := by decide +kernel
theorem dX3_executeSingle_71 : decode cX3_executeSingle 71 = .ok (.aload_n 0, 1) := by decide +kernel
theorem dX3_executeSingle_72 : decode cX3_executeSingle 72 = .ok (.invokevirtual 45, 3) := by decide +kernel
theorem dX3_executeSingle_75 : decode cX3_executeSingle 75 = .ok (.invokevirtual 157, 3) := by decide +kernel
theorem dX3_executeSingle_78 : decode cX3_executeSingle 78 = .ok (.iastore, 1) := by decide +kernel
theorem dX3_executeSingle_79 : decode cX3_executeSingle 79 = .ok (.goto 67, 3) := by decide +kernel
theorem dX3_executeSingle_82 : decode cX3_executeSingle 82 = .ok (.aload_n 0, 1) := by decide +kernel
theorem dX3_executeSingle_83 : decode cX3_executeSingle 83 = .ok (.iconst 4, 1) := by decide +kernel
theorem dX3_executeSingle_84 : decode cX3_executeSingle 84 = .ok (.aload_n 0, 1) := by decide +kernel
theorem dX3_executeSingle_85 : decode cX3_executeSingle 85 = .ok (.aload_n 0, 1) := by decide +kernel
theorem dX3_executeSingle_86 : decode cX3_executeSingle 86 = .ok (.iconst 4, 1) := by decide +kernel
theorem dX3_executeSingle_87 : decode cX3_executeSingle 87 = .ok (.invokevirtual 120, 3) := by decide +kernel
theorem dX3_executeSingle_90 : decode cX3_executeSingle 90 = .ok (.invokevirtual 160, 3) := by decide +kernel
theorem dX3_executeSingle_93 : decode cX3_executeSingle 93 = .ok (.invokevirtual 137, 3) := by decide +kernel
theorem dX3_executeSingle_96 : decode cX3_executeSingle 96 = .ok (.goto 50, 3) := by decide +kernel
theorem dX3_executeSingle_99 : decode cX3_executeSingle 99 = .ok (.aload_n 0, 1) := by decide +kernel
theorem dX3_executeSingle_100 : decode cX3_executeSingle 100 = .ok (.invokevirtual 163, 3) := by decide +kernel
theorem dX3_executeSingle_103 : decode cX3_executeSingle 103 = .ok (.goto 43, 3) := by decide +kernel
theorem dX3_executeSingle_106 : decode cX3_executeSingle 106 = .ok (.aload_n 0, 1) := by decide +kernel
theorem dX3_executeSingle_107 : decode cX3_executeSingle 107 = .ok (.iconst 0, 1) := by decide +kernel
theorem dX3_executeSingle_108 : decode cX3_executeSingle 108 = .ok (.putfield 31, 3) := by decide +kernel
theorem dX3_executeSingle_111 : decode cX3_executeSingle 111 = .ok (.aload_n 0, 1) := by decide +kernel
theorem dX3_executeSingle_112 : decode cX3_executeSingle 112 = .ok (.iconst 0, 1) := by decide +kernel
theorem dX3_executeSingle_113 : decode cX3_executeSingle 113 = .ok (.putfield 35, 3) := by decide +kernel
theorem dX3_executeSingle_116 : decode cX3_executeSingle 116 = .ok (.goto 30, 3) := by decide +kernel
theorem dX3_executeSingle_119 : decode cX3_executeSingle 119 = .ok (.aload_n 0, 1) := by decide +kernel
theorem dX3_executeSingle_120 : decode cX3_executeSingle 120 = .ok (.aload_n 0, 1) := by decide +kernel
theorem dX3_executeSingle_121 : decode cX3_executeSingle 121 = .ok (.getfield 31, 3) := by decide +kernel
theorem dX3_executeSingle_124 : decode cX3_executeSingle 124 = .ok (.ifCond .ne 7, 3) := by decide +kernel
theorem dX3_executeSingle_127 : decode cX3_executeSingle 127 = .ok (.iconst 1, 1) := by decide +kernel
theorem dX3_executeSingle_128 : decode cX3_executeSingle 128 = .ok (.goto 4, 3) := by decide +kernel
theorem dX3_executeSingle_131 : decode cX3_executeSingle 131 = .ok (.iconst 0, 1) := by decide +kernel
theorem dX3_executeSingle_132 : decode cX3_executeSingle 132 = .ok (.putfield 35, 3) := by decide +kernel
theorem dX3_executeSingle_135 : decode cX3_executeSingle 135 = .ok (.goto 11, 3) := by decide +kernel
theorem dX3_executeSingle_138 : decode cX3_executeSingle 138 = .ok (.aload_n 0, 1) := by decide +kernel
theorem dX3_executeSingle_139 : decode cX3_executeSingle 139 = .ok (.aload_n 0, 1) := by decide +kernel
theorem dX3_executeSingle_140 : decode cX3_executeSingle 140 = .ok (.invokevirtual 75, 3) := by decide +kernel
theorem dX3_executeSingle_143 : decode cX3_executeSingle 143 = .ok (.putfield 28, 3) := by decide +kernel
theorem dX3_executeSingle_146 : decode cX3_executeSingle 146 = .ok (.return_, 1) := by decide +kernel
set_option maxRecDepth 20000 in
theorem ggX3_exchangeTop_X1_readWord : GoodIn wsX3_exchangeTop wsX1_readWord := goodIn_r _ [7, 8, 9, 10, 6, 11, 12, 13, 14, 32, 33] (by decide +kernel) (by decide +kernel)
set_option maxRecDepth 20000 in
theorem gX3_exchangeTop_X1_readWord : GoodIn wsX3_exchangeTop (wsV RX3 134 RX1 yX1_readWord wsX1_readWord) := goodIn_app (goodIn_of _ (by decide +kernel)) ggX3_exchangeTop_X1_readWord
set_option maxRecDepth 20000 in
theorem ggX3_exchangeTop_X1_writeWord : GoodIn wsX3_exchangeTop wsX1_writeWord := goodIn_r _ [18, 19, 20, 21, 6, 22, 12, 32, 33] (by decide +kernel) (by decide +kernel)
set_option maxRecDepth 20000 in
theorem gX3_exchangeTop_X1_writeWord : GoodIn wsX3_exchangeTop (wsV RX3 131 RX1 yX1_writeWord wsX1_writeWord) := goodIn_app (goodIn_of _ (by decide +kernel)) ggX3_exchangeTop_X1_writeWord
theorem dX3_exchangeTop_0 : decode cX3_exchangeTop 0 = .ok (.aload_n 0, 1) := by decide +kernel
theorem dX3_exchangeTop_1 : decode cX3_exchangeTop 1 = .ok (.getfield 17, 3) := by decide +kernel
theorem dX3_exchangeTop_4 : decode cX3_exchangeTop 4 = .ok (.aload_n 0, 1) := by decide +kernel
theorem dX3_exchangeTop_5 : decode cX3_exchangeTop 5 = .ok (.getfield 25, 3) := by decide +kernel
theorem dX3_exchangeTop_8 : decode cX3_exchangeTop 8 = .ok (.invokevirtual 134, 3) := by decide +kernel
theorem dX3_exchangeTop_11 : decode cX3_exchangeTop 11 = .ok (.istore_n 2, 1) := by decide +kernel
theorem dX3_exchangeTop_12 : decode cX3_exchangeTop 12 = .ok (.aload_n 0, 1) := by decide +kernel
theorem dX3_exchangeTop_13 : decode cX3_exchangeTop 13 = .ok (.getfield 17, 3) := by decide +kernel
theorem dX3_exchangeTop_16 : decode cX3_exchangeTop 16 = .ok (.aload_n 0, 1) := by decide +kernel
theorem dX3_exchangeTop_17 : decode cX3_exchangeTop 17 = .ok (.getfield 25, 3) := by decide +kernel
theorem dX3_exchangeTop_20 : decode cX3_exchangeTop 20 = .ok (.iload_n 1, 1) := by decide +kernel
theorem dX3_exchangeTop_21 : decode cX3_exchangeTop 21 = .ok (.invokevirtual 131, 3) := by decide +kernel
theorem dX3_exchangeTop_24 : decode cX3_exchangeTop 24 = .ok (.iload_n 2, 1) := by decide +kernel
theorem dX3_exchangeTop_25 : decode cX3_exchangeTop 25 = .ok (.ireturn, 1) := by decide +kernel
set_option maxRecDepth 20000 in
theorem ggX3_exchangePairs_X3_pairAt : GoodIn wsX3_exchangePairs wsX3_pairAt := goodIn_r _ [5, 6, 11, 12, 13, 14, 15, 16, 17, 18, 19] (by decide +kernel) (by decide +kernel)
set_option maxRecDepth 20000 in
theorem gX3_exchangePairs_X3_pairAt : GoodIn wsX3_exchangePairs (wsV RX3 120 RX3 yX3_pairAt wsX3_pairAt) := goodIn_app (goodIn_of _ (by decide +kernel)) ggX3_exchangePairs_X3_pairAt
set_option maxRecDepth 20000 in
theorem ggX3_exchangePairs_X3_setPairAt : GoodIn wsX3_exchangePairs wsX3_setPairAt := goodIn_r _ [10, 6, 11, 12, 13, 14, 15, 16, 17, 18, 19] (by decide +kernel) (by decide +kernel)
set_option maxRecDepth 20000 in
theorem gX3_exchangePairs_X3_setPairAt : GoodIn wsX3_exchangePairs (wsV RX3 137 RX3 yX3_setPairAt wsX3_setPairAt) := goodIn_app (goodIn_of _ (by decide +kernel)) ggX3_exchangePairs_X3_setPairAt
theorem dX3_exchangePairs_0 : decode cX3_exchangePairs 0 = .ok (.aload_n 0, 1) := by decide +kernel
theorem dX3_exchangePairs_1 : decode cX3_exchangePairs 1 = .ok (.iconst 2, 1) := by decide +kernel
theorem dX3_exchangePairs_2 : decode cX3_exchangePairs 2 = .ok (.invokevirtual 120, 3) := by decide +kernel
theorem dX3_exchangePairs_5 : decode cX3_exchangePairs 5 = .ok (.istore_n 1, 1) := by decide +kernel
theorem dX3_exchangePairs_6 : decode cX3_exchangePairs 6 = .ok (.aload_n 0, 1) := by decide +kernel
theorem dX3_exchangePairs_7 : decode cX3_exchangePairs 7 = .ok (.iconst 2, 1) := by decide +kernel
theorem dX3_exchangePairs_8 : decode cX3_exchangePairs 8 = .ok (.aload_n 0, 1) := by decide +kernel
theorem dX3_exchangePairs_9 : decode cX3_exchangePairs 9 = .ok (.iconst 4, 1) := by decide +kernel
theorem dX3_exchangePairs_10 : decode cX3_exchangePairs 10 = .ok (.invokevirtual 120, 3) := by decide +kernel
theorem dX3_exchangePairs_13 : decode cX3_exchangePairs 13 = .ok (.invokevirtual 137, 3) := by decide +kernel
theorem dX3_exchangePairs_16 : decode cX3_exchangePairs 16 = .ok (.aload_n 0, 1) := by decide +kernel
theorem dX3_exchangePairs_17 : decode cX3_exchangePairs 17 = .ok (.iconst 4, 1) := by decide +kernel
theorem dX3_exchangePairs_18 : decode cX3_exchangePairs 18 = .ok (.iload_n 1, 1) := by decide +kernel
theorem dX3_exchangePairs_19 : decode cX3_exchangePairs 19 = .ok (.invokevirtual 137, 3) := by decide +kernel
theorem dX3_exchangePairs_22 : decode cX3_exchangePairs 22 = .ok (.return_, 1) := by decide +kernel
set_option maxRecDepth 20000 in
theorem ggX3_popOrReturn_X3_pop : GoodIn wsX3_popOrReturn wsX3_pop := goodIn_r _ [7, 8, 2, 9, 10, 11, 12, 13, 14, 15, 16, 17, 18, 19, 20, 21, 36, 37, 38, 39, 40, 41, 42, 43, 44, 45, 46] (by decide +kernel) (by decide +kernel)
set_option maxRecDepth 20000 in
theorem gX3_popOrReturn_X3_pop : GoodIn wsX3_popOrReturn (wsV RX3 166 RX3 yX3_pop wsX3_pop) := goodIn_app (goodIn_of _ (by decide +kernel)) ggX3_popOrReturn_X3_pop
set_option maxRecDepth 20000 in
theorem ggX3_popOrReturn_X3_pairAt : GoodIn wsX3_popOrReturn wsX3_pairAt := goodIn_r _ [25, 26, 36, 37, 38, 39, 40, 41, 42, 43, 44] (by decide +kernel) (by decide +kernel)
set_option maxRecDepth 20000 in
theorem gX3_popOrReturn_X3_pairAt : GoodIn wsX3_popOrReturn (wsV RX3 120 RX3 yX3_pairAt wsX3_pairAt) := goodIn_app (goodIn_of _ (by decide +kernel)) ggX3_popOrReturn_X3_pairAt
set_option maxRecDepth 20000 in
theorem ggX3_popOrReturn_X3_setStatusWord : GoodIn wsX3_popOrReturn wsX3_setStatusWord := goodIn_r _ [30, 26, 31, 36, 37, 38, 39, 40, 41, 42, 43, 44] (by decide +kernel) (by decide +kernel)
set_option maxRecDepth 20000 in
theorem gX3_popOrReturn_X3_setStatusWord : GoodIn wsX3_popOrReturn (wsV RX3 169 RX3 yX3_setStatusWord wsX3_setStatusWord) := goodIn_app (goodIn_of _ (by decide +kernel)) ggX3_popOrReturn_X3_setStatusWord
set_option maxRecDepth 20000 in
theorem ggX3_popOrReturn_X3_setPairAt : GoodIn wsX3_popOrReturn wsX3_setPairAt := goodIn_r _ [35, 26, 36, 37, 38, 39, 40, 41, 42, 43, 44] (by decide +kernel) (by decide +kernel)
set_option maxRecDepth 20000 in
theorem gX3_popOrReturn_X3_setPairAt : GoodIn wsX3_popOrReturn (wsV RX3 137 RX3 yX3_setPairAt wsX3_setPairAt) := goodIn_app (goodIn_of _ (by decide +kernel)) ggX3_popOrReturn_X3_setPairAt
theorem dX3_popOrReturn_0 : decode cX3_popOrReturn 0 = .ok (.iload_n 1, 1) := by decide +kernel
theorem dX3_popOrReturn_1 : decode cX3_popOrReturn 1 = .ok (.tableswitch 100 1 7 #[43, 100, 54, 100, 65, 77, 88], 43) := by decide +kernel
theorem dX3_popOrReturn_44 : decode cX3_popOrReturn 44 = .ok (.aload_n 0, 1) := by decide +kernel
theorem dX3_popOrReturn_45 : decode cX3_popOrReturn 45 = .ok (.aload_n 0, 1) := by decide +kernel
theorem dX3_popOrReturn_46 : decode cX3_popOrReturn 46 = .ok (.invokevirtual 166, 3) := by decide +kernel
theorem dX3_popOrReturn_49 : decode cX3_popOrReturn 49 = .ok (.putfield 28, 3) := by decide +kernel
theorem dX3_popOrReturn_52 : decode cX3_popOrReturn 52 = .ok (.goto 58, 3) := by decide +kernel
theorem dX3_popOrReturn_55 : decode cX3_popOrReturn 55 = .ok (.aload_n 0, 1) := by decide +kernel
theorem dX3_popOrReturn_56 : decode cX3_popOrReturn 56 = .ok (.aload_n 0, 1) := by decide +kernel
theorem dX3_popOrReturn_57 : decode cX3_popOrReturn 57 = .ok (.invokevirtual 166, 3) := by decide +kernel
theorem dX3_popOrReturn_60 : decode cX3_popOrReturn 60 = .ok (.putfield 28, 3) := by decide +kernel
theorem dX3_popOrReturn_63 : decode cX3_popOrReturn 63 = .ok (.goto 47, 3) := by decide +kernel
theorem dX3_popOrReturn_66 : decode cX3_popOrReturn 66 = .ok (.aload_n 0, 1) := by decide +kernel
theorem dX3_popOrReturn_67 : decode cX3_popOrReturn 67 = .ok (.aload_n 0, 1) := by decide +kernel
theorem dX3_popOrReturn_68 : decode cX3_popOrReturn 68 = .ok (.iconst 4, 1) := by decide +kernel
theorem dX3_popOrReturn_69 : decode cX3_popOrReturn 69 = .ok (.invokevirtual 120, 3) := by decide +kernel
theorem dX3_popOrReturn_72 : decode cX3_popOrReturn 72 = .ok (.putfield 28, 3) := by decide +kernel
theorem dX3_popOrReturn_75 : decode cX3_popOrReturn 75 = .ok (.goto 35, 3) := by decide +kernel
theorem dX3_popOrReturn_78 : decode cX3_popOrReturn 78 = .ok (.aload_n 0, 1) := by decide +kernel
theorem dX3_popOrReturn_79 : decode cX3_popOrReturn 79 = .ok (.aload_n 0, 1) := by decide +kernel
theorem dX3_popOrReturn_80 : decode cX3_popOrReturn 80 = .ok (.invokevirtual 166, 3) := by decide +kernel
theorem dX3_popOrReturn_83 : decode cX3_popOrReturn 83 = .ok (.invokevirtual 169, 3) := by decide +kernel
theorem dX3_popOrReturn_86 : decode cX3_popOrReturn 86 = .ok (.goto 24, 3) := by decide +kernel
theorem dX3_popOrReturn_89 : decode cX3_popOrReturn 89 = .ok (.aload_n 0, 1) := by decide +kernel
theorem dX3_popOrReturn_90 : decode cX3_popOrReturn 90 = .ok (.aload_n 0, 1) := by decide +kernel
theorem dX3_popOrReturn_91 : decode cX3_popOrReturn 91 = .ok (.iconst 4, 1) := by decide +kernel
theorem dX3_popOrReturn_92 : decode cX3_popOrReturn 92 = .ok (.invokevirtual 120, 3) := by decide +kernel
theorem dX3_popOrReturn_95 : decode cX3_popOrReturn 95 = .ok (.putfield 25, 3) := by decide +kernel
theorem dX3_popOrReturn_98 : decode cX3_popOrReturn 98 = .ok (.goto 12, 3) := by decide +kernel
theorem dX3_popOrReturn_101 : decode cX3_popOrReturn 101 = .ok (.aload_n 0, 1) := by decide +kernel
theorem dX3_popOrReturn_102 : decode cX3_popOrReturn 102 = .ok (.iload_n 1, 1) := by decide +kernel
theorem dX3_popOrReturn_103 : decode cX3_popOrReturn 103 = .ok (.aload_n 0, 1) := by decide +kernel
theorem dX3_popOrReturn_104 : decode cX3_popOrReturn 104 = .ok (.invokevirtual 166, 3) := by decide +kernel
theorem dX3_popOrReturn_107 : decode cX3_popOrReturn 107 = .ok (.invokevirtual 137, 3) := by decide +kernel
theorem dX3_popOrReturn_110 : decode cX3_popOrReturn 110 = .ok (.return_, 1) := by decide +kernel
theorem dX3_statusWord_0 : decode cX3_statusWord 0 = .ok (.aload_n 0, 1) := by decide +kernel
theorem dX3_statusWord_1 : decode cX3_statusWord 1 = .ok (.getfield 9, 3) := by decide +kernel
theorem dX3_statusWord_4 : decode cX3_statusWord 4 = .ok (.bipush 7, 2) := by decide +kernel
theorem dX3_statusWord_6 : decode cX3_statusWord 6 = .ok (.iaload, 1) := by decide +kernel
theorem dX3_statusWord_7 : decode cX3_statusWord 7 = .ok (.bipush 8, 2) := by decide +kernel
theorem dX3_statusWord_9 : decode cX3_statusWord 9 = .ok (.ishl, 1) := by decide +kernel
theorem dX3_statusWord_10 : decode cX3_statusWord 10 = .ok (.aload_n 0, 1) := by decide +kernel
theorem dX3_statusWord_11 : decode cX3_statusWord 11 = .ok (.getfield 13, 3) := by decide +kernel
theorem dX3_statusWord_14 : decode cX3_statusWord 14 = .ok (.ior, 1) := by decide +kernel
theorem dX3_statusWord_15 : decode cX3_statusWord 15 = .ok (.ireturn, 1) := by decide +kernel
theorem dX3_setStatusWord_0 : decode cX3_setStatusWord 0 = .ok (.aload_n 0, 1) := by decide +kernel
theorem dX3_setStatusWord_1 : decode cX3_setStatusWord 1 = .ok (.getfield 9, 3) := by decide +kernel
theorem dX3_setStatusWord_4 : decode cX3_setStatusWord 4 = .ok (.bipush 7, 2) := by decide +kernel
theorem dX3_setStatusWord_6 : decode cX3_setStatusWord 6 = .ok (.iload_n 1, 1) := by decide +kernel
theorem dX3_setStatusWord_7 : decode cX3_setStatusWord 7 = .ok (.bipush 8, 2) := by decide +kernel
theorem dX3_setStatusWord_9 : decode cX3_setStatusWord 9 = .ok (.ishr, 1) := by decide +kernel
theorem dX3_setStatusWord_10 : decode cX3_setStatusWord 10 = .ok (.sipush 255, 3) := by decide +kernel
theorem dX3_setStatusWord_13 : decode cX3_setStatusWord 13 = .ok (.iand, 1) := by decide +kernel
theorem dX3_setStatusWord_14 : decode cX3_setStatusWord 14 = .ok (.iastore, 1) := by decide +kernel
theorem dX3_setStatusWord_15 : decode cX3_setStatusWord 15 = .ok (.aload_n 0, 1) := by decide +kernel
theorem dX3_setStatusWord_16 : decode cX3_setStatusWord 16 = .ok (.iload_n 1, 1) := by decide +kernel
theorem dX3_setStatusWord_17 : decode cX3_setStatusWord 17 = .ok (.sipush 213, 3) := by decide +kernel
theorem dX3_setStatusWord_20 : decode cX3_setStatusWord 20 = .ok (.iand, 1) := by decide +kernel
theorem dX3_setStatusWord_21 : decode cX3_setStatusWord 21 = .ok (.iconst 2, 1) := by decide +kernel
theorem dX3_setStatusWord_22 : decode cX3_setStatusWord 22 = .ok (.ior, 1) := by decide +kernel
theorem dX3_setStatusWord_23 : decode cX3_setStatusWord 23 = .ok (.putfield 13, 3) := by decide +kernel
theorem dX3_setStatusWord_26 : decode cX3_setStatusWord 26 = .ok (.return_, 1) := by decide +kernel
set_option maxRecDepth 20000 in
theorem ggX3_returnIf_X3_pop : GoodIn wsX3_returnIf wsX3_pop := goodIn_r _ [6, 7, 8, 9, 10, 11, 12, 13, 14, 15, 16, 17, 18, 19, 20, 21, 22, 23, 24, 25, 26, 27, 28, 29, 30, 31, 32] (by decide +kernel) (by decide +kernel)
set_option maxRecDepth 20000 in
theorem gX3_returnIf_X3_pop : GoodIn wsX3_returnIf (wsV RX3 166 RX3 yX3_pop wsX3_pop) := goodIn_app (goodIn_of _ (by decide +kernel)) ggX3_returnIf_X3_pop
theorem dX3_returnIf_0 : decode cX3_returnIf 0 = .ok (.iload_n 1, 1) := by decide +kernel
theorem dX3_returnIf_1 : decode cX3_returnIf 1 = .ok (.ifCond .ne 5, 3) := by decide +kernel
theorem dX3_returnIf_4 : decode cX3_returnIf 4 = .ok (.iconst 0, 1) := by decide +kernel
theorem dX3_returnIf_5 : decode cX3_returnIf 5 = .ok (.ireturn, 1) := by decide +kernel
theorem dX3_returnIf_6 : decode cX3_returnIf 6 = .ok (.aload_n 0, 1) := by decide +kernel
theorem dX3_returnIf_7 : decode cX3_returnIf 7 = .ok (.aload_n 0, 1) := by decide +kernel
theorem dX3_returnIf_8 : decode cX3_returnIf 8 = .ok (.invokevirtual 166, 3) := by decide +kernel
theorem dX3_returnIf_11 : decode cX3_returnIf 11 = .ok (.putfield 28, 3) := by decide +kernel
theorem dX3_returnIf_14 : decode cX3_returnIf 14 = .ok (.bipush 6, 2) := by decide +kernel
theorem dX3_returnIf_16 : decode cX3_returnIf 16 = .ok (.ireturn, 1) := by decide +kernel
set_option maxRecDepth 20000 in
theorem ggX3_jumpIf_X3_fetchWord : GoodIn wsX3_jumpIf wsX3_fetchWord := goodIn_r _ [6, 7, 1, 8, 9, 10, 11, 12, 13, 14, 15, 16, 17, 18, 19, 20, 21, 22, 23, 24, 25, 26, 27, 28, 29, 30, 31] (by decide +kernel) (by decide +kernel)
set_option maxRecDepth 20000 in
theorem gX3_jumpIf_X3_fetchWord : GoodIn wsX3_jumpIf (wsV RX3 75 RX3 yX3_fetchWord wsX3_fetchWord) := goodIn_app (goodIn_of _ (by decide +kernel)) ggX3_jumpIf_X3_fetchWord
theorem dX3_jumpIf_0 : decode cX3_jumpIf 0 = .ok (.aload_n 0, 1) := by decide +kernel
theorem dX3_jumpIf_1 : decode cX3_jumpIf 1 = .ok (.invokevirtual 75, 3) := by decide +kernel
theorem dX3_jumpIf_4 : decode cX3_jumpIf 4 = .ok (.istore_n 2, 1) := by decide +kernel
theorem dX3_jumpIf_5 : decode cX3_jumpIf 5 = .ok (.iload_n 1, 1) := by decide +kernel
theorem dX3_jumpIf_6 : decode cX3_jumpIf 6 = .ok (.ifCond .eq 8, 3) := by decide +kernel
theorem dX3_jumpIf_9 : decode cX3_jumpIf 9 = .ok (.aload_n 0, 1) := by decide +kernel
theorem dX3_jumpIf_10 : decode cX3_jumpIf 10 = .ok (.iload_n 2, 1) := by decide +kernel
theorem dX3_jumpIf_11 : decode cX3_jumpIf 11 = .ok (.putfield 28, 3) := by decide +kernel
theorem dX3_jumpIf_14 : decode cX3_jumpIf 14 = .ok (.return_, 1) := by decide +kernel
set_option maxRecDepth 20000 in
theorem ggX3_callIf_X3_fetchWord : GoodIn wsX3_callIf wsX3_fetchWord := goodIn_r _ [6, 7, 1, 8, 9, 10, 11, 12, 13, 14, 15, 16, 17, 18, 19, 20, 34, 35, 36, 37, 38, 39, 40, 41, 42, 43, 44] (by decide +kernel) (by decide +kernel)
set_option maxRecDepth 20000 in
theorem gX3_callIf_X3_fetchWord : GoodIn wsX3_callIf (wsV RX3 75 RX3 yX3_fetchWord wsX3_fetchWord) := goodIn_app (goodIn_of _ (by decide +kernel)) ggX3_callIf_X3_fetchWord
set_option maxRecDepth 20000 in
theorem ggX3_callIf_X3_push : GoodIn wsX3_callIf wsX3_push := goodIn_r _ [24, 25, 8, 7, 26, 27, 28, 12, 29, 30, 31, 32, 33, 18, 34, 35, 36, 37, 38, 39, 40, 41, 42, 43, 44] (by decide +kernel) (by decide +kernel)
set_option maxRecDepth 20000 in
theorem gX3_callIf_X3_push : GoodIn wsX3_callIf (wsV RX3 41 RX3 yX3_push wsX3_push) := goodIn_app (goodIn_of _ (by decide +kernel)) ggX3_callIf_X3_push
theorem dX3_callIf_0 : decode cX3_callIf 0 = .ok (.aload_n 0, 1) := by decide +kernel
theorem dX3_callIf_1 : decode cX3_callIf 1 = .ok (.invokevirtual 75, 3) := by decide +kernel
theorem dX3_callIf_4 : decode cX3_callIf 4 = .ok (.istore_n 2, 1) := by decide +kernel
theorem dX3_callIf_5 : decode cX3_callIf 5 = .ok (.iload_n 1, 1) := by decide +kernel
theorem dX3_callIf_6 : decode cX3_callIf 6 = .ok (.ifCond .ne 5, 3) := by decide +kernel
theorem dX3_callIf_9 : decode cX3_callIf 9 = .ok (.iconst 0, 1) := by decide +kernel
theorem dX3_callIf_10 : decode cX3_callIf 10 = .ok (.ireturn, 1) := by decide +kernel
theorem dX3_callIf_11 : decode cX3_callIf 11 = .ok (.aload_n 0, 1) := by decide +kernel
theorem dX3_callIf_12 : decode cX3_callIf 12 = .ok (.aload_n 0, 1) := by decide +kernel
theorem dX3_callIf_13 : decode cX3_callIf 13 = .ok (.getfield 28, 3) := by decide +kernel
theorem dX3_callIf_16 : decode cX3_callIf 16 = .ok (.invokevirtual 41, 3) := by decide +kernel
theorem dX3_callIf_19 : decode cX3_callIf 19 = .ok (.aload_n 0, 1) := by decide +kernel
theorem dX3_callIf_20 : decode cX3_callIf 20 = .ok (.iload_n 2, 1) := by decide +kernel
theorem dX3_callIf_21 : decode cX3_callIf 21 = .ok (.putfield 28, 3) := by decide +kernel
theorem dX3_callIf_24 : decode cX3_callIf 24 = .ok (.bipush 6, 2) := by decide +kernel
theorem dX3_callIf_26 : decode cX3_callIf 26 = .ok (.ireturn, 1) := by decide +kernel
theorem dX3_holds_0 : decode cX3_holds 0 = .ok (.iload_n 1, 1) := by decide +kernel
theorem dX3_holds_1 : decode cX3_holds 1 = .ok (.iconst 1, 1) := by decide +kernel
theorem dX3_holds_2 : decode cX3_holds 2 = .ok (.ishr, 1) := by decide +kernel
theorem dX3_holds_3 : decode cX3_holds 3 = .ok (.tableswitch 41 0 2 #[25, 31, 36], 25) := by decide +kernel
theorem dX3_holds_28 : decode cX3_holds 28 = .ok (.bipush 64, 2) := by decide +kernel
theorem dX3_holds_30 : decode cX3_holds 30 = .ok (.istore_n 2, 1) := by decide +kernel
theorem dX3_holds_31 : decode cX3_holds 31 = .ok (.goto 17, 3) := by decide +kernel
theorem dX3_holds_34 : decode cX3_holds 34 = .ok (.iconst 1, 1) := by decide +kernel
theorem dX3_holds_35 : decode cX3_holds 35 = .ok (.istore_n 2, 1) := by decide +kernel
theorem dX3_holds_36 : decode cX3_holds 36 = .ok (.goto 12, 3) := by decide +kernel
theorem dX3_holds_39 : decode cX3_holds 39 = .ok (.iconst 4, 1) := by decide +kernel
theorem dX3_holds_40 : decode cX3_holds 40 = .ok (.istore_n 2, 1) := by decide +kernel
theorem dX3_holds_41 : decode cX3_holds 41 = .ok (.goto 7, 3) := by decide +kernel
theorem dX3_holds_44 : decode cX3_holds 44 = .ok (.sipush 128, 3) := by decide +kernel
theorem dX3_holds_47 : decode cX3_holds 47 = .ok (.istore_n 2, 1) := by decide +kernel
theorem dX3_holds_48 : decode cX3_holds 48 = .ok (.iload_n 1, 1) := by decide +kernel
theorem dX3_holds_49 : decode cX3_holds 49 = .ok (.iconst 1, 1) := by decide +kernel
theorem dX3_holds_50 : decode cX3_holds 50 = .ok (.iand, 1) := by decide +kernel
theorem dX3_holds_51 : decode cX3_holds 51 = .ok (.ifCond .eq 7, 3) := by decide +kernel
theorem dX3_holds_54 : decode cX3_holds 54 = .ok (.iconst 1, 1) := by decide +kernel
theorem dX3_holds_55 : decode cX3_holds 55 = .ok (.goto 4, 3) := by decide +kernel
theorem dX3_holds_58 : decode cX3_holds 58 = .ok (.iconst 0, 1) := by decide +kernel
theorem dX3_holds_59 : decode cX3_holds 59 = .ok (.istore_n 3, 1) := by decide +kernel
theorem dX3_holds_60 : decode cX3_holds 60 = .ok (.aload_n 0, 1) := by decide +kernel
theorem dX3_holds_61 : decode cX3_holds 61 = .ok (.getfield 13, 3) := by decide +kernel
theorem dX3_holds_64 : decode cX3_holds 64 = .ok (.iload_n 2, 1) := by decide +kernel
theorem dX3_holds_65 : decode cX3_holds 65 = .ok (.iand, 1) := by decide +kernel
theorem dX3_holds_66 : decode cX3_holds 66 = .ok (.ifCond .eq 7, 3) := by decide +kernel
theorem dX3_holds_69 : decode cX3_holds 69 = .ok (.iconst 1, 1) := by decide +kernel
theorem dX3_holds_70 : decode cX3_holds 70 = .ok (.goto 4, 3) := by decide +kernel
theorem dX3_holds_73 : decode cX3_holds 73 = .ok (.iconst 0, 1) := by decide +kernel
theorem dX3_holds_74 : decode cX3_holds 74 = .ok (.iload_n 3, 1) := by decide +kernel
theorem dX3_holds_75 : decode cX3_holds 75 = .ok (.if_icmp .ne 7, 3) := by decide +kernel
theorem dX3_holds_78 : decode cX3_holds 78 = .ok (.iconst 1, 1) := by decide +kernel
theorem dX3_holds_79 : decode cX3_holds 79 = .ok (.goto 4, 3) := by decide +kernel
theorem dX3_holds_82 : decode cX3_holds 82 = .ok (.iconst 0, 1) := by decide +kernel
theorem dX3_holds_83 : decode cX3_holds 83 = .ok (.ireturn, 1) := by decide +kernel
set_option maxRecDepth 20000 in
theorem ggX3_calculate_X3_add : GoodIn wsX3_calculate wsX3_add := goodIn_r _ [7, 2, 8, 9, 6, 10, 11, 12, 13, 14, 15, 16, 17, 22, 23, 24, 25, 26, 27, 28, 29, 30] (by decide +kernel) (by decide +kernel)
set_option maxRecDepth 20000 in
theorem gX3_calculate_X3_add : GoodIn wsX3_calculate (wsV RX3 172 RX3 yX3_add wsX3_add) := goodIn_app (goodIn_of _ (by decide +kernel)) ggX3_calculate_X3_add
set_option maxRecDepth 20000 in
theorem ggX3_calculate_X3_setLogical : GoodIn wsX3_calculate wsX3_setLogical := goodIn_r _ [21, 1, 2, 8, 9, 6, 10, 11, 12, 13, 14, 15, 16, 17, 22, 23, 24, 25, 26, 27, 28, 29, 30] (by decide +kernel) (by decide +kernel)
set_option maxRecDepth 20000 in
theorem gX3_calculate_X3_setLogical : GoodIn wsX3_calculate (wsV RX3 176 RX3 yX3_setLogical wsX3_setLogical) := goodIn_app (goodIn_of _ (by decide +kernel)) ggX3_calculate_X3_setLogical
theorem dX3_calculate_0 : decode cX3_calculate 0 = .ok (.aload_n 0, 1) := by decide +kernel
theorem dX3_calculate_1 : decode cX3_calculate 1 = .ok (.getfield 9, 3) := by decide +kernel
theorem dX3_calculate_4 : decode cX3_calculate 4 = .ok (.bipush 7, 2) := by decide +kernel
theorem dX3_calculate_6 : decode cX3_calculate 6 = .ok (.iaload, 1) := by decide +kernel
theorem dX3_calculate_7 : decode cX3_calculate 7 = .ok (.istore_n 3, 1) := by decide +kernel
theorem dX3_calculate_8 : decode cX3_calculate 8 = .ok (.aload_n 0, 1) := by decide +kernel
theorem dX3_calculate_9 : decode cX3_calculate 9 = .ok (.getfield 13, 3) := by decide +kernel
theorem dX3_calculate_12 : decode cX3_calculate 12 = .ok (.iconst 1, 1) := by decide +kernel
theorem dX3_calculate_13 : decode cX3_calculate 13 = .ok (.iand, 1) := by decide +kernel
theorem dX3_calculate_14 : decode cX3_calculate 14 = .ok (.istore 4, 2) := by decide +kernel
theorem dX3_calculate_16 : decode cX3_calculate 16 = .ok (.iload_n 1, 1) := by decide +kernel
theorem dX3_calculate_17 : decode cX3_calculate 17 = .ok (.bipush 7, 2) := by decide +kernel
theorem dX3_calculate_19 : decode cX3_calculate 19 = .ok (.iand, 1) := by decide +kernel
theorem dX3_calculate_20 : decode cX3_calculate 20 = .ok (.tableswitch 168 0 6 #[44, 62, 81, 103, 128, 146, 157], 44) := by decide +kernel
theorem dX3_calculate_64 : decode cX3_calculate 64 = .ok (.aload_n 0, 1) := by decide +kernel
theorem dX3_calculate_65 : decode cX3_calculate 65 = .ok (.getfield 9, 3) := by decide +kernel
theorem dX3_calculate_68 : decode cX3_calculate 68 = .ok (.bipush 7, 2) := by decide +kernel
theorem dX3_calculate_70 : decode cX3_calculate 70 = .ok (.aload_n 0, 1) := by decide +kernel
theorem dX3_calculate_71 : decode cX3_calculate 71 = .ok (.iload_n 3, 1) := by decide +kernel
theorem dX3_calculate_72 : decode cX3_calculate 72 = .ok (.iload_n 2, 1) := by decide +kernel
theorem dX3_calculate_73 : decode cX3_calculate 73 = .ok (.iconst 0, 1) := by decide +kernel
theorem dX3_calculate_74 : decode cX3_calculate 74 = .ok (.iconst 0, 1) := by decide +kernel
theorem dX3_calculate_75 : decode cX3_calculate 75 = .ok (.invokevirtual 172, 3) := by decide +kernel
theorem dX3_calculate_78 : decode cX3_calculate 78 = .ok (.iastore, 1) := by decide +kernel
theorem dX3_calculate_79 : decode cX3_calculate 79 = .ok (.goto 122, 3) := by decide +kernel
theorem dX3_calculate_82 : decode cX3_calculate 82 = .ok (.aload_n 0, 1) := by decide +kernel
theorem dX3_calculate_83 : decode cX3_calculate 83 = .ok (.getfield 9, 3) := by decide +kernel
theorem dX3_calculate_86 : decode cX3_calculate 86 = .ok (.bipush 7, 2) := by decide +kernel
theorem dX3_calculate_88 : decode cX3_calculate 88 = .ok (.aload_n 0, 1) := by decide +kernel
theorem dX3_calculate_89 : decode cX3_calculate 89 = .ok (.iload_n 3, 1) := by decide +kernel
theorem dX3_calculate_90 : decode cX3_calculate 90 = .ok (.iload_n 2, 1) := by decide +kernel
theorem dX3_calculate_91 : decode cX3_calculate 91 = .ok (.iload 4, 2) := by decide +kernel
theorem dX3_calculate_93 : decode cX3_calculate 93 = .ok (.iconst 0, 1) := by decide +kernel
theorem dX3_calculate_94 : decode cX3_calculate 94 = .ok (.invokevirtual 172, 3) := by decide +kernel
theorem dX3_calculate_97 : decode cX3_calculate 97 = .ok (.iastore, 1) := by decide +kernel
theorem dX3_calculate_98 : decode cX3_calculate 98 = .ok (.goto 103, 3) := by decide +kernel
theorem dX3_calculate_101 : decode cX3_calculate 101 = .ok (.aload_n 0, 1) := by decide +kernel
theorem dX3_calculate_102 : decode cX3_calculate 102 = .ok (.getfield 9, 3) := by decide +kernel
theorem dX3_calculate_105 : decode cX3_calculate 105 = .ok (.bipush 7, 2) := by decide +kernel
theorem dX3_calculate_107 : decode cX3_calculate 107 = .ok (.aload_n 0, 1) := by decide +kernel
theorem dX3_calculate_108 : decode cX3_calculate 108 = .ok (.iload_n 3, 1) := by decide +kernel
theorem dX3_calculate_109 : decode cX3_calculate 109 = .ok (.iload_n 2, 1) := by decide +kernel
theorem dX3_calculate_110 : decode cX3_calculate 110 = .ok (.sipush 255, 3) := by decide +kernel
theorem dX3_calculate_113 : decode cX3_calculate 113 = .ok (.ixor, 1) := by decide +kernel
theorem dX3_calculate_114 : decode cX3_calculate 114 = .ok (.iconst 1, 1) := by decide +kernel
theorem dX3_calculate_115 : decode cX3_calculate 115 = .ok (.iconst 1, 1) := by decide +kernel
theorem dX3_calculate_116 : decode cX3_calculate 116 = .ok (.invokevirtual 172, 3) := by decide +kernel
theorem dX3_calculate_119 : decode cX3_calculate 119 = .ok (.iastore, 1) := by decide +kernel
theorem dX3_calculate_120 : decode cX3_calculate 120 = .ok (.goto 81, 3) := by decide +kernel
theorem dX3_calculate_123 : decode cX3_calculate 123 = .ok (.aload_n 0, 1) := by decide +kernel
theorem dX3_calculate_124 : decode cX3_calculate 124 = .ok (.getfield 9, 3) := by decide +kernel
theorem dX3_calculate_127 : decode cX3_calculate 127 = .ok (.bipush 7, 2) := by decide +kernel
theorem dX3_calculate_129 : decode cX3_calculate 129 = .ok (.aload_n 0, 1) := by decide +kernel
theorem dX3_calculate_130 : decode cX3_calculate 130 = .ok (.iload_n 3, 1) := by decide +kernel
theorem dX3_calculate_131 : decode cX3_calculate 131 = .ok (.iload_n 2, 1) := by decide +kernel
theorem dX3_calculate_132 : decode cX3_calculate 132 = .ok (.sipush 255, 3) := by decide +kernel
theorem dX3_calculate_135 : decode cX3_calculate 135 = .ok (.ixor, 1) := by decide +kernel
theorem dX3_calculate_136 : decode cX3_calculate 136 = .ok (.iconst 1, 1) := by decide +kernel
theorem dX3_calculate_137 : decode cX3_calculate 137 = .ok (.iload 4, 2) := by decide +kernel
theorem dX3_calculate_139 : decode cX3_calculate 139 = .ok (.isub, 1) := by decide +kernel
theorem dX3_calculate_140 : decode cX3_calculate 140 = .ok (.iconst 1, 1) := by decide +kernel
theorem dX3_calculate_141 : decode cX3_calculate 141 = .ok (.invokevirtual 172, 3) := by decide +kernel
theorem dX3_calculate_144 : decode cX3_calculate 144 = .ok (.iastore, 1) := by decide +kernel
theorem dX3_calculate_145 : decode cX3_calculate 145 = .ok (.goto 56, 3) := by decide +kernel
theorem dX3_calculate_148 : decode cX3_calculate 148 = .ok (.aload_n 0, 1) := by decide +kernel
theorem dX3_calculate_149 : decode cX3_calculate 149 = .ok (.iload_n 3, 1) := by decide +kernel
theorem dX3_calculate_150 : decode cX3_calculate 150 = .ok (.iload_n 2, 1) := by decide +kernel
theorem dX3_calculate_151 : decode cX3_calculate 151 = .ok (.iand, 1) := by decide +kernel
theorem dX3_calculate_152 : decode cX3_calculate 152 = .ok (.iload_n 3, 1) := by decide +kernel
theorem dX3_calculate_153 : decode cX3_calculate 153 = .ok (.iload_n 2, 1) := by decide +kernel
theorem dX3_calculate_154 : decode cX3_calculate 154 = .ok (.ior, 1) := by decide +kernel
theorem dX3_calculate_155 : decode cX3_calculate 155 = .ok (.iconst 1, 1) := by decide +kernel
theorem dX3_calculate_156 : decode cX3_calculate 156 = .ok (.ishl, 1) := by decide +kernel
theorem dX3_calculate_157 : decode cX3_calculate 157 = .ok (.bipush 16, 2) := by decide +kernel
theorem dX3_calculate_159 : decode cX3_calculate 159 = .ok (.iand, 1) := by decide +kernel
theorem dX3_calculate_160 : decode cX3_calculate 160 = .ok (.invokevirtual 176, 3) := by decide +kernel
theorem dX3_calculate_163 : decode cX3_calculate 163 = .ok (.goto 38, 3) := by decide +kernel
theorem dX3_calculate_166 : decode cX3_calculate 166 = .ok (.aload_n 0, 1) := by decide +kernel
theorem dX3_calculate_167 : decode cX3_calculate 167 = .ok (.iload_n 3, 1) := by decide +kernel
theorem dX3_calculate_168 : decode cX3_calculate 168 = .ok (.iload_n 2, 1) := by decide +kernel
theorem dX3_calculate_169 : decode cX3_calculate 169 = .ok (.ixor, 1) := by decide +kernel
theorem dX3_calculate_170 : decode cX3_calculate 170 = .ok (.iconst 0, 1) := by decide +kernel
theorem dX3_calculate_171 : decode cX3_calculate 171 = .ok (.invokevirtual 176, 3) := by decide +kernel
theorem dX3_calculate_174 : decode cX3_calculate 174 = .ok (.goto 27, 3) := by decide +kernel
theorem dX3_calculate_177 : decode cX3_calculate 177 = .ok (.aload_n 0, 1) := by decide +kernel
theorem dX3_calculate_178 : decode cX3_calculate 178 = .ok (.iload_n 3, 1) := by decide +kernel
theorem dX3_calculate_179 : decode cX3_calculate 179 = .ok (.iload_n 2, 1) := by decide +kernel
theorem dX3_calculate_180 : decode cX3_calculate 180 = .ok (.ior, 1) := by decide +kernel
theorem dX3_calculate_181 : decode cX3_calculate 181 = .ok (.iconst 0, 1) := by decide +kernel
theorem dX3_calculate_182 : decode cX3_calculate 182 = .ok (.invokevirtual 176, 3) := by decide +kernel
theorem dX3_calculate_185 : decode cX3_calculate 185 = .ok (.goto 16, 3) := by decide +kernel
theorem dX3_calculate_188 : decode cX3_calculate 188 = .ok (.aload_n 0, 1) := by decide +kernel
theorem dX3_calculate_189 : decode cX3_calculate 189 = .ok (.iload_n 3, 1) := by decide +kernel
theorem dX3_calculate_190 : decode cX3_calculate 190 = .ok (.iload_n 2, 1) := by decide +kernel
theorem dX3_calculate_191 : decode cX3_calculate 191 = .ok (.sipush 255, 3) := by decide +kernel
theorem dX3_calculate_194 : decode cX3_calculate 194 = .ok (.ixor, 1) := by decide +kernel
theorem dX3_calculate_195 : decode cX3_calculate 195 = .ok (.iconst 1, 1) := by decide +kernel
theorem dX3_calculate_196 : decode cX3_calculate 196 = .ok (.iconst 1, 1) := by decide +kernel
theorem dX3_calculate_197 : decode cX3_calculate 197 = .ok (.invokevirtual 172, 3) := by decide +kernel
theorem dX3_calculate_200 : decode cX3_calculate 200 = .ok (.pop, 1) := by decide +kernel
theorem dX3_calculate_201 : decode cX3_calculate 201 = .ok (.return_, 1) := by decide +kernel
set_option maxRecDepth 20000 in
theorem ggX3_add_X3_flagsOf : GoodIn wsX3_add wsX3_flagsOf := goodIn_r _ [5, 6, 7, 8, 9, 10, 11, 12] (by decide +kernel) (by decide +kernel)
set_option maxRecDepth 20000 in
theorem gX3_add_X3_flagsOf : GoodIn wsX3_add (va_wsS RX3 149 yX3_flagsOf wsX3_flagsOf) := goodIn_app (goodIn_of _ (by decide +kernel)) ggX3_add_X3_flagsOf
theorem dX3_add_0 : decode cX3_add 0 = .ok (.iload_n 1, 1) := by decide +kernel
theorem dX3_add_1 : decode cX3_add 1 = .ok (.iload_n 2, 1) := by decide +kernel
theorem dX3_add_2 : decode cX3_add 2 = .ok (.iadd, 1) := by decide +kernel
theorem dX3_add_3 : decode cX3_add 3 = .ok (.iload_n 3, 1) := by decide +kernel
theorem dX3_add_4 : decode cX3_add 4 = .ok (.iadd, 1) := by decide +kernel
theorem dX3_add_5 : decode cX3_add 5 = .ok (.istore 5, 2) := by decide +kernel
theorem dX3_add_7 : decode cX3_add 7 = .ok (.iload_n 1, 1) := by decide +kernel
theorem dX3_add_8 : decode cX3_add 8 = .ok (.bipush 15, 2) := by decide +kernel
theorem dX3_add_10 : decode cX3_add 10 = .ok (.iand, 1) := by decide +kernel
theorem dX3_add_11 : decode cX3_add 11 = .ok (.iload_n 2, 1) := by decide +kernel
theorem dX3_add_12 : decode cX3_add 12 = .ok (.bipush 15, 2) := by decide +kernel
theorem dX3_add_14 : decode cX3_add 14 = .ok (.iand, 1) := by decide +kernel
theorem dX3_add_15 : decode cX3_add 15 = .ok (.iadd, 1) := by decide +kernel
theorem dX3_add_16 : decode cX3_add 16 = .ok (.iload_n 3, 1) := by decide +kernel
theorem dX3_add_17 : decode cX3_add 17 = .ok (.iadd, 1) := by decide +kernel
theorem dX3_add_18 : decode cX3_add 18 = .ok (.bipush 16, 2) := by decide +kernel
theorem dX3_add_20 : decode cX3_add 20 = .ok (.iand, 1) := by decide +kernel
theorem dX3_add_21 : decode cX3_add 21 = .ok (.istore 6, 2) := by decide +kernel
theorem dX3_add_23 : decode cX3_add 23 = .ok (.iload 5, 2) := by decide +kernel
theorem dX3_add_25 : decode cX3_add 25 = .ok (.bipush 8, 2) := by decide +kernel
theorem dX3_add_27 : decode cX3_add 27 = .ok (.ishr, 1) := by decide +kernel
theorem dX3_add_28 : decode cX3_add 28 = .ok (.iconst 1, 1) := by decide +kernel
theorem dX3_add_29 : decode cX3_add 29 = .ok (.iand, 1) := by decide +kernel
theorem dX3_add_30 : decode cX3_add 30 = .ok (.iload 4, 2) := by decide +kernel
theorem dX3_add_32 : decode cX3_add 32 = .ok (.ixor, 1) := by decide +kernel
theorem dX3_add_33 : decode cX3_add 33 = .ok (.istore 7, 2) := by decide +kernel
theorem dX3_add_35 : decode cX3_add 35 = .ok (.aload_n 0, 1) := by decide +kernel
theorem dX3_add_36 : decode cX3_add 36 = .ok (.iload 5, 2) := by decide +kernel
theorem dX3_add_38 : decode cX3_add 38 = .ok (.sipush 255, 3) := by decide +kernel
theorem dX3_add_41 : decode cX3_add 41 = .ok (.iand, 1) := by decide +kernel
theorem dX3_add_42 : decode cX3_add 42 = .ok (.invokestatic 149, 3) := by decide +kernel
theorem dX3_add_45 : decode cX3_add 45 = .ok (.iload 6, 2) := by decide +kernel
theorem dX3_add_47 : decode cX3_add 47 = .ok (.ior, 1) := by decide +kernel
theorem dX3_add_48 : decode cX3_add 48 = .ok (.iload 7, 2) := by decide +kernel
theorem dX3_add_50 : decode cX3_add 50 = .ok (.ior, 1) := by decide +kernel
theorem dX3_add_51 : decode cX3_add 51 = .ok (.putfield 13, 3) := by decide +kernel
theorem dX3_add_54 : decode cX3_add 54 = .ok (.iload 5, 2) := by decide +kernel
theorem dX3_add_56 : decode cX3_add 56 = .ok (.sipush 255, 3) := by decide +kernel
theorem dX3_add_59 : decode cX3_add 59 = .ok (.iand, 1) := by decide +kernel
theorem dX3_add_60 : decode cX3_add 60 = .ok (.ireturn, 1) := by decide +kernel
set_option maxRecDepth 20000 in
theorem ggX3_setLogical_X3_flagsOf : GoodIn wsX3_setLogical wsX3_flagsOf := goodIn_r _ [6, 7, 8, 9, 10, 11, 12, 13] (by decide +kernel) (by decide +kernel)
set_option maxRecDepth 20000 in
theorem gX3_setLogical_X3_flagsOf : GoodIn wsX3_setLogical (va_wsS RX3 149 yX3_flagsOf wsX3_flagsOf) := goodIn_app (goodIn_of _ (by decide +kernel)) ggX3_setLogical_X3_flagsOf
theorem dX3_setLogical_0 : decode cX3_setLogical 0 = .ok (.aload_n 0, 1) := by decide +kernel
theorem dX3_setLogical_1 : decode cX3_setLogical 1 = .ok (.getfield 9, 3) := by decide +kernel
theorem dX3_setLogical_4 : decode cX3_setLogical 4 = .ok (.bipush 7, 2) := by decide +kernel
theorem dX3_setLogical_6 : decode cX3_setLogical 6 = .ok (.iload_n 1, 1) := by decide +kernel
theorem dX3_setLogical_7 : decode cX3_setLogical 7 = .ok (.iastore, 1) := by decide +kernel
theorem dX3_setLogical_8 : decode cX3_setLogical 8 = .ok (.aload_n 0, 1) := by decide +kernel
theorem dX3_setLogical_9 : decode cX3_setLogical 9 = .ok (.iload_n 1, 1) := by decide +kernel
theorem dX3_setLogical_10 : decode cX3_setLogical 10 = .ok (.invokestatic 149, 3) := by decide +kernel
theorem dX3_setLogical_13 : decode cX3_setLogical 13 = .ok (.iload_n 2, 1) := by decide +kernel
theorem dX3_setLogical_14 : decode cX3_setLogical 14 = .ok (.ior, 1) := by decide +kernel
theorem dX3_setLogical_15 : decode cX3_setLogical 15 = .ok (.putfield 13, 3) := by decide +kernel
theorem dX3_setLogical_18 : decode cX3_setLogical 18 = .ok (.return_, 1) := by decide +kernel
set_option maxRecDepth 20000 in
theorem ggX3_increment_X3_flagsOf : GoodIn wsX3_increment wsX3_flagsOf := goodIn_r _ [5, 6, 7, 8, 9, 10, 11, 12] (by decide +kernel) (by decide +kernel)
set_option maxRecDepth 20000 in
theorem gX3_increment_X3_flagsOf : GoodIn wsX3_increment (va_wsS RX3 149 yX3_flagsOf wsX3_flagsOf) := goodIn_app (goodIn_of _ (by decide +kernel)) ggX3_increment_X3_flagsOf
theorem dX3_increment_0 : decode cX3_increment 0 = .ok (.iload_n 1, 1) := by decide +kernel
theorem dX3_increment_1 : decode cX3_increment 1 = .ok (.iconst 1, 1) := by decide +kernel
theorem dX3_increment_2 : decode cX3_increment 2 = .ok (.iadd, 1) := by decide +kernel
theorem dX3_increment_3 : decode cX3_increment 3 = .ok (.sipush 255, 3) := by decide +kernel
theorem dX3_increment_6 : decode cX3_increment 6 = .ok (.iand, 1) := by decide +kernel
theorem dX3_increment_7 : decode cX3_increment 7 = .ok (.istore_n 2, 1) := by decide +kernel
theorem dX3_increment_8 : decode cX3_increment 8 = .ok (.iload_n 2, 1) := by decide +kernel
theorem dX3_increment_9 : decode cX3_increment 9 = .ok (.bipush 15, 2) := by decide +kernel
theorem dX3_increment_11 : decode cX3_increment 11 = .ok (.iand, 1) := by decide +kernel
theorem dX3_increment_12 : decode cX3_increment 12 = .ok (.ifCond .ne 8, 3) := by decide +kernel
theorem dX3_increment_15 : decode cX3_increment 15 = .ok (.bipush 16, 2) := by decide +kernel
theorem dX3_increment_17 : decode cX3_increment 17 = .ok (.goto 4, 3) := by decide +kernel
theorem dX3_increment_20 : decode cX3_increment 20 = .ok (.iconst 0, 1) := by decide +kernel
theorem dX3_increment_21 : decode cX3_increment 21 = .ok (.istore_n 3, 1) := by decide +kernel
theorem dX3_increment_22 : decode cX3_increment 22 = .ok (.aload_n 0, 1) := by decide +kernel
theorem dX3_increment_23 : decode cX3_increment 23 = .ok (.iload_n 2, 1) := by decide +kernel
theorem dX3_increment_24 : decode cX3_increment 24 = .ok (.invokestatic 149, 3) := by decide +kernel
theorem dX3_increment_27 : decode cX3_increment 27 = .ok (.iload_n 3, 1) := by decide +kernel
theorem dX3_increment_28 : decode cX3_increment 28 = .ok (.ior, 1) := by decide +kernel
theorem dX3_increment_29 : decode cX3_increment 29 = .ok (.aload_n 0, 1) := by decide +kernel
theorem dX3_increment_30 : decode cX3_increment 30 = .ok (.getfield 13, 3) := by decide +kernel
theorem dX3_increment_33 : decode cX3_increment 33 = .ok (.iconst 1, 1) := by decide +kernel
theorem dX3_increment_34 : decode cX3_increment 34 = .ok (.iand, 1) := by decide +kernel
theorem dX3_increment_35 : decode cX3_increment 35 = .ok (.ior, 1) := by decide +kernel
theorem dX3_increment_36 : decode cX3_increment 36 = .ok (.putfield 13, 3) := by decide +kernel
theorem dX3_increment_39 : decode cX3_increment 39 = .ok (.iload_n 2, 1) := by decide +kernel
theorem dX3_increment_40 : decode cX3_increment 40 = .ok (.ireturn, 1) := by decide +kernel
set_option maxRecDepth 20000 in
theorem ggX3_decrement_X3_flagsOf : GoodIn wsX3_decrement wsX3_flagsOf := goodIn_r _ [5, 6, 7, 8, 9, 10, 11, 12] (by decide +kernel) (by decide +kernel)
set_option maxRecDepth 20000 in
theorem gX3_decrement_X3_flagsOf : GoodIn wsX3_decrement (va_wsS RX3 149 yX3_flagsOf wsX3_flagsOf) := goodIn_app (goodIn_of _ (by decide +kernel)) ggX3_decrement_X3_flagsOf
theorem dX3_decrement_0 : decode cX3_decrement 0 = .ok (.iload_n 1, 1) := by decide +kernel
theorem dX3_decrement_1 : decode cX3_decrement 1 = .ok (.iconst 1, 1) := by decide +kernel
theorem dX3_decrement_2 : decode cX3_decrement 2 = .ok (.isub, 1) := by decide +kernel
theorem dX3_decrement_3 : decode cX3_decrement 3 = .ok (.sipush 255, 3) := by decide +kernel
theorem dX3_decrement_6 : decode cX3_decrement 6 = .ok (.iand, 1) := by decide +kernel
theorem dX3_decrement_7 : decode cX3_decrement 7 = .ok (.istore_n 2, 1) := by decide +kernel
theorem dX3_decrement_8 : decode cX3_decrement 8 = .ok (.iload_n 2, 1) := by decide +kernel
theorem dX3_decrement_9 : decode cX3_decrement 9 = .ok (.bipush 15, 2) := by decide +kernel
theorem dX3_decrement_11 : decode cX3_decrement 11 = .ok (.iand, 1) := by decide +kernel
theorem dX3_decrement_12 : decode cX3_decrement 12 = .ok (.bipush 15, 2) := by decide +kernel
theorem dX3_decrement_14 : decode cX3_decrement 14 = .ok (.if_icmp .ne 7, 3) := by decide +kernel
theorem dX3_decrement_17 : decode cX3_decrement 17 = .ok (.iconst 0, 1) := by decide +kernel
theorem dX3_decrement_18 : decode cX3_decrement 18 = .ok (.goto 5, 3) := by decide +kernel
theorem dX3_decrement_21 : decode cX3_decrement 21 = .ok (.bipush 16, 2) := by decide +kernel
theorem dX3_decrement_23 : decode cX3_decrement 23 = .ok (.istore_n 3, 1) := by decide +kernel
theorem dX3_decrement_24 : decode cX3_decrement 24 = .ok (.aload_n 0, 1) := by decide +kernel
theorem dX3_decrement_25 : decode cX3_decrement 25 = .ok (.iload_n 2, 1) := by decide +kernel
theorem dX3_decrement_26 : decode cX3_decrement 26 = .ok (.invokestatic 149, 3) := by decide +kernel
theorem dX3_decrement_29 : decode cX3_decrement 29 = .ok (.iload_n 3, 1) := by decide +kernel
theorem dX3_decrement_30 : decode cX3_decrement 30 = .ok (.ior, 1) := by decide +kernel
theorem dX3_decrement_31 : decode cX3_decrement 31 = .ok (.aload_n 0, 1) := by decide +kernel
theorem dX3_decrement_32 : decode cX3_decrement 32 = .ok (.getfield 13, 3) := by decide +kernel
theorem dX3_decrement_35 : decode cX3_decrement 35 = .ok (.iconst 1, 1) := by decide +kernel
theorem dX3_decrement_36 : decode cX3_decrement 36 = .ok (.iand, 1) := by decide +kernel
theorem dX3_decrement_37 : decode cX3_decrement 37 = .ok (.ior, 1) := by decide +kernel
theorem dX3_decrement_38 : decode cX3_decrement 38 = .ok (.putfield 13, 3) := by decide +kernel
theorem dX3_decrement_41 : decode cX3_decrement 41 = .ok (.iload_n 2, 1) := by decide +kernel
theorem dX3_decrement_42 : decode cX3_decrement 42 = .ok (.ireturn, 1) := by decide +kernel
set_option maxRecDepth 20000 in
theorem ggX3_addToHl_X3_pairAt : GoodIn wsX3_addToHl wsX3_pairAt := goodIn_r _ [5, 6, 16, 17, 18, 19, 20, 21, 22, 23, 24] (by decide +kernel) (by decide +kernel)
set_option maxRecDepth 20000 in
theorem gX3_addToHl_X3_pairAt : GoodIn wsX3_addToHl (wsV RX3 120 RX3 yX3_pairAt wsX3_pairAt) := goodIn_app (goodIn_of _ (by decide +kernel)) ggX3_addToHl_X3_pairAt
set_option maxRecDepth 20000 in
theorem ggX3_addToHl_X3_setPairAt : GoodIn wsX3_addToHl wsX3_setPairAt := goodIn_r _ [10, 6, 16, 17, 18, 19, 20, 21, 22, 23, 24] (by decide +kernel) (by decide +kernel)
set_option maxRecDepth 20000 in
theorem gX3_addToHl_X3_setPairAt : GoodIn wsX3_addToHl (wsV RX3 137 RX3 yX3_setPairAt wsX3_setPairAt) := goodIn_app (goodIn_of _ (by decide +kernel)) ggX3_addToHl_X3_setPairAt
set_option maxRecDepth 20000 in
theorem ggX3_addToHl_X3_setCarry : GoodIn wsX3_addToHl wsX3_setCarry := goodIn_r _ [14, 15, 16, 17, 18, 19, 20, 21, 22, 23, 24] (by decide +kernel) (by decide +kernel)
set_option maxRecDepth 20000 in
theorem gX3_addToHl_X3_setCarry : GoodIn wsX3_addToHl (wsV RX3 146 RX3 yX3_setCarry wsX3_setCarry) := goodIn_app (goodIn_of _ (by decide +kernel)) ggX3_addToHl_X3_setCarry
theorem dX3_addToHl_0 : decode cX3_addToHl 0 = .ok (.aload_n 0, 1) := by decide +kernel
theorem dX3_addToHl_1 : decode cX3_addToHl 1 = .ok (.iconst 4, 1) := by decide +kernel
theorem dX3_addToHl_2 : decode cX3_addToHl 2 = .ok (.invokevirtual 120, 3) := by decide +kernel
theorem dX3_addToHl_5 : decode cX3_addToHl 5 = .ok (.iload_n 1, 1) := by decide +kernel
theorem dX3_addToHl_6 : decode cX3_addToHl 6 = .ok (.iadd, 1) := by decide +kernel
theorem dX3_addToHl_7 : decode cX3_addToHl 7 = .ok (.istore_n 2, 1) := by decide +kernel
theorem dX3_addToHl_8 : decode cX3_addToHl 8 = .ok (.aload_n 0, 1) := by decide +kernel
theorem dX3_addToHl_9 : decode cX3_addToHl 9 = .ok (.iconst 4, 1) := by decide +kernel
theorem dX3_addToHl_10 : decode cX3_addToHl 10 = .ok (.iload_n 2, 1) := by decide +kernel
theorem dX3_addToHl_11 : decode cX3_addToHl 11 = .ok (.invokevirtual 137, 3) := by decide +kernel
theorem dX3_addToHl_14 : decode cX3_addToHl 14 = .ok (.aload_n 0, 1) := by decide +kernel
theorem dX3_addToHl_15 : decode cX3_addToHl 15 = .ok (.iload_n 2, 1) := by decide +kernel
theorem dX3_addToHl_16 : decode cX3_addToHl 16 = .ok (.bipush 16, 2) := by decide +kernel
theorem dX3_addToHl_18 : decode cX3_addToHl 18 = .ok (.ishr, 1) := by decide +kernel
theorem dX3_addToHl_19 : decode cX3_addToHl 19 = .ok (.invokevirtual 146, 3) := by decide +kernel
theorem dX3_addToHl_22 : decode cX3_addToHl 22 = .ok (.return_, 1) := by decide +kernel
set_option maxRecDepth 20000 in
theorem ggX3_flagsOf_J6_bitCount_0f7a4 : GoodIn wsX3_flagsOf wsJ6_bitCount_0f7a4 := goodIn_r _ [4, 5, 6, 7] (by decide +kernel) (by decide +kernel)
set_option maxRecDepth 20000 in
theorem gX3_flagsOf_J6_bitCount_0f7a4 : GoodIn wsX3_flagsOf (va_wsS RX3 179 yJ6_bitCount_0f7a4 wsJ6_bitCount_0f7a4) := goodIn_app (goodIn_of _ (by decide +kernel)) ggX3_flagsOf_J6_bitCount_0f7a4
theorem dX3_flagsOf_0 : decode cX3_flagsOf 0 = .ok (.iload_n 0, 1) := by decide +kernel
theorem dX3_flagsOf_1 : decode cX3_flagsOf 1 = .ok (.ifCond .ne 8, 3) := by decide +kernel
theorem dX3_flagsOf_4 : decode cX3_flagsOf 4 = .ok (.bipush 64, 2) := by decide +kernel
theorem dX3_flagsOf_6 : decode cX3_flagsOf 6 = .ok (.goto 4, 3) := by decide +kernel
theorem dX3_flagsOf_9 : decode cX3_flagsOf 9 = .ok (.iconst 0, 1) := by decide +kernel
theorem dX3_flagsOf_10 : decode cX3_flagsOf 10 = .ok (.istore_n 1, 1) := by decide +kernel
theorem dX3_flagsOf_11 : decode cX3_flagsOf 11 = .ok (.iload_n 0, 1) := by decide +kernel
theorem dX3_flagsOf_12 : decode cX3_flagsOf 12 = .ok (.invokestatic 179, 3) := by decide +kernel
theorem dX3_flagsOf_15 : decode cX3_flagsOf 15 = .ok (.iconst 1, 1) := by decide +kernel
theorem dX3_flagsOf_16 : decode cX3_flagsOf 16 = .ok (.iand, 1) := by decide +kernel
theorem dX3_flagsOf_17 : decode cX3_flagsOf 17 = .ok (.ifCond .ne 7, 3) := by decide +kernel
theorem dX3_flagsOf_20 : decode cX3_flagsOf 20 = .ok (.iconst 4, 1) := by decide +kernel
theorem dX3_flagsOf_21 : decode cX3_flagsOf 21 = .ok (.goto 4, 3) := by decide +kernel
theorem dX3_flagsOf_24 : decode cX3_flagsOf 24 = .ok (.iconst 0, 1) := by decide +kernel
theorem dX3_flagsOf_25 : decode cX3_flagsOf 25 = .ok (.istore_n 2, 1) := by decide +kernel
theorem dX3_flagsOf_26 : decode cX3_flagsOf 26 = .ok (.iload_n 0, 1) := by decide +kernel
theorem dX3_flagsOf_27 : decode cX3_flagsOf 27 = .ok (.sipush 128, 3) := by decide +kernel
theorem dX3_flagsOf_30 : decode cX3_flagsOf 30 = .ok (.iand, 1) := by decide +kernel
theorem dX3_flagsOf_31 : decode cX3_flagsOf 31 = .ok (.iload_n 1, 1) := by decide +kernel
theorem dX3_flagsOf_32 : decode cX3_flagsOf 32 = .ok (.ior, 1) := by decide +kernel
theorem dX3_flagsOf_33 : decode cX3_flagsOf 33 = .ok (.iload_n 2, 1) := by decide +kernel
theorem dX3_flagsOf_34 : decode cX3_flagsOf 34 = .ok (.ior, 1) := by decide +kernel
theorem dX3_flagsOf_35 : decode cX3_flagsOf 35 = .ok (.iconst 2, 1) := by decide +kernel
theorem dX3_flagsOf_36 : decode cX3_flagsOf 36 = .ok (.ior, 1) := by decide +kernel
theorem dX3_flagsOf_37 : decode cX3_flagsOf 37 = .ok (.ireturn, 1) := by decide +kernel
set_option maxRecDepth 20000 in
theorem ggX3_operand_X3_pairAt : GoodIn wsX3_operand wsX3_pairAt := goodIn_r _ [7, 2, 16, 17, 18, 19, 20, 21, 22, 23, 24] (by decide +kernel) (by decide +kernel)
set_option maxRecDepth 20000 in
theorem gX3_operand_X3_pairAt : GoodIn wsX3_operand (wsV RX3 120 RX3 yX3_pairAt wsX3_pairAt) := goodIn_app (goodIn_of _ (by decide +kernel)) ggX3_operand_X3_pairAt
set_option maxRecDepth 20000 in
theorem ggX3_operand_X1_read : GoodIn wsX3_operand wsX1_read := goodIn_r _ [12, 13, 14, 15, 25, 26] (by decide +kernel) (by decide +kernel)
set_option maxRecDepth 20000 in
theorem gX3_operand_X1_read : GoodIn wsX3_operand (wsV RX3 128 RX1 yX1_read wsX1_read) := goodIn_app (goodIn_of _ (by decide +kernel)) ggX3_operand_X1_read
theorem dX3_operand_0 : decode cX3_operand 0 = .ok (.iload_n 1, 1) := by decide +kernel
theorem dX3_operand_1 : decode cX3_operand 1 = .ok (.bipush 7, 2) := by decide +kernel
theorem dX3_operand_3 : decode cX3_operand 3 = .ok (.iand, 1) := by decide +kernel
theorem dX3_operand_4 : decode cX3_operand 4 = .ok (.istore_n 2, 1) := by decide +kernel
theorem dX3_operand_5 : decode cX3_operand 5 = .ok (.iload_n 2, 1) := by decide +kernel
theorem dX3_operand_6 : decode cX3_operand 6 = .ok (.bipush 6, 2) := by decide +kernel
theorem dX3_operand_8 : decode cX3_operand 8 = .ok (.if_icmp .ne 18, 3) := by decide +kernel
theorem dX3_operand_11 : decode cX3_operand 11 = .ok (.aload_n 0, 1) := by decide +kernel
theorem dX3_operand_12 : decode cX3_operand 12 = .ok (.getfield 17, 3) := by decide +kernel
theorem dX3_operand_15 : decode cX3_operand 15 = .ok (.aload_n 0, 1) := by decide +kernel
theorem dX3_operand_16 : decode cX3_operand 16 = .ok (.iconst 4, 1) := by decide +kernel
theorem dX3_operand_17 : decode cX3_operand 17 = .ok (.invokevirtual 120, 3) := by decide +kernel
theorem dX3_operand_20 : decode cX3_operand 20 = .ok (.invokevirtual 128, 3) := by decide +kernel
theorem dX3_operand_23 : decode cX3_operand 23 = .ok (.goto 9, 3) := by decide +kernel
theorem dX3_operand_26 : decode cX3_operand 26 = .ok (.aload_n 0, 1) := by decide +kernel
theorem dX3_operand_27 : decode cX3_operand 27 = .ok (.getfield 9, 3) := by decide +kernel
theorem dX3_operand_30 : decode cX3_operand 30 = .ok (.iload_n 2, 1) := by decide +kernel
theorem dX3_operand_31 : decode cX3_operand 31 = .ok (.iaload, 1) := by decide +kernel
theorem dX3_operand_32 : decode cX3_operand 32 = .ok (.ireturn, 1) := by decide +kernel
set_option maxRecDepth 20000 in
theorem ggX3_setOperand_X3_pairAt : GoodIn wsX3_setOperand wsX3_pairAt := goodIn_r _ [7, 2, 14, 15, 16, 17, 18, 19, 20, 21, 22] (by decide +kernel) (by decide +kernel)
set_option maxRecDepth 20000 in
theorem gX3_setOperand_X3_pairAt : GoodIn wsX3_setOperand (wsV RX3 120 RX3 yX3_pairAt wsX3_pairAt) := goodIn_app (goodIn_of _ (by decide +kernel)) ggX3_setOperand_X3_pairAt
set_option maxRecDepth 20000 in
theorem ggX3_setOperand_X1_write : GoodIn wsX3_setOperand wsX1_write := goodIn_r _ [12, 13, 23, 24] (by decide +kernel) (by decide +kernel)
set_option maxRecDepth 20000 in
theorem gX3_setOperand_X1_write : GoodIn wsX3_setOperand (wsV RX3 123 RX1 yX1_write wsX1_write) := goodIn_app (goodIn_of _ (by decide +kernel)) ggX3_setOperand_X1_write
theorem dX3_setOperand_0 : decode cX3_setOperand 0 = .ok (.iload_n 1, 1) := by decide +kernel
theorem dX3_setOperand_1 : decode cX3_setOperand 1 = .ok (.bipush 7, 2) := by decide +kernel
theorem dX3_setOperand_3 : decode cX3_setOperand 3 = .ok (.iand, 1) := by decide +kernel
theorem dX3_setOperand_4 : decode cX3_setOperand 4 = .ok (.istore_n 3, 1) := by decide +kernel
theorem dX3_setOperand_5 : decode cX3_setOperand 5 = .ok (.iload_n 3, 1) := by decide +kernel
theorem dX3_setOperand_6 : decode cX3_setOperand 6 = .ok (.bipush 6, 2) := by decide +kernel
theorem dX3_setOperand_8 : decode cX3_setOperand 8 = .ok (.if_icmp .ne 19, 3) := by decide +kernel
theorem dX3_setOperand_11 : decode cX3_setOperand 11 = .ok (.aload_n 0, 1) := by decide +kernel
theorem dX3_setOperand_12 : decode cX3_setOperand 12 = .ok (.getfield 17, 3) := by decide +kernel
theorem dX3_setOperand_15 : decode cX3_setOperand 15 = .ok (.aload_n 0, 1) := by decide +kernel
theorem dX3_setOperand_16 : decode cX3_setOperand 16 = .ok (.iconst 4, 1) := by decide +kernel
theorem dX3_setOperand_17 : decode cX3_setOperand 17 = .ok (.invokevirtual 120, 3) := by decide +kernel
theorem dX3_setOperand_20 : decode cX3_setOperand 20 = .ok (.iload_n 2, 1) := by decide +kernel
theorem dX3_setOperand_21 : decode cX3_setOperand 21 = .ok (.invokevirtual 123, 3) := by decide +kernel
theorem dX3_setOperand_24 : decode cX3_setOperand 24 = .ok (.goto 10, 3) := by decide +kernel
theorem dX3_setOperand_27 : decode cX3_setOperand 27 = .ok (.aload_n 0, 1) := by decide +kernel
theorem dX3_setOperand_28 : decode cX3_setOperand 28 = .ok (.getfield 9, 3) := by decide +kernel
theorem dX3_setOperand_31 : decode cX3_setOperand 31 = .ok (.iload_n 3, 1) := by decide +kernel
theorem dX3_setOperand_32 : decode cX3_setOperand 32 = .ok (.iload_n 2, 1) := by decide +kernel
theorem dX3_setOperand_33 : decode cX3_setOperand 33 = .ok (.iastore, 1) := by decide +kernel
theorem dX3_setOperand_34 : decode cX3_setOperand 34 = .ok (.return_, 1) := by decide +kernel
theorem dX3_pairAt_0 : decode cX3_pairAt 0 = .ok (.iload_n 1, 1) := by decide +kernel
theorem dX3_pairAt_1 : decode cX3_pairAt 1 = .ok (.bipush 6, 2) := by decide +kernel
theorem dX3_pairAt_3 : decode cX3_pairAt 3 = .ok (.iand, 1) := by decide +kernel
theorem dX3_pairAt_4 : decode cX3_pairAt 4 = .ok (.istore_n 2, 1) := by decide +kernel
theorem dX3_pairAt_5 : decode cX3_pairAt 5 = .ok (.aload_n 0, 1) := by decide +kernel
theorem dX3_pairAt_6 : decode cX3_pairAt 6 = .ok (.getfield 9, 3) := by decide +kernel
theorem dX3_pairAt_9 : decode cX3_pairAt 9 = .ok (.iload_n 2, 1) := by decide +kernel
theorem dX3_pairAt_10 : decode cX3_pairAt 10 = .ok (.iaload, 1) := by decide +kernel
theorem dX3_pairAt_11 : decode cX3_pairAt 11 = .ok (.bipush 8, 2) := by decide +kernel
theorem dX3_pairAt_13 : decode cX3_pairAt 13 = .ok (.ishl, 1) := by decide +kernel
theorem dX3_pairAt_14 : decode cX3_pairAt 14 = .ok (.aload_n 0, 1) := by decide +kernel
theorem dX3_pairAt_15 : decode cX3_pairAt 15 = .ok (.getfield 9, 3) := by decide +kernel
theorem dX3_pairAt_18 : decode cX3_pairAt 18 = .ok (.iload_n 2, 1) := by decide +kernel
theorem dX3_pairAt_19 : decode cX3_pairAt 19 = .ok (.iconst 1, 1) := by decide +kernel
theorem dX3_pairAt_20 : decode cX3_pairAt 20 = .ok (.iadd, 1) := by decide +kernel
theorem dX3_pairAt_21 : decode cX3_pairAt 21 = .ok (.iaload, 1) := by decide +kernel
theorem dX3_pairAt_22 : decode cX3_pairAt 22 = .ok (.ior, 1) := by decide +kernel
theorem dX3_pairAt_23 : decode cX3_pairAt 23 = .ok (.ireturn, 1) := by decide +kernel
theorem dX3_setPairAt_0 : decode cX3_setPairAt 0 = .ok (.iload_n 1, 1) := by decide +kernel
theorem dX3_setPairAt_1 : decode cX3_setPairAt 1 = .ok (.bipush 6, 2) := by decide +kernel
theorem dX3_setPairAt_3 : decode cX3_setPairAt 3 = .ok (.iand, 1) := by decide +kernel
theorem dX3_setPairAt_4 : decode cX3_setPairAt 4 = .ok (.istore_n 3, 1) := by decide +kernel
theorem dX3_setPairAt_5 : decode cX3_setPairAt 5 = .ok (.aload_n 0, 1) := by decide +kernel
theorem dX3_setPairAt_6 : decode cX3_setPairAt 6 = .ok (.getfield 9, 3) := by decide +kernel
theorem dX3_setPairAt_9 : decode cX3_setPairAt 9 = .ok (.iload_n 3, 1) := by decide +kernel
theorem dX3_setPairAt_10 : decode cX3_setPairAt 10 = .ok (.iload_n 2, 1) := by decide +kernel
theorem dX3_setPairAt_11 : decode cX3_setPairAt 11 = .ok (.bipush 8, 2) := by decide +kernel
theorem dX3_setPairAt_13 : decode cX3_setPairAt 13 = .ok (.ishr, 1) := by decide +kernel
theorem dX3_setPairAt_14 : decode cX3_setPairAt 14 = .ok (.sipush 255, 3) := by decide +kernel
theorem dX3_setPairAt_17 : decode cX3_setPairAt 17 = .ok (.iand, 1) := by decide +kernel
theorem dX3_setPairAt_18 : decode cX3_setPairAt 18 = .ok (.iastore, 1) := by decide +kernel
theorem dX3_setPairAt_19 : decode cX3_setPairAt 19 = .ok (.aload_n 0, 1) := by decide +kernel
theorem dX3_setPairAt_20 : decode cX3_setPairAt 20 = .ok (.getfield 9, 3) := by decide +kernel
theorem dX3_setPairAt_23 : decode cX3_setPairAt 23 = .ok (.iload_n 3, 1) := by decide +kernel
theorem dX3_setPairAt_24 : decode cX3_setPairAt 24 = .ok (.iconst 1, 1) := by decide +kernel
theorem dX3_setPairAt_25 : decode cX3_setPairAt 25 = .ok (.iadd, 1) := by decide +kernel
theorem dX3_setPairAt_26 : decode cX3_setPairAt 26 = .ok (.iload_n 2, 1) := by decide +kernel
theorem dX3_setPairAt_27 : decode cX3_setPairAt 27 = .ok (.sipush 255, 3) := by decide +kernel
theorem dX3_setPairAt_30 : decode cX3_setPairAt 30 = .ok (.iand, 1) := by decide +kernel
theorem dX3_setPairAt_31 : decode cX3_setPairAt 31 = .ok (.iastore, 1) := by decide +kernel
theorem dX3_setPairAt_32 : decode cX3_setPairAt 32 = .ok (.return_, 1) := by decide +kernel
set_option maxRecDepth 20000 in
theorem ggX3_pairOrSp_X3_pairAt : GoodIn wsX3_pairOrSp wsX3_pairAt := goodIn_r _ [6, 7, 8, 9, 10, 11, 12, 13, 14, 15, 16] (by decide +kernel) (by decide +kernel)
set_option maxRecDepth 20000 in
theorem gX3_pairOrSp_X3_pairAt : GoodIn wsX3_pairOrSp (wsV RX3 120 RX3 yX3_pairAt wsX3_pairAt) := goodIn_app (goodIn_of _ (by decide +kernel)) ggX3_pairOrSp_X3_pairAt
theorem dX3_pairOrSp_0 : decode cX3_pairOrSp 0 = .ok (.iload_n 1, 1) := by decide +kernel
theorem dX3_pairOrSp_1 : decode cX3_pairOrSp 1 = .ok (.iconst 3, 1) := by decide +kernel
theorem dX3_pairOrSp_2 : decode cX3_pairOrSp 2 = .ok (.if_icmp .ne 10, 3) := by decide +kernel
theorem dX3_pairOrSp_5 : decode cX3_pairOrSp 5 = .ok (.aload_n 0, 1) := by decide +kernel
theorem dX3_pairOrSp_6 : decode cX3_pairOrSp 6 = .ok (.getfield 25, 3) := by decide +kernel
theorem dX3_pairOrSp_9 : decode cX3_pairOrSp 9 = .ok (.goto 10, 3) := by decide +kernel
theorem dX3_pairOrSp_12 : decode cX3_pairOrSp 12 = .ok (.aload_n 0, 1) := by decide +kernel
theorem dX3_pairOrSp_13 : decode cX3_pairOrSp 13 = .ok (.iconst 2, 1) := by decide +kernel
theorem dX3_pairOrSp_14 : decode cX3_pairOrSp 14 = .ok (.iload_n 1, 1) := by decide +kernel
theorem dX3_pairOrSp_15 : decode cX3_pairOrSp 15 = .ok (.imul, 1) := by decide +kernel
theorem dX3_pairOrSp_16 : decode cX3_pairOrSp 16 = .ok (.invokevirtual 120, 3) := by decide +kernel
theorem dX3_pairOrSp_19 : decode cX3_pairOrSp 19 = .ok (.ireturn, 1) := by decide +kernel
set_option maxRecDepth 20000 in
theorem ggX3_setPairOrSp_X3_setPairAt : GoodIn wsX3_setPairOrSp wsX3_setPairAt := goodIn_r _ [7, 8, 9, 10, 11, 12, 13, 14, 15, 16, 17] (by decide +kernel) (by decide +kernel)
set_option maxRecDepth 20000 in
theorem gX3_setPairOrSp_X3_setPairAt : GoodIn wsX3_setPairOrSp (wsV RX3 137 RX3 yX3_setPairAt wsX3_setPairAt) := goodIn_app (goodIn_of _ (by decide +kernel)) ggX3_setPairOrSp_X3_setPairAt
theorem dX3_setPairOrSp_0 : decode cX3_setPairOrSp 0 = .ok (.iload_n 1, 1) := by decide +kernel
theorem dX3_setPairOrSp_1 : decode cX3_setPairOrSp 1 = .ok (.iconst 3, 1) := by decide +kernel
theorem dX3_setPairOrSp_2 : decode cX3_setPairOrSp 2 = .ok (.if_icmp .ne 14, 3) := by decide +kernel
theorem dX3_setPairOrSp_5 : decode cX3_setPairOrSp 5 = .ok (.aload_n 0, 1) := by decide +kernel
theorem dX3_setPairOrSp_6 : decode cX3_setPairOrSp 6 = .ok (.iload_n 2, 1) := by decide +kernel
theorem dX3_setPairOrSp_7 : decode cX3_setPairOrSp 7 = .ok (.ldc 184, 2) := by decide +kernel
theorem dX3_setPairOrSp_9 : decode cX3_setPairOrSp 9 = .ok (.iand, 1) := by decide +kernel
theorem dX3_setPairOrSp_10 : decode cX3_setPairOrSp 10 = .ok (.putfield 25, 3) := by decide +kernel
theorem dX3_setPairOrSp_13 : decode cX3_setPairOrSp 13 = .ok (.goto 11, 3) := by decide +kernel
theorem dX3_setPairOrSp_16 : decode cX3_setPairOrSp 16 = .ok (.aload_n 0, 1) := by decide +kernel
theorem dX3_setPairOrSp_17 : decode cX3_setPairOrSp 17 = .ok (.iconst 2, 1) := by decide +kernel
theorem dX3_setPairOrSp_18 : decode cX3_setPairOrSp 18 = .ok (.iload_n 1, 1) := by decide +kernel
theorem dX3_setPairOrSp_19 : decode cX3_setPairOrSp 19 = .ok (.imul, 1) := by decide +kernel
theorem dX3_setPairOrSp_20 : decode cX3_setPairOrSp 20 = .ok (.iload_n 2, 1) := by decide +kernel
theorem dX3_setPairOrSp_21 : decode cX3_setPairOrSp 21 = .ok (.invokevirtual 137, 3) := by decide +kernel
theorem dX3_setPairOrSp_24 : decode cX3_setPairOrSp 24 = .ok (.return_, 1) := by decide +kernel
set_option maxRecDepth 20000 in
theorem ggX3_fetch_X1_read : GoodIn wsX3_fetch wsX1_read := goodIn_r _ [8, 9, 10, 11, 21, 22] (by decide +kernel) (by decide +kernel)
set_option maxRecDepth 20000 in
theorem gX3_fetch_X1_read : GoodIn wsX3_fetch (wsV RX3 128 RX1 yX1_read wsX1_read) := goodIn_app (goodIn_of _ (by decide +kernel)) ggX3_fetch_X1_read
theorem dX3_fetch_0 : decode cX3_fetch 0 = .ok (.aload_n 0, 1) := by decide +kernel
theorem dX3_fetch_1 : decode cX3_fetch 1 = .ok (.getfield 17, 3) := by decide +kernel
theorem dX3_fetch_4 : decode cX3_fetch 4 = .ok (.aload_n 0, 1) := by decide +kernel
theorem dX3_fetch_5 : decode cX3_fetch 5 = .ok (.getfield 28, 3) := by decide +kernel
theorem dX3_fetch_8 : decode cX3_fetch 8 = .ok (.invokevirtual 128, 3) := by decide +kernel
theorem dX3_fetch_11 : decode cX3_fetch 11 = .ok (.istore_n 1, 1) := by decide +kernel
theorem dX3_fetch_12 : decode cX3_fetch 12 = .ok (.aload_n 0, 1) := by decide +kernel
theorem dX3_fetch_13 : decode cX3_fetch 13 = .ok (.aload_n 0, 1) := by decide +kernel
theorem dX3_fetch_14 : decode cX3_fetch 14 = .ok (.getfield 28, 3) := by decide +kernel
theorem dX3_fetch_17 : decode cX3_fetch 17 = .ok (.iconst 1, 1) := by decide +kernel
theorem dX3_fetch_18 : decode cX3_fetch 18 = .ok (.iadd, 1) := by decide +kernel
theorem dX3_fetch_19 : decode cX3_fetch 19 = .ok (.ldc 184, 2) := by decide +kernel
theorem dX3_fetch_21 : decode cX3_fetch 21 = .ok (.iand, 1) := by decide +kernel
theorem dX3_fetch_22 : decode cX3_fetch 22 = .ok (.putfield 28, 3) := by decide +kernel
theorem dX3_fetch_25 : decode cX3_fetch 25 = .ok (.iload_n 1, 1) := by decide +kernel
theorem dX3_fetch_26 : decode cX3_fetch 26 = .ok (.ireturn, 1) := by decide +kernel
set_option maxRecDepth 20000 in
theorem ggX3_fetchWord_X1_readWord : GoodIn wsX3_fetchWord wsX1_readWord := goodIn_r _ [8, 9, 10, 11, 7, 12, 13, 14, 15, 25, 26] (by decide +kernel) (by decide +kernel)
set_option maxRecDepth 20000 in
theorem gX3_fetchWord_X1_readWord : GoodIn wsX3_fetchWord (wsV RX3 134 RX1 yX1_readWord wsX1_readWord) := goodIn_app (goodIn_of _ (by decide +kernel)) ggX3_fetchWord_X1_readWord
theorem dX3_fetchWord_0 : decode cX3_fetchWord 0 = .ok (.aload_n 0, 1) := by decide +kernel
theorem dX3_fetchWord_1 : decode cX3_fetchWord 1 = .ok (.getfield 17, 3) := by decide +kernel
theorem dX3_fetchWord_4 : decode cX3_fetchWord 4 = .ok (.aload_n 0, 1) := by decide +kernel
theorem dX3_fetchWord_5 : decode cX3_fetchWord 5 = .ok (.getfield 28, 3) := by decide +kernel
theorem dX3_fetchWord_8 : decode cX3_fetchWord 8 = .ok (.invokevirtual 134, 3) := by decide +kernel
theorem dX3_fetchWord_11 : decode cX3_fetchWord 11 = .ok (.istore_n 1, 1) := by decide +kernel
theorem dX3_fetchWord_12 : decode cX3_fetchWord 12 = .ok (.aload_n 0, 1) := by decide +kernel
theorem dX3_fetchWord_13 : decode cX3_fetchWord 13 = .ok (.aload_n 0, 1) := by decide +kernel
theorem dX3_fetchWord_14 : decode cX3_fetchWord 14 = .ok (.getfield 28, 3) := by decide +kernel
theorem dX3_fetchWord_17 : decode cX3_fetchWord 17 = .ok (.iconst 2, 1) := by decide +kernel
theorem dX3_fetchWord_18 : decode cX3_fetchWord 18 = .ok (.iadd, 1) := by decide +kernel
theorem dX3_fetchWord_19 : decode cX3_fetchWord 19 = .ok (.ldc 184, 2) := by decide +kernel
theorem dX3_fetchWord_21 : decode cX3_fetchWord 21 = .ok (.iand, 1) := by decide +kernel
theorem dX3_fetchWord_22 : decode cX3_fetchWord 22 = .ok (.putfield 28, 3) := by decide +kernel
theorem dX3_fetchWord_25 : decode cX3_fetchWord 25 = .ok (.iload_n 1, 1) := by decide +kernel
theorem dX3_fetchWord_26 : decode cX3_fetchWord 26 = .ok (.ireturn, 1) := by decide +kernel
set_option maxRecDepth 20000 in
theorem ggX3_push_X1_writeWord : GoodIn wsX3_push wsX1_writeWord := goodIn_r _ [8, 9, 10, 11, 7, 12, 13, 23, 24] (by decide +kernel) (by decide +kernel)
set_option maxRecDepth 20000 in
theorem gX3_push_X1_writeWord : GoodIn wsX3_push (wsV RX3 131 RX1 yX1_writeWord wsX1_writeWord) := goodIn_app (goodIn_of _ (by decide +kernel)) ggX3_push_X1_writeWord
theorem dX3_push_0 : decode cX3_push 0 = .ok (.aload_n 0, 1) := by decide +kernel
theorem dX3_push_1 : decode cX3_push 1 = .ok (.aload_n 0, 1) := by decide +kernel
theorem dX3_push_2 : decode cX3_push 2 = .ok (.getfield 25, 3) := by decide +kernel
theorem dX3_push_5 : decode cX3_push 5 = .ok (.iconst 2, 1) := by decide +kernel
theorem dX3_push_6 : decode cX3_push 6 = .ok (.isub, 1) := by decide +kernel
theorem dX3_push_7 : decode cX3_push 7 = .ok (.ldc 184, 2) := by decide +kernel
theorem dX3_push_9 : decode cX3_push 9 = .ok (.iand, 1) := by decide +kernel
theorem dX3_push_10 : decode cX3_push 10 = .ok (.putfield 25, 3) := by decide +kernel
theorem dX3_push_13 : decode cX3_push 13 = .ok (.aload_n 0, 1) := by decide +kernel
theorem dX3_push_14 : decode cX3_push 14 = .ok (.getfield 17, 3) := by decide +kernel
theorem dX3_push_17 : decode cX3_push 17 = .ok (.aload_n 0, 1) := by decide +kernel
theorem dX3_push_18 : decode cX3_push 18 = .ok (.getfield 25, 3) := by decide +kernel
theorem dX3_push_21 : decode cX3_push 21 = .ok (.iload_n 1, 1) := by decide +kernel
theorem dX3_push_22 : decode cX3_push 22 = .ok (.invokevirtual 131, 3) := by decide +kernel
theorem dX3_push_25 : decode cX3_push 25 = .ok (.return_, 1) := by decide +kernel
set_option maxRecDepth 20000 in
theorem ggX3_pop_X1_readWord : GoodIn wsX3_pop wsX1_readWord := goodIn_r _ [8, 9, 10, 11, 7, 12, 13, 14, 15, 25, 26] (by decide +kernel) (by decide +kernel)
set_option maxRecDepth 20000 in
theorem gX3_pop_X1_readWord : GoodIn wsX3_pop (wsV RX3 134 RX1 yX1_readWord wsX1_readWord) := goodIn_app (goodIn_of _ (by decide +kernel)) ggX3_pop_X1_readWord
theorem dX3_pop_0 : decode cX3_pop 0 = .ok (.aload_n 0, 1) := by decide +kernel
theorem dX3_pop_1 : decode cX3_pop 1 = .ok (.getfield 17, 3) := by decide +kernel
theorem dX3_pop_4 : decode cX3_pop 4 = .ok (.aload_n 0, 1) := by decide +kernel
theorem dX3_pop_5 : decode cX3_pop 5 = .ok (.getfield 25, 3) := by decide +kernel
theorem dX3_pop_8 : decode cX3_pop 8 = .ok (.invokevirtual 134, 3) := by decide +kernel
theorem dX3_pop_11 : decode cX3_pop 11 = .ok (.istore_n 1, 1) := by decide +kernel
theorem dX3_pop_12 : decode cX3_pop 12 = .ok (.aload_n 0, 1) := by decide +kernel
theorem dX3_pop_13 : decode cX3_pop 13 = .ok (.aload_n 0, 1) := by decide +kernel
theorem dX3_pop_14 : decode cX3_pop 14 = .ok (.getfield 25, 3) := by decide +kernel
theorem dX3_pop_17 : decode cX3_pop 17 = .ok (.iconst 2, 1) := by decide +kernel
theorem dX3_pop_18 : decode cX3_pop 18 = .ok (.iadd, 1) := by decide +kernel
theorem dX3_pop_19 : decode cX3_pop 19 = .ok (.ldc 184, 2) := by decide +kernel
theorem dX3_pop_21 : decode cX3_pop 21 = .ok (.iand, 1) := by decide +kernel
theorem dX3_pop_22 : decode cX3_pop 22 = .ok (.putfield 25, 3) := by decide +kernel
theorem dX3_pop_25 : decode cX3_pop 25 = .ok (.iload_n 1, 1) := by decide +kernel
theorem dX3_pop_26 : decode cX3_pop 26 = .ok (.ireturn, 1) := by decide +kernel
set_option maxRecDepth 20000 in
theorem ggX4_init_X1_init : GoodIn wsX4_init wsX1_init := goodIn_r _ [21, 22, 2, 3, 23, 24, 25, 43, 44] (by decide +kernel) (by decide +kernel)
set_option maxRecDepth 20000 in
theorem gX4_init_X1_init_n9 : GoodIn wsX4_init (wsX1_init) := ggX4_init_X1_init
set_option maxRecDepth 20000 in
theorem ggX4_init_X2_init : GoodIn wsX4_init wsX2_init := goodIn_r _ [27, 28, 2, 3, 23, 29, 30, 31, 49, 50, 51, 52, 53, 54] (by decide +kernel) (by decide +kernel)
set_option maxRecDepth 20000 in
theorem gX4_init_X2_init_n18 : GoodIn wsX4_init (wsX2_init) := ggX4_init_X2_init
set_option maxRecDepth 20000 in
theorem ggX4_init_X3_init : GoodIn wsX4_init wsX3_init := goodIn_r _ [34, 35, 2, 3, 23, 36, 37, 38, 39, 55, 56, 57, 58, 59, 60, 61, 62, 63] (by decide +kernel) (by decide +kernel)
set_option maxRecDepth 20000 in
theorem gX4_init_X3_init : GoodIn wsX4_init (wsX3_init) := ggX4_init_X3_init
set_option maxRecDepth 20000 in
theorem ggX4_init_X0_init : GoodIn wsX4_init wsX0_init := goodIn_r _ [41, 42, 2, 3] (by decide +kernel) (by decide +kernel)
set_option maxRecDepth 20000 in
theorem gX4_init_X0_init_n34 : GoodIn wsX4_init (wsX0_init) := ggX4_init_X0_init
