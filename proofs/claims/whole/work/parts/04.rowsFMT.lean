theorem dX0_init_0 : decode cX0_init 0 = .ok (.aload_n 0, 1) := by decide +kernel
theorem dX0_init_1 : decode cX0_init 1 = .ok (.invokespecial 1, 3) := by decide +kernel
theorem dX0_init_4 : decode cX0_init 4 = .ok (.return_, 1) := by decide +kernel
theorem dX0_beginAnew_0 : decode cX0_beginAnew 0 = .ok (.aload_n 0, 1) := by decide +kernel
theorem dX0_beginAnew_1 : decode cX0_beginAnew 1 = .ok (.iconst 0, 1) := by decide +kernel
theorem dX0_beginAnew_2 : decode cX0_beginAnew 2 = .ok (.putfield 7, 3) := by decide +kernel
theorem dX0_beginAnew_5 : decode cX0_beginAnew 5 = .ok (.return_, 1) := by decide +kernel
theorem dX0_dropWaiting_0 : decode cX0_dropWaiting 0 = .ok (.aload_n 0, 1) := by decide +kernel
theorem dX0_dropWaiting_1 : decode cX0_dropWaiting 1 = .ok (.iconst 0, 1) := by decide +kernel
theorem dX0_dropWaiting_2 : decode cX0_dropWaiting 2 = .ok (.putfield 13, 3) := by decide +kernel
theorem dX0_dropWaiting_5 : decode cX0_dropWaiting 5 = .ok (.return_, 1) := by decide +kernel
theorem dX0_takeWaiting_0 : decode cX0_takeWaiting 0 = .ok (.aload_n 0, 1) := by decide +kernel
theorem dX0_takeWaiting_1 : decode cX0_takeWaiting 1 = .ok (.getfield 13, 3) := by decide +kernel
theorem dX0_takeWaiting_4 : decode cX0_takeWaiting 4 = .ok (.istore_n 1, 1) := by decide +kernel
theorem dX0_takeWaiting_5 : decode cX0_takeWaiting 5 = .ok (.aload_n 0, 1) := by decide +kernel
theorem dX0_takeWaiting_6 : decode cX0_takeWaiting 6 = .ok (.iconst 0, 1) := by decide +kernel
theorem dX0_takeWaiting_7 : decode cX0_takeWaiting 7 = .ok (.putfield 13, 3) := by decide +kernel
theorem dX0_takeWaiting_10 : decode cX0_takeWaiting 10 = .ok (.iload_n 1, 1) := by decide +kernel
theorem dX0_takeWaiting_11 : decode cX0_takeWaiting 11 = .ok (.ireturn, 1) := by decide +kernel
theorem dX0_untilRequest_0 : decode cX0_untilRequest 0 = .ok (.aload_n 0, 1) := by decide +kernel
theorem dX0_untilRequest_1 : decode cX0_untilRequest 1 = .ok (.getfield 7, 3) := by decide +kernel
theorem dX0_untilRequest_4 : decode cX0_untilRequest 4 = .ok (.sipush 16667, 3) := by decide +kernel
theorem dX0_untilRequest_7 : decode cX0_untilRequest 7 = .ok (.if_icmp .ge 9, 3) := by decide +kernel
theorem dX0_untilRequest_10 : decode cX0_untilRequest 10 = .ok (.sipush 16667, 3) := by decide +kernel
theorem dX0_untilRequest_13 : decode cX0_untilRequest 13 = .ok (.goto 5, 3) := by decide +kernel
theorem dX0_untilRequest_16 : decode cX0_untilRequest 16 = .ok (.ldc 16, 2) := by decide +kernel
theorem dX0_untilRequest_18 : decode cX0_untilRequest 18 = .ok (.aload_n 0, 1) := by decide +kernel
theorem dX0_untilRequest_19 : decode cX0_untilRequest 19 = .ok (.getfield 7, 3) := by decide +kernel
theorem dX0_untilRequest_22 : decode cX0_untilRequest 22 = .ok (.isub, 1) := by decide +kernel
theorem dX0_untilRequest_23 : decode cX0_untilRequest 23 = .ok (.ireturn, 1) := by decide +kernel
theorem dX0_pass_0 : decode cX0_pass 0 = .ok (.aload_n 0, 1) := by decide +kernel
theorem dX0_pass_1 : decode cX0_pass 1 = .ok (.getfield 7, 3) := by decide +kernel
theorem dX0_pass_4 : decode cX0_pass 4 = .ok (.sipush 16667, 3) := by decide +kernel
theorem dX0_pass_7 : decode cX0_pass 7 = .ok (.if_icmp .ge 7, 3) := by decide +kernel
theorem dX0_pass_10 : decode cX0_pass 10 = .ok (.iconst 1, 1) := by decide +kernel
theorem dX0_pass_11 : decode cX0_pass 11 = .ok (.goto 4, 3) := by decide +kernel
theorem dX0_pass_14 : decode cX0_pass 14 = .ok (.iconst 0, 1) := by decide +kernel
theorem dX0_pass_15 : decode cX0_pass 15 = .ok (.istore_n 2, 1) := by decide +kernel
theorem dX0_pass_16 : decode cX0_pass 16 = .ok (.aload_n 0, 1) := by decide +kernel
theorem dX0_pass_17 : decode cX0_pass 17 = .ok (.dup, 1) := by decide +kernel
theorem dX0_pass_18 : decode cX0_pass 18 = .ok (.getfield 7, 3) := by decide +kernel
theorem dX0_pass_21 : decode cX0_pass 21 = .ok (.iload_n 1, 1) := by decide +kernel
theorem dX0_pass_22 : decode cX0_pass 22 = .ok (.iadd, 1) := by decide +kernel
theorem dX0_pass_23 : decode cX0_pass 23 = .ok (.putfield 7, 3) := by decide +kernel
theorem dX0_pass_26 : decode cX0_pass 26 = .ok (.iload_n 2, 1) := by decide +kernel
theorem dX0_pass_27 : decode cX0_pass 27 = .ok (.ifCond .eq 18, 3) := by decide +kernel
theorem dX0_pass_30 : decode cX0_pass 30 = .ok (.aload_n 0, 1) := by decide +kernel
theorem dX0_pass_31 : decode cX0_pass 31 = .ok (.getfield 7, 3) := by decide +kernel
theorem dX0_pass_34 : decode cX0_pass 34 = .ok (.sipush 16667, 3) := by decide +kernel
theorem dX0_pass_37 : decode cX0_pass 37 = .ok (.if_icmp .lt 8, 3) := by decide +kernel
theorem dX0_pass_40 : decode cX0_pass 40 = .ok (.aload_n 0, 1) := by decide +kernel
theorem dX0_pass_41 : decode cX0_pass 41 = .ok (.iconst 1, 1) := by decide +kernel
theorem dX0_pass_42 : decode cX0_pass 42 = .ok (.putfield 13, 3) := by decide +kernel
theorem dX0_pass_45 : decode cX0_pass 45 = .ok (.aload_n 0, 1) := by decide +kernel
theorem dX0_pass_46 : decode cX0_pass 46 = .ok (.getfield 7, 3) := by decide +kernel
theorem dX0_pass_49 : decode cX0_pass 49 = .ok (.ldc 16, 2) := by decide +kernel
theorem dX0_pass_51 : decode cX0_pass 51 = .ok (.if_icmp .ge 5, 3) := by decide +kernel
theorem dX0_pass_54 : decode cX0_pass 54 = .ok (.iconst 0, 1) := by decide +kernel
theorem dX0_pass_55 : decode cX0_pass 55 = .ok (.ireturn, 1) := by decide +kernel
theorem dX0_pass_56 : decode cX0_pass 56 = .ok (.aload_n 0, 1) := by decide +kernel
theorem dX0_pass_57 : decode cX0_pass 57 = .ok (.dup, 1) := by decide +kernel
theorem dX0_pass_58 : decode cX0_pass 58 = .ok (.getfield 7, 3) := by decide +kernel
theorem dX0_pass_61 : decode cX0_pass 61 = .ok (.ldc 16, 2) := by decide +kernel
theorem dX0_pass_63 : decode cX0_pass 63 = .ok (.isub, 1) := by decide +kernel
theorem dX0_pass_64 : decode cX0_pass 64 = .ok (.putfield 7, 3) := by decide +kernel
theorem dX0_pass_67 : decode cX0_pass 67 = .ok (.aload_n 0, 1) := by decide +kernel
theorem dX0_pass_68 : decode cX0_pass 68 = .ok (.dup, 1) := by decide +kernel
theorem dX0_pass_69 : decode cX0_pass 69 = .ok (.getfield 17, 3) := by decide +kernel
theorem dX0_pass_72 : decode cX0_pass 72 = .ok (.iconst 1, 1) := by decide +kernel
theorem dX0_pass_73 : decode cX0_pass 73 = .ok (.iadd, 1) := by decide +kernel
theorem dX0_pass_74 : decode cX0_pass 74 = .ok (.putfield 17, 3) := by decide +kernel
theorem dX0_pass_77 : decode cX0_pass 77 = .ok (.aload_n 0, 1) := by decide +kernel
theorem dX0_pass_78 : decode cX0_pass 78 = .ok (.iconst 2, 1) := by decide +kernel
theorem dX0_pass_79 : decode cX0_pass 79 = .ok (.putfield 13, 3) := by decide +kernel
theorem dX0_pass_82 : decode cX0_pass 82 = .ok (.iconst 1, 1) := by decide +kernel
theorem dX0_pass_83 : decode cX0_pass 83 = .ok (.ireturn, 1) := by decide +kernel
theorem dX1_init_0 : decode cX1_init 0 = .ok (.aload_n 0, 1) := by decide +kernel
theorem dX1_init_1 : decode cX1_init 1 = .ok (.invokespecial 1, 3) := by decide +kernel
theorem dX1_init_4 : decode cX1_init 4 = .ok (.aload_n 0, 1) := by decide +kernel
theorem dX1_init_5 : decode cX1_init 5 = .ok (.sipush 2048, 3) := by decide +kernel
theorem dX1_init_8 : decode cX1_init 8 = .ok (.newarray .int, 2) := by decide +kernel
theorem dX1_init_10 : decode cX1_init 10 = .ok (.putfield 9, 3) := by decide +kernel
theorem dX1_init_13 : decode cX1_init 13 = .ok (.aload_n 0, 1) := by decide +kernel
theorem dX1_init_14 : decode cX1_init 14 = .ok (.sipush 8192, 3) := by decide +kernel
theorem dX1_init_17 : decode cX1_init 17 = .ok (.newarray .int, 2) := by decide +kernel
theorem dX1_init_19 : decode cX1_init 19 = .ok (.putfield 13, 3) := by decide +kernel
theorem dX1_init_22 : decode cX1_init 22 = .ok (.return_, 1) := by decide +kernel
theorem dX1_read_0 : decode cX1_read 0 = .ok (.iload_n 1, 1) := by decide +kernel
theorem dX1_read_1 : decode cX1_read 1 = .ok (.sipush 8192, 3) := by decide +kernel
theorem dX1_read_4 : decode cX1_read 4 = .ok (.iand, 1) := by decide +kernel
theorem dX1_read_5 : decode cX1_read 5 = .ok (.ifCond .eq 14, 3) := by decide +kernel
theorem dX1_read_8 : decode cX1_read 8 = .ok (.aload_n 0, 1) := by decide +kernel
theorem dX1_read_9 : decode cX1_read 9 = .ok (.getfield 13, 3) := by decide +kernel
theorem dX1_read_12 : decode cX1_read 12 = .ok (.iload_n 1, 1) := by decide +kernel
theorem dX1_read_13 : decode cX1_read 13 = .ok (.sipush 8191, 3) := by decide +kernel
theorem dX1_read_16 : decode cX1_read 16 = .ok (.iand, 1) := by decide +kernel
theorem dX1_read_17 : decode cX1_read 17 = .ok (.iaload, 1) := by decide +kernel
theorem dX1_read_18 : decode cX1_read 18 = .ok (.ireturn, 1) := by decide +kernel
theorem dX1_read_19 : decode cX1_read 19 = .ok (.iload_n 1, 1) := by decide +kernel
theorem dX1_read_20 : decode cX1_read 20 = .ok (.ldc 16, 2) := by decide +kernel
theorem dX1_read_22 : decode cX1_read 22 = .ok (.iand, 1) := by decide +kernel
theorem dX1_read_23 : decode cX1_read 23 = .ok (.istore_n 2, 1) := by decide +kernel
theorem dX1_read_24 : decode cX1_read 24 = .ok (.iload_n 2, 1) := by decide +kernel
theorem dX1_read_25 : decode cX1_read 25 = .ok (.sipush 2048, 3) := by decide +kernel
theorem dX1_read_28 : decode cX1_read 28 = .ok (.if_icmp .ge 12, 3) := by decide +kernel
theorem dX1_read_31 : decode cX1_read 31 = .ok (.aload_n 0, 1) := by decide +kernel
theorem dX1_read_32 : decode cX1_read 32 = .ok (.getfield 9, 3) := by decide +kernel
theorem dX1_read_35 : decode cX1_read 35 = .ok (.iload_n 2, 1) := by decide +kernel
theorem dX1_read_36 : decode cX1_read 36 = .ok (.iaload, 1) := by decide +kernel
theorem dX1_read_37 : decode cX1_read 37 = .ok (.goto 4, 3) := by decide +kernel
theorem dX1_read_40 : decode cX1_read 40 = .ok (.iconst 0, 1) := by decide +kernel
theorem dX1_read_41 : decode cX1_read 41 = .ok (.ireturn, 1) := by decide +kernel
theorem dX1_write_0 : decode cX1_write 0 = .ok (.iload_n 1, 1) := by decide +kernel
theorem dX1_write_1 : decode cX1_write 1 = .ok (.sipush 8192, 3) := by decide +kernel
theorem dX1_write_4 : decode cX1_write 4 = .ok (.iand, 1) := by decide +kernel
theorem dX1_write_5 : decode cX1_write 5 = .ok (.ifCond .eq 18, 3) := by decide +kernel
theorem dX1_write_8 : decode cX1_write 8 = .ok (.aload_n 0, 1) := by decide +kernel
theorem dX1_write_9 : decode cX1_write 9 = .ok (.getfield 13, 3) := by decide +kernel
theorem dX1_write_12 : decode cX1_write 12 = .ok (.iload_n 1, 1) := by decide +kernel
theorem dX1_write_13 : decode cX1_write 13 = .ok (.sipush 8191, 3) := by decide +kernel
theorem dX1_write_16 : decode cX1_write 16 = .ok (.iand, 1) := by decide +kernel
theorem dX1_write_17 : decode cX1_write 17 = .ok (.iload_n 2, 1) := by decide +kernel
theorem dX1_write_18 : decode cX1_write 18 = .ok (.sipush 255, 3) := by decide +kernel
theorem dX1_write_21 : decode cX1_write 21 = .ok (.iand, 1) := by decide +kernel
theorem dX1_write_22 : decode cX1_write 22 = .ok (.iastore, 1) := by decide +kernel
theorem dX1_write_23 : decode cX1_write 23 = .ok (.return_, 1) := by decide +kernel
set_option maxRecDepth 20000 in
theorem ggX1_readWord_X1_read : GoodIn wsX1_readWord wsX1_read := goodIn_r _ [5, 6, 7, 8, 9, 10] (by decide +kernel) (by decide +kernel)
set_option maxRecDepth 20000 in
theorem gX1_readWord_X1_read : GoodIn wsX1_readWord (wsV RX1 17 RX1 yX1_read wsX1_read) := goodIn_app (goodIn_of _ (by decide +kernel)) ggX1_readWord_X1_read
theorem dX1_readWord_0 : decode cX1_readWord 0 = .ok (.aload_n 0, 1) := by decide +kernel
theorem dX1_readWord_1 : decode cX1_readWord 1 = .ok (.iload_n 1, 1) := by decide +kernel
theorem dX1_readWord_2 : decode cX1_readWord 2 = .ok (.invokevirtual 17, 3) := by decide +kernel
theorem dX1_readWord_5 : decode cX1_readWord 5 = .ok (.aload_n 0, 1) := by decide +kernel
theorem dX1_readWord_6 : decode cX1_readWord 6 = .ok (.iload_n 1, 1) := by decide +kernel
theorem dX1_readWord_7 : decode cX1_readWord 7 = .ok (.iconst 1, 1) := by decide +kernel
theorem dX1_readWord_8 : decode cX1_readWord 8 = .ok (.iadd, 1) := by decide +kernel
theorem dX1_readWord_9 : decode cX1_readWord 9 = .ok (.invokevirtual 17, 3) := by decide +kernel
theorem dX1_readWord_12 : decode cX1_readWord 12 = .ok (.bipush 8, 2) := by decide +kernel
theorem dX1_readWord_14 : decode cX1_readWord 14 = .ok (.ishl, 1) := by decide +kernel
theorem dX1_readWord_15 : decode cX1_readWord 15 = .ok (.ior, 1) := by decide +kernel
theorem dX1_readWord_16 : decode cX1_readWord 16 = .ok (.ireturn, 1) := by decide +kernel
set_option maxRecDepth 20000 in
theorem ggX1_writeWord_X1_write : GoodIn wsX1_writeWord wsX1_write := goodIn_r _ [5, 6, 7, 8] (by decide +kernel) (by decide +kernel)
set_option maxRecDepth 20000 in
theorem gX1_writeWord_X1_write : GoodIn wsX1_writeWord (wsV RX1 21 RX1 yX1_write wsX1_write) := goodIn_app (goodIn_of _ (by decide +kernel)) ggX1_writeWord_X1_write
theorem dX1_writeWord_0 : decode cX1_writeWord 0 = .ok (.aload_n 0, 1) := by decide +kernel
theorem dX1_writeWord_1 : decode cX1_writeWord 1 = .ok (.iload_n 1, 1) := by decide +kernel
theorem dX1_writeWord_2 : decode cX1_writeWord 2 = .ok (.iload_n 2, 1) := by decide +kernel
theorem dX1_writeWord_3 : decode cX1_writeWord 3 = .ok (.invokevirtual 21, 3) := by decide +kernel
theorem dX1_writeWord_6 : decode cX1_writeWord 6 = .ok (.aload_n 0, 1) := by decide +kernel
theorem dX1_writeWord_7 : decode cX1_writeWord 7 = .ok (.iload_n 1, 1) := by decide +kernel
theorem dX1_writeWord_8 : decode cX1_writeWord 8 = .ok (.iconst 1, 1) := by decide +kernel
theorem dX1_writeWord_9 : decode cX1_writeWord 9 = .ok (.iadd, 1) := by decide +kernel
theorem dX1_writeWord_10 : decode cX1_writeWord 10 = .ok (.iload_n 2, 1) := by decide +kernel
theorem dX1_writeWord_11 : decode cX1_writeWord 11 = .ok (.bipush 8, 2) := by decide +kernel
theorem dX1_writeWord_13 : decode cX1_writeWord 13 = .ok (.ishr, 1) := by decide +kernel
theorem dX1_writeWord_14 : decode cX1_writeWord 14 = .ok (.invokevirtual 21, 3) := by decide +kernel
theorem dX1_writeWord_17 : decode cX1_writeWord 17 = .ok (.return_, 1) := by decide +kernel
theorem dX1_burn_0 : decode cX1_burn 0 = .ok (.iload_n 1, 1) := by decide +kernel
theorem dX1_burn_1 : decode cX1_burn 1 = .ok (.ifCond .lt 21, 3) := by decide +kernel
theorem dX1_burn_4 : decode cX1_burn 4 = .ok (.iload_n 1, 1) := by decide +kernel
theorem dX1_burn_5 : decode cX1_burn 5 = .ok (.sipush 2048, 3) := by decide +kernel
theorem dX1_burn_8 : decode cX1_burn 8 = .ok (.if_icmp .ge 14, 3) := by decide +kernel
theorem dX1_burn_11 : decode cX1_burn 11 = .ok (.aload_n 0, 1) := by decide +kernel
theorem dX1_burn_12 : decode cX1_burn 12 = .ok (.getfield 9, 3) := by decide +kernel
theorem dX1_burn_15 : decode cX1_burn 15 = .ok (.iload_n 1, 1) := by decide +kernel
theorem dX1_burn_16 : decode cX1_burn 16 = .ok (.iload_n 2, 1) := by decide +kernel
theorem dX1_burn_17 : decode cX1_burn 17 = .ok (.sipush 255, 3) := by decide +kernel
theorem dX1_burn_20 : decode cX1_burn 20 = .ok (.iand, 1) := by decide +kernel
theorem dX1_burn_21 : decode cX1_burn 21 = .ok (.iastore, 1) := by decide +kernel
theorem dX1_burn_22 : decode cX1_burn 22 = .ok (.return_, 1) := by decide +kernel
set_option maxRecDepth 20000 in
theorem ggX1_dotsInColumn_X1_read : GoodIn wsX1_dotsInColumn wsX1_read := goodIn_r _ [12, 13, 14, 15, 23, 24] (by decide +kernel) (by decide +kernel)
set_option maxRecDepth 20000 in
theorem gX1_dotsInColumn_X1_read : GoodIn wsX1_dotsInColumn (wsV RX1 17 RX1 yX1_read wsX1_read) := goodIn_app (goodIn_of _ (by decide +kernel)) ggX1_dotsInColumn_X1_read
set_option maxRecDepth 20000 in
theorem ggX1_dotsInColumn_J6_bitCount_0f7a4 : GoodIn wsX1_dotsInColumn wsJ6_bitCount_0f7a4 := goodIn_r _ [19, 20, 21, 22] (by decide +kernel) (by decide +kernel)
set_option maxRecDepth 20000 in
theorem gX1_dotsInColumn_J6_bitCount_0f7a4 : GoodIn wsX1_dotsInColumn (va_wsS RX1 34 yJ6_bitCount_0f7a4 wsJ6_bitCount_0f7a4) := goodIn_app (goodIn_of _ (by decide +kernel)) ggX1_dotsInColumn_J6_bitCount_0f7a4
theorem dX1_dotsInColumn_0 : decode cX1_dotsInColumn 0 = .ok (.sipush 256, 3) := by decide +kernel
theorem dX1_dotsInColumn_3 : decode cX1_dotsInColumn 3 = .ok (.iload_n 3, 1) := by decide +kernel
theorem dX1_dotsInColumn_4 : decode cX1_dotsInColumn 4 = .ok (.isub, 1) := by decide +kernel
theorem dX1_dotsInColumn_5 : decode cX1_dotsInColumn 5 = .ok (.istore 4, 2) := by decide +kernel
theorem dX1_dotsInColumn_7 : decode cX1_dotsInColumn 7 = .ok (.sipush 256, 3) := by decide +kernel
theorem dX1_dotsInColumn_10 : decode cX1_dotsInColumn 10 = .ok (.iload_n 2, 1) := by decide +kernel
theorem dX1_dotsInColumn_11 : decode cX1_dotsInColumn 11 = .ok (.isub, 1) := by decide +kernel
theorem dX1_dotsInColumn_12 : decode cX1_dotsInColumn 12 = .ok (.istore 5, 2) := by decide +kernel
theorem dX1_dotsInColumn_14 : decode cX1_dotsInColumn 14 = .ok (.iconst 0, 1) := by decide +kernel
theorem dX1_dotsInColumn_15 : decode cX1_dotsInColumn 15 = .ok (.istore 6, 2) := by decide +kernel
theorem dX1_dotsInColumn_17 : decode cX1_dotsInColumn 17 = .ok (.iconst 0, 1) := by decide +kernel
theorem dX1_dotsInColumn_18 : decode cX1_dotsInColumn 18 = .ok (.istore 7, 2) := by decide +kernel
theorem dX1_dotsInColumn_20 : decode cX1_dotsInColumn 20 = .ok (.iload 7, 2) := by decide +kernel
theorem dX1_dotsInColumn_22 : decode cX1_dotsInColumn 22 = .ok (.bipush 32, 2) := by decide +kernel
theorem dX1_dotsInColumn_24 : decode cX1_dotsInColumn 24 = .ok (.if_icmp .ge 89, 3) := by decide +kernel
theorem dX1_dotsInColumn_27 : decode cX1_dotsInColumn 27 = .ok (.iload 4, 2) := by decide +kernel
theorem dX1_dotsInColumn_29 : decode cX1_dotsInColumn 29 = .ok (.bipush 8, 2) := by decide +kernel
theorem dX1_dotsInColumn_31 : decode cX1_dotsInColumn 31 = .ok (.iload 7, 2) := by decide +kernel
theorem dX1_dotsInColumn_33 : decode cX1_dotsInColumn 33 = .ok (.imul, 1) := by decide +kernel
theorem dX1_dotsInColumn_34 : decode cX1_dotsInColumn 34 = .ok (.isub, 1) := by decide +kernel
theorem dX1_dotsInColumn_35 : decode cX1_dotsInColumn 35 = .ok (.iconst 0, 1) := by decide +kernel
theorem dX1_dotsInColumn_36 : decode cX1_dotsInColumn 36 = .ok (.invokestatic 25, 3) := by decide +kernel
theorem dX1_dotsInColumn_39 : decode cX1_dotsInColumn 39 = .ok (.istore 8, 2) := by decide +kernel
theorem dX1_dotsInColumn_41 : decode cX1_dotsInColumn 41 = .ok (.iload 5, 2) := by decide +kernel
theorem dX1_dotsInColumn_43 : decode cX1_dotsInColumn 43 = .ok (.bipush 8, 2) := by decide +kernel
theorem dX1_dotsInColumn_45 : decode cX1_dotsInColumn 45 = .ok (.iload 7, 2) := by decide +kernel
theorem dX1_dotsInColumn_47 : decode cX1_dotsInColumn 47 = .ok (.imul, 1) := by decide +kernel
theorem dX1_dotsInColumn_48 : decode cX1_dotsInColumn 48 = .ok (.isub, 1) := by decide +kernel
theorem dX1_dotsInColumn_49 : decode cX1_dotsInColumn 49 = .ok (.bipush 8, 2) := by decide +kernel
theorem dX1_dotsInColumn_51 : decode cX1_dotsInColumn 51 = .ok (.invokestatic 31, 3) := by decide +kernel
theorem dX1_dotsInColumn_54 : decode cX1_dotsInColumn 54 = .ok (.istore 9, 2) := by decide +kernel
theorem dX1_dotsInColumn_56 : decode cX1_dotsInColumn 56 = .ok (.iload 8, 2) := by decide +kernel
theorem dX1_dotsInColumn_58 : decode cX1_dotsInColumn 58 = .ok (.iload 9, 2) := by decide +kernel
theorem dX1_dotsInColumn_60 : decode cX1_dotsInColumn 60 = .ok (.if_icmp .ge 47, 3) := by decide +kernel
theorem dX1_dotsInColumn_63 : decode cX1_dotsInColumn 63 = .ok (.sipush 255, 3) := by decide +kernel
theorem dX1_dotsInColumn_66 : decode cX1_dotsInColumn 66 = .ok (.iload 8, 2) := by decide +kernel
theorem dX1_dotsInColumn_68 : decode cX1_dotsInColumn 68 = .ok (.ishl, 1) := by decide +kernel
theorem dX1_dotsInColumn_69 : decode cX1_dotsInColumn 69 = .ok (.sipush 255, 3) := by decide +kernel
theorem dX1_dotsInColumn_72 : decode cX1_dotsInColumn 72 = .ok (.bipush 8, 2) := by decide +kernel
theorem dX1_dotsInColumn_74 : decode cX1_dotsInColumn 74 = .ok (.iload 9, 2) := by decide +kernel
theorem dX1_dotsInColumn_76 : decode cX1_dotsInColumn 76 = .ok (.isub, 1) := by decide +kernel
theorem dX1_dotsInColumn_77 : decode cX1_dotsInColumn 77 = .ok (.ishr, 1) := by decide +kernel
theorem dX1_dotsInColumn_78 : decode cX1_dotsInColumn 78 = .ok (.iand, 1) := by decide +kernel
theorem dX1_dotsInColumn_79 : decode cX1_dotsInColumn 79 = .ok (.istore 10, 2) := by decide +kernel
theorem dX1_dotsInColumn_81 : decode cX1_dotsInColumn 81 = .ok (.iload 6, 2) := by decide +kernel
theorem dX1_dotsInColumn_83 : decode cX1_dotsInColumn 83 = .ok (.aload_n 0, 1) := by decide +kernel
theorem dX1_dotsInColumn_84 : decode cX1_dotsInColumn 84 = .ok (.sipush 9216, 3) := by decide +kernel
theorem dX1_dotsInColumn_87 : decode cX1_dotsInColumn 87 = .ok (.bipush 32, 2) := by decide +kernel
theorem dX1_dotsInColumn_89 : decode cX1_dotsInColumn 89 = .ok (.iload_n 1, 1) := by decide +kernel
theorem dX1_dotsInColumn_90 : decode cX1_dotsInColumn 90 = .ok (.imul, 1) := by decide +kernel
theorem dX1_dotsInColumn_91 : decode cX1_dotsInColumn 91 = .ok (.iadd, 1) := by decide +kernel
theorem dX1_dotsInColumn_92 : decode cX1_dotsInColumn 92 = .ok (.iload 7, 2) := by decide +kernel
theorem dX1_dotsInColumn_94 : decode cX1_dotsInColumn 94 = .ok (.iadd, 1) := by decide +kernel
theorem dX1_dotsInColumn_95 : decode cX1_dotsInColumn 95 = .ok (.invokevirtual 17, 3) := by decide +kernel
theorem dX1_dotsInColumn_98 : decode cX1_dotsInColumn 98 = .ok (.iload 10, 2) := by decide +kernel
theorem dX1_dotsInColumn_100 : decode cX1_dotsInColumn 100 = .ok (.iand, 1) := by decide +kernel
theorem dX1_dotsInColumn_101 : decode cX1_dotsInColumn 101 = .ok (.invokestatic 34, 3) := by decide +kernel
theorem dX1_dotsInColumn_104 : decode cX1_dotsInColumn 104 = .ok (.iadd, 1) := by decide +kernel
theorem dX1_dotsInColumn_105 : decode cX1_dotsInColumn 105 = .ok (.istore 6, 2) := by decide +kernel
theorem dX1_dotsInColumn_107 : decode cX1_dotsInColumn 107 = .ok (.iinc 7 1, 3) := by decide +kernel
theorem dX1_dotsInColumn_110 : decode cX1_dotsInColumn 110 = .ok (.goto (-90), 3) := by decide +kernel
theorem dX1_dotsInColumn_113 : decode cX1_dotsInColumn 113 = .ok (.iload 6, 2) := by decide +kernel
theorem dX1_dotsInColumn_115 : decode cX1_dotsInColumn 115 = .ok (.ireturn, 1) := by decide +kernel
theorem dX2_init_0 : decode cX2_init 0 = .ok (.aload_n 0, 1) := by decide +kernel
theorem dX2_init_1 : decode cX2_init 1 = .ok (.invokespecial 1, 3) := by decide +kernel
theorem dX2_init_4 : decode cX2_init 4 = .ok (.aload_n 0, 1) := by decide +kernel
theorem dX2_init_5 : decode cX2_init 5 = .ok (.iconst 3, 1) := by decide +kernel
theorem dX2_init_6 : decode cX2_init 6 = .ok (.newarray .int, 2) := by decide +kernel
theorem dX2_init_8 : decode cX2_init 8 = .ok (.putfield 9, 3) := by decide +kernel
theorem dX2_init_11 : decode cX2_init 11 = .ok (.aload_n 0, 1) := by decide +kernel
theorem dX2_init_12 : decode cX2_init 12 = .ok (.iconst 2, 1) := by decide +kernel
theorem dX2_init_13 : decode cX2_init 13 = .ok (.newarray .int, 2) := by decide +kernel
theorem dX2_init_15 : decode cX2_init 15 = .ok (.putfield 13, 3) := by decide +kernel
theorem dX2_init_18 : decode cX2_init 18 = .ok (.aload_n 0, 1) := by decide +kernel
theorem dX2_init_19 : decode cX2_init 19 = .ok (.bipush 16, 2) := by decide +kernel
theorem dX2_init_21 : decode cX2_init 21 = .ok (.newarray .int, 2) := by decide +kernel
theorem dX2_init_23 : decode cX2_init 23 = .ok (.putfield 16, 3) := by decide +kernel
theorem dX2_init_26 : decode cX2_init 26 = .ok (.return_, 1) := by decide +kernel
theorem dX2_clear_0 : decode cX2_clear 0 = .ok (.aload_n 0, 1) := by decide +kernel
theorem dX2_clear_1 : decode cX2_clear 1 = .ok (.iconst 0, 1) := by decide +kernel
theorem dX2_clear_2 : decode cX2_clear 2 = .ok (.putfield 19, 3) := by decide +kernel
theorem dX2_clear_5 : decode cX2_clear 5 = .ok (.aload_n 0, 1) := by decide +kernel
theorem dX2_clear_6 : decode cX2_clear 6 = .ok (.iconst 0, 1) := by decide +kernel
theorem dX2_clear_7 : decode cX2_clear 7 = .ok (.putfield 23, 3) := by decide +kernel
theorem dX2_clear_10 : decode cX2_clear 10 = .ok (.aload_n 0, 1) := by decide +kernel
theorem dX2_clear_11 : decode cX2_clear 11 = .ok (.getfield 13, 3) := by decide +kernel
theorem dX2_clear_14 : decode cX2_clear 14 = .ok (.iconst 0, 1) := by decide +kernel
theorem dX2_clear_15 : decode cX2_clear 15 = .ok (.iconst 0, 1) := by decide +kernel
theorem dX2_clear_16 : decode cX2_clear 16 = .ok (.iastore, 1) := by decide +kernel
theorem dX2_clear_17 : decode cX2_clear 17 = .ok (.aload_n 0, 1) := by decide +kernel
theorem dX2_clear_18 : decode cX2_clear 18 = .ok (.getfield 13, 3) := by decide +kernel
theorem dX2_clear_21 : decode cX2_clear 21 = .ok (.iconst 1, 1) := by decide +kernel
theorem dX2_clear_22 : decode cX2_clear 22 = .ok (.iconst 0, 1) := by decide +kernel
theorem dX2_clear_23 : decode cX2_clear 23 = .ok (.iastore, 1) := by decide +kernel
theorem dX2_clear_24 : decode cX2_clear 24 = .ok (.aload_n 0, 1) := by decide +kernel
theorem dX2_clear_25 : decode cX2_clear 25 = .ok (.iconst 0, 1) := by decide +kernel
theorem dX2_clear_26 : decode cX2_clear 26 = .ok (.putfield 26, 3) := by decide +kernel
theorem dX2_clear_29 : decode cX2_clear 29 = .ok (.return_, 1) := by decide +kernel
theorem dX2_setInput_0 : decode cX2_setInput 0 = .ok (.iload_n 1, 1) := by decide +kernel
theorem dX2_setInput_1 : decode cX2_setInput 1 = .ok (.ifCond .lt 19, 3) := by decide +kernel
theorem dX2_setInput_4 : decode cX2_setInput 4 = .ok (.iload_n 1, 1) := by decide +kernel
theorem dX2_setInput_5 : decode cX2_setInput 5 = .ok (.iconst 3, 1) := by decide +kernel
theorem dX2_setInput_6 : decode cX2_setInput 6 = .ok (.if_icmp .ge 14, 3) := by decide +kernel
theorem dX2_setInput_9 : decode cX2_setInput 9 = .ok (.aload_n 0, 1) := by decide +kernel
theorem dX2_setInput_10 : decode cX2_setInput 10 = .ok (.getfield 9, 3) := by decide +kernel
theorem dX2_setInput_13 : decode cX2_setInput 13 = .ok (.iload_n 1, 1) := by decide +kernel
theorem dX2_setInput_14 : decode cX2_setInput 14 = .ok (.iload_n 2, 1) := by decide +kernel
theorem dX2_setInput_15 : decode cX2_setInput 15 = .ok (.sipush 255, 3) := by decide +kernel
theorem dX2_setInput_18 : decode cX2_setInput 18 = .ok (.iand, 1) := by decide +kernel
theorem dX2_setInput_19 : decode cX2_setInput 19 = .ok (.iastore, 1) := by decide +kernel
theorem dX2_setInput_20 : decode cX2_setInput 20 = .ok (.return_, 1) := by decide +kernel
set_option maxRecDepth 20000 in
theorem ggX2_in_X2_shifted : GoodIn wsX2_in wsX2_shifted := goodIn_r _ [6, 7, 8, 9, 10, 11, 12, 13, 14] (by decide +kernel) (by decide +kernel)
set_option maxRecDepth 20000 in
theorem gX2_in_X2_shifted : GoodIn wsX2_in (wsV RX2 29 RX2 yX2_shifted wsX2_shifted) := goodIn_app (goodIn_of _ (by decide +kernel)) ggX2_in_X2_shifted
theorem dX2_in_0 : decode cX2_in 0 = .ok (.iload_n 1, 1) := by decide +kernel
theorem dX2_in_1 : decode cX2_in 1 = .ok (.ifCond .lt 15, 3) := by decide +kernel
theorem dX2_in_4 : decode cX2_in 4 = .ok (.iload_n 1, 1) := by decide +kernel
theorem dX2_in_5 : decode cX2_in 5 = .ok (.iconst 3, 1) := by decide +kernel
theorem dX2_in_6 : decode cX2_in 6 = .ok (.if_icmp .ge 10, 3) := by decide +kernel
theorem dX2_in_9 : decode cX2_in 9 = .ok (.aload_n 0, 1) := by decide +kernel
theorem dX2_in_10 : decode cX2_in 10 = .ok (.getfield 9, 3) := by decide +kernel
theorem dX2_in_13 : decode cX2_in 13 = .ok (.iload_n 1, 1) := by decide +kernel
theorem dX2_in_14 : decode cX2_in 14 = .ok (.iaload, 1) := by decide +kernel
theorem dX2_in_15 : decode cX2_in 15 = .ok (.ireturn, 1) := by decide +kernel
theorem dX2_in_16 : decode cX2_in 16 = .ok (.iload_n 1, 1) := by decide +kernel
theorem dX2_in_17 : decode cX2_in 17 = .ok (.iconst 3, 1) := by decide +kernel
theorem dX2_in_18 : decode cX2_in 18 = .ok (.if_icmp .ne 10, 3) := by decide +kernel
theorem dX2_in_21 : decode cX2_in 21 = .ok (.aload_n 0, 1) := by decide +kernel
theorem dX2_in_22 : decode cX2_in 22 = .ok (.invokevirtual 29, 3) := by decide +kernel
theorem dX2_in_25 : decode cX2_in 25 = .ok (.goto 4, 3) := by decide +kernel
theorem dX2_in_28 : decode cX2_in 28 = .ok (.iconst 0, 1) := by decide +kernel
theorem dX2_in_29 : decode cX2_in 29 = .ok (.ireturn, 1) := by decide +kernel
set_option maxRecDepth 20000 in
theorem ggX2_out_X2_setLatch : GoodIn wsX2_out wsX2_setLatch := goodIn_r _ [8, 9, 10, 11, 12, 13, 14, 15, 16] (by decide +kernel) (by decide +kernel)
set_option maxRecDepth 20000 in
theorem gX2_out_X2_setLatch : GoodIn wsX2_out (wsV RX2 33 RX2 yX2_setLatch wsX2_setLatch) := goodIn_app (goodIn_of _ (by decide +kernel)) ggX2_out_X2_setLatch
theorem dX2_out_0 : decode cX2_out 0 = .ok (.iload_n 1, 1) := by decide +kernel
theorem dX2_out_1 : decode cX2_out 1 = .ok (.tableswitch 91 2 6 #[35, 46, 55, 74, 83], 35) := by decide +kernel
theorem dX2_out_36 : decode cX2_out 36 = .ok (.aload_n 0, 1) := by decide +kernel
theorem dX2_out_37 : decode cX2_out 37 = .ok (.iload_n 2, 1) := by decide +kernel
theorem dX2_out_38 : decode cX2_out 38 = .ok (.bipush 7, 2) := by decide +kernel
theorem dX2_out_40 : decode cX2_out 40 = .ok (.iand, 1) := by decide +kernel
theorem dX2_out_41 : decode cX2_out 41 = .ok (.putfield 23, 3) := by decide +kernel
theorem dX2_out_44 : decode cX2_out 44 = .ok (.goto 48, 3) := by decide +kernel
theorem dX2_out_47 : decode cX2_out 47 = .ok (.aload_n 0, 1) := by decide +kernel
theorem dX2_out_48 : decode cX2_out 48 = .ok (.iconst 0, 1) := by decide +kernel
theorem dX2_out_49 : decode cX2_out 49 = .ok (.iload_n 2, 1) := by decide +kernel
theorem dX2_out_50 : decode cX2_out 50 = .ok (.invokevirtual 33, 3) := by decide +kernel
theorem dX2_out_53 : decode cX2_out 53 = .ok (.goto 39, 3) := by decide +kernel
theorem dX2_out_56 : decode cX2_out 56 = .ok (.aload_n 0, 1) := by decide +kernel
theorem dX2_out_57 : decode cX2_out 57 = .ok (.iload_n 2, 1) := by decide +kernel
theorem dX2_out_58 : decode cX2_out 58 = .ok (.bipush 8, 2) := by decide +kernel
theorem dX2_out_60 : decode cX2_out 60 = .ok (.ishl, 1) := by decide +kernel
theorem dX2_out_61 : decode cX2_out 61 = .ok (.aload_n 0, 1) := by decide +kernel
theorem dX2_out_62 : decode cX2_out 62 = .ok (.getfield 19, 3) := by decide +kernel
theorem dX2_out_65 : decode cX2_out 65 = .ok (.bipush 8, 2) := by decide +kernel
theorem dX2_out_67 : decode cX2_out 67 = .ok (.ishr, 1) := by decide +kernel
theorem dX2_out_68 : decode cX2_out 68 = .ok (.ior, 1) := by decide +kernel
theorem dX2_out_69 : decode cX2_out 69 = .ok (.putfield 19, 3) := by decide +kernel
theorem dX2_out_72 : decode cX2_out 72 = .ok (.goto 20, 3) := by decide +kernel
theorem dX2_out_75 : decode cX2_out 75 = .ok (.aload_n 0, 1) := by decide +kernel
theorem dX2_out_76 : decode cX2_out 76 = .ok (.iconst 1, 1) := by decide +kernel
theorem dX2_out_77 : decode cX2_out 77 = .ok (.iload_n 2, 1) := by decide +kernel
theorem dX2_out_78 : decode cX2_out 78 = .ok (.invokevirtual 33, 3) := by decide +kernel
theorem dX2_out_81 : decode cX2_out 81 = .ok (.goto 11, 3) := by decide +kernel
theorem dX2_out_84 : decode cX2_out 84 = .ok (.aload_n 0, 1) := by decide +kernel
theorem dX2_out_85 : decode cX2_out 85 = .ok (.iconst 0, 1) := by decide +kernel
theorem dX2_out_86 : decode cX2_out 86 = .ok (.putfield 26, 3) := by decide +kernel
theorem dX2_out_89 : decode cX2_out 89 = .ok (.goto 3, 3) := by decide +kernel
theorem dX2_out_92 : decode cX2_out 92 = .ok (.return_, 1) := by decide +kernel
theorem dX2_shifted_0 : decode cX2_shifted 0 = .ok (.aload_n 0, 1) := by decide +kernel
theorem dX2_shifted_1 : decode cX2_shifted 1 = .ok (.getfield 19, 3) := by decide +kernel
theorem dX2_shifted_4 : decode cX2_shifted 4 = .ok (.aload_n 0, 1) := by decide +kernel
theorem dX2_shifted_5 : decode cX2_shifted 5 = .ok (.getfield 23, 3) := by decide +kernel
theorem dX2_shifted_8 : decode cX2_shifted 8 = .ok (.ishl, 1) := by decide +kernel
theorem dX2_shifted_9 : decode cX2_shifted 9 = .ok (.bipush 8, 2) := by decide +kernel
theorem dX2_shifted_11 : decode cX2_shifted 11 = .ok (.ishr, 1) := by decide +kernel
theorem dX2_shifted_12 : decode cX2_shifted 12 = .ok (.sipush 255, 3) := by decide +kernel
theorem dX2_shifted_15 : decode cX2_shifted 15 = .ok (.iand, 1) := by decide +kernel
theorem dX2_shifted_16 : decode cX2_shifted 16 = .ok (.ireturn, 1) := by decide +kernel
theorem dX2_latchOf_0 : decode cX2_latchOf 0 = .ok (.aload_n 0, 1) := by decide +kernel
theorem dX2_latchOf_1 : decode cX2_latchOf 1 = .ok (.getfield 13, 3) := by decide +kernel
theorem dX2_latchOf_4 : decode cX2_latchOf 4 = .ok (.iload_n 1, 1) := by decide +kernel
theorem dX2_latchOf_5 : decode cX2_latchOf 5 = .ok (.iconst 1, 1) := by decide +kernel
theorem dX2_latchOf_6 : decode cX2_latchOf 6 = .ok (.iand, 1) := by decide +kernel
theorem dX2_latchOf_7 : decode cX2_latchOf 7 = .ok (.iaload, 1) := by decide +kernel
theorem dX2_latchOf_8 : decode cX2_latchOf 8 = .ok (.ireturn, 1) := by decide +kernel
theorem dX2_risesOf_0 : decode cX2_risesOf 0 = .ok (.aload_n 0, 1) := by decide +kernel
theorem dX2_risesOf_1 : decode cX2_risesOf 1 = .ok (.getfield 16, 3) := by decide +kernel
theorem dX2_risesOf_4 : decode cX2_risesOf 4 = .ok (.iload_n 1, 1) := by decide +kernel
theorem dX2_risesOf_5 : decode cX2_risesOf 5 = .ok (.bipush 15, 2) := by decide +kernel
theorem dX2_risesOf_7 : decode cX2_risesOf 7 = .ok (.iand, 1) := by decide +kernel
theorem dX2_risesOf_8 : decode cX2_risesOf 8 = .ok (.iaload, 1) := by decide +kernel
theorem dX2_risesOf_9 : decode cX2_risesOf 9 = .ok (.ireturn, 1) := by decide +kernel
theorem dX2_endFrameUnfed_0 : decode cX2_endFrameUnfed 0 = .ok (.aload_n 0, 1) := by decide +kernel
theorem dX2_endFrameUnfed_1 : decode cX2_endFrameUnfed 1 = .ok (.dup, 1) := by decide +kernel
theorem dX2_endFrameUnfed_2 : decode cX2_endFrameUnfed 2 = .ok (.getfield 26, 3) := by decide +kernel
theorem dX2_endFrameUnfed_5 : decode cX2_endFrameUnfed 5 = .ok (.iconst 1, 1) := by decide +kernel
theorem dX2_endFrameUnfed_6 : decode cX2_endFrameUnfed 6 = .ok (.iadd, 1) := by decide +kernel
theorem dX2_endFrameUnfed_7 : decode cX2_endFrameUnfed 7 = .ok (.putfield 26, 3) := by decide +kernel
theorem dX2_endFrameUnfed_10 : decode cX2_endFrameUnfed 10 = .ok (.aload_n 0, 1) := by decide +kernel
theorem dX2_endFrameUnfed_11 : decode cX2_endFrameUnfed 11 = .ok (.getfield 26, 3) := by decide +kernel
theorem dX2_endFrameUnfed_14 : decode cX2_endFrameUnfed 14 = .ok (.bipush 16, 2) := by decide +kernel
theorem dX2_endFrameUnfed_16 : decode cX2_endFrameUnfed 16 = .ok (.if_icmp .lt 7, 3) := by decide +kernel
theorem dX2_endFrameUnfed_19 : decode cX2_endFrameUnfed 19 = .ok (.iconst 1, 1) := by decide +kernel
theorem dX2_endFrameUnfed_20 : decode cX2_endFrameUnfed 20 = .ok (.goto 4, 3) := by decide +kernel
theorem dX2_endFrameUnfed_23 : decode cX2_endFrameUnfed 23 = .ok (.iconst 0, 1) := by decide +kernel
theorem dX2_endFrameUnfed_24 : decode cX2_endFrameUnfed 24 = .ok (.ireturn, 1) := by decide +kernel
theorem dX2_setLatch_0 : decode cX2_setLatch 0 = .ok (.iload_n 2, 1) := by decide +kernel
theorem dX2_setLatch_1 : decode cX2_setLatch 1 = .ok (.aload_n 0, 1) := by decide +kernel
theorem dX2_setLatch_2 : decode cX2_setLatch 2 = .ok (.getfield 13, 3) := by decide +kernel
theorem dX2_setLatch_5 : decode cX2_setLatch 5 = .ok (.iload_n 1, 1) := by decide +kernel
theorem dX2_setLatch_6 : decode cX2_setLatch 6 = .ok (.iconst 1, 1) := by decide +kernel
theorem dX2_setLatch_7 : decode cX2_setLatch 7 = .ok (.iand, 1) := by decide +kernel
theorem dX2_setLatch_8 : decode cX2_setLatch 8 = .ok (.iaload, 1) := by decide +kernel
theorem dX2_setLatch_9 : decode cX2_setLatch 9 = .ok (.iconst (-1), 1) := by decide +kernel
theorem dX2_setLatch_10 : decode cX2_setLatch 10 = .ok (.ixor, 1) := by decide +kernel
theorem dX2_setLatch_11 : decode cX2_setLatch 11 = .ok (.iand, 1) := by decide +kernel
theorem dX2_setLatch_12 : decode cX2_setLatch 12 = .ok (.istore_n 3, 1) := by decide +kernel
theorem dX2_setLatch_13 : decode cX2_setLatch 13 = .ok (.iconst 0, 1) := by decide +kernel
theorem dX2_setLatch_14 : decode cX2_setLatch 14 = .ok (.istore 4, 2) := by decide +kernel
theorem dX2_setLatch_16 : decode cX2_setLatch 16 = .ok (.iload 4, 2) := by decide +kernel
theorem dX2_setLatch_18 : decode cX2_setLatch 18 = .ok (.bipush 8, 2) := by decide +kernel
theorem dX2_setLatch_20 : decode cX2_setLatch 20 = .ok (.if_icmp .ge 32, 3) := by decide +kernel
theorem dX2_setLatch_23 : decode cX2_setLatch 23 = .ok (.aload_n 0, 1) := by decide +kernel
theorem dX2_setLatch_24 : decode cX2_setLatch 24 = .ok (.getfield 16, 3) := by decide +kernel
theorem dX2_setLatch_27 : decode cX2_setLatch 27 = .ok (.bipush 8, 2) := by decide +kernel
theorem dX2_setLatch_29 : decode cX2_setLatch 29 = .ok (.iload_n 1, 1) := by decide +kernel
theorem dX2_setLatch_30 : decode cX2_setLatch 30 = .ok (.iconst 1, 1) := by decide +kernel
theorem dX2_setLatch_31 : decode cX2_setLatch 31 = .ok (.iand, 1) := by decide +kernel
theorem dX2_setLatch_32 : decode cX2_setLatch 32 = .ok (.imul, 1) := by decide +kernel
theorem dX2_setLatch_33 : decode cX2_setLatch 33 = .ok (.iload 4, 2) := by decide +kernel
theorem dX2_setLatch_35 : decode cX2_setLatch 35 = .ok (.iadd, 1) := by decide +kernel
theorem dX2_setLatch_36 : decode cX2_setLatch 36 = .ok (.dup2, 1) := by decide +kernel
theorem dX2_setLatch_37 : decode cX2_setLatch 37 = .ok (.iaload, 1) := by decide +kernel
theorem dX2_setLatch_38 : decode cX2_setLatch 38 = .ok (.iload_n 3, 1) := by decide +kernel
theorem dX2_setLatch_39 : decode cX2_setLatch 39 = .ok (.iload 4, 2) := by decide +kernel
theorem dX2_setLatch_41 : decode cX2_setLatch 41 = .ok (.ishr, 1) := by decide +kernel
theorem dX2_setLatch_42 : decode cX2_setLatch 42 = .ok (.iconst 1, 1) := by decide +kernel
theorem dX2_setLatch_43 : decode cX2_setLatch 43 = .ok (.iand, 1) := by decide +kernel
theorem dX2_setLatch_44 : decode cX2_setLatch 44 = .ok (.iadd, 1) := by decide +kernel
theorem dX2_setLatch_45 : decode cX2_setLatch 45 = .ok (.iastore, 1) := by decide +kernel
theorem dX2_setLatch_46 : decode cX2_setLatch 46 = .ok (.iinc 4 1, 3) := by decide +kernel
theorem dX2_setLatch_49 : decode cX2_setLatch 49 = .ok (.goto (-33), 3) := by decide +kernel
theorem dX2_setLatch_52 : decode cX2_setLatch 52 = .ok (.aload_n 0, 1) := by decide +kernel
theorem dX2_setLatch_53 : decode cX2_setLatch 53 = .ok (.getfield 13, 3) := by decide +kernel
theorem dX2_setLatch_56 : decode cX2_setLatch 56 = .ok (.iload_n 1, 1) := by decide +kernel
theorem dX2_setLatch_57 : decode cX2_setLatch 57 = .ok (.iconst 1, 1) := by decide +kernel
theorem dX2_setLatch_58 : decode cX2_setLatch 58 = .ok (.iand, 1) := by decide +kernel
theorem dX2_setLatch_59 : decode cX2_setLatch 59 = .ok (.iload_n 2, 1) := by decide +kernel
theorem dX2_setLatch_60 : decode cX2_setLatch 60 = .ok (.iastore, 1) := by decide +kernel
theorem dX2_setLatch_61 : decode cX2_setLatch 61 = .ok (.return_, 1) := by decide +kernel
