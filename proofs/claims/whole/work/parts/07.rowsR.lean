theorem dX5_init_0 : decode cX5_init 0 = .ok (.aload_n 0, 1) := by decide +kernel
theorem dX5_init_1 : decode cX5_init 1 = .ok (.invokespecial 1, 3) := by decide +kernel
theorem dX5_init_4 : decode cX5_init 4 = .ok (.aload_n 0, 1) := by decide +kernel
theorem dX5_init_5 : decode cX5_init 5 = .ok (.sipush 2048, 3) := by decide +kernel
theorem dX5_init_8 : decode cX5_init 8 = .ok (.newarray .int, 2) := by decide +kernel
theorem dX5_init_10 : decode cX5_init 10 = .ok (.putfield 7, 3) := by decide +kernel
theorem dX5_init_13 : decode cX5_init 13 = .ok (.aload_n 0, 1) := by decide +kernel
theorem dX5_init_14 : decode cX5_init 14 = .ok (.sipush 8192, 3) := by decide +kernel
theorem dX5_init_17 : decode cX5_init 17 = .ok (.newarray .int, 2) := by decide +kernel
theorem dX5_init_19 : decode cX5_init 19 = .ok (.putfield 13, 3) := by decide +kernel
theorem dX5_init_22 : decode cX5_init 22 = .ok (.aload_n 0, 1) := by decide +kernel
theorem dX5_init_23 : decode cX5_init 23 = .ok (.bipush 8, 2) := by decide +kernel
theorem dX5_init_25 : decode cX5_init 25 = .ok (.newarray .int, 2) := by decide +kernel
theorem dX5_init_27 : decode cX5_init 27 = .ok (.putfield 16, 3) := by decide +kernel
theorem dX5_init_30 : decode cX5_init 30 = .ok (.aload_n 0, 1) := by decide +kernel
theorem dX5_init_31 : decode cX5_init 31 = .ok (.iconst 3, 1) := by decide +kernel
theorem dX5_init_32 : decode cX5_init 32 = .ok (.newarray .int, 2) := by decide +kernel
theorem dX5_init_34 : decode cX5_init 34 = .ok (.putfield 19, 3) := by decide +kernel
theorem dX5_init_37 : decode cX5_init 37 = .ok (.aload_n 0, 1) := by decide +kernel
theorem dX5_init_38 : decode cX5_init 38 = .ok (.iconst 2, 1) := by decide +kernel
theorem dX5_init_39 : decode cX5_init 39 = .ok (.newarray .int, 2) := by decide +kernel
theorem dX5_init_41 : decode cX5_init 41 = .ok (.putfield 22, 3) := by decide +kernel
theorem dX5_init_44 : decode cX5_init 44 = .ok (.aload_n 0, 1) := by decide +kernel
theorem dX5_init_45 : decode cX5_init 45 = .ok (.bipush 16, 2) := by decide +kernel
theorem dX5_init_47 : decode cX5_init 47 = .ok (.newarray .int, 2) := by decide +kernel
theorem dX5_init_49 : decode cX5_init 49 = .ok (.putfield 25, 3) := by decide +kernel
theorem dX5_init_52 : decode cX5_init 52 = .ok (.return_, 1) := by decide +kernel
theorem dX5_thrown_0 : decode cX5_thrown 0 = .ok (.aload_n 0, 1) := by decide +kernel
theorem dX5_thrown_1 : decode cX5_thrown 1 = .ok (.getfield 28, 3) := by decide +kernel
theorem dX5_thrown_4 : decode cX5_thrown 4 = .ok (.ireturn, 1) := by decide +kernel
theorem dX5_read_0 : decode cX5_read 0 = .ok (.iload_n 1, 1) := by decide +kernel
theorem dX5_read_1 : decode cX5_read 1 = .ok (.ldc 32, 2) := by decide +kernel
theorem dX5_read_3 : decode cX5_read 3 = .ok (.iand, 1) := by decide +kernel
theorem dX5_read_4 : decode cX5_read 4 = .ok (.istore_n 2, 1) := by decide +kernel
theorem dX5_read_5 : decode cX5_read 5 = .ok (.iload_n 2, 1) := by decide +kernel
theorem dX5_read_6 : decode cX5_read 6 = .ok (.sipush 16383, 3) := by decide +kernel
theorem dX5_read_9 : decode cX5_read 9 = .ok (.iand, 1) := by decide +kernel
theorem dX5_read_10 : decode cX5_read 10 = .ok (.istore_n 3, 1) := by decide +kernel
theorem dX5_read_11 : decode cX5_read 11 = .ok (.iload_n 3, 1) := by decide +kernel
theorem dX5_read_12 : decode cX5_read 12 = .ok (.sipush 8192, 3) := by decide +kernel
theorem dX5_read_15 : decode cX5_read 15 = .ok (.if_icmp .lt 14, 3) := by decide +kernel
theorem dX5_read_18 : decode cX5_read 18 = .ok (.aload_n 0, 1) := by decide +kernel
theorem dX5_read_19 : decode cX5_read 19 = .ok (.getfield 13, 3) := by decide +kernel
theorem dX5_read_22 : decode cX5_read 22 = .ok (.iload_n 3, 1) := by decide +kernel
theorem dX5_read_23 : decode cX5_read 23 = .ok (.sipush 8192, 3) := by decide +kernel
theorem dX5_read_26 : decode cX5_read 26 = .ok (.isub, 1) := by decide +kernel
theorem dX5_read_27 : decode cX5_read 27 = .ok (.iaload, 1) := by decide +kernel
theorem dX5_read_28 : decode cX5_read 28 = .ok (.ireturn, 1) := by decide +kernel
theorem dX5_read_29 : decode cX5_read 29 = .ok (.iload_n 2, 1) := by decide +kernel
theorem dX5_read_30 : decode cX5_read 30 = .ok (.sipush 2048, 3) := by decide +kernel
theorem dX5_read_33 : decode cX5_read 33 = .ok (.if_icmp .ge 12, 3) := by decide +kernel
theorem dX5_read_36 : decode cX5_read 36 = .ok (.aload_n 0, 1) := by decide +kernel
theorem dX5_read_37 : decode cX5_read 37 = .ok (.getfield 7, 3) := by decide +kernel
theorem dX5_read_40 : decode cX5_read 40 = .ok (.iload_n 2, 1) := by decide +kernel
theorem dX5_read_41 : decode cX5_read 41 = .ok (.iaload, 1) := by decide +kernel
theorem dX5_read_42 : decode cX5_read 42 = .ok (.goto 4, 3) := by decide +kernel
theorem dX5_read_45 : decode cX5_read 45 = .ok (.iconst 0, 1) := by decide +kernel
theorem dX5_read_46 : decode cX5_read 46 = .ok (.ireturn, 1) := by decide +kernel
theorem dX5_write_0 : decode cX5_write 0 = .ok (.iload_n 1, 1) := by decide +kernel
theorem dX5_write_1 : decode cX5_write 1 = .ok (.sipush 16383, 3) := by decide +kernel
theorem dX5_write_4 : decode cX5_write 4 = .ok (.iand, 1) := by decide +kernel
theorem dX5_write_5 : decode cX5_write 5 = .ok (.istore_n 3, 1) := by decide +kernel
theorem dX5_write_6 : decode cX5_write 6 = .ok (.iload_n 3, 1) := by decide +kernel
theorem dX5_write_7 : decode cX5_write 7 = .ok (.sipush 8192, 3) := by decide +kernel
theorem dX5_write_10 : decode cX5_write 10 = .ok (.if_icmp .lt 18, 3) := by decide +kernel
theorem dX5_write_13 : decode cX5_write 13 = .ok (.aload_n 0, 1) := by decide +kernel
theorem dX5_write_14 : decode cX5_write 14 = .ok (.getfield 13, 3) := by decide +kernel
theorem dX5_write_17 : decode cX5_write 17 = .ok (.iload_n 3, 1) := by decide +kernel
theorem dX5_write_18 : decode cX5_write 18 = .ok (.sipush 8192, 3) := by decide +kernel
theorem dX5_write_21 : decode cX5_write 21 = .ok (.isub, 1) := by decide +kernel
theorem dX5_write_22 : decode cX5_write 22 = .ok (.iload_n 2, 1) := by decide +kernel
theorem dX5_write_23 : decode cX5_write 23 = .ok (.sipush 255, 3) := by decide +kernel
theorem dX5_write_26 : decode cX5_write 26 = .ok (.iand, 1) := by decide +kernel
theorem dX5_write_27 : decode cX5_write 27 = .ok (.iastore, 1) := by decide +kernel
theorem dX5_write_28 : decode cX5_write 28 = .ok (.return_, 1) := by decide +kernel
set_option maxRecDepth 20000 in
theorem ggX5_next_X5_read : GoodIn wsX5_next wsX5_read := goodIn_r _ [7, 2, 8, 9, 10, 11, 12, 13, 14, 15, 16, 17, 18, 19, 20, 21, 22, 23, 24, 25, 26, 27, 28, 29, 30, 31, 32, 33] (by decide +kernel) (by decide +kernel)
set_option maxRecDepth 20000 in
theorem gX5_next_X5_read : GoodIn wsX5_next (wsV RX5 36 RX5 yX5_read wsX5_read) := goodIn_app (goodIn_of _ (by decide +kernel)) ggX5_next_X5_read
theorem dX5_next_0 : decode cX5_next 0 = .ok (.aload_n 0, 1) := by decide +kernel
theorem dX5_next_1 : decode cX5_next 1 = .ok (.aload_n 0, 1) := by decide +kernel
theorem dX5_next_2 : decode cX5_next 2 = .ok (.getfield 33, 3) := by decide +kernel
theorem dX5_next_5 : decode cX5_next 5 = .ok (.invokevirtual 36, 3) := by decide +kernel
theorem dX5_next_8 : decode cX5_next 8 = .ok (.istore_n 1, 1) := by decide +kernel
theorem dX5_next_9 : decode cX5_next 9 = .ok (.aload_n 0, 1) := by decide +kernel
theorem dX5_next_10 : decode cX5_next 10 = .ok (.aload_n 0, 1) := by decide +kernel
theorem dX5_next_11 : decode cX5_next 11 = .ok (.getfield 33, 3) := by decide +kernel
theorem dX5_next_14 : decode cX5_next 14 = .ok (.iconst 1, 1) := by decide +kernel
theorem dX5_next_15 : decode cX5_next 15 = .ok (.iadd, 1) := by decide +kernel
theorem dX5_next_16 : decode cX5_next 16 = .ok (.ldc 32, 2) := by decide +kernel
theorem dX5_next_18 : decode cX5_next 18 = .ok (.iand, 1) := by decide +kernel
theorem dX5_next_19 : decode cX5_next 19 = .ok (.putfield 33, 3) := by decide +kernel
theorem dX5_next_22 : decode cX5_next 22 = .ok (.iload_n 1, 1) := by decide +kernel
theorem dX5_next_23 : decode cX5_next 23 = .ok (.ireturn, 1) := by decide +kernel
set_option maxRecDepth 20000 in
theorem ggX5_nextTwo_X5_next : GoodIn wsX5_nextTwo wsX5_next := goodIn_r _ [5, 6, 7, 8, 9, 10, 4, 11, 12, 13, 14, 15, 16, 17, 18, 19, 20, 21, 22, 23, 24, 25, 26, 27, 28, 29, 30, 31, 32, 33, 34, 35, 36, 37] (by decide +kernel) (by decide +kernel)
set_option maxRecDepth 20000 in
theorem gX5_nextTwo_X5_next : GoodIn wsX5_nextTwo (wsV RX5 40 RX5 yX5_next wsX5_next) := goodIn_app (goodIn_of _ (by decide +kernel)) ggX5_nextTwo_X5_next
theorem dX5_nextTwo_0 : decode cX5_nextTwo 0 = .ok (.aload_n 0, 1) := by decide +kernel
theorem dX5_nextTwo_1 : decode cX5_nextTwo 1 = .ok (.invokevirtual 40, 3) := by decide +kernel
theorem dX5_nextTwo_4 : decode cX5_nextTwo 4 = .ok (.istore_n 1, 1) := by decide +kernel
theorem dX5_nextTwo_5 : decode cX5_nextTwo 5 = .ok (.iload_n 1, 1) := by decide +kernel
theorem dX5_nextTwo_6 : decode cX5_nextTwo 6 = .ok (.aload_n 0, 1) := by decide +kernel
theorem dX5_nextTwo_7 : decode cX5_nextTwo 7 = .ok (.invokevirtual 40, 3) := by decide +kernel
theorem dX5_nextTwo_10 : decode cX5_nextTwo 10 = .ok (.bipush 8, 2) := by decide +kernel
theorem dX5_nextTwo_12 : decode cX5_nextTwo 12 = .ok (.ishl, 1) := by decide +kernel
theorem dX5_nextTwo_13 : decode cX5_nextTwo 13 = .ok (.ior, 1) := by decide +kernel
theorem dX5_nextTwo_14 : decode cX5_nextTwo 14 = .ok (.ireturn, 1) := by decide +kernel
set_option maxRecDepth 20000 in
theorem ggX5_push_X5_write : GoodIn wsX5_push wsX5_write := goodIn_r _ [7, 8, 9, 10, 11, 12, 13, 14, 15, 16, 17, 18, 19, 20, 21, 22, 23, 24, 25, 26, 27, 28, 29, 30, 31, 32] (by decide +kernel) (by decide +kernel)
set_option maxRecDepth 20000 in
theorem gX5_push_X5_write : GoodIn wsX5_push (wsV RX5 47 RX5 yX5_write wsX5_write) := goodIn_app (goodIn_of _ (by decide +kernel)) ggX5_push_X5_write
theorem dX5_push_0 : decode cX5_push 0 = .ok (.aload_n 0, 1) := by decide +kernel
theorem dX5_push_1 : decode cX5_push 1 = .ok (.aload_n 0, 1) := by decide +kernel
theorem dX5_push_2 : decode cX5_push 2 = .ok (.getfield 44, 3) := by decide +kernel
theorem dX5_push_5 : decode cX5_push 5 = .ok (.iconst 2, 1) := by decide +kernel
theorem dX5_push_6 : decode cX5_push 6 = .ok (.isub, 1) := by decide +kernel
theorem dX5_push_7 : decode cX5_push 7 = .ok (.ldc 32, 2) := by decide +kernel
theorem dX5_push_9 : decode cX5_push 9 = .ok (.iand, 1) := by decide +kernel
theorem dX5_push_10 : decode cX5_push 10 = .ok (.putfield 44, 3) := by decide +kernel
theorem dX5_push_13 : decode cX5_push 13 = .ok (.aload_n 0, 1) := by decide +kernel
theorem dX5_push_14 : decode cX5_push 14 = .ok (.aload_n 0, 1) := by decide +kernel
theorem dX5_push_15 : decode cX5_push 15 = .ok (.getfield 44, 3) := by decide +kernel
theorem dX5_push_18 : decode cX5_push 18 = .ok (.iload_n 1, 1) := by decide +kernel
theorem dX5_push_19 : decode cX5_push 19 = .ok (.invokevirtual 47, 3) := by decide +kernel
theorem dX5_push_22 : decode cX5_push 22 = .ok (.aload_n 0, 1) := by decide +kernel
theorem dX5_push_23 : decode cX5_push 23 = .ok (.aload_n 0, 1) := by decide +kernel
theorem dX5_push_24 : decode cX5_push 24 = .ok (.getfield 44, 3) := by decide +kernel
theorem dX5_push_27 : decode cX5_push 27 = .ok (.iconst 1, 1) := by decide +kernel
theorem dX5_push_28 : decode cX5_push 28 = .ok (.iadd, 1) := by decide +kernel
theorem dX5_push_29 : decode cX5_push 29 = .ok (.ldc 32, 2) := by decide +kernel
theorem dX5_push_31 : decode cX5_push 31 = .ok (.iand, 1) := by decide +kernel
theorem dX5_push_32 : decode cX5_push 32 = .ok (.iload_n 1, 1) := by decide +kernel
theorem dX5_push_33 : decode cX5_push 33 = .ok (.bipush 8, 2) := by decide +kernel
theorem dX5_push_35 : decode cX5_push 35 = .ok (.ishr, 1) := by decide +kernel
theorem dX5_push_36 : decode cX5_push 36 = .ok (.invokevirtual 47, 3) := by decide +kernel
theorem dX5_push_39 : decode cX5_push 39 = .ok (.return_, 1) := by decide +kernel
set_option maxRecDepth 20000 in
theorem ggX5_pop_X5_read : GoodIn wsX5_pop wsX5_read := goodIn_r _ [7, 2, 8, 9, 10, 11, 12, 13, 14, 15, 16, 17, 18, 19, 20, 21, 22, 23, 24, 25, 26, 27, 28, 29, 30, 31, 32, 33] (by decide +kernel) (by decide +kernel)
set_option maxRecDepth 20000 in
theorem gX5_pop_X5_read : GoodIn wsX5_pop (wsV RX5 36 RX5 yX5_read wsX5_read) := goodIn_app (goodIn_of _ (by decide +kernel)) ggX5_pop_X5_read
theorem dX5_pop_0 : decode cX5_pop 0 = .ok (.aload_n 0, 1) := by decide +kernel
theorem dX5_pop_1 : decode cX5_pop 1 = .ok (.aload_n 0, 1) := by decide +kernel
theorem dX5_pop_2 : decode cX5_pop 2 = .ok (.getfield 44, 3) := by decide +kernel
theorem dX5_pop_5 : decode cX5_pop 5 = .ok (.invokevirtual 36, 3) := by decide +kernel
theorem dX5_pop_8 : decode cX5_pop 8 = .ok (.aload_n 0, 1) := by decide +kernel
theorem dX5_pop_9 : decode cX5_pop 9 = .ok (.aload_n 0, 1) := by decide +kernel
theorem dX5_pop_10 : decode cX5_pop 10 = .ok (.getfield 44, 3) := by decide +kernel
theorem dX5_pop_13 : decode cX5_pop 13 = .ok (.iconst 1, 1) := by decide +kernel
theorem dX5_pop_14 : decode cX5_pop 14 = .ok (.iadd, 1) := by decide +kernel
theorem dX5_pop_15 : decode cX5_pop 15 = .ok (.ldc 32, 2) := by decide +kernel
theorem dX5_pop_17 : decode cX5_pop 17 = .ok (.iand, 1) := by decide +kernel
theorem dX5_pop_18 : decode cX5_pop 18 = .ok (.invokevirtual 36, 3) := by decide +kernel
theorem dX5_pop_21 : decode cX5_pop 21 = .ok (.bipush 8, 2) := by decide +kernel
theorem dX5_pop_23 : decode cX5_pop 23 = .ok (.ishl, 1) := by decide +kernel
theorem dX5_pop_24 : decode cX5_pop 24 = .ok (.ior, 1) := by decide +kernel
theorem dX5_pop_25 : decode cX5_pop 25 = .ok (.istore_n 1, 1) := by decide +kernel
theorem dX5_pop_26 : decode cX5_pop 26 = .ok (.aload_n 0, 1) := by decide +kernel
theorem dX5_pop_27 : decode cX5_pop 27 = .ok (.aload_n 0, 1) := by decide +kernel
theorem dX5_pop_28 : decode cX5_pop 28 = .ok (.getfield 44, 3) := by decide +kernel
theorem dX5_pop_31 : decode cX5_pop 31 = .ok (.iconst 2, 1) := by decide +kernel
theorem dX5_pop_32 : decode cX5_pop 32 = .ok (.iadd, 1) := by decide +kernel
theorem dX5_pop_33 : decode cX5_pop 33 = .ok (.ldc 32, 2) := by decide +kernel
theorem dX5_pop_35 : decode cX5_pop 35 = .ok (.iand, 1) := by decide +kernel
theorem dX5_pop_36 : decode cX5_pop 36 = .ok (.putfield 44, 3) := by decide +kernel
theorem dX5_pop_39 : decode cX5_pop 39 = .ok (.iload_n 1, 1) := by decide +kernel
theorem dX5_pop_40 : decode cX5_pop 40 = .ok (.ireturn, 1) := by decide +kernel
theorem dX5_hl_0 : decode cX5_hl 0 = .ok (.aload_n 0, 1) := by decide +kernel
theorem dX5_hl_1 : decode cX5_hl 1 = .ok (.getfield 16, 3) := by decide +kernel
theorem dX5_hl_4 : decode cX5_hl 4 = .ok (.iconst 4, 1) := by decide +kernel
theorem dX5_hl_5 : decode cX5_hl 5 = .ok (.iaload, 1) := by decide +kernel
theorem dX5_hl_6 : decode cX5_hl 6 = .ok (.bipush 8, 2) := by decide +kernel
theorem dX5_hl_8 : decode cX5_hl 8 = .ok (.ishl, 1) := by decide +kernel
theorem dX5_hl_9 : decode cX5_hl 9 = .ok (.aload_n 0, 1) := by decide +kernel
theorem dX5_hl_10 : decode cX5_hl 10 = .ok (.getfield 16, 3) := by decide +kernel
theorem dX5_hl_13 : decode cX5_hl 13 = .ok (.iconst 5, 1) := by decide +kernel
theorem dX5_hl_14 : decode cX5_hl 14 = .ok (.iaload, 1) := by decide +kernel
theorem dX5_hl_15 : decode cX5_hl 15 = .ok (.ior, 1) := by decide +kernel
theorem dX5_hl_16 : decode cX5_hl 16 = .ok (.ireturn, 1) := by decide +kernel
set_option maxRecDepth 20000 in
theorem ggX5_get_X5_hl : GoodIn wsX5_get wsX5_hl := goodIn_r _ [6, 1, 14, 15, 16, 17, 18, 19, 20, 21, 22, 23, 24, 25, 26, 27, 28, 29, 30, 31, 32, 33, 34, 35, 36, 37] (by decide +kernel) (by decide +kernel)
set_option maxRecDepth 20000 in
theorem gX5_get_X5_hl : GoodIn wsX5_get (wsV RX5 51 RX5 yX5_hl wsX5_hl) := goodIn_app (goodIn_of _ (by decide +kernel)) ggX5_get_X5_hl
set_option maxRecDepth 20000 in
theorem ggX5_get_X5_read : GoodIn wsX5_get wsX5_read := goodIn_r _ [10, 11, 12, 13, 14, 15, 16, 17, 18, 19, 20, 21, 22, 23, 24, 25, 26, 27, 28, 29, 30, 31, 32, 33, 34, 35, 36, 37] (by decide +kernel) (by decide +kernel)
set_option maxRecDepth 20000 in
theorem gX5_get_X5_read : GoodIn wsX5_get (wsV RX5 36 RX5 yX5_read wsX5_read) := goodIn_app (goodIn_of _ (by decide +kernel)) ggX5_get_X5_read
theorem dX5_get_0 : decode cX5_get 0 = .ok (.iload_n 1, 1) := by decide +kernel
theorem dX5_get_1 : decode cX5_get 1 = .ok (.bipush 6, 2) := by decide +kernel
theorem dX5_get_3 : decode cX5_get 3 = .ok (.if_icmp .ne 14, 3) := by decide +kernel
theorem dX5_get_6 : decode cX5_get 6 = .ok (.aload_n 0, 1) := by decide +kernel
theorem dX5_get_7 : decode cX5_get 7 = .ok (.aload_n 0, 1) := by decide +kernel
theorem dX5_get_8 : decode cX5_get 8 = .ok (.invokevirtual 51, 3) := by decide +kernel
theorem dX5_get_11 : decode cX5_get 11 = .ok (.invokevirtual 36, 3) := by decide +kernel
theorem dX5_get_14 : decode cX5_get 14 = .ok (.goto 9, 3) := by decide +kernel
theorem dX5_get_17 : decode cX5_get 17 = .ok (.aload_n 0, 1) := by decide +kernel
theorem dX5_get_18 : decode cX5_get 18 = .ok (.getfield 16, 3) := by decide +kernel
theorem dX5_get_21 : decode cX5_get 21 = .ok (.iload_n 1, 1) := by decide +kernel
theorem dX5_get_22 : decode cX5_get 22 = .ok (.iaload, 1) := by decide +kernel
theorem dX5_get_23 : decode cX5_get 23 = .ok (.ireturn, 1) := by decide +kernel
set_option maxRecDepth 20000 in
theorem ggX5_set_X5_hl : GoodIn wsX5_set wsX5_hl := goodIn_r _ [6, 1, 12, 13, 14, 15, 16, 17, 18, 19, 20, 21, 22, 23, 24, 25, 26, 27, 28, 29, 30, 31, 32, 33, 34, 35] (by decide +kernel) (by decide +kernel)
set_option maxRecDepth 20000 in
theorem gX5_set_X5_hl : GoodIn wsX5_set (wsV RX5 51 RX5 yX5_hl wsX5_hl) := goodIn_app (goodIn_of _ (by decide +kernel)) ggX5_set_X5_hl
set_option maxRecDepth 20000 in
theorem ggX5_set_X5_write : GoodIn wsX5_set wsX5_write := goodIn_r _ [10, 11, 12, 13, 14, 15, 16, 17, 18, 19, 20, 21, 22, 23, 24, 25, 26, 27, 28, 29, 30, 31, 32, 33, 34, 35] (by decide +kernel) (by decide +kernel)
set_option maxRecDepth 20000 in
theorem gX5_set_X5_write : GoodIn wsX5_set (wsV RX5 47 RX5 yX5_write wsX5_write) := goodIn_app (goodIn_of _ (by decide +kernel)) ggX5_set_X5_write
theorem dX5_set_0 : decode cX5_set 0 = .ok (.iload_n 1, 1) := by decide +kernel
theorem dX5_set_1 : decode cX5_set 1 = .ok (.bipush 6, 2) := by decide +kernel
theorem dX5_set_3 : decode cX5_set 3 = .ok (.if_icmp .ne 15, 3) := by decide +kernel
theorem dX5_set_6 : decode cX5_set 6 = .ok (.aload_n 0, 1) := by decide +kernel
theorem dX5_set_7 : decode cX5_set 7 = .ok (.aload_n 0, 1) := by decide +kernel
theorem dX5_set_8 : decode cX5_set 8 = .ok (.invokevirtual 51, 3) := by decide +kernel
theorem dX5_set_11 : decode cX5_set 11 = .ok (.iload_n 2, 1) := by decide +kernel
theorem dX5_set_12 : decode cX5_set 12 = .ok (.invokevirtual 47, 3) := by decide +kernel
theorem dX5_set_15 : decode cX5_set 15 = .ok (.goto 14, 3) := by decide +kernel
theorem dX5_set_18 : decode cX5_set 18 = .ok (.aload_n 0, 1) := by decide +kernel
theorem dX5_set_19 : decode cX5_set 19 = .ok (.getfield 16, 3) := by decide +kernel
theorem dX5_set_22 : decode cX5_set 22 = .ok (.iload_n 1, 1) := by decide +kernel
theorem dX5_set_23 : decode cX5_set 23 = .ok (.iload_n 2, 1) := by decide +kernel
theorem dX5_set_24 : decode cX5_set 24 = .ok (.sipush 255, 3) := by decide +kernel
theorem dX5_set_27 : decode cX5_set 27 = .ok (.iand, 1) := by decide +kernel
theorem dX5_set_28 : decode cX5_set 28 = .ok (.iastore, 1) := by decide +kernel
theorem dX5_set_29 : decode cX5_set 29 = .ok (.return_, 1) := by decide +kernel
theorem dX5_pair_0 : decode cX5_pair 0 = .ok (.iload_n 1, 1) := by decide +kernel
theorem dX5_pair_1 : decode cX5_pair 1 = .ok (.iconst 3, 1) := by decide +kernel
theorem dX5_pair_2 : decode cX5_pair 2 = .ok (.if_icmp .ne 10, 3) := by decide +kernel
theorem dX5_pair_5 : decode cX5_pair 5 = .ok (.aload_n 0, 1) := by decide +kernel
theorem dX5_pair_6 : decode cX5_pair 6 = .ok (.getfield 44, 3) := by decide +kernel
theorem dX5_pair_9 : decode cX5_pair 9 = .ok (.goto 25, 3) := by decide +kernel
theorem dX5_pair_12 : decode cX5_pair 12 = .ok (.aload_n 0, 1) := by decide +kernel
theorem dX5_pair_13 : decode cX5_pair 13 = .ok (.getfield 16, 3) := by decide +kernel
theorem dX5_pair_16 : decode cX5_pair 16 = .ok (.iconst 2, 1) := by decide +kernel
theorem dX5_pair_17 : decode cX5_pair 17 = .ok (.iload_n 1, 1) := by decide +kernel
theorem dX5_pair_18 : decode cX5_pair 18 = .ok (.imul, 1) := by decide +kernel
theorem dX5_pair_19 : decode cX5_pair 19 = .ok (.iaload, 1) := by decide +kernel
theorem dX5_pair_20 : decode cX5_pair 20 = .ok (.bipush 8, 2) := by decide +kernel
theorem dX5_pair_22 : decode cX5_pair 22 = .ok (.ishl, 1) := by decide +kernel
theorem dX5_pair_23 : decode cX5_pair 23 = .ok (.aload_n 0, 1) := by decide +kernel
theorem dX5_pair_24 : decode cX5_pair 24 = .ok (.getfield 16, 3) := by decide +kernel
theorem dX5_pair_27 : decode cX5_pair 27 = .ok (.iconst 2, 1) := by decide +kernel
theorem dX5_pair_28 : decode cX5_pair 28 = .ok (.iload_n 1, 1) := by decide +kernel
theorem dX5_pair_29 : decode cX5_pair 29 = .ok (.imul, 1) := by decide +kernel
theorem dX5_pair_30 : decode cX5_pair 30 = .ok (.iconst 1, 1) := by decide +kernel
theorem dX5_pair_31 : decode cX5_pair 31 = .ok (.iadd, 1) := by decide +kernel
theorem dX5_pair_32 : decode cX5_pair 32 = .ok (.iaload, 1) := by decide +kernel
theorem dX5_pair_33 : decode cX5_pair 33 = .ok (.ior, 1) := by decide +kernel
theorem dX5_pair_34 : decode cX5_pair 34 = .ok (.ireturn, 1) := by decide +kernel
theorem dX5_setPair_0 : decode cX5_setPair 0 = .ok (.iload_n 1, 1) := by decide +kernel
theorem dX5_setPair_1 : decode cX5_setPair 1 = .ok (.iconst 3, 1) := by decide +kernel
theorem dX5_setPair_2 : decode cX5_setPair 2 = .ok (.if_icmp .ne 14, 3) := by decide +kernel
theorem dX5_setPair_5 : decode cX5_setPair 5 = .ok (.aload_n 0, 1) := by decide +kernel
theorem dX5_setPair_6 : decode cX5_setPair 6 = .ok (.iload_n 2, 1) := by decide +kernel
theorem dX5_setPair_7 : decode cX5_setPair 7 = .ok (.ldc 32, 2) := by decide +kernel
theorem dX5_setPair_9 : decode cX5_setPair 9 = .ok (.iand, 1) := by decide +kernel
theorem dX5_setPair_10 : decode cX5_setPair 10 = .ok (.putfield 44, 3) := by decide +kernel
theorem dX5_setPair_13 : decode cX5_setPair 13 = .ok (.goto 34, 3) := by decide +kernel
theorem dX5_setPair_16 : decode cX5_setPair 16 = .ok (.aload_n 0, 1) := by decide +kernel
theorem dX5_setPair_17 : decode cX5_setPair 17 = .ok (.getfield 16, 3) := by decide +kernel
theorem dX5_setPair_20 : decode cX5_setPair 20 = .ok (.iconst 2, 1) := by decide +kernel
theorem dX5_setPair_21 : decode cX5_setPair 21 = .ok (.iload_n 1, 1) := by decide +kernel
theorem dX5_setPair_22 : decode cX5_setPair 22 = .ok (.imul, 1) := by decide +kernel
theorem dX5_setPair_23 : decode cX5_setPair 23 = .ok (.iload_n 2, 1) := by decide +kernel
theorem dX5_setPair_24 : decode cX5_setPair 24 = .ok (.bipush 8, 2) := by decide +kernel
theorem dX5_setPair_26 : decode cX5_setPair 26 = .ok (.ishr, 1) := by decide +kernel
theorem dX5_setPair_27 : decode cX5_setPair 27 = .ok (.sipush 255, 3) := by decide +kernel
theorem dX5_setPair_30 : decode cX5_setPair 30 = .ok (.iand, 1) := by decide +kernel
theorem dX5_setPair_31 : decode cX5_setPair 31 = .ok (.iastore, 1) := by decide +kernel
theorem dX5_setPair_32 : decode cX5_setPair 32 = .ok (.aload_n 0, 1) := by decide +kernel
theorem dX5_setPair_33 : decode cX5_setPair 33 = .ok (.getfield 16, 3) := by decide +kernel
theorem dX5_setPair_36 : decode cX5_setPair 36 = .ok (.iconst 2, 1) := by decide +kernel
theorem dX5_setPair_37 : decode cX5_setPair 37 = .ok (.iload_n 1, 1) := by decide +kernel
theorem dX5_setPair_38 : decode cX5_setPair 38 = .ok (.imul, 1) := by decide +kernel
theorem dX5_setPair_39 : decode cX5_setPair 39 = .ok (.iconst 1, 1) := by decide +kernel
theorem dX5_setPair_40 : decode cX5_setPair 40 = .ok (.iadd, 1) := by decide +kernel
theorem dX5_setPair_41 : decode cX5_setPair 41 = .ok (.iload_n 2, 1) := by decide +kernel
theorem dX5_setPair_42 : decode cX5_setPair 42 = .ok (.sipush 255, 3) := by decide +kernel
theorem dX5_setPair_45 : decode cX5_setPair 45 = .ok (.iand, 1) := by decide +kernel
theorem dX5_setPair_46 : decode cX5_setPair 46 = .ok (.iastore, 1) := by decide +kernel
theorem dX5_setPair_47 : decode cX5_setPair 47 = .ok (.return_, 1) := by decide +kernel
theorem dX5_signs_0 : decode cX5_signs 0 = .ok (.aload_n 0, 1) := by decide +kernel
theorem dX5_signs_1 : decode cX5_signs 1 = .ok (.iload_n 1, 1) := by decide +kernel
theorem dX5_signs_2 : decode cX5_signs 2 = .ok (.bipush 7, 2) := by decide +kernel
theorem dX5_signs_4 : decode cX5_signs 4 = .ok (.ishr, 1) := by decide +kernel
theorem dX5_signs_5 : decode cX5_signs 5 = .ok (.iconst 1, 1) := by decide +kernel
theorem dX5_signs_6 : decode cX5_signs 6 = .ok (.iand, 1) := by decide +kernel
theorem dX5_signs_7 : decode cX5_signs 7 = .ok (.putfield 54, 3) := by decide +kernel
theorem dX5_signs_10 : decode cX5_signs 10 = .ok (.aload_n 0, 1) := by decide +kernel
theorem dX5_signs_11 : decode cX5_signs 11 = .ok (.iload_n 1, 1) := by decide +kernel
theorem dX5_signs_12 : decode cX5_signs 12 = .ok (.sipush 255, 3) := by decide +kernel
theorem dX5_signs_15 : decode cX5_signs 15 = .ok (.iand, 1) := by decide +kernel
theorem dX5_signs_16 : decode cX5_signs 16 = .ok (.ifCond .ne 7, 3) := by decide +kernel
theorem dX5_signs_19 : decode cX5_signs 19 = .ok (.iconst 1, 1) := by decide +kernel
theorem dX5_signs_20 : decode cX5_signs 20 = .ok (.goto 4, 3) := by decide +kernel
theorem dX5_signs_23 : decode cX5_signs 23 = .ok (.iconst 0, 1) := by decide +kernel
theorem dX5_signs_24 : decode cX5_signs 24 = .ok (.putfield 57, 3) := by decide +kernel
theorem dX5_signs_27 : decode cX5_signs 27 = .ok (.iconst 0, 1) := by decide +kernel
theorem dX5_signs_28 : decode cX5_signs 28 = .ok (.istore_n 2, 1) := by decide +kernel
theorem dX5_signs_29 : decode cX5_signs 29 = .ok (.iconst 0, 1) := by decide +kernel
theorem dX5_signs_30 : decode cX5_signs 30 = .ok (.istore_n 3, 1) := by decide +kernel
theorem dX5_signs_31 : decode cX5_signs 31 = .ok (.iload_n 3, 1) := by decide +kernel
theorem dX5_signs_32 : decode cX5_signs 32 = .ok (.bipush 8, 2) := by decide +kernel
theorem dX5_signs_34 : decode cX5_signs 34 = .ok (.if_icmp .ge 17, 3) := by decide +kernel
theorem dX5_signs_37 : decode cX5_signs 37 = .ok (.iload_n 2, 1) := by decide +kernel
theorem dX5_signs_38 : decode cX5_signs 38 = .ok (.iload_n 1, 1) := by decide +kernel
theorem dX5_signs_39 : decode cX5_signs 39 = .ok (.iload_n 3, 1) := by decide +kernel
theorem dX5_signs_40 : decode cX5_signs 40 = .ok (.ishr, 1) := by decide +kernel
theorem dX5_signs_41 : decode cX5_signs 41 = .ok (.iconst 1, 1) := by decide +kernel
theorem dX5_signs_42 : decode cX5_signs 42 = .ok (.iand, 1) := by decide +kernel
theorem dX5_signs_43 : decode cX5_signs 43 = .ok (.iadd, 1) := by decide +kernel
theorem dX5_signs_44 : decode cX5_signs 44 = .ok (.istore_n 2, 1) := by decide +kernel
theorem dX5_signs_45 : decode cX5_signs 45 = .ok (.iinc 3 1, 3) := by decide +kernel
theorem dX5_signs_48 : decode cX5_signs 48 = .ok (.goto (-17), 3) := by decide +kernel
theorem dX5_signs_51 : decode cX5_signs 51 = .ok (.aload_n 0, 1) := by decide +kernel
theorem dX5_signs_52 : decode cX5_signs 52 = .ok (.iload_n 2, 1) := by decide +kernel
theorem dX5_signs_53 : decode cX5_signs 53 = .ok (.iconst 2, 1) := by decide +kernel
theorem dX5_signs_54 : decode cX5_signs 54 = .ok (.irem, 1) := by decide +kernel
theorem dX5_signs_55 : decode cX5_signs 55 = .ok (.ifCond .ne 7, 3) := by decide +kernel
theorem dX5_signs_58 : decode cX5_signs 58 = .ok (.iconst 1, 1) := by decide +kernel
theorem dX5_signs_59 : decode cX5_signs 59 = .ok (.goto 4, 3) := by decide +kernel
theorem dX5_signs_62 : decode cX5_signs 62 = .ok (.iconst 0, 1) := by decide +kernel
theorem dX5_signs_63 : decode cX5_signs 63 = .ok (.putfield 60, 3) := by decide +kernel
theorem dX5_signs_66 : decode cX5_signs 66 = .ok (.return_, 1) := by decide +kernel
theorem dX5_flags_0 : decode cX5_flags 0 = .ok (.aload_n 0, 1) := by decide +kernel
theorem dX5_flags_1 : decode cX5_flags 1 = .ok (.getfield 54, 3) := by decide +kernel
theorem dX5_flags_4 : decode cX5_flags 4 = .ok (.bipush 7, 2) := by decide +kernel
theorem dX5_flags_6 : decode cX5_flags 6 = .ok (.ishl, 1) := by decide +kernel
theorem dX5_flags_7 : decode cX5_flags 7 = .ok (.aload_n 0, 1) := by decide +kernel
theorem dX5_flags_8 : decode cX5_flags 8 = .ok (.getfield 57, 3) := by decide +kernel
theorem dX5_flags_11 : decode cX5_flags 11 = .ok (.bipush 6, 2) := by decide +kernel
theorem dX5_flags_13 : decode cX5_flags 13 = .ok (.ishl, 1) := by decide +kernel
theorem dX5_flags_14 : decode cX5_flags 14 = .ok (.ior, 1) := by decide +kernel
theorem dX5_flags_15 : decode cX5_flags 15 = .ok (.aload_n 0, 1) := by decide +kernel
theorem dX5_flags_16 : decode cX5_flags 16 = .ok (.getfield 63, 3) := by decide +kernel
theorem dX5_flags_19 : decode cX5_flags 19 = .ok (.iconst 4, 1) := by decide +kernel
theorem dX5_flags_20 : decode cX5_flags 20 = .ok (.ishl, 1) := by decide +kernel
theorem dX5_flags_21 : decode cX5_flags 21 = .ok (.ior, 1) := by decide +kernel
theorem dX5_flags_22 : decode cX5_flags 22 = .ok (.aload_n 0, 1) := by decide +kernel
theorem dX5_flags_23 : decode cX5_flags 23 = .ok (.getfield 60, 3) := by decide +kernel
theorem dX5_flags_26 : decode cX5_flags 26 = .ok (.iconst 2, 1) := by decide +kernel
theorem dX5_flags_27 : decode cX5_flags 27 = .ok (.ishl, 1) := by decide +kernel
theorem dX5_flags_28 : decode cX5_flags 28 = .ok (.ior, 1) := by decide +kernel
theorem dX5_flags_29 : decode cX5_flags 29 = .ok (.iconst 2, 1) := by decide +kernel
theorem dX5_flags_30 : decode cX5_flags 30 = .ok (.ior, 1) := by decide +kernel
theorem dX5_flags_31 : decode cX5_flags 31 = .ok (.aload_n 0, 1) := by decide +kernel
theorem dX5_flags_32 : decode cX5_flags 32 = .ok (.getfield 66, 3) := by decide +kernel
theorem dX5_flags_35 : decode cX5_flags 35 = .ok (.ior, 1) := by decide +kernel
theorem dX5_flags_36 : decode cX5_flags 36 = .ok (.ireturn, 1) := by decide +kernel
theorem dX5_setFlags_0 : decode cX5_setFlags 0 = .ok (.aload_n 0, 1) := by decide +kernel
theorem dX5_setFlags_1 : decode cX5_setFlags 1 = .ok (.iload_n 1, 1) := by decide +kernel
theorem dX5_setFlags_2 : decode cX5_setFlags 2 = .ok (.bipush 7, 2) := by decide +kernel
theorem dX5_setFlags_4 : decode cX5_setFlags 4 = .ok (.ishr, 1) := by decide +kernel
theorem dX5_setFlags_5 : decode cX5_setFlags 5 = .ok (.iconst 1, 1) := by decide +kernel
theorem dX5_setFlags_6 : decode cX5_setFlags 6 = .ok (.iand, 1) := by decide +kernel
theorem dX5_setFlags_7 : decode cX5_setFlags 7 = .ok (.putfield 54, 3) := by decide +kernel
theorem dX5_setFlags_10 : decode cX5_setFlags 10 = .ok (.aload_n 0, 1) := by decide +kernel
theorem dX5_setFlags_11 : decode cX5_setFlags 11 = .ok (.iload_n 1, 1) := by decide +kernel
theorem dX5_setFlags_12 : decode cX5_setFlags 12 = .ok (.bipush 6, 2) := by decide +kernel
theorem dX5_setFlags_14 : decode cX5_setFlags 14 = .ok (.ishr, 1) := by decide +kernel
theorem dX5_setFlags_15 : decode cX5_setFlags 15 = .ok (.iconst 1, 1) := by decide +kernel
theorem dX5_setFlags_16 : decode cX5_setFlags 16 = .ok (.iand, 1) := by decide +kernel
theorem dX5_setFlags_17 : decode cX5_setFlags 17 = .ok (.putfield 57, 3) := by decide +kernel
theorem dX5_setFlags_20 : decode cX5_setFlags 20 = .ok (.aload_n 0, 1) := by decide +kernel
theorem dX5_setFlags_21 : decode cX5_setFlags 21 = .ok (.iload_n 1, 1) := by decide +kernel
theorem dX5_setFlags_22 : decode cX5_setFlags 22 = .ok (.iconst 4, 1) := by decide +kernel
theorem dX5_setFlags_23 : decode cX5_setFlags 23 = .ok (.ishr, 1) := by decide +kernel
theorem dX5_setFlags_24 : decode cX5_setFlags 24 = .ok (.iconst 1, 1) := by decide +kernel
theorem dX5_setFlags_25 : decode cX5_setFlags 25 = .ok (.iand, 1) := by decide +kernel
theorem dX5_setFlags_26 : decode cX5_setFlags 26 = .ok (.putfield 63, 3) := by decide +kernel
theorem dX5_setFlags_29 : decode cX5_setFlags 29 = .ok (.aload_n 0, 1) := by decide +kernel
theorem dX5_setFlags_30 : decode cX5_setFlags 30 = .ok (.iload_n 1, 1) := by decide +kernel
theorem dX5_setFlags_31 : decode cX5_setFlags 31 = .ok (.iconst 2, 1) := by decide +kernel
theorem dX5_setFlags_32 : decode cX5_setFlags 32 = .ok (.ishr, 1) := by decide +kernel
theorem dX5_setFlags_33 : decode cX5_setFlags 33 = .ok (.iconst 1, 1) := by decide +kernel
theorem dX5_setFlags_34 : decode cX5_setFlags 34 = .ok (.iand, 1) := by decide +kernel
theorem dX5_setFlags_35 : decode cX5_setFlags 35 = .ok (.putfield 60, 3) := by decide +kernel
theorem dX5_setFlags_38 : decode cX5_setFlags 38 = .ok (.aload_n 0, 1) := by decide +kernel
theorem dX5_setFlags_39 : decode cX5_setFlags 39 = .ok (.iload_n 1, 1) := by decide +kernel
theorem dX5_setFlags_40 : decode cX5_setFlags 40 = .ok (.iconst 1, 1) := by decide +kernel
theorem dX5_setFlags_41 : decode cX5_setFlags 41 = .ok (.iand, 1) := by decide +kernel
theorem dX5_setFlags_42 : decode cX5_setFlags 42 = .ok (.putfield 66, 3) := by decide +kernel
theorem dX5_setFlags_45 : decode cX5_setFlags 45 = .ok (.return_, 1) := by decide +kernel
set_option maxRecDepth 20000 in
theorem ggX5_alu_X5_signs : GoodIn wsX5_alu wsX5_signs := goodIn_r _ [8, 9, 10, 11, 12, 13, 14, 15, 16, 17, 18, 19, 20, 21, 22, 23, 24, 25, 26, 27, 28, 29, 30, 31, 32, 33, 34, 35] (by decide +kernel) (by decide +kernel)
set_option maxRecDepth 20000 in
theorem gX5_alu_X5_signs : GoodIn wsX5_alu (wsV RX5 69 RX5 yX5_signs wsX5_signs) := goodIn_app (goodIn_of _ (by decide +kernel)) ggX5_alu_X5_signs
theorem dX5_alu_0 : decode cX5_alu 0 = .ok (.aload_n 0, 1) := by decide +kernel
theorem dX5_alu_1 : decode cX5_alu 1 = .ok (.getfield 16, 3) := by decide +kernel
theorem dX5_alu_4 : decode cX5_alu 4 = .ok (.bipush 7, 2) := by decide +kernel
theorem dX5_alu_6 : decode cX5_alu 6 = .ok (.iaload, 1) := by decide +kernel
theorem dX5_alu_7 : decode cX5_alu 7 = .ok (.istore_n 3, 1) := by decide +kernel
theorem dX5_alu_8 : decode cX5_alu 8 = .ok (.iload_n 1, 1) := by decide +kernel
theorem dX5_alu_9 : decode cX5_alu 9 = .ok (.iconst 1, 1) := by decide +kernel
theorem dX5_alu_10 : decode cX5_alu 10 = .ok (.if_icmp .eq 8, 3) := by decide +kernel
theorem dX5_alu_13 : decode cX5_alu 13 = .ok (.iload_n 1, 1) := by decide +kernel
theorem dX5_alu_14 : decode cX5_alu 14 = .ok (.iconst 3, 1) := by decide +kernel
theorem dX5_alu_15 : decode cX5_alu 15 = .ok (.if_icmp .ne 10, 3) := by decide +kernel
theorem dX5_alu_18 : decode cX5_alu 18 = .ok (.aload_n 0, 1) := by decide +kernel
theorem dX5_alu_19 : decode cX5_alu 19 = .ok (.getfield 66, 3) := by decide +kernel
theorem dX5_alu_22 : decode cX5_alu 22 = .ok (.goto 4, 3) := by decide +kernel
theorem dX5_alu_25 : decode cX5_alu 25 = .ok (.iconst 0, 1) := by decide +kernel
theorem dX5_alu_26 : decode cX5_alu 26 = .ok (.istore 4, 2) := by decide +kernel
theorem dX5_alu_28 : decode cX5_alu 28 = .ok (.iload_n 3, 1) := by decide +kernel
theorem dX5_alu_29 : decode cX5_alu 29 = .ok (.istore 5, 2) := by decide +kernel
theorem dX5_alu_31 : decode cX5_alu 31 = .ok (.iload_n 1, 1) := by decide +kernel
theorem dX5_alu_32 : decode cX5_alu 32 = .ok (.iconst 2, 1) := by decide +kernel
theorem dX5_alu_33 : decode cX5_alu 33 = .ok (.if_icmp .ge 57, 3) := by decide +kernel
theorem dX5_alu_36 : decode cX5_alu 36 = .ok (.iload_n 3, 1) := by decide +kernel
theorem dX5_alu_37 : decode cX5_alu 37 = .ok (.iload_n 2, 1) := by decide +kernel
theorem dX5_alu_38 : decode cX5_alu 38 = .ok (.iadd, 1) := by decide +kernel
theorem dX5_alu_39 : decode cX5_alu 39 = .ok (.iload 4, 2) := by decide +kernel
theorem dX5_alu_41 : decode cX5_alu 41 = .ok (.iadd, 1) := by decide +kernel
theorem dX5_alu_42 : decode cX5_alu 42 = .ok (.istore 5, 2) := by decide +kernel
theorem dX5_alu_44 : decode cX5_alu 44 = .ok (.aload_n 0, 1) := by decide +kernel
theorem dX5_alu_45 : decode cX5_alu 45 = .ok (.iload_n 3, 1) := by decide +kernel
theorem dX5_alu_46 : decode cX5_alu 46 = .ok (.bipush 15, 2) := by decide +kernel
theorem dX5_alu_48 : decode cX5_alu 48 = .ok (.iand, 1) := by decide +kernel
theorem dX5_alu_49 : decode cX5_alu 49 = .ok (.iload_n 2, 1) := by decide +kernel
theorem dX5_alu_50 : decode cX5_alu 50 = .ok (.bipush 15, 2) := by decide +kernel
theorem dX5_alu_52 : decode cX5_alu 52 = .ok (.iand, 1) := by decide +kernel
theorem dX5_alu_53 : decode cX5_alu 53 = .ok (.iadd, 1) := by decide +kernel
theorem dX5_alu_54 : decode cX5_alu 54 = .ok (.iload 4, 2) := by decide +kernel
theorem dX5_alu_56 : decode cX5_alu 56 = .ok (.iadd, 1) := by decide +kernel
theorem dX5_alu_57 : decode cX5_alu 57 = .ok (.bipush 15, 2) := by decide +kernel
theorem dX5_alu_59 : decode cX5_alu 59 = .ok (.if_icmp .le 7, 3) := by decide +kernel
theorem dX5_alu_62 : decode cX5_alu 62 = .ok (.iconst 1, 1) := by decide +kernel
theorem dX5_alu_63 : decode cX5_alu 63 = .ok (.goto 4, 3) := by decide +kernel
theorem dX5_alu_66 : decode cX5_alu 66 = .ok (.iconst 0, 1) := by decide +kernel
theorem dX5_alu_67 : decode cX5_alu 67 = .ok (.putfield 63, 3) := by decide +kernel
theorem dX5_alu_70 : decode cX5_alu 70 = .ok (.aload_n 0, 1) := by decide +kernel
theorem dX5_alu_71 : decode cX5_alu 71 = .ok (.iload 5, 2) := by decide +kernel
theorem dX5_alu_73 : decode cX5_alu 73 = .ok (.sipush 255, 3) := by decide +kernel
theorem dX5_alu_76 : decode cX5_alu 76 = .ok (.if_icmp .le 7, 3) := by decide +kernel
theorem dX5_alu_79 : decode cX5_alu 79 = .ok (.iconst 1, 1) := by decide +kernel
theorem dX5_alu_80 : decode cX5_alu 80 = .ok (.goto 4, 3) := by decide +kernel
theorem dX5_alu_83 : decode cX5_alu 83 = .ok (.iconst 0, 1) := by decide +kernel
theorem dX5_alu_84 : decode cX5_alu 84 = .ok (.putfield 66, 3) := by decide +kernel
theorem dX5_alu_87 : decode cX5_alu 87 = .ok (.goto 126, 3) := by decide +kernel
theorem dX5_alu_90 : decode cX5_alu 90 = .ok (.iload_n 1, 1) := by decide +kernel
theorem dX5_alu_91 : decode cX5_alu 91 = .ok (.iconst 2, 1) := by decide +kernel
theorem dX5_alu_92 : decode cX5_alu 92 = .ok (.if_icmp .eq 14, 3) := by decide +kernel
theorem dX5_alu_95 : decode cX5_alu 95 = .ok (.iload_n 1, 1) := by decide +kernel
theorem dX5_alu_96 : decode cX5_alu 96 = .ok (.iconst 3, 1) := by decide +kernel
theorem dX5_alu_97 : decode cX5_alu 97 = .ok (.if_icmp .eq 9, 3) := by decide +kernel
theorem dX5_alu_100 : decode cX5_alu 100 = .ok (.iload_n 1, 1) := by decide +kernel
theorem dX5_alu_101 : decode cX5_alu 101 = .ok (.bipush 7, 2) := by decide +kernel
theorem dX5_alu_103 : decode cX5_alu 103 = .ok (.if_icmp .ne 58, 3) := by decide +kernel
theorem dX5_alu_106 : decode cX5_alu 106 = .ok (.iload_n 3, 1) := by decide +kernel
theorem dX5_alu_107 : decode cX5_alu 107 = .ok (.iload_n 2, 1) := by decide +kernel
theorem dX5_alu_108 : decode cX5_alu 108 = .ok (.isub, 1) := by decide +kernel
theorem dX5_alu_109 : decode cX5_alu 109 = .ok (.iload 4, 2) := by decide +kernel
theorem dX5_alu_111 : decode cX5_alu 111 = .ok (.isub, 1) := by decide +kernel
theorem dX5_alu_112 : decode cX5_alu 112 = .ok (.istore 5, 2) := by decide +kernel
theorem dX5_alu_114 : decode cX5_alu 114 = .ok (.aload_n 0, 1) := by decide +kernel
theorem dX5_alu_115 : decode cX5_alu 115 = .ok (.iload_n 3, 1) := by decide +kernel
theorem dX5_alu_116 : decode cX5_alu 116 = .ok (.bipush 15, 2) := by decide +kernel
theorem dX5_alu_118 : decode cX5_alu 118 = .ok (.iand, 1) := by decide +kernel
theorem dX5_alu_119 : decode cX5_alu 119 = .ok (.iload_n 2, 1) := by decide +kernel
theorem dX5_alu_120 : decode cX5_alu 120 = .ok (.iconst (-1), 1) := by decide +kernel
theorem dX5_alu_121 : decode cX5_alu 121 = .ok (.ixor, 1) := by decide +kernel
theorem dX5_alu_122 : decode cX5_alu 122 = .ok (.bipush 15, 2) := by decide +kernel
theorem dX5_alu_124 : decode cX5_alu 124 = .ok (.iand, 1) := by decide +kernel
theorem dX5_alu_125 : decode cX5_alu 125 = .ok (.iadd, 1) := by decide +kernel
theorem dX5_alu_126 : decode cX5_alu 126 = .ok (.iconst 1, 1) := by decide +kernel
theorem dX5_alu_127 : decode cX5_alu 127 = .ok (.iadd, 1) := by decide +kernel
theorem dX5_alu_128 : decode cX5_alu 128 = .ok (.iload 4, 2) := by decide +kernel
theorem dX5_alu_130 : decode cX5_alu 130 = .ok (.isub, 1) := by decide +kernel
theorem dX5_alu_131 : decode cX5_alu 131 = .ok (.bipush 15, 2) := by decide +kernel
theorem dX5_alu_133 : decode cX5_alu 133 = .ok (.if_icmp .le 7, 3) := by decide +kernel
theorem dX5_alu_136 : decode cX5_alu 136 = .ok (.iconst 1, 1) := by decide +kernel
theorem dX5_alu_137 : decode cX5_alu 137 = .ok (.goto 4, 3) := by decide +kernel
theorem dX5_alu_140 : decode cX5_alu 140 = .ok (.iconst 0, 1) := by decide +kernel
theorem dX5_alu_141 : decode cX5_alu 141 = .ok (.putfield 63, 3) := by decide +kernel
theorem dX5_alu_144 : decode cX5_alu 144 = .ok (.aload_n 0, 1) := by decide +kernel
theorem dX5_alu_145 : decode cX5_alu 145 = .ok (.iload 5, 2) := by decide +kernel
theorem dX5_alu_147 : decode cX5_alu 147 = .ok (.ifCond .ge 7, 3) := by decide +kernel
theorem dX5_alu_150 : decode cX5_alu 150 = .ok (.iconst 1, 1) := by decide +kernel
theorem dX5_alu_151 : decode cX5_alu 151 = .ok (.goto 4, 3) := by decide +kernel
theorem dX5_alu_154 : decode cX5_alu 154 = .ok (.iconst 0, 1) := by decide +kernel
theorem dX5_alu_155 : decode cX5_alu 155 = .ok (.putfield 66, 3) := by decide +kernel
theorem dX5_alu_158 : decode cX5_alu 158 = .ok (.goto 55, 3) := by decide +kernel
theorem dX5_alu_161 : decode cX5_alu 161 = .ok (.iload_n 1, 1) := by decide +kernel
theorem dX5_alu_162 : decode cX5_alu 162 = .ok (.iconst 4, 1) := by decide +kernel
theorem dX5_alu_163 : decode cX5_alu 163 = .ok (.if_icmp .ne 9, 3) := by decide +kernel
theorem dX5_alu_166 : decode cX5_alu 166 = .ok (.iload_n 3, 1) := by decide +kernel
theorem dX5_alu_167 : decode cX5_alu 167 = .ok (.iload_n 2, 1) := by decide +kernel
theorem dX5_alu_168 : decode cX5_alu 168 = .ok (.iand, 1) := by decide +kernel
theorem dX5_alu_169 : decode cX5_alu 169 = .ok (.goto 17, 3) := by decide +kernel
theorem dX5_alu_172 : decode cX5_alu 172 = .ok (.iload_n 1, 1) := by decide +kernel
theorem dX5_alu_173 : decode cX5_alu 173 = .ok (.iconst 5, 1) := by decide +kernel
theorem dX5_alu_174 : decode cX5_alu 174 = .ok (.if_icmp .ne 9, 3) := by decide +kernel
theorem dX5_alu_177 : decode cX5_alu 177 = .ok (.iload_n 3, 1) := by decide +kernel
theorem dX5_alu_178 : decode cX5_alu 178 = .ok (.iload_n 2, 1) := by decide +kernel
theorem dX5_alu_179 : decode cX5_alu 179 = .ok (.ixor, 1) := by decide +kernel
theorem dX5_alu_180 : decode cX5_alu 180 = .ok (.goto 6, 3) := by decide +kernel
theorem dX5_alu_183 : decode cX5_alu 183 = .ok (.iload_n 3, 1) := by decide +kernel
theorem dX5_alu_184 : decode cX5_alu 184 = .ok (.iload_n 2, 1) := by decide +kernel
theorem dX5_alu_185 : decode cX5_alu 185 = .ok (.ior, 1) := by decide +kernel
theorem dX5_alu_186 : decode cX5_alu 186 = .ok (.istore 5, 2) := by decide +kernel
theorem dX5_alu_188 : decode cX5_alu 188 = .ok (.aload_n 0, 1) := by decide +kernel
theorem dX5_alu_189 : decode cX5_alu 189 = .ok (.iload_n 1, 1) := by decide +kernel
theorem dX5_alu_190 : decode cX5_alu 190 = .ok (.iconst 4, 1) := by decide +kernel
theorem dX5_alu_191 : decode cX5_alu 191 = .ok (.if_icmp .ne 13, 3) := by decide +kernel
theorem dX5_alu_194 : decode cX5_alu 194 = .ok (.iload_n 3, 1) := by decide +kernel
theorem dX5_alu_195 : decode cX5_alu 195 = .ok (.iload_n 2, 1) := by decide +kernel
theorem dX5_alu_196 : decode cX5_alu 196 = .ok (.ior, 1) := by decide +kernel
theorem dX5_alu_197 : decode cX5_alu 197 = .ok (.iconst 3, 1) := by decide +kernel
theorem dX5_alu_198 : decode cX5_alu 198 = .ok (.ishr, 1) := by decide +kernel
theorem dX5_alu_199 : decode cX5_alu 199 = .ok (.iconst 1, 1) := by decide +kernel
theorem dX5_alu_200 : decode cX5_alu 200 = .ok (.iand, 1) := by decide +kernel
theorem dX5_alu_201 : decode cX5_alu 201 = .ok (.goto 4, 3) := by decide +kernel
theorem dX5_alu_204 : decode cX5_alu 204 = .ok (.iconst 0, 1) := by decide +kernel
theorem dX5_alu_205 : decode cX5_alu 205 = .ok (.putfield 63, 3) := by decide +kernel
theorem dX5_alu_208 : decode cX5_alu 208 = .ok (.aload_n 0, 1) := by decide +kernel
theorem dX5_alu_209 : decode cX5_alu 209 = .ok (.iconst 0, 1) := by decide +kernel
theorem dX5_alu_210 : decode cX5_alu 210 = .ok (.putfield 66, 3) := by decide +kernel
theorem dX5_alu_213 : decode cX5_alu 213 = .ok (.aload_n 0, 1) := by decide +kernel
theorem dX5_alu_214 : decode cX5_alu 214 = .ok (.iload 5, 2) := by decide +kernel
theorem dX5_alu_216 : decode cX5_alu 216 = .ok (.sipush 255, 3) := by decide +kernel
theorem dX5_alu_219 : decode cX5_alu 219 = .ok (.iand, 1) := by decide +kernel
theorem dX5_alu_220 : decode cX5_alu 220 = .ok (.invokevirtual 69, 3) := by decide +kernel
theorem dX5_alu_223 : decode cX5_alu 223 = .ok (.iload_n 1, 1) := by decide +kernel
theorem dX5_alu_224 : decode cX5_alu 224 = .ok (.bipush 7, 2) := by decide +kernel
theorem dX5_alu_226 : decode cX5_alu 226 = .ok (.if_icmp .ge 16, 3) := by decide +kernel
theorem dX5_alu_229 : decode cX5_alu 229 = .ok (.aload_n 0, 1) := by decide +kernel
theorem dX5_alu_230 : decode cX5_alu 230 = .ok (.getfield 16, 3) := by decide +kernel
theorem dX5_alu_233 : decode cX5_alu 233 = .ok (.bipush 7, 2) := by decide +kernel
theorem dX5_alu_235 : decode cX5_alu 235 = .ok (.iload 5, 2) := by decide +kernel
theorem dX5_alu_237 : decode cX5_alu 237 = .ok (.sipush 255, 3) := by decide +kernel
theorem dX5_alu_240 : decode cX5_alu 240 = .ok (.iand, 1) := by decide +kernel
theorem dX5_alu_241 : decode cX5_alu 241 = .ok (.iastore, 1) := by decide +kernel
theorem dX5_alu_242 : decode cX5_alu 242 = .ok (.return_, 1) := by decide +kernel
set_option maxRecDepth 20000 in
theorem ggX5_count_X5_get : GoodIn wsX5_count wsX5_get := goodIn_r _ [6, 7, 8, 9, 10, 5, 11, 12, 13, 14, 15, 16, 17, 18, 34, 35, 36, 37, 38, 39, 40, 41, 42, 43, 44, 45, 46, 47, 48, 49, 50, 51, 52, 53, 54, 55, 56, 57] (by decide +kernel) (by decide +kernel)
set_option maxRecDepth 20000 in
theorem gX5_count_X5_get : GoodIn wsX5_count (wsV RX5 73 RX5 yX5_get wsX5_get) := goodIn_app (goodIn_of _ (by decide +kernel)) ggX5_count_X5_get
set_option maxRecDepth 20000 in
theorem ggX5_count_X5_set : GoodIn wsX5_count wsX5_set := goodIn_r _ [22, 7, 8, 9, 10, 5, 11, 23, 24, 25, 26, 17, 34, 35, 36, 37, 38, 39, 40, 41, 42, 43, 44, 45, 46, 47, 48, 49, 50, 51, 52, 53, 54, 55, 56, 57] (by decide +kernel) (by decide +kernel)
set_option maxRecDepth 20000 in
theorem gX5_count_X5_set : GoodIn wsX5_count (wsV RX5 76 RX5 yX5_set wsX5_set) := goodIn_app (goodIn_of _ (by decide +kernel)) ggX5_count_X5_set
set_option maxRecDepth 20000 in
theorem ggX5_count_X5_signs : GoodIn wsX5_count wsX5_signs := goodIn_r _ [30, 31, 32, 33, 34, 35, 36, 37, 38, 39, 40, 41, 42, 43, 44, 45, 46, 47, 48, 49, 50, 51, 52, 53, 54, 55, 56, 57] (by decide +kernel) (by decide +kernel)
set_option maxRecDepth 20000 in
theorem gX5_count_X5_signs : GoodIn wsX5_count (wsV RX5 69 RX5 yX5_signs wsX5_signs) := goodIn_app (goodIn_of _ (by decide +kernel)) ggX5_count_X5_signs
theorem dX5_count_0 : decode cX5_count 0 = .ok (.aload_n 0, 1) := by decide +kernel
theorem dX5_count_1 : decode cX5_count 1 = .ok (.iload_n 1, 1) := by decide +kernel
theorem dX5_count_2 : decode cX5_count 2 = .ok (.invokevirtual 73, 3) := by decide +kernel
theorem dX5_count_5 : decode cX5_count 5 = .ok (.iload_n 2, 1) := by decide +kernel
theorem dX5_count_6 : decode cX5_count 6 = .ok (.iadd, 1) := by decide +kernel
theorem dX5_count_7 : decode cX5_count 7 = .ok (.sipush 255, 3) := by decide +kernel
theorem dX5_count_10 : decode cX5_count 10 = .ok (.iand, 1) := by decide +kernel
theorem dX5_count_11 : decode cX5_count 11 = .ok (.istore_n 3, 1) := by decide +kernel
theorem dX5_count_12 : decode cX5_count 12 = .ok (.aload_n 0, 1) := by decide +kernel
theorem dX5_count_13 : decode cX5_count 13 = .ok (.iload_n 1, 1) := by decide +kernel
theorem dX5_count_14 : decode cX5_count 14 = .ok (.iload_n 3, 1) := by decide +kernel
theorem dX5_count_15 : decode cX5_count 15 = .ok (.invokevirtual 76, 3) := by decide +kernel
theorem dX5_count_18 : decode cX5_count 18 = .ok (.aload_n 0, 1) := by decide +kernel
theorem dX5_count_19 : decode cX5_count 19 = .ok (.iload_n 2, 1) := by decide +kernel
theorem dX5_count_20 : decode cX5_count 20 = .ok (.ifCond .le 18, 3) := by decide +kernel
theorem dX5_count_23 : decode cX5_count 23 = .ok (.iload_n 3, 1) := by decide +kernel
theorem dX5_count_24 : decode cX5_count 24 = .ok (.bipush 15, 2) := by decide +kernel
theorem dX5_count_26 : decode cX5_count 26 = .ok (.iand, 1) := by decide +kernel
theorem dX5_count_27 : decode cX5_count 27 = .ok (.ifCond .ne 7, 3) := by decide +kernel
theorem dX5_count_30 : decode cX5_count 30 = .ok (.iconst 1, 1) := by decide +kernel
theorem dX5_count_31 : decode cX5_count 31 = .ok (.goto 21, 3) := by decide +kernel
theorem dX5_count_34 : decode cX5_count 34 = .ok (.iconst 0, 1) := by decide +kernel
theorem dX5_count_35 : decode cX5_count 35 = .ok (.goto 17, 3) := by decide +kernel
theorem dX5_count_38 : decode cX5_count 38 = .ok (.iload_n 3, 1) := by decide +kernel
theorem dX5_count_39 : decode cX5_count 39 = .ok (.bipush 15, 2) := by decide +kernel
theorem dX5_count_41 : decode cX5_count 41 = .ok (.iand, 1) := by decide +kernel
theorem dX5_count_42 : decode cX5_count 42 = .ok (.bipush 15, 2) := by decide +kernel
theorem dX5_count_44 : decode cX5_count 44 = .ok (.if_icmp .ne 7, 3) := by decide +kernel
theorem dX5_count_47 : decode cX5_count 47 = .ok (.iconst 0, 1) := by decide +kernel
theorem dX5_count_48 : decode cX5_count 48 = .ok (.goto 4, 3) := by decide +kernel
theorem dX5_count_51 : decode cX5_count 51 = .ok (.iconst 1, 1) := by decide +kernel
theorem dX5_count_52 : decode cX5_count 52 = .ok (.putfield 63, 3) := by decide +kernel
theorem dX5_count_55 : decode cX5_count 55 = .ok (.aload_n 0, 1) := by decide +kernel
theorem dX5_count_56 : decode cX5_count 56 = .ok (.iload_n 3, 1) := by decide +kernel
theorem dX5_count_57 : decode cX5_count 57 = .ok (.invokevirtual 69, 3) := by decide +kernel
theorem dX5_count_60 : decode cX5_count 60 = .ok (.return_, 1) := by decide +kernel
set_option maxRecDepth 20000 in
theorem ggX5_adjust_X5_signs : GoodIn wsX5_adjust wsX5_signs := goodIn_r _ [8, 9, 10, 11, 12, 13, 14, 15, 16, 17, 18, 19, 20, 21, 22, 23, 24, 25, 26, 27, 28, 29, 30, 31, 32, 33, 34, 35] (by decide +kernel) (by decide +kernel)
set_option maxRecDepth 20000 in
theorem gX5_adjust_X5_signs : GoodIn wsX5_adjust (wsV RX5 69 RX5 yX5_signs wsX5_signs) := goodIn_app (goodIn_of _ (by decide +kernel)) ggX5_adjust_X5_signs
theorem dX5_adjust_0 : decode cX5_adjust 0 = .ok (.aload_n 0, 1) := by decide +kernel
theorem dX5_adjust_1 : decode cX5_adjust 1 = .ok (.getfield 16, 3) := by decide +kernel
theorem dX5_adjust_4 : decode cX5_adjust 4 = .ok (.bipush 7, 2) := by decide +kernel
theorem dX5_adjust_6 : decode cX5_adjust 6 = .ok (.iaload, 1) := by decide +kernel
theorem dX5_adjust_7 : decode cX5_adjust 7 = .ok (.istore_n 1, 1) := by decide +kernel
theorem dX5_adjust_8 : decode cX5_adjust 8 = .ok (.iload_n 1, 1) := by decide +kernel
theorem dX5_adjust_9 : decode cX5_adjust 9 = .ok (.bipush 15, 2) := by decide +kernel
theorem dX5_adjust_11 : decode cX5_adjust 11 = .ok (.iand, 1) := by decide +kernel
theorem dX5_adjust_12 : decode cX5_adjust 12 = .ok (.bipush 9, 2) := by decide +kernel
theorem dX5_adjust_14 : decode cX5_adjust 14 = .ok (.if_icmp .gt 11, 3) := by decide +kernel
theorem dX5_adjust_17 : decode cX5_adjust 17 = .ok (.aload_n 0, 1) := by decide +kernel
theorem dX5_adjust_18 : decode cX5_adjust 18 = .ok (.getfield 63, 3) := by decide +kernel
theorem dX5_adjust_21 : decode cX5_adjust 21 = .ok (.iconst 1, 1) := by decide +kernel
theorem dX5_adjust_22 : decode cX5_adjust 22 = .ok (.if_icmp .ne 8, 3) := by decide +kernel
theorem dX5_adjust_25 : decode cX5_adjust 25 = .ok (.bipush 6, 2) := by decide +kernel
theorem dX5_adjust_27 : decode cX5_adjust 27 = .ok (.goto 4, 3) := by decide +kernel
theorem dX5_adjust_30 : decode cX5_adjust 30 = .ok (.iconst 0, 1) := by decide +kernel
theorem dX5_adjust_31 : decode cX5_adjust 31 = .ok (.istore_n 2, 1) := by decide +kernel
theorem dX5_adjust_32 : decode cX5_adjust 32 = .ok (.iload_n 1, 1) := by decide +kernel
theorem dX5_adjust_33 : decode cX5_adjust 33 = .ok (.sipush 153, 3) := by decide +kernel
theorem dX5_adjust_36 : decode cX5_adjust 36 = .ok (.if_icmp .gt 11, 3) := by decide +kernel
theorem dX5_adjust_39 : decode cX5_adjust 39 = .ok (.aload_n 0, 1) := by decide +kernel
theorem dX5_adjust_40 : decode cX5_adjust 40 = .ok (.getfield 66, 3) := by decide +kernel
theorem dX5_adjust_43 : decode cX5_adjust 43 = .ok (.iconst 1, 1) := by decide +kernel
theorem dX5_adjust_44 : decode cX5_adjust 44 = .ok (.if_icmp .ne 7, 3) := by decide +kernel
theorem dX5_adjust_47 : decode cX5_adjust 47 = .ok (.iconst 1, 1) := by decide +kernel
theorem dX5_adjust_48 : decode cX5_adjust 48 = .ok (.goto 4, 3) := by decide +kernel
theorem dX5_adjust_51 : decode cX5_adjust 51 = .ok (.iconst 0, 1) := by decide +kernel
theorem dX5_adjust_52 : decode cX5_adjust 52 = .ok (.istore_n 3, 1) := by decide +kernel
theorem dX5_adjust_53 : decode cX5_adjust 53 = .ok (.aload_n 0, 1) := by decide +kernel
theorem dX5_adjust_54 : decode cX5_adjust 54 = .ok (.iload_n 1, 1) := by decide +kernel
theorem dX5_adjust_55 : decode cX5_adjust 55 = .ok (.bipush 15, 2) := by decide +kernel
theorem dX5_adjust_57 : decode cX5_adjust 57 = .ok (.iand, 1) := by decide +kernel
theorem dX5_adjust_58 : decode cX5_adjust 58 = .ok (.iload_n 2, 1) := by decide +kernel
theorem dX5_adjust_59 : decode cX5_adjust 59 = .ok (.iadd, 1) := by decide +kernel
theorem dX5_adjust_60 : decode cX5_adjust 60 = .ok (.bipush 15, 2) := by decide +kernel
theorem dX5_adjust_62 : decode cX5_adjust 62 = .ok (.if_icmp .le 7, 3) := by decide +kernel
theorem dX5_adjust_65 : decode cX5_adjust 65 = .ok (.iconst 1, 1) := by decide +kernel
theorem dX5_adjust_66 : decode cX5_adjust 66 = .ok (.goto 4, 3) := by decide +kernel
theorem dX5_adjust_69 : decode cX5_adjust 69 = .ok (.iconst 0, 1) := by decide +kernel
theorem dX5_adjust_70 : decode cX5_adjust 70 = .ok (.putfield 63, 3) := by decide +kernel
theorem dX5_adjust_73 : decode cX5_adjust 73 = .ok (.aload_n 0, 1) := by decide +kernel
theorem dX5_adjust_74 : decode cX5_adjust 74 = .ok (.iload_n 3, 1) := by decide +kernel
theorem dX5_adjust_75 : decode cX5_adjust 75 = .ok (.ifCond .eq 7, 3) := by decide +kernel
theorem dX5_adjust_78 : decode cX5_adjust 78 = .ok (.iconst 1, 1) := by decide +kernel
theorem dX5_adjust_79 : decode cX5_adjust 79 = .ok (.goto 4, 3) := by decide +kernel
theorem dX5_adjust_82 : decode cX5_adjust 82 = .ok (.iconst 0, 1) := by decide +kernel
theorem dX5_adjust_83 : decode cX5_adjust 83 = .ok (.putfield 66, 3) := by decide +kernel
theorem dX5_adjust_86 : decode cX5_adjust 86 = .ok (.aload_n 0, 1) := by decide +kernel
theorem dX5_adjust_87 : decode cX5_adjust 87 = .ok (.getfield 16, 3) := by decide +kernel
theorem dX5_adjust_90 : decode cX5_adjust 90 = .ok (.bipush 7, 2) := by decide +kernel
theorem dX5_adjust_92 : decode cX5_adjust 92 = .ok (.iload_n 1, 1) := by decide +kernel
theorem dX5_adjust_93 : decode cX5_adjust 93 = .ok (.iload_n 2, 1) := by decide +kernel
theorem dX5_adjust_94 : decode cX5_adjust 94 = .ok (.iadd, 1) := by decide +kernel
theorem dX5_adjust_95 : decode cX5_adjust 95 = .ok (.iload_n 3, 1) := by decide +kernel
theorem dX5_adjust_96 : decode cX5_adjust 96 = .ok (.ifCond .eq 8, 3) := by decide +kernel
theorem dX5_adjust_99 : decode cX5_adjust 99 = .ok (.bipush 96, 2) := by decide +kernel
theorem dX5_adjust_101 : decode cX5_adjust 101 = .ok (.goto 4, 3) := by decide +kernel
theorem dX5_adjust_104 : decode cX5_adjust 104 = .ok (.iconst 0, 1) := by decide +kernel
theorem dX5_adjust_105 : decode cX5_adjust 105 = .ok (.iadd, 1) := by decide +kernel
theorem dX5_adjust_106 : decode cX5_adjust 106 = .ok (.sipush 255, 3) := by decide +kernel
theorem dX5_adjust_109 : decode cX5_adjust 109 = .ok (.iand, 1) := by decide +kernel
theorem dX5_adjust_110 : decode cX5_adjust 110 = .ok (.iastore, 1) := by decide +kernel
theorem dX5_adjust_111 : decode cX5_adjust 111 = .ok (.aload_n 0, 1) := by decide +kernel
theorem dX5_adjust_112 : decode cX5_adjust 112 = .ok (.aload_n 0, 1) := by decide +kernel
theorem dX5_adjust_113 : decode cX5_adjust 113 = .ok (.getfield 16, 3) := by decide +kernel
theorem dX5_adjust_116 : decode cX5_adjust 116 = .ok (.bipush 7, 2) := by decide +kernel
theorem dX5_adjust_118 : decode cX5_adjust 118 = .ok (.iaload, 1) := by decide +kernel
theorem dX5_adjust_119 : decode cX5_adjust 119 = .ok (.invokevirtual 69, 3) := by decide +kernel
theorem dX5_adjust_122 : decode cX5_adjust 122 = .ok (.return_, 1) := by decide +kernel
set_option maxRecDepth 20000 in
theorem ggX5_turn_X5_adjust : GoodIn wsX5_turn wsX5_adjust := goodIn_r _ [7, 1, 8, 2, 9, 10, 11, 6, 12, 13, 14, 15, 16, 17, 18, 19, 20, 21, 22, 23, 24, 25, 26, 27, 28, 29, 30, 31, 32, 33, 34, 35, 36, 37, 38, 39] (by decide +kernel) (by decide +kernel)
set_option maxRecDepth 20000 in
theorem gX5_turn_X5_adjust : GoodIn wsX5_turn (wsV RX5 79 RX5 yX5_adjust wsX5_adjust) := goodIn_app (goodIn_of _ (by decide +kernel)) ggX5_turn_X5_adjust
theorem dX5_turn_0 : decode cX5_turn 0 = .ok (.aload_n 0, 1) := by decide +kernel
theorem dX5_turn_1 : decode cX5_turn 1 = .ok (.getfield 16, 3) := by decide +kernel
theorem dX5_turn_4 : decode cX5_turn 4 = .ok (.bipush 7, 2) := by decide +kernel
theorem dX5_turn_6 : decode cX5_turn 6 = .ok (.iaload, 1) := by decide +kernel
theorem dX5_turn_7 : decode cX5_turn 7 = .ok (.istore_n 2, 1) := by decide +kernel
theorem dX5_turn_8 : decode cX5_turn 8 = .ok (.iload_n 1, 1) := by decide +kernel
theorem dX5_turn_9 : decode cX5_turn 9 = .ok (.ifCond .eq 8, 3) := by decide +kernel
theorem dX5_turn_12 : decode cX5_turn 12 = .ok (.iload_n 1, 1) := by decide +kernel
theorem dX5_turn_13 : decode cX5_turn 13 = .ok (.iconst 2, 1) := by decide +kernel
theorem dX5_turn_14 : decode cX5_turn 14 = .ok (.if_icmp .ne 44, 3) := by decide +kernel
theorem dX5_turn_17 : decode cX5_turn 17 = .ok (.aload_n 0, 1) := by decide +kernel
theorem dX5_turn_18 : decode cX5_turn 18 = .ok (.getfield 16, 3) := by decide +kernel
theorem dX5_turn_21 : decode cX5_turn 21 = .ok (.bipush 7, 2) := by decide +kernel
theorem dX5_turn_23 : decode cX5_turn 23 = .ok (.iload_n 2, 1) := by decide +kernel
theorem dX5_turn_24 : decode cX5_turn 24 = .ok (.iconst 1, 1) := by decide +kernel
theorem dX5_turn_25 : decode cX5_turn 25 = .ok (.ishl, 1) := by decide +kernel
theorem dX5_turn_26 : decode cX5_turn 26 = .ok (.sipush 254, 3) := by decide +kernel
theorem dX5_turn_29 : decode cX5_turn 29 = .ok (.iand, 1) := by decide +kernel
theorem dX5_turn_30 : decode cX5_turn 30 = .ok (.iload_n 1, 1) := by decide +kernel
theorem dX5_turn_31 : decode cX5_turn 31 = .ok (.ifCond .ne 10, 3) := by decide +kernel
theorem dX5_turn_34 : decode cX5_turn 34 = .ok (.iload_n 2, 1) := by decide +kernel
theorem dX5_turn_35 : decode cX5_turn 35 = .ok (.bipush 7, 2) := by decide +kernel
theorem dX5_turn_37 : decode cX5_turn 37 = .ok (.ishr, 1) := by decide +kernel
theorem dX5_turn_38 : decode cX5_turn 38 = .ok (.goto 7, 3) := by decide +kernel
theorem dX5_turn_41 : decode cX5_turn 41 = .ok (.aload_n 0, 1) := by decide +kernel
theorem dX5_turn_42 : decode cX5_turn 42 = .ok (.getfield 66, 3) := by decide +kernel
theorem dX5_turn_45 : decode cX5_turn 45 = .ok (.ior, 1) := by decide +kernel
theorem dX5_turn_46 : decode cX5_turn 46 = .ok (.iastore, 1) := by decide +kernel
theorem dX5_turn_47 : decode cX5_turn 47 = .ok (.aload_n 0, 1) := by decide +kernel
theorem dX5_turn_48 : decode cX5_turn 48 = .ok (.iload_n 2, 1) := by decide +kernel
theorem dX5_turn_49 : decode cX5_turn 49 = .ok (.bipush 7, 2) := by decide +kernel
theorem dX5_turn_51 : decode cX5_turn 51 = .ok (.ishr, 1) := by decide +kernel
theorem dX5_turn_52 : decode cX5_turn 52 = .ok (.putfield 66, 3) := by decide +kernel
theorem dX5_turn_55 : decode cX5_turn 55 = .ok (.goto 106, 3) := by decide +kernel
theorem dX5_turn_58 : decode cX5_turn 58 = .ok (.iload_n 1, 1) := by decide +kernel
theorem dX5_turn_59 : decode cX5_turn 59 = .ok (.iconst 1, 1) := by decide +kernel
theorem dX5_turn_60 : decode cX5_turn 60 = .ok (.if_icmp .eq 8, 3) := by decide +kernel
theorem dX5_turn_63 : decode cX5_turn 63 = .ok (.iload_n 1, 1) := by decide +kernel
theorem dX5_turn_64 : decode cX5_turn 64 = .ok (.iconst 3, 1) := by decide +kernel
theorem dX5_turn_65 : decode cX5_turn 65 = .ok (.if_icmp .ne 42, 3) := by decide +kernel
theorem dX5_turn_68 : decode cX5_turn 68 = .ok (.aload_n 0, 1) := by decide +kernel
theorem dX5_turn_69 : decode cX5_turn 69 = .ok (.getfield 16, 3) := by decide +kernel
theorem dX5_turn_72 : decode cX5_turn 72 = .ok (.bipush 7, 2) := by decide +kernel
theorem dX5_turn_74 : decode cX5_turn 74 = .ok (.iload_n 2, 1) := by decide +kernel
theorem dX5_turn_75 : decode cX5_turn 75 = .ok (.iconst 1, 1) := by decide +kernel
theorem dX5_turn_76 : decode cX5_turn 76 = .ok (.ishr, 1) := by decide +kernel
theorem dX5_turn_77 : decode cX5_turn 77 = .ok (.iload_n 1, 1) := by decide +kernel
theorem dX5_turn_78 : decode cX5_turn 78 = .ok (.iconst 1, 1) := by decide +kernel
theorem dX5_turn_79 : decode cX5_turn 79 = .ok (.if_icmp .ne 9, 3) := by decide +kernel
theorem dX5_turn_82 : decode cX5_turn 82 = .ok (.iload_n 2, 1) := by decide +kernel
theorem dX5_turn_83 : decode cX5_turn 83 = .ok (.iconst 1, 1) := by decide +kernel
theorem dX5_turn_84 : decode cX5_turn 84 = .ok (.iand, 1) := by decide +kernel
theorem dX5_turn_85 : decode cX5_turn 85 = .ok (.goto 7, 3) := by decide +kernel
theorem dX5_turn_88 : decode cX5_turn 88 = .ok (.aload_n 0, 1) := by decide +kernel
theorem dX5_turn_89 : decode cX5_turn 89 = .ok (.getfield 66, 3) := by decide +kernel
theorem dX5_turn_92 : decode cX5_turn 92 = .ok (.bipush 7, 2) := by decide +kernel
theorem dX5_turn_94 : decode cX5_turn 94 = .ok (.ishl, 1) := by decide +kernel
theorem dX5_turn_95 : decode cX5_turn 95 = .ok (.ior, 1) := by decide +kernel
theorem dX5_turn_96 : decode cX5_turn 96 = .ok (.iastore, 1) := by decide +kernel
theorem dX5_turn_97 : decode cX5_turn 97 = .ok (.aload_n 0, 1) := by decide +kernel
theorem dX5_turn_98 : decode cX5_turn 98 = .ok (.iload_n 2, 1) := by decide +kernel
theorem dX5_turn_99 : decode cX5_turn 99 = .ok (.iconst 1, 1) := by decide +kernel
theorem dX5_turn_100 : decode cX5_turn 100 = .ok (.iand, 1) := by decide +kernel
theorem dX5_turn_101 : decode cX5_turn 101 = .ok (.putfield 66, 3) := by decide +kernel
theorem dX5_turn_104 : decode cX5_turn 104 = .ok (.goto 57, 3) := by decide +kernel
theorem dX5_turn_107 : decode cX5_turn 107 = .ok (.iload_n 1, 1) := by decide +kernel
theorem dX5_turn_108 : decode cX5_turn 108 = .ok (.iconst 4, 1) := by decide +kernel
theorem dX5_turn_109 : decode cX5_turn 109 = .ok (.if_icmp .ne 10, 3) := by decide +kernel
theorem dX5_turn_112 : decode cX5_turn 112 = .ok (.aload_n 0, 1) := by decide +kernel
theorem dX5_turn_113 : decode cX5_turn 113 = .ok (.invokevirtual 79, 3) := by decide +kernel
theorem dX5_turn_116 : decode cX5_turn 116 = .ok (.goto 45, 3) := by decide +kernel
theorem dX5_turn_119 : decode cX5_turn 119 = .ok (.iload_n 1, 1) := by decide +kernel
theorem dX5_turn_120 : decode cX5_turn 120 = .ok (.iconst 5, 1) := by decide +kernel
theorem dX5_turn_121 : decode cX5_turn 121 = .ok (.if_icmp .ne 20, 3) := by decide +kernel
theorem dX5_turn_124 : decode cX5_turn 124 = .ok (.aload_n 0, 1) := by decide +kernel
theorem dX5_turn_125 : decode cX5_turn 125 = .ok (.getfield 16, 3) := by decide +kernel
theorem dX5_turn_128 : decode cX5_turn 128 = .ok (.bipush 7, 2) := by decide +kernel
theorem dX5_turn_130 : decode cX5_turn 130 = .ok (.iload_n 2, 1) := by decide +kernel
theorem dX5_turn_131 : decode cX5_turn 131 = .ok (.iconst (-1), 1) := by decide +kernel
theorem dX5_turn_132 : decode cX5_turn 132 = .ok (.ixor, 1) := by decide +kernel
theorem dX5_turn_133 : decode cX5_turn 133 = .ok (.sipush 255, 3) := by decide +kernel
theorem dX5_turn_136 : decode cX5_turn 136 = .ok (.iand, 1) := by decide +kernel
theorem dX5_turn_137 : decode cX5_turn 137 = .ok (.iastore, 1) := by decide +kernel
theorem dX5_turn_138 : decode cX5_turn 138 = .ok (.goto 23, 3) := by decide +kernel
theorem dX5_turn_141 : decode cX5_turn 141 = .ok (.aload_n 0, 1) := by decide +kernel
theorem dX5_turn_142 : decode cX5_turn 142 = .ok (.iload_n 1, 1) := by decide +kernel
theorem dX5_turn_143 : decode cX5_turn 143 = .ok (.bipush 6, 2) := by decide +kernel
theorem dX5_turn_145 : decode cX5_turn 145 = .ok (.if_icmp .ne 7, 3) := by decide +kernel
theorem dX5_turn_148 : decode cX5_turn 148 = .ok (.iconst 1, 1) := by decide +kernel
theorem dX5_turn_149 : decode cX5_turn 149 = .ok (.goto 9, 3) := by decide +kernel
theorem dX5_turn_152 : decode cX5_turn 152 = .ok (.iconst 1, 1) := by decide +kernel
theorem dX5_turn_153 : decode cX5_turn 153 = .ok (.aload_n 0, 1) := by decide +kernel
theorem dX5_turn_154 : decode cX5_turn 154 = .ok (.getfield 66, 3) := by decide +kernel
theorem dX5_turn_157 : decode cX5_turn 157 = .ok (.isub, 1) := by decide +kernel
theorem dX5_turn_158 : decode cX5_turn 158 = .ok (.putfield 66, 3) := by decide +kernel
theorem dX5_turn_161 : decode cX5_turn 161 = .ok (.return_, 1) := by decide +kernel
theorem dX5_holds_0 : decode cX5_holds 0 = .ok (.iload_n 1, 1) := by decide +kernel
theorem dX5_holds_1 : decode cX5_holds 1 = .ok (.iconst 2, 1) := by decide +kernel
theorem dX5_holds_2 : decode cX5_holds 2 = .ok (.if_icmp .ge 10, 3) := by decide +kernel
theorem dX5_holds_5 : decode cX5_holds 5 = .ok (.aload_n 0, 1) := by decide +kernel
theorem dX5_holds_6 : decode cX5_holds 6 = .ok (.getfield 57, 3) := by decide +kernel
theorem dX5_holds_9 : decode cX5_holds 9 = .ok (.goto 32, 3) := by decide +kernel
theorem dX5_holds_12 : decode cX5_holds 12 = .ok (.iload_n 1, 1) := by decide +kernel
theorem dX5_holds_13 : decode cX5_holds 13 = .ok (.iconst 4, 1) := by decide +kernel
theorem dX5_holds_14 : decode cX5_holds 14 = .ok (.if_icmp .ge 10, 3) := by decide +kernel
theorem dX5_holds_17 : decode cX5_holds 17 = .ok (.aload_n 0, 1) := by decide +kernel
theorem dX5_holds_18 : decode cX5_holds 18 = .ok (.getfield 66, 3) := by decide +kernel
theorem dX5_holds_21 : decode cX5_holds 21 = .ok (.goto 20, 3) := by decide +kernel
theorem dX5_holds_24 : decode cX5_holds 24 = .ok (.iload_n 1, 1) := by decide +kernel
theorem dX5_holds_25 : decode cX5_holds 25 = .ok (.bipush 6, 2) := by decide +kernel
theorem dX5_holds_27 : decode cX5_holds 27 = .ok (.if_icmp .ge 10, 3) := by decide +kernel
theorem dX5_holds_30 : decode cX5_holds 30 = .ok (.aload_n 0, 1) := by decide +kernel
theorem dX5_holds_31 : decode cX5_holds 31 = .ok (.getfield 60, 3) := by decide +kernel
theorem dX5_holds_34 : decode cX5_holds 34 = .ok (.goto 7, 3) := by decide +kernel
theorem dX5_holds_37 : decode cX5_holds 37 = .ok (.aload_n 0, 1) := by decide +kernel
theorem dX5_holds_38 : decode cX5_holds 38 = .ok (.getfield 54, 3) := by decide +kernel
theorem dX5_holds_41 : decode cX5_holds 41 = .ok (.istore_n 2, 1) := by decide +kernel
theorem dX5_holds_42 : decode cX5_holds 42 = .ok (.iload_n 2, 1) := by decide +kernel
theorem dX5_holds_43 : decode cX5_holds 43 = .ok (.iload_n 1, 1) := by decide +kernel
theorem dX5_holds_44 : decode cX5_holds 44 = .ok (.iconst 1, 1) := by decide +kernel
theorem dX5_holds_45 : decode cX5_holds 45 = .ok (.iand, 1) := by decide +kernel
theorem dX5_holds_46 : decode cX5_holds 46 = .ok (.if_icmp .ne 7, 3) := by decide +kernel
theorem dX5_holds_49 : decode cX5_holds 49 = .ok (.iconst 1, 1) := by decide +kernel
theorem dX5_holds_50 : decode cX5_holds 50 = .ok (.goto 4, 3) := by decide +kernel
theorem dX5_holds_53 : decode cX5_holds 53 = .ok (.iconst 0, 1) := by decide +kernel
theorem dX5_holds_54 : decode cX5_holds 54 = .ok (.ireturn, 1) := by decide +kernel
set_option maxRecDepth 20000 in
theorem ggX5_one_X5_next : GoodIn wsX5_one wsX5_next := goodIn_r _ [6, 7, 8, 9, 10, 11, 5, 12, 13, 14, 135, 136, 137, 138, 139, 140, 141, 142, 143, 144, 145, 146, 147, 148, 149, 150, 151, 152, 153, 154, 155, 156, 157, 158] (by decide +kernel) (by decide +kernel)
set_option maxRecDepth 20000 in
theorem gX5_one_X5_next : GoodIn wsX5_one (wsV RX5 40 RX5 yX5_next wsX5_next) := goodIn_app (goodIn_of _ (by decide +kernel)) ggX5_one_X5_next
set_option maxRecDepth 20000 in
theorem ggX5_one_X5_get : GoodIn wsX5_one wsX5_get := goodIn_r _ [18, 19, 20, 21, 22, 5, 23, 9, 10, 11, 12, 8, 13, 14, 135, 136, 137, 138, 139, 140, 141, 142, 143, 144, 145, 146, 147, 148, 149, 150, 151, 152, 153, 154, 155, 156, 157, 158] (by decide +kernel) (by decide +kernel)
set_option maxRecDepth 20000 in
theorem gX5_one_X5_get : GoodIn wsX5_one (wsV RX5 73 RX5 yX5_get wsX5_get) := goodIn_app (goodIn_of _ (by decide +kernel)) ggX5_one_X5_get
set_option maxRecDepth 20000 in
theorem ggX5_one_X5_set : GoodIn wsX5_one wsX5_set := goodIn_r _ [27, 19, 20, 21, 22, 5, 23, 28, 29, 30, 31, 13, 135, 136, 137, 138, 139, 140, 141, 142, 143, 144, 145, 146, 147, 148, 149, 150, 151, 152, 153, 154, 155, 156, 157, 158] (by decide +kernel) (by decide +kernel)
set_option maxRecDepth 20000 in
theorem gX5_one_X5_set : GoodIn wsX5_one (wsV RX5 76 RX5 yX5_set wsX5_set) := goodIn_app (goodIn_of _ (by decide +kernel)) ggX5_one_X5_set
set_option maxRecDepth 20000 in
theorem ggX5_one_X5_alu : GoodIn wsX5_one wsX5_alu := goodIn_r _ [35, 19, 36, 37, 38, 39, 40, 5, 41, 42, 43, 44, 135, 136, 137, 138, 139, 140, 141, 142, 143, 144, 145, 146, 147, 148, 149, 150, 151, 152, 153, 154, 155, 156, 157, 158] (by decide +kernel) (by decide +kernel)
set_option maxRecDepth 20000 in
theorem gX5_one_X5_alu : GoodIn wsX5_one (wsV RX5 86 RX5 yX5_alu wsX5_alu) := goodIn_app (goodIn_of _ (by decide +kernel)) ggX5_one_X5_alu
set_option maxRecDepth 20000 in
theorem ggX5_one_X5_low : GoodIn wsX5_one wsX5_low := goodIn_r _ [48, 36, 8, 20, 21, 22, 5, 23, 19, 49, 50, 51, 52, 53, 54, 55, 56, 57, 58, 59, 60, 61, 2, 3, 4, 6, 7, 9, 10, 11, 12, 13, 14, 62, 63, 64, 65, 28, 29, 30, 31, 66, 67, 68, 69, 37, 15, 16, 17, 18, 24, 25, 26, 27, 38, 39, 40, 41, 42, 43, 44, 70, 71, 72, 73, 74, 75, 76, 77, 135, 136, 137, 138, 139, 140, 141, 142, 143, 144, 145, 146, 147, 148, 149, 150, 151, 152, 153, 154, 155, 156, 157, 158] (by decide +kernel) (by decide +kernel)
set_option maxRecDepth 20000 in
theorem gX5_one_X5_low : GoodIn wsX5_one (wsV RX5 89 RX5 yX5_low wsX5_low) := goodIn_app (goodIn_of _ (by decide +kernel)) ggX5_one_X5_low
set_option maxRecDepth 20000 in
theorem ggX5_one_X5_high : GoodIn wsX5_one wsX5_high := goodIn_r _ [81, 7, 19, 82, 83, 84, 5, 85, 43, 36, 44, 42, 86, 87, 88, 89, 53, 8, 9, 10, 11, 12, 13, 14, 90, 91, 92, 93, 94, 95, 96, 97, 37, 54, 55, 56, 57, 98, 99, 100, 101, 20, 21, 22, 23, 58, 59, 60, 61, 2, 3, 4, 6, 102, 103, 104, 105, 106, 107, 108, 109, 110, 111, 112, 113, 114, 115, 116, 117, 118, 119, 120, 121, 122, 28, 29, 30, 31, 49, 50, 51, 52, 123, 124, 125, 126, 127, 128, 129, 130, 131, 132, 133, 134, 32, 33, 34, 35, 38, 39, 40, 41, 135, 136, 137, 138, 139, 140, 141, 142, 143, 144, 145, 146, 147, 148, 149, 150, 151, 152, 153, 154, 155, 156, 157, 158] (by decide +kernel) (by decide +kernel)
set_option maxRecDepth 20000 in
theorem gX5_one_X5_high : GoodIn wsX5_one (wsV RX5 93 RX5 yX5_high wsX5_high) := goodIn_app (goodIn_of _ (by decide +kernel)) ggX5_one_X5_high
theorem dX5_one_0 : decode cX5_one 0 = .ok (.aload_n 0, 1) := by decide +kernel
theorem dX5_one_1 : decode cX5_one 1 = .ok (.invokevirtual 40, 3) := by decide +kernel
theorem dX5_one_4 : decode cX5_one 4 = .ok (.istore_n 1, 1) := by decide +kernel
theorem dX5_one_5 : decode cX5_one 5 = .ok (.iload_n 1, 1) := by decide +kernel
theorem dX5_one_6 : decode cX5_one 6 = .ok (.bipush 6, 2) := by decide +kernel
theorem dX5_one_8 : decode cX5_one 8 = .ok (.ishr, 1) := by decide +kernel
theorem dX5_one_9 : decode cX5_one 9 = .ok (.istore_n 2, 1) := by decide +kernel
theorem dX5_one_10 : decode cX5_one 10 = .ok (.iload_n 1, 1) := by decide +kernel
theorem dX5_one_11 : decode cX5_one 11 = .ok (.iconst 3, 1) := by decide +kernel
theorem dX5_one_12 : decode cX5_one 12 = .ok (.ishr, 1) := by decide +kernel
theorem dX5_one_13 : decode cX5_one 13 = .ok (.bipush 7, 2) := by decide +kernel
theorem dX5_one_15 : decode cX5_one 15 = .ok (.iand, 1) := by decide +kernel
theorem dX5_one_16 : decode cX5_one 16 = .ok (.istore_n 3, 1) := by decide +kernel
theorem dX5_one_17 : decode cX5_one 17 = .ok (.iload_n 1, 1) := by decide +kernel
theorem dX5_one_18 : decode cX5_one 18 = .ok (.bipush 7, 2) := by decide +kernel
theorem dX5_one_20 : decode cX5_one 20 = .ok (.iand, 1) := by decide +kernel
theorem dX5_one_21 : decode cX5_one 21 = .ok (.istore 4, 2) := by decide +kernel
theorem dX5_one_23 : decode cX5_one 23 = .ok (.iload_n 1, 1) := by decide +kernel
theorem dX5_one_24 : decode cX5_one 24 = .ok (.bipush 118, 2) := by decide +kernel
theorem dX5_one_26 : decode cX5_one 26 = .ok (.if_icmp .ne 11, 3) := by decide +kernel
theorem dX5_one_29 : decode cX5_one 29 = .ok (.aload_n 0, 1) := by decide +kernel
theorem dX5_one_30 : decode cX5_one 30 = .ok (.iconst 1, 1) := by decide +kernel
theorem dX5_one_31 : decode cX5_one 31 = .ok (.putfield 82, 3) := by decide +kernel
theorem dX5_one_34 : decode cX5_one 34 = .ok (.bipush 7, 2) := by decide +kernel
theorem dX5_one_36 : decode cX5_one 36 = .ok (.ireturn, 1) := by decide +kernel
theorem dX5_one_37 : decode cX5_one 37 = .ok (.iload_n 2, 1) := by decide +kernel
theorem dX5_one_38 : decode cX5_one 38 = .ok (.iconst 1, 1) := by decide +kernel
theorem dX5_one_39 : decode cX5_one 39 = .ok (.if_icmp .ne 34, 3) := by decide +kernel
theorem dX5_one_42 : decode cX5_one 42 = .ok (.aload_n 0, 1) := by decide +kernel
theorem dX5_one_43 : decode cX5_one 43 = .ok (.iload_n 3, 1) := by decide +kernel
theorem dX5_one_44 : decode cX5_one 44 = .ok (.aload_n 0, 1) := by decide +kernel
theorem dX5_one_45 : decode cX5_one 45 = .ok (.iload 4, 2) := by decide +kernel
theorem dX5_one_47 : decode cX5_one 47 = .ok (.invokevirtual 73, 3) := by decide +kernel
theorem dX5_one_50 : decode cX5_one 50 = .ok (.invokevirtual 76, 3) := by decide +kernel
theorem dX5_one_53 : decode cX5_one 53 = .ok (.iload_n 3, 1) := by decide +kernel
theorem dX5_one_54 : decode cX5_one 54 = .ok (.bipush 6, 2) := by decide +kernel
theorem dX5_one_56 : decode cX5_one 56 = .ok (.if_icmp .eq 10, 3) := by decide +kernel
theorem dX5_one_59 : decode cX5_one 59 = .ok (.iload 4, 2) := by decide +kernel
theorem dX5_one_61 : decode cX5_one 61 = .ok (.bipush 6, 2) := by decide +kernel
theorem dX5_one_63 : decode cX5_one 63 = .ok (.if_icmp .ne 8, 3) := by decide +kernel
theorem dX5_one_66 : decode cX5_one 66 = .ok (.bipush 7, 2) := by decide +kernel
theorem dX5_one_68 : decode cX5_one 68 = .ok (.goto 4, 3) := by decide +kernel
theorem dX5_one_71 : decode cX5_one 71 = .ok (.iconst 5, 1) := by decide +kernel
theorem dX5_one_72 : decode cX5_one 72 = .ok (.ireturn, 1) := by decide +kernel
theorem dX5_one_73 : decode cX5_one 73 = .ok (.iload_n 2, 1) := by decide +kernel
theorem dX5_one_74 : decode cX5_one 74 = .ok (.iconst 2, 1) := by decide +kernel
theorem dX5_one_75 : decode cX5_one 75 = .ok (.if_icmp .ne 28, 3) := by decide +kernel
theorem dX5_one_78 : decode cX5_one 78 = .ok (.aload_n 0, 1) := by decide +kernel
theorem dX5_one_79 : decode cX5_one 79 = .ok (.iload_n 3, 1) := by decide +kernel
theorem dX5_one_80 : decode cX5_one 80 = .ok (.aload_n 0, 1) := by decide +kernel
theorem dX5_one_81 : decode cX5_one 81 = .ok (.iload 4, 2) := by decide +kernel
theorem dX5_one_83 : decode cX5_one 83 = .ok (.invokevirtual 73, 3) := by decide +kernel
theorem dX5_one_86 : decode cX5_one 86 = .ok (.invokevirtual 86, 3) := by decide +kernel
theorem dX5_one_89 : decode cX5_one 89 = .ok (.iload 4, 2) := by decide +kernel
theorem dX5_one_91 : decode cX5_one 91 = .ok (.bipush 6, 2) := by decide +kernel
theorem dX5_one_93 : decode cX5_one 93 = .ok (.if_icmp .ne 8, 3) := by decide +kernel
theorem dX5_one_96 : decode cX5_one 96 = .ok (.bipush 7, 2) := by decide +kernel
theorem dX5_one_98 : decode cX5_one 98 = .ok (.goto 4, 3) := by decide +kernel
theorem dX5_one_101 : decode cX5_one 101 = .ok (.iconst 4, 1) := by decide +kernel
theorem dX5_one_102 : decode cX5_one 102 = .ok (.ireturn, 1) := by decide +kernel
theorem dX5_one_103 : decode cX5_one 103 = .ok (.iload_n 2, 1) := by decide +kernel
theorem dX5_one_104 : decode cX5_one 104 = .ok (.ifCond .ne 13, 3) := by decide +kernel
theorem dX5_one_107 : decode cX5_one 107 = .ok (.aload_n 0, 1) := by decide +kernel
theorem dX5_one_108 : decode cX5_one 108 = .ok (.iload_n 3, 1) := by decide +kernel
theorem dX5_one_109 : decode cX5_one 109 = .ok (.iload 4, 2) := by decide +kernel
theorem dX5_one_111 : decode cX5_one 111 = .ok (.invokevirtual 89, 3) := by decide +kernel
theorem dX5_one_114 : decode cX5_one 114 = .ok (.goto 10, 3) := by decide +kernel
theorem dX5_one_117 : decode cX5_one 117 = .ok (.aload_n 0, 1) := by decide +kernel
theorem dX5_one_118 : decode cX5_one 118 = .ok (.iload_n 3, 1) := by decide +kernel
theorem dX5_one_119 : decode cX5_one 119 = .ok (.iload 4, 2) := by decide +kernel
theorem dX5_one_121 : decode cX5_one 121 = .ok (.invokevirtual 93, 3) := by decide +kernel
theorem dX5_one_124 : decode cX5_one 124 = .ok (.ireturn, 1) := by decide +kernel
set_option maxRecDepth 20000 in
theorem ggX5_low_X5_hl : GoodIn wsX5_low wsX5_hl := goodIn_r _ [7, 8, 69, 70, 71, 72, 73, 74, 75, 76, 77, 78, 79, 80, 81, 82, 83, 84, 85, 86, 87, 88, 89, 90, 91, 92] (by decide +kernel) (by decide +kernel)
set_option maxRecDepth 20000 in
theorem gX5_low_X5_hl : GoodIn wsX5_low (wsV RX5 51 RX5 yX5_hl wsX5_hl) := goodIn_app (goodIn_of _ (by decide +kernel)) ggX5_low_X5_hl
set_option maxRecDepth 20000 in
theorem ggX5_low_X5_pair : GoodIn wsX5_low wsX5_pair := goodIn_r _ [12, 13, 8, 69, 70, 71, 72, 73, 74, 75, 76, 77, 78, 79, 80, 81, 82, 83, 84, 85, 86, 87, 88, 89, 90, 91, 92] (by decide +kernel) (by decide +kernel)
set_option maxRecDepth 20000 in
theorem gX5_low_X5_pair : GoodIn wsX5_low (wsV RX5 96 RX5 yX5_pair wsX5_pair) := goodIn_app (goodIn_of _ (by decide +kernel)) ggX5_low_X5_pair
set_option maxRecDepth 20000 in
theorem ggX5_low_X5_setPair : GoodIn wsX5_low wsX5_setPair := goodIn_r _ [17, 2, 13, 8, 69, 70, 71, 72, 73, 74, 75, 76, 77, 78, 79, 80, 81, 82, 83, 84, 85, 86, 87, 88, 89, 90, 91, 92] (by decide +kernel) (by decide +kernel)
set_option maxRecDepth 20000 in
theorem gX5_low_X5_setPair : GoodIn wsX5_low (wsV RX5 99 RX5 yX5_setPair wsX5_setPair) := goodIn_app (goodIn_of _ (by decide +kernel)) ggX5_low_X5_setPair
set_option maxRecDepth 20000 in
theorem ggX5_low_X5_nextTwo : GoodIn wsX5_low wsX5_nextTwo := goodIn_r _ [21, 22, 23, 24, 6, 25, 26, 2, 27, 28, 29, 30, 31, 32, 69, 70, 71, 72, 73, 74, 75, 76, 77, 78, 79, 80, 81, 82, 83, 84, 85, 86, 87, 88, 89, 90, 91, 92] (by decide +kernel) (by decide +kernel)
set_option maxRecDepth 20000 in
theorem gX5_low_X5_nextTwo : GoodIn wsX5_low (wsV RX5 102 RX5 yX5_nextTwo wsX5_nextTwo) := goodIn_app (goodIn_of _ (by decide +kernel)) ggX5_low_X5_nextTwo
set_option maxRecDepth 20000 in
theorem ggX5_low_X5_moved : GoodIn wsX5_low wsX5_moved := goodIn_r _ [36, 8, 2, 9, 10, 11, 6, 12, 13, 37, 38, 39, 40, 31, 27, 28, 29, 30, 32, 18, 19, 20, 21, 22, 23, 24, 25, 26, 69, 70, 71, 72, 73, 74, 75, 76, 77, 78, 79, 80, 81, 82, 83, 84, 85, 86, 87, 88, 89, 90, 91, 92] (by decide +kernel) (by decide +kernel)
set_option maxRecDepth 20000 in
theorem gX5_low_X5_moved : GoodIn wsX5_low (wsV RX5 105 RX5 yX5_moved wsX5_moved) := goodIn_app (goodIn_of _ (by decide +kernel)) ggX5_low_X5_moved
set_option maxRecDepth 20000 in
theorem ggX5_low_X5_count : GoodIn wsX5_low wsX5_count := goodIn_r _ [44, 45, 46, 47, 48, 6, 49, 8, 3, 4, 5, 7, 27, 28, 29, 30, 2, 31, 32, 50, 51, 52, 53, 37, 38, 39, 40, 54, 55, 56, 57, 58, 59, 60, 69, 70, 71, 72, 73, 74, 75, 76, 77, 78, 79, 80, 81, 82, 83, 84, 85, 86, 87, 88, 89, 90, 91, 92] (by decide +kernel) (by decide +kernel)
set_option maxRecDepth 20000 in
theorem gX5_low_X5_count : GoodIn wsX5_low (wsV RX5 108 RX5 yX5_count wsX5_count) := goodIn_app (goodIn_of _ (by decide +kernel)) ggX5_low_X5_count
set_option maxRecDepth 20000 in
theorem ggX5_low_X5_next : GoodIn wsX5_low wsX5_next := goodIn_r _ [25, 26, 2, 27, 28, 29, 6, 30, 31, 32, 69, 70, 71, 72, 73, 74, 75, 76, 77, 78, 79, 80, 81, 82, 83, 84, 85, 86, 87, 88, 89, 90, 91, 92] (by decide +kernel) (by decide +kernel)
set_option maxRecDepth 20000 in
theorem gX5_low_X5_next : GoodIn wsX5_low (wsV RX5 40 RX5 yX5_next wsX5_next) := goodIn_app (goodIn_of _ (by decide +kernel)) ggX5_low_X5_next
set_option maxRecDepth 20000 in
theorem ggX5_low_X5_set : GoodIn wsX5_low wsX5_set := goodIn_r _ [53, 8, 3, 4, 5, 6, 7, 37, 38, 39, 40, 31, 69, 70, 71, 72, 73, 74, 75, 76, 77, 78, 79, 80, 81, 82, 83, 84, 85, 86, 87, 88, 89, 90, 91, 92] (by decide +kernel) (by decide +kernel)
set_option maxRecDepth 20000 in
theorem gX5_low_X5_set : GoodIn wsX5_low (wsV RX5 76 RX5 yX5_set wsX5_set) := goodIn_app (goodIn_of _ (by decide +kernel)) ggX5_low_X5_set
set_option maxRecDepth 20000 in
theorem ggX5_low_X5_turn : GoodIn wsX5_low wsX5_turn := goodIn_r _ [64, 8, 1, 65, 66, 67, 6, 68, 45, 54, 55, 56, 57, 58, 59, 60, 69, 70, 71, 72, 73, 74, 75, 76, 77, 78, 79, 80, 81, 82, 83, 84, 85, 86, 87, 88, 89, 90, 91, 92] (by decide +kernel) (by decide +kernel)
set_option maxRecDepth 20000 in
theorem gX5_low_X5_turn : GoodIn wsX5_low (wsV RX5 111 RX5 yX5_turn wsX5_turn) := goodIn_app (goodIn_of _ (by decide +kernel)) ggX5_low_X5_turn
theorem dX5_low_0 : decode cX5_low 0 = .ok (.iload_n 1, 1) := by decide +kernel
theorem dX5_low_1 : decode cX5_low 1 = .ok (.iconst 1, 1) := by decide +kernel
theorem dX5_low_2 : decode cX5_low 2 = .ok (.ishr, 1) := by decide +kernel
theorem dX5_low_3 : decode cX5_low 3 = .ok (.istore_n 3, 1) := by decide +kernel
theorem dX5_low_4 : decode cX5_low 4 = .ok (.iload_n 1, 1) := by decide +kernel
theorem dX5_low_5 : decode cX5_low 5 = .ok (.iconst 1, 1) := by decide +kernel
theorem dX5_low_6 : decode cX5_low 6 = .ok (.iand, 1) := by decide +kernel
theorem dX5_low_7 : decode cX5_low 7 = .ok (.iconst 1, 1) := by decide +kernel
theorem dX5_low_8 : decode cX5_low 8 = .ok (.if_icmp .ne 7, 3) := by decide +kernel
theorem dX5_low_11 : decode cX5_low 11 = .ok (.iconst 1, 1) := by decide +kernel
theorem dX5_low_12 : decode cX5_low 12 = .ok (.goto 4, 3) := by decide +kernel
theorem dX5_low_15 : decode cX5_low 15 = .ok (.iconst 0, 1) := by decide +kernel
theorem dX5_low_16 : decode cX5_low 16 = .ok (.istore 4, 2) := by decide +kernel
theorem dX5_low_18 : decode cX5_low 18 = .ok (.iload_n 2, 1) := by decide +kernel
theorem dX5_low_19 : decode cX5_low 19 = .ok (.ifCond .ne 5, 3) := by decide +kernel
theorem dX5_low_22 : decode cX5_low 22 = .ok (.iconst 4, 1) := by decide +kernel
theorem dX5_low_23 : decode cX5_low 23 = .ok (.ireturn, 1) := by decide +kernel
theorem dX5_low_24 : decode cX5_low 24 = .ok (.iload_n 2, 1) := by decide +kernel
theorem dX5_low_25 : decode cX5_low 25 = .ok (.iconst 1, 1) := by decide +kernel
theorem dX5_low_26 : decode cX5_low 26 = .ok (.if_icmp .ne 54, 3) := by decide +kernel
theorem dX5_low_29 : decode cX5_low 29 = .ok (.iload 4, 2) := by decide +kernel
theorem dX5_low_31 : decode cX5_low 31 = .ok (.ifCond .eq 37, 3) := by decide +kernel
theorem dX5_low_34 : decode cX5_low 34 = .ok (.aload_n 0, 1) := by decide +kernel
theorem dX5_low_35 : decode cX5_low 35 = .ok (.invokevirtual 51, 3) := by decide +kernel
theorem dX5_low_38 : decode cX5_low 38 = .ok (.aload_n 0, 1) := by decide +kernel
theorem dX5_low_39 : decode cX5_low 39 = .ok (.iload_n 3, 1) := by decide +kernel
theorem dX5_low_40 : decode cX5_low 40 = .ok (.invokevirtual 96, 3) := by decide +kernel
theorem dX5_low_43 : decode cX5_low 43 = .ok (.iadd, 1) := by decide +kernel
theorem dX5_low_44 : decode cX5_low 44 = .ok (.istore 5, 2) := by decide +kernel
theorem dX5_low_46 : decode cX5_low 46 = .ok (.aload_n 0, 1) := by decide +kernel
theorem dX5_low_47 : decode cX5_low 47 = .ok (.iload 5, 2) := by decide +kernel
theorem dX5_low_49 : decode cX5_low 49 = .ok (.bipush 16, 2) := by decide +kernel
theorem dX5_low_51 : decode cX5_low 51 = .ok (.ishr, 1) := by decide +kernel
theorem dX5_low_52 : decode cX5_low 52 = .ok (.putfield 66, 3) := by decide +kernel
theorem dX5_low_55 : decode cX5_low 55 = .ok (.aload_n 0, 1) := by decide +kernel
theorem dX5_low_56 : decode cX5_low 56 = .ok (.iconst 2, 1) := by decide +kernel
theorem dX5_low_57 : decode cX5_low 57 = .ok (.iload 5, 2) := by decide +kernel
theorem dX5_low_59 : decode cX5_low 59 = .ok (.ldc 32, 2) := by decide +kernel
theorem dX5_low_61 : decode cX5_low 61 = .ok (.iand, 1) := by decide +kernel
theorem dX5_low_62 : decode cX5_low 62 = .ok (.invokevirtual 99, 3) := by decide +kernel
theorem dX5_low_65 : decode cX5_low 65 = .ok (.goto 12, 3) := by decide +kernel
theorem dX5_low_68 : decode cX5_low 68 = .ok (.aload_n 0, 1) := by decide +kernel
theorem dX5_low_69 : decode cX5_low 69 = .ok (.iload_n 3, 1) := by decide +kernel
theorem dX5_low_70 : decode cX5_low 70 = .ok (.aload_n 0, 1) := by decide +kernel
theorem dX5_low_71 : decode cX5_low 71 = .ok (.invokevirtual 102, 3) := by decide +kernel
theorem dX5_low_74 : decode cX5_low 74 = .ok (.invokevirtual 99, 3) := by decide +kernel
theorem dX5_low_77 : decode cX5_low 77 = .ok (.bipush 10, 2) := by decide +kernel
theorem dX5_low_79 : decode cX5_low 79 = .ok (.ireturn, 1) := by decide +kernel
theorem dX5_low_80 : decode cX5_low 80 = .ok (.iload_n 2, 1) := by decide +kernel
theorem dX5_low_81 : decode cX5_low 81 = .ok (.iconst 2, 1) := by decide +kernel
theorem dX5_low_82 : decode cX5_low 82 = .ok (.if_icmp .ne 9, 3) := by decide +kernel
theorem dX5_low_85 : decode cX5_low 85 = .ok (.aload_n 0, 1) := by decide +kernel
theorem dX5_low_86 : decode cX5_low 86 = .ok (.iload_n 1, 1) := by decide +kernel
theorem dX5_low_87 : decode cX5_low 87 = .ok (.invokevirtual 105, 3) := by decide +kernel
theorem dX5_low_90 : decode cX5_low 90 = .ok (.ireturn, 1) := by decide +kernel
theorem dX5_low_91 : decode cX5_low 91 = .ok (.iload_n 2, 1) := by decide +kernel
theorem dX5_low_92 : decode cX5_low 92 = .ok (.iconst 3, 1) := by decide +kernel
theorem dX5_low_93 : decode cX5_low 93 = .ok (.if_icmp .ne 29, 3) := by decide +kernel
theorem dX5_low_96 : decode cX5_low 96 = .ok (.aload_n 0, 1) := by decide +kernel
theorem dX5_low_97 : decode cX5_low 97 = .ok (.iload_n 3, 1) := by decide +kernel
theorem dX5_low_98 : decode cX5_low 98 = .ok (.aload_n 0, 1) := by decide +kernel
theorem dX5_low_99 : decode cX5_low 99 = .ok (.iload_n 3, 1) := by decide +kernel
theorem dX5_low_100 : decode cX5_low 100 = .ok (.invokevirtual 96, 3) := by decide +kernel
theorem dX5_low_103 : decode cX5_low 103 = .ok (.iload 4, 2) := by decide +kernel
theorem dX5_low_105 : decode cX5_low 105 = .ok (.ifCond .eq 7, 3) := by decide +kernel
theorem dX5_low_108 : decode cX5_low 108 = .ok (.iconst (-1), 1) := by decide +kernel
theorem dX5_low_109 : decode cX5_low 109 = .ok (.goto 4, 3) := by decide +kernel
theorem dX5_low_112 : decode cX5_low 112 = .ok (.iconst 1, 1) := by decide +kernel
theorem dX5_low_113 : decode cX5_low 113 = .ok (.iadd, 1) := by decide +kernel
theorem dX5_low_114 : decode cX5_low 114 = .ok (.ldc 32, 2) := by decide +kernel
theorem dX5_low_116 : decode cX5_low 116 = .ok (.iand, 1) := by decide +kernel
theorem dX5_low_117 : decode cX5_low 117 = .ok (.invokevirtual 99, 3) := by decide +kernel
theorem dX5_low_120 : decode cX5_low 120 = .ok (.iconst 5, 1) := by decide +kernel
theorem dX5_low_121 : decode cX5_low 121 = .ok (.ireturn, 1) := by decide +kernel
theorem dX5_low_122 : decode cX5_low 122 = .ok (.iload_n 2, 1) := by decide +kernel
theorem dX5_low_123 : decode cX5_low 123 = .ok (.bipush 6, 2) := by decide +kernel
theorem dX5_low_125 : decode cX5_low 125 = .ok (.if_icmp .ge 31, 3) := by decide +kernel
theorem dX5_low_128 : decode cX5_low 128 = .ok (.aload_n 0, 1) := by decide +kernel
theorem dX5_low_129 : decode cX5_low 129 = .ok (.iload_n 1, 1) := by decide +kernel
theorem dX5_low_130 : decode cX5_low 130 = .ok (.iload_n 2, 1) := by decide +kernel
theorem dX5_low_131 : decode cX5_low 131 = .ok (.iconst 4, 1) := by decide +kernel
theorem dX5_low_132 : decode cX5_low 132 = .ok (.if_icmp .ne 7, 3) := by decide +kernel
theorem dX5_low_135 : decode cX5_low 135 = .ok (.iconst 1, 1) := by decide +kernel
theorem dX5_low_136 : decode cX5_low 136 = .ok (.goto 4, 3) := by decide +kernel
theorem dX5_low_139 : decode cX5_low 139 = .ok (.iconst (-1), 1) := by decide +kernel
theorem dX5_low_140 : decode cX5_low 140 = .ok (.invokevirtual 108, 3) := by decide +kernel
theorem dX5_low_143 : decode cX5_low 143 = .ok (.iload_n 1, 1) := by decide +kernel
theorem dX5_low_144 : decode cX5_low 144 = .ok (.bipush 6, 2) := by decide +kernel
theorem dX5_low_146 : decode cX5_low 146 = .ok (.if_icmp .ne 8, 3) := by decide +kernel
theorem dX5_low_149 : decode cX5_low 149 = .ok (.bipush 10, 2) := by decide +kernel
theorem dX5_low_151 : decode cX5_low 151 = .ok (.goto 4, 3) := by decide +kernel
theorem dX5_low_154 : decode cX5_low 154 = .ok (.iconst 5, 1) := by decide +kernel
theorem dX5_low_155 : decode cX5_low 155 = .ok (.ireturn, 1) := by decide +kernel
theorem dX5_low_156 : decode cX5_low 156 = .ok (.iload_n 2, 1) := by decide +kernel
theorem dX5_low_157 : decode cX5_low 157 = .ok (.bipush 6, 2) := by decide +kernel
theorem dX5_low_159 : decode cX5_low 159 = .ok (.if_icmp .ne 26, 3) := by decide +kernel
theorem dX5_low_162 : decode cX5_low 162 = .ok (.aload_n 0, 1) := by decide +kernel
theorem dX5_low_163 : decode cX5_low 163 = .ok (.iload_n 1, 1) := by decide +kernel
theorem dX5_low_164 : decode cX5_low 164 = .ok (.aload_n 0, 1) := by decide +kernel
theorem dX5_low_165 : decode cX5_low 165 = .ok (.invokevirtual 40, 3) := by decide +kernel
theorem dX5_low_168 : decode cX5_low 168 = .ok (.invokevirtual 76, 3) := by decide +kernel
theorem dX5_low_171 : decode cX5_low 171 = .ok (.iload_n 1, 1) := by decide +kernel
theorem dX5_low_172 : decode cX5_low 172 = .ok (.bipush 6, 2) := by decide +kernel
theorem dX5_low_174 : decode cX5_low 174 = .ok (.if_icmp .ne 8, 3) := by decide +kernel
theorem dX5_low_177 : decode cX5_low 177 = .ok (.bipush 10, 2) := by decide +kernel
theorem dX5_low_179 : decode cX5_low 179 = .ok (.goto 5, 3) := by decide +kernel
theorem dX5_low_182 : decode cX5_low 182 = .ok (.bipush 7, 2) := by decide +kernel
theorem dX5_low_184 : decode cX5_low 184 = .ok (.ireturn, 1) := by decide +kernel
theorem dX5_low_185 : decode cX5_low 185 = .ok (.aload_n 0, 1) := by decide +kernel
theorem dX5_low_186 : decode cX5_low 186 = .ok (.iload_n 1, 1) := by decide +kernel
theorem dX5_low_187 : decode cX5_low 187 = .ok (.invokevirtual 111, 3) := by decide +kernel
theorem dX5_low_190 : decode cX5_low 190 = .ok (.iconst 4, 1) := by decide +kernel
theorem dX5_low_191 : decode cX5_low 191 = .ok (.ireturn, 1) := by decide +kernel
set_option maxRecDepth 20000 in
theorem ggX5_moved_X5_pair : GoodIn wsX5_moved wsX5_pair := goodIn_r _ [7, 8, 1, 28, 29, 30, 31, 32, 33, 34, 35, 36, 37, 38, 39, 40, 41, 42, 43, 44, 45, 46, 47, 48, 49, 50, 51] (by decide +kernel) (by decide +kernel)
set_option maxRecDepth 20000 in
theorem gX5_moved_X5_pair : GoodIn wsX5_moved (wsV RX5 96 RX5 yX5_pair wsX5_pair) := goodIn_app (goodIn_of _ (by decide +kernel)) ggX5_moved_X5_pair
set_option maxRecDepth 20000 in
theorem ggX5_moved_X5_write : GoodIn wsX5_moved wsX5_write := goodIn_r _ [12, 13, 28, 29, 30, 31, 32, 33, 34, 35, 36, 37, 38, 39, 40, 41, 42, 43, 44, 45, 46, 47, 48, 49, 50, 51] (by decide +kernel) (by decide +kernel)
set_option maxRecDepth 20000 in
theorem gX5_moved_X5_write : GoodIn wsX5_moved (wsV RX5 47 RX5 yX5_write wsX5_write) := goodIn_app (goodIn_of _ (by decide +kernel)) ggX5_moved_X5_write
set_option maxRecDepth 20000 in
theorem ggX5_moved_X5_read : GoodIn wsX5_moved wsX5_read := goodIn_r _ [17, 2, 13, 18, 28, 29, 30, 31, 32, 33, 34, 35, 36, 37, 38, 39, 40, 41, 42, 43, 44, 45, 46, 47, 48, 49, 50, 51] (by decide +kernel) (by decide +kernel)
set_option maxRecDepth 20000 in
theorem gX5_moved_X5_read : GoodIn wsX5_moved (wsV RX5 36 RX5 yX5_read wsX5_read) := goodIn_app (goodIn_of _ (by decide +kernel)) ggX5_moved_X5_read
set_option maxRecDepth 20000 in
theorem ggX5_moved_X5_nextTwo : GoodIn wsX5_moved wsX5_nextTwo := goodIn_r _ [22, 23, 24, 25, 6, 26, 27, 2, 14, 15, 16, 17, 13, 18, 28, 29, 30, 31, 32, 33, 34, 35, 36, 37, 38, 39, 40, 41, 42, 43, 44, 45, 46, 47, 48, 49, 50, 51] (by decide +kernel) (by decide +kernel)
set_option maxRecDepth 20000 in
theorem gX5_moved_X5_nextTwo : GoodIn wsX5_moved (wsV RX5 102 RX5 yX5_nextTwo wsX5_nextTwo) := goodIn_app (goodIn_of _ (by decide +kernel)) ggX5_moved_X5_nextTwo
theorem dX5_moved_0 : decode cX5_moved 0 = .ok (.iload_n 1, 1) := by decide +kernel
theorem dX5_moved_1 : decode cX5_moved 1 = .ok (.iconst 4, 1) := by decide +kernel
theorem dX5_moved_2 : decode cX5_moved 2 = .ok (.if_icmp .ge 47, 3) := by decide +kernel
theorem dX5_moved_5 : decode cX5_moved 5 = .ok (.aload_n 0, 1) := by decide +kernel
theorem dX5_moved_6 : decode cX5_moved 6 = .ok (.iload_n 1, 1) := by decide +kernel
theorem dX5_moved_7 : decode cX5_moved 7 = .ok (.iconst 1, 1) := by decide +kernel
theorem dX5_moved_8 : decode cX5_moved 8 = .ok (.ishr, 1) := by decide +kernel
theorem dX5_moved_9 : decode cX5_moved 9 = .ok (.invokevirtual 96, 3) := by decide +kernel
theorem dX5_moved_12 : decode cX5_moved 12 = .ok (.istore_n 2, 1) := by decide +kernel
theorem dX5_moved_13 : decode cX5_moved 13 = .ok (.iload_n 1, 1) := by decide +kernel
theorem dX5_moved_14 : decode cX5_moved 14 = .ok (.iconst 1, 1) := by decide +kernel
theorem dX5_moved_15 : decode cX5_moved 15 = .ok (.iand, 1) := by decide +kernel
theorem dX5_moved_16 : decode cX5_moved 16 = .ok (.ifCond .ne 18, 3) := by decide +kernel
theorem dX5_moved_19 : decode cX5_moved 19 = .ok (.aload_n 0, 1) := by decide +kernel
theorem dX5_moved_20 : decode cX5_moved 20 = .ok (.iload_n 2, 1) := by decide +kernel
theorem dX5_moved_21 : decode cX5_moved 21 = .ok (.aload_n 0, 1) := by decide +kernel
theorem dX5_moved_22 : decode cX5_moved 22 = .ok (.getfield 16, 3) := by decide +kernel
theorem dX5_moved_25 : decode cX5_moved 25 = .ok (.bipush 7, 2) := by decide +kernel
theorem dX5_moved_27 : decode cX5_moved 27 = .ok (.iaload, 1) := by decide +kernel
theorem dX5_moved_28 : decode cX5_moved 28 = .ok (.invokevirtual 47, 3) := by decide +kernel
theorem dX5_moved_31 : decode cX5_moved 31 = .ok (.goto 15, 3) := by decide +kernel
theorem dX5_moved_34 : decode cX5_moved 34 = .ok (.aload_n 0, 1) := by decide +kernel
theorem dX5_moved_35 : decode cX5_moved 35 = .ok (.getfield 16, 3) := by decide +kernel
theorem dX5_moved_38 : decode cX5_moved 38 = .ok (.bipush 7, 2) := by decide +kernel
theorem dX5_moved_40 : decode cX5_moved 40 = .ok (.aload_n 0, 1) := by decide +kernel
theorem dX5_moved_41 : decode cX5_moved 41 = .ok (.iload_n 2, 1) := by decide +kernel
theorem dX5_moved_42 : decode cX5_moved 42 = .ok (.invokevirtual 36, 3) := by decide +kernel
theorem dX5_moved_45 : decode cX5_moved 45 = .ok (.iastore, 1) := by decide +kernel
theorem dX5_moved_46 : decode cX5_moved 46 = .ok (.bipush 7, 2) := by decide +kernel
theorem dX5_moved_48 : decode cX5_moved 48 = .ok (.ireturn, 1) := by decide +kernel
theorem dX5_moved_49 : decode cX5_moved 49 = .ok (.aload_n 0, 1) := by decide +kernel
theorem dX5_moved_50 : decode cX5_moved 50 = .ok (.invokevirtual 102, 3) := by decide +kernel
theorem dX5_moved_53 : decode cX5_moved 53 = .ok (.istore_n 2, 1) := by decide +kernel
theorem dX5_moved_54 : decode cX5_moved 54 = .ok (.iload_n 1, 1) := by decide +kernel
theorem dX5_moved_55 : decode cX5_moved 55 = .ok (.iconst 4, 1) := by decide +kernel
theorem dX5_moved_56 : decode cX5_moved 56 = .ok (.if_icmp .ne 33, 3) := by decide +kernel
theorem dX5_moved_59 : decode cX5_moved 59 = .ok (.aload_n 0, 1) := by decide +kernel
theorem dX5_moved_60 : decode cX5_moved 60 = .ok (.iload_n 2, 1) := by decide +kernel
theorem dX5_moved_61 : decode cX5_moved 61 = .ok (.aload_n 0, 1) := by decide +kernel
theorem dX5_moved_62 : decode cX5_moved 62 = .ok (.getfield 16, 3) := by decide +kernel
theorem dX5_moved_65 : decode cX5_moved 65 = .ok (.iconst 5, 1) := by decide +kernel
theorem dX5_moved_66 : decode cX5_moved 66 = .ok (.iaload, 1) := by decide +kernel
theorem dX5_moved_67 : decode cX5_moved 67 = .ok (.invokevirtual 47, 3) := by decide +kernel
theorem dX5_moved_70 : decode cX5_moved 70 = .ok (.aload_n 0, 1) := by decide +kernel
theorem dX5_moved_71 : decode cX5_moved 71 = .ok (.iload_n 2, 1) := by decide +kernel
theorem dX5_moved_72 : decode cX5_moved 72 = .ok (.iconst 1, 1) := by decide +kernel
theorem dX5_moved_73 : decode cX5_moved 73 = .ok (.iadd, 1) := by decide +kernel
theorem dX5_moved_74 : decode cX5_moved 74 = .ok (.ldc 32, 2) := by decide +kernel
theorem dX5_moved_76 : decode cX5_moved 76 = .ok (.iand, 1) := by decide +kernel
theorem dX5_moved_77 : decode cX5_moved 77 = .ok (.aload_n 0, 1) := by decide +kernel
theorem dX5_moved_78 : decode cX5_moved 78 = .ok (.getfield 16, 3) := by decide +kernel
theorem dX5_moved_81 : decode cX5_moved 81 = .ok (.iconst 4, 1) := by decide +kernel
theorem dX5_moved_82 : decode cX5_moved 82 = .ok (.iaload, 1) := by decide +kernel
theorem dX5_moved_83 : decode cX5_moved 83 = .ok (.invokevirtual 47, 3) := by decide +kernel
theorem dX5_moved_86 : decode cX5_moved 86 = .ok (.goto 71, 3) := by decide +kernel
theorem dX5_moved_89 : decode cX5_moved 89 = .ok (.iload_n 1, 1) := by decide +kernel
theorem dX5_moved_90 : decode cX5_moved 90 = .ok (.iconst 5, 1) := by decide +kernel
theorem dX5_moved_91 : decode cX5_moved 91 = .ok (.if_icmp .ne 33, 3) := by decide +kernel
theorem dX5_moved_94 : decode cX5_moved 94 = .ok (.aload_n 0, 1) := by decide +kernel
theorem dX5_moved_95 : decode cX5_moved 95 = .ok (.getfield 16, 3) := by decide +kernel
theorem dX5_moved_98 : decode cX5_moved 98 = .ok (.iconst 5, 1) := by decide +kernel
theorem dX5_moved_99 : decode cX5_moved 99 = .ok (.aload_n 0, 1) := by decide +kernel
theorem dX5_moved_100 : decode cX5_moved 100 = .ok (.iload_n 2, 1) := by decide +kernel
theorem dX5_moved_101 : decode cX5_moved 101 = .ok (.invokevirtual 36, 3) := by decide +kernel
theorem dX5_moved_104 : decode cX5_moved 104 = .ok (.iastore, 1) := by decide +kernel
theorem dX5_moved_105 : decode cX5_moved 105 = .ok (.aload_n 0, 1) := by decide +kernel
theorem dX5_moved_106 : decode cX5_moved 106 = .ok (.getfield 16, 3) := by decide +kernel
theorem dX5_moved_109 : decode cX5_moved 109 = .ok (.iconst 4, 1) := by decide +kernel
theorem dX5_moved_110 : decode cX5_moved 110 = .ok (.aload_n 0, 1) := by decide +kernel
theorem dX5_moved_111 : decode cX5_moved 111 = .ok (.iload_n 2, 1) := by decide +kernel
theorem dX5_moved_112 : decode cX5_moved 112 = .ok (.iconst 1, 1) := by decide +kernel
theorem dX5_moved_113 : decode cX5_moved 113 = .ok (.iadd, 1) := by decide +kernel
theorem dX5_moved_114 : decode cX5_moved 114 = .ok (.ldc 32, 2) := by decide +kernel
theorem dX5_moved_116 : decode cX5_moved 116 = .ok (.iand, 1) := by decide +kernel
theorem dX5_moved_117 : decode cX5_moved 117 = .ok (.invokevirtual 36, 3) := by decide +kernel
theorem dX5_moved_120 : decode cX5_moved 120 = .ok (.iastore, 1) := by decide +kernel
theorem dX5_moved_121 : decode cX5_moved 121 = .ok (.goto 36, 3) := by decide +kernel
theorem dX5_moved_124 : decode cX5_moved 124 = .ok (.iload_n 1, 1) := by decide +kernel
theorem dX5_moved_125 : decode cX5_moved 125 = .ok (.bipush 6, 2) := by decide +kernel
theorem dX5_moved_127 : decode cX5_moved 127 = .ok (.if_icmp .ne 18, 3) := by decide +kernel
theorem dX5_moved_130 : decode cX5_moved 130 = .ok (.aload_n 0, 1) := by decide +kernel
theorem dX5_moved_131 : decode cX5_moved 131 = .ok (.iload_n 2, 1) := by decide +kernel
theorem dX5_moved_132 : decode cX5_moved 132 = .ok (.aload_n 0, 1) := by decide +kernel
theorem dX5_moved_133 : decode cX5_moved 133 = .ok (.getfield 16, 3) := by decide +kernel
theorem dX5_moved_136 : decode cX5_moved 136 = .ok (.bipush 7, 2) := by decide +kernel
theorem dX5_moved_138 : decode cX5_moved 138 = .ok (.iaload, 1) := by decide +kernel
theorem dX5_moved_139 : decode cX5_moved 139 = .ok (.invokevirtual 47, 3) := by decide +kernel
theorem dX5_moved_142 : decode cX5_moved 142 = .ok (.goto 15, 3) := by decide +kernel
theorem dX5_moved_145 : decode cX5_moved 145 = .ok (.aload_n 0, 1) := by decide +kernel
theorem dX5_moved_146 : decode cX5_moved 146 = .ok (.getfield 16, 3) := by decide +kernel
theorem dX5_moved_149 : decode cX5_moved 149 = .ok (.bipush 7, 2) := by decide +kernel
theorem dX5_moved_151 : decode cX5_moved 151 = .ok (.aload_n 0, 1) := by decide +kernel
theorem dX5_moved_152 : decode cX5_moved 152 = .ok (.iload_n 2, 1) := by decide +kernel
theorem dX5_moved_153 : decode cX5_moved 153 = .ok (.invokevirtual 36, 3) := by decide +kernel
theorem dX5_moved_156 : decode cX5_moved 156 = .ok (.iastore, 1) := by decide +kernel
theorem dX5_moved_157 : decode cX5_moved 157 = .ok (.iload_n 1, 1) := by decide +kernel
theorem dX5_moved_158 : decode cX5_moved 158 = .ok (.bipush 6, 2) := by decide +kernel
theorem dX5_moved_160 : decode cX5_moved 160 = .ok (.if_icmp .ge 8, 3) := by decide +kernel
theorem dX5_moved_163 : decode cX5_moved 163 = .ok (.bipush 16, 2) := by decide +kernel
theorem dX5_moved_165 : decode cX5_moved 165 = .ok (.goto 5, 3) := by decide +kernel
theorem dX5_moved_168 : decode cX5_moved 168 = .ok (.bipush 13, 2) := by decide +kernel
theorem dX5_moved_170 : decode cX5_moved 170 = .ok (.ireturn, 1) := by decide +kernel
set_option maxRecDepth 20000 in
theorem ggX5_high_X5_holds : GoodIn wsX5_high wsX5_holds := goodIn_r _ [7, 8, 9, 10, 11, 102, 103, 104, 105, 106, 107, 108, 109, 110, 111, 112, 113, 114, 115, 116, 117, 118, 119, 120, 121, 122, 123, 124, 125] (by decide +kernel) (by decide +kernel)
set_option maxRecDepth 20000 in
theorem gX5_high_X5_holds : GoodIn wsX5_high (wsV RX5 114 RX5 yX5_holds wsX5_holds) := goodIn_app (goodIn_of _ (by decide +kernel)) ggX5_high_X5_holds
set_option maxRecDepth 20000 in
theorem ggX5_high_X5_pop : GoodIn wsX5_high wsX5_pop := goodIn_r _ [15, 16, 17, 18, 19, 20, 6, 21, 22, 23, 102, 103, 104, 105, 106, 107, 108, 109, 110, 111, 112, 113, 114, 115, 116, 117, 118, 119, 120, 121, 122, 123, 124, 125] (by decide +kernel) (by decide +kernel)
set_option maxRecDepth 20000 in
theorem gX5_high_X5_pop : GoodIn wsX5_high (wsV RX5 118 RX5 yX5_pop wsX5_pop) := goodIn_app (goodIn_of _ (by decide +kernel)) ggX5_high_X5_pop
set_option maxRecDepth 20000 in
theorem ggX5_high_X5_popped : GoodIn wsX5_high wsX5_popped := goodIn_r _ [27, 2, 12, 13, 14, 6, 15, 16, 17, 18, 19, 20, 21, 22, 23, 28, 29, 30, 31, 11, 8, 32, 10, 9, 33, 34, 35, 36, 102, 103, 104, 105, 106, 107, 108, 109, 110, 111, 112, 113, 114, 115, 116, 117, 118, 119, 120, 121, 122, 123, 124, 125] (by decide +kernel) (by decide +kernel)
set_option maxRecDepth 20000 in
theorem gX5_high_X5_popped : GoodIn wsX5_high (wsV RX5 121 RX5 yX5_popped wsX5_popped) := goodIn_app (goodIn_of _ (by decide +kernel)) ggX5_high_X5_popped
set_option maxRecDepth 20000 in
theorem ggX5_high_X5_odd : GoodIn wsX5_high wsX5_odd := goodIn_r _ [40, 1, 16, 12, 13, 14, 6, 15, 17, 18, 19, 20, 21, 22, 23, 41, 42, 43, 44, 2, 102, 103, 104, 105, 106, 107, 108, 109, 110, 111, 112, 113, 114, 115, 116, 117, 118, 119, 120, 121, 122, 123, 124, 125] (by decide +kernel) (by decide +kernel)
set_option maxRecDepth 20000 in
theorem gX5_high_X5_odd : GoodIn wsX5_high (wsV RX5 124 RX5 yX5_odd wsX5_odd) := goodIn_app (goodIn_of _ (by decide +kernel)) ggX5_high_X5_odd
set_option maxRecDepth 20000 in
theorem ggX5_high_X5_nextTwo : GoodIn wsX5_high wsX5_nextTwo := goodIn_r _ [48, 49, 50, 51, 6, 52, 1, 17, 18, 19, 20, 21, 22, 23, 102, 103, 104, 105, 106, 107, 108, 109, 110, 111, 112, 113, 114, 115, 116, 117, 118, 119, 120, 121, 122, 123, 124, 125] (by decide +kernel) (by decide +kernel)
set_option maxRecDepth 20000 in
theorem gX5_high_X5_nextTwo : GoodIn wsX5_high (wsV RX5 102 RX5 yX5_nextTwo wsX5_nextTwo) := goodIn_app (goodIn_of _ (by decide +kernel)) ggX5_high_X5_nextTwo
set_option maxRecDepth 20000 in
theorem ggX5_high_X5_single : GoodIn wsX5_high wsX5_single := goodIn_r _ [56, 1, 2, 16, 17, 57, 58, 59, 45, 46, 47, 6, 48, 49, 50, 51, 52, 18, 19, 20, 21, 22, 23, 60, 61, 62, 63, 64, 65, 66, 67, 68, 69, 70, 71, 72, 73, 74, 75, 76, 77, 33, 34, 35, 36, 41, 42, 43, 44, 78, 79, 80, 81, 102, 103, 104, 105, 106, 107, 108, 109, 110, 111, 112, 113, 114, 115, 116, 117, 118, 119, 120, 121, 122, 123, 124, 125] (by decide +kernel) (by decide +kernel)
set_option maxRecDepth 20000 in
theorem gX5_high_X5_single : GoodIn wsX5_high (wsV RX5 127 RX5 yX5_single wsX5_single) := goodIn_app (goodIn_of _ (by decide +kernel)) ggX5_high_X5_single
set_option maxRecDepth 20000 in
theorem ggX5_high_X5_call : GoodIn wsX5_high wsX5_call := goodIn_r _ [85, 1, 86, 87, 88, 6, 89, 16, 17, 74, 75, 76, 77, 22, 102, 103, 104, 105, 106, 107, 108, 109, 110, 111, 112, 113, 114, 115, 116, 117, 118, 119, 120, 121, 122, 123, 124, 125] (by decide +kernel) (by decide +kernel)
set_option maxRecDepth 20000 in
theorem gX5_high_X5_call : GoodIn wsX5_high (wsV RX5 130 RX5 yX5_call wsX5_call) := goodIn_app (goodIn_of _ (by decide +kernel)) ggX5_high_X5_call
set_option maxRecDepth 20000 in
theorem ggX5_high_X5_flags : GoodIn wsX5_high wsX5_flags := goodIn_r _ [93, 11, 8, 32, 10, 9, 102, 103, 104, 105, 106, 107, 108, 109, 110, 111, 112, 113, 114, 115, 116, 117, 118, 119, 120, 121, 122, 123, 124, 125] (by decide +kernel) (by decide +kernel)
set_option maxRecDepth 20000 in
theorem gX5_high_X5_flags : GoodIn wsX5_high (wsV RX5 133 RX5 yX5_flags wsX5_flags) := goodIn_app (goodIn_of _ (by decide +kernel)) ggX5_high_X5_flags
set_option maxRecDepth 20000 in
theorem ggX5_high_X5_pair : GoodIn wsX5_high wsX5_pair := goodIn_r _ [81, 16, 2, 102, 103, 104, 105, 106, 107, 108, 109, 110, 111, 112, 113, 114, 115, 116, 117, 118, 119, 120, 121, 122, 123, 124, 125] (by decide +kernel) (by decide +kernel)
set_option maxRecDepth 20000 in
theorem gX5_high_X5_pair : GoodIn wsX5_high (wsV RX5 96 RX5 yX5_pair wsX5_pair) := goodIn_app (goodIn_of _ (by decide +kernel)) ggX5_high_X5_pair
set_option maxRecDepth 20000 in
theorem ggX5_high_X5_push : GoodIn wsX5_high wsX5_push := goodIn_r _ [89, 16, 17, 74, 75, 76, 6, 77, 22, 102, 103, 104, 105, 106, 107, 108, 109, 110, 111, 112, 113, 114, 115, 116, 117, 118, 119, 120, 121, 122, 123, 124, 125] (by decide +kernel) (by decide +kernel)
set_option maxRecDepth 20000 in
theorem gX5_high_X5_push : GoodIn wsX5_high (wsV RX5 136 RX5 yX5_push wsX5_push) := goodIn_app (goodIn_of _ (by decide +kernel)) ggX5_high_X5_push
set_option maxRecDepth 20000 in
theorem ggX5_high_X5_next : GoodIn wsX5_high wsX5_next := goodIn_r _ [52, 1, 17, 18, 19, 20, 6, 21, 22, 23, 102, 103, 104, 105, 106, 107, 108, 109, 110, 111, 112, 113, 114, 115, 116, 117, 118, 119, 120, 121, 122, 123, 124, 125] (by decide +kernel) (by decide +kernel)
set_option maxRecDepth 20000 in
theorem gX5_high_X5_next : GoodIn wsX5_high (wsV RX5 40 RX5 yX5_next wsX5_next) := goodIn_app (goodIn_of _ (by decide +kernel)) ggX5_high_X5_next
set_option maxRecDepth 20000 in
theorem ggX5_high_X5_alu : GoodIn wsX5_high wsX5_alu := goodIn_r _ [97, 2, 9, 32, 98, 99, 100, 6, 101, 11, 8, 10, 102, 103, 104, 105, 106, 107, 108, 109, 110, 111, 112, 113, 114, 115, 116, 117, 118, 119, 120, 121, 122, 123, 124, 125] (by decide +kernel) (by decide +kernel)
set_option maxRecDepth 20000 in
theorem gX5_high_X5_alu : GoodIn wsX5_high (wsV RX5 86 RX5 yX5_alu wsX5_alu) := goodIn_app (goodIn_of _ (by decide +kernel)) ggX5_high_X5_alu
theorem dX5_high_0 : decode cX5_high 0 = .ok (.iload_n 2, 1) := by decide +kernel
theorem dX5_high_1 : decode cX5_high 1 = .ok (.ifCond .ne 24, 3) := by decide +kernel
theorem dX5_high_4 : decode cX5_high 4 = .ok (.aload_n 0, 1) := by decide +kernel
theorem dX5_high_5 : decode cX5_high 5 = .ok (.iload_n 1, 1) := by decide +kernel
theorem dX5_high_6 : decode cX5_high 6 = .ok (.invokevirtual 114, 3) := by decide +kernel
theorem dX5_high_9 : decode cX5_high 9 = .ok (.ifCond .ne 5, 3) := by decide +kernel
theorem dX5_high_12 : decode cX5_high 12 = .ok (.iconst 5, 1) := by decide +kernel
theorem dX5_high_13 : decode cX5_high 13 = .ok (.ireturn, 1) := by decide +kernel
theorem dX5_high_14 : decode cX5_high 14 = .ok (.aload_n 0, 1) := by decide +kernel
theorem dX5_high_15 : decode cX5_high 15 = .ok (.aload_n 0, 1) := by decide +kernel
theorem dX5_high_16 : decode cX5_high 16 = .ok (.invokevirtual 118, 3) := by decide +kernel
theorem dX5_high_19 : decode cX5_high 19 = .ok (.putfield 33, 3) := by decide +kernel
theorem dX5_high_22 : decode cX5_high 22 = .ok (.bipush 11, 2) := by decide +kernel
theorem dX5_high_24 : decode cX5_high 24 = .ok (.ireturn, 1) := by decide +kernel
theorem dX5_high_25 : decode cX5_high 25 = .ok (.iload_n 2, 1) := by decide +kernel
theorem dX5_high_26 : decode cX5_high 26 = .ok (.iconst 1, 1) := by decide +kernel
theorem dX5_high_27 : decode cX5_high 27 = .ok (.if_icmp .ne 25, 3) := by decide +kernel
theorem dX5_high_30 : decode cX5_high 30 = .ok (.iload_n 1, 1) := by decide +kernel
theorem dX5_high_31 : decode cX5_high 31 = .ok (.iconst 1, 1) := by decide +kernel
theorem dX5_high_32 : decode cX5_high 32 = .ok (.iand, 1) := by decide +kernel
theorem dX5_high_33 : decode cX5_high 33 = .ok (.ifCond .ne 13, 3) := by decide +kernel
theorem dX5_high_36 : decode cX5_high 36 = .ok (.aload_n 0, 1) := by decide +kernel
theorem dX5_high_37 : decode cX5_high 37 = .ok (.iload_n 1, 1) := by decide +kernel
theorem dX5_high_38 : decode cX5_high 38 = .ok (.iconst 1, 1) := by decide +kernel
theorem dX5_high_39 : decode cX5_high 39 = .ok (.ishr, 1) := by decide +kernel
theorem dX5_high_40 : decode cX5_high 40 = .ok (.invokevirtual 121, 3) := by decide +kernel
theorem dX5_high_43 : decode cX5_high 43 = .ok (.goto 8, 3) := by decide +kernel
theorem dX5_high_46 : decode cX5_high 46 = .ok (.aload_n 0, 1) := by decide +kernel
theorem dX5_high_47 : decode cX5_high 47 = .ok (.iload_n 1, 1) := by decide +kernel
theorem dX5_high_48 : decode cX5_high 48 = .ok (.invokevirtual 124, 3) := by decide +kernel
theorem dX5_high_51 : decode cX5_high 51 = .ok (.ireturn, 1) := by decide +kernel
theorem dX5_high_52 : decode cX5_high 52 = .ok (.iload_n 2, 1) := by decide +kernel
theorem dX5_high_53 : decode cX5_high 53 = .ok (.iconst 2, 1) := by decide +kernel
theorem dX5_high_54 : decode cX5_high 54 = .ok (.if_icmp .ne 31, 3) := by decide +kernel
theorem dX5_high_57 : decode cX5_high 57 = .ok (.aload_n 0, 1) := by decide +kernel
theorem dX5_high_58 : decode cX5_high 58 = .ok (.invokevirtual 102, 3) := by decide +kernel
theorem dX5_high_61 : decode cX5_high 61 = .ok (.istore_n 3, 1) := by decide +kernel
theorem dX5_high_62 : decode cX5_high 62 = .ok (.aload_n 0, 1) := by decide +kernel
theorem dX5_high_63 : decode cX5_high 63 = .ok (.aload_n 0, 1) := by decide +kernel
theorem dX5_high_64 : decode cX5_high 64 = .ok (.iload_n 1, 1) := by decide +kernel
theorem dX5_high_65 : decode cX5_high 65 = .ok (.invokevirtual 114, 3) := by decide +kernel
theorem dX5_high_68 : decode cX5_high 68 = .ok (.ifCond .eq 7, 3) := by decide +kernel
theorem dX5_high_71 : decode cX5_high 71 = .ok (.iload_n 3, 1) := by decide +kernel
theorem dX5_high_72 : decode cX5_high 72 = .ok (.goto 7, 3) := by decide +kernel
theorem dX5_high_75 : decode cX5_high 75 = .ok (.aload_n 0, 1) := by decide +kernel
theorem dX5_high_76 : decode cX5_high 76 = .ok (.getfield 33, 3) := by decide +kernel
theorem dX5_high_79 : decode cX5_high 79 = .ok (.putfield 33, 3) := by decide +kernel
theorem dX5_high_82 : decode cX5_high 82 = .ok (.bipush 10, 2) := by decide +kernel
theorem dX5_high_84 : decode cX5_high 84 = .ok (.ireturn, 1) := by decide +kernel
theorem dX5_high_85 : decode cX5_high 85 = .ok (.iload_n 2, 1) := by decide +kernel
theorem dX5_high_86 : decode cX5_high 86 = .ok (.iconst 3, 1) := by decide +kernel
theorem dX5_high_87 : decode cX5_high 87 = .ok (.if_icmp .ne 9, 3) := by decide +kernel
theorem dX5_high_90 : decode cX5_high 90 = .ok (.aload_n 0, 1) := by decide +kernel
theorem dX5_high_91 : decode cX5_high 91 = .ok (.iload_n 1, 1) := by decide +kernel
theorem dX5_high_92 : decode cX5_high 92 = .ok (.invokevirtual 127, 3) := by decide +kernel
theorem dX5_high_95 : decode cX5_high 95 = .ok (.ireturn, 1) := by decide +kernel
theorem dX5_high_96 : decode cX5_high 96 = .ok (.iload_n 2, 1) := by decide +kernel
theorem dX5_high_97 : decode cX5_high 97 = .ok (.iconst 4, 1) := by decide +kernel
theorem dX5_high_98 : decode cX5_high 98 = .ok (.if_icmp .ne 27, 3) := by decide +kernel
theorem dX5_high_101 : decode cX5_high 101 = .ok (.aload_n 0, 1) := by decide +kernel
theorem dX5_high_102 : decode cX5_high 102 = .ok (.invokevirtual 102, 3) := by decide +kernel
theorem dX5_high_105 : decode cX5_high 105 = .ok (.istore_n 3, 1) := by decide +kernel
theorem dX5_high_106 : decode cX5_high 106 = .ok (.aload_n 0, 1) := by decide +kernel
theorem dX5_high_107 : decode cX5_high 107 = .ok (.iload_n 1, 1) := by decide +kernel
theorem dX5_high_108 : decode cX5_high 108 = .ok (.invokevirtual 114, 3) := by decide +kernel
theorem dX5_high_111 : decode cX5_high 111 = .ok (.ifCond .eq 11, 3) := by decide +kernel
theorem dX5_high_114 : decode cX5_high 114 = .ok (.aload_n 0, 1) := by decide +kernel
theorem dX5_high_115 : decode cX5_high 115 = .ok (.iload_n 3, 1) := by decide +kernel
theorem dX5_high_116 : decode cX5_high 116 = .ok (.invokevirtual 130, 3) := by decide +kernel
theorem dX5_high_119 : decode cX5_high 119 = .ok (.goto 5, 3) := by decide +kernel
theorem dX5_high_122 : decode cX5_high 122 = .ok (.bipush 11, 2) := by decide +kernel
theorem dX5_high_124 : decode cX5_high 124 = .ok (.ireturn, 1) := by decide +kernel
theorem dX5_high_125 : decode cX5_high 125 = .ok (.iload_n 2, 1) := by decide +kernel
theorem dX5_high_126 : decode cX5_high 126 = .ok (.iconst 5, 1) := by decide +kernel
theorem dX5_high_127 : decode cX5_high 127 = .ok (.if_icmp .ne 57, 3) := by decide +kernel
theorem dX5_high_130 : decode cX5_high 130 = .ok (.iload_n 1, 1) := by decide +kernel
theorem dX5_high_131 : decode cX5_high 131 = .ok (.iconst 1, 1) := by decide +kernel
theorem dX5_high_132 : decode cX5_high 132 = .ok (.iand, 1) := by decide +kernel
theorem dX5_high_133 : decode cX5_high 133 = .ok (.iconst 1, 1) := by decide +kernel
theorem dX5_high_134 : decode cX5_high 134 = .ok (.if_icmp .ne 12, 3) := by decide +kernel
theorem dX5_high_137 : decode cX5_high 137 = .ok (.aload_n 0, 1) := by decide +kernel
theorem dX5_high_138 : decode cX5_high 138 = .ok (.aload_n 0, 1) := by decide +kernel
theorem dX5_high_139 : decode cX5_high 139 = .ok (.invokevirtual 102, 3) := by decide +kernel
theorem dX5_high_142 : decode cX5_high 142 = .ok (.invokevirtual 130, 3) := by decide +kernel
theorem dX5_high_145 : decode cX5_high 145 = .ok (.ireturn, 1) := by decide +kernel
theorem dX5_high_146 : decode cX5_high 146 = .ok (.aload_n 0, 1) := by decide +kernel
theorem dX5_high_147 : decode cX5_high 147 = .ok (.iload_n 1, 1) := by decide +kernel
theorem dX5_high_148 : decode cX5_high 148 = .ok (.bipush 6, 2) := by decide +kernel
theorem dX5_high_150 : decode cX5_high 150 = .ok (.if_icmp .ne 21, 3) := by decide +kernel
theorem dX5_high_153 : decode cX5_high 153 = .ok (.aload_n 0, 1) := by decide +kernel
theorem dX5_high_154 : decode cX5_high 154 = .ok (.getfield 16, 3) := by decide +kernel
theorem dX5_high_157 : decode cX5_high 157 = .ok (.bipush 7, 2) := by decide +kernel
theorem dX5_high_159 : decode cX5_high 159 = .ok (.iaload, 1) := by decide +kernel
theorem dX5_high_160 : decode cX5_high 160 = .ok (.bipush 8, 2) := by decide +kernel
theorem dX5_high_162 : decode cX5_high 162 = .ok (.ishl, 1) := by decide +kernel
theorem dX5_high_163 : decode cX5_high 163 = .ok (.aload_n 0, 1) := by decide +kernel
theorem dX5_high_164 : decode cX5_high 164 = .ok (.invokevirtual 133, 3) := by decide +kernel
theorem dX5_high_167 : decode cX5_high 167 = .ok (.ior, 1) := by decide +kernel
theorem dX5_high_168 : decode cX5_high 168 = .ok (.goto 10, 3) := by decide +kernel
theorem dX5_high_171 : decode cX5_high 171 = .ok (.aload_n 0, 1) := by decide +kernel
theorem dX5_high_172 : decode cX5_high 172 = .ok (.iload_n 1, 1) := by decide +kernel
theorem dX5_high_173 : decode cX5_high 173 = .ok (.iconst 1, 1) := by decide +kernel
theorem dX5_high_174 : decode cX5_high 174 = .ok (.ishr, 1) := by decide +kernel
theorem dX5_high_175 : decode cX5_high 175 = .ok (.invokevirtual 96, 3) := by decide +kernel
theorem dX5_high_178 : decode cX5_high 178 = .ok (.invokevirtual 136, 3) := by decide +kernel
theorem dX5_high_181 : decode cX5_high 181 = .ok (.bipush 11, 2) := by decide +kernel
theorem dX5_high_183 : decode cX5_high 183 = .ok (.ireturn, 1) := by decide +kernel
theorem dX5_high_184 : decode cX5_high 184 = .ok (.iload_n 2, 1) := by decide +kernel
theorem dX5_high_185 : decode cX5_high 185 = .ok (.bipush 6, 2) := by decide +kernel
theorem dX5_high_187 : decode cX5_high 187 = .ok (.if_icmp .ne 15, 3) := by decide +kernel
theorem dX5_high_190 : decode cX5_high 190 = .ok (.aload_n 0, 1) := by decide +kernel
theorem dX5_high_191 : decode cX5_high 191 = .ok (.iload_n 1, 1) := by decide +kernel
theorem dX5_high_192 : decode cX5_high 192 = .ok (.aload_n 0, 1) := by decide +kernel
theorem dX5_high_193 : decode cX5_high 193 = .ok (.invokevirtual 40, 3) := by decide +kernel
theorem dX5_high_196 : decode cX5_high 196 = .ok (.invokevirtual 86, 3) := by decide +kernel
theorem dX5_high_199 : decode cX5_high 199 = .ok (.bipush 7, 2) := by decide +kernel
theorem dX5_high_201 : decode cX5_high 201 = .ok (.ireturn, 1) := by decide +kernel
theorem dX5_high_202 : decode cX5_high 202 = .ok (.aload_n 0, 1) := by decide +kernel
theorem dX5_high_203 : decode cX5_high 203 = .ok (.aload_n 0, 1) := by decide +kernel
theorem dX5_high_204 : decode cX5_high 204 = .ok (.getfield 33, 3) := by decide +kernel
theorem dX5_high_207 : decode cX5_high 207 = .ok (.invokevirtual 136, 3) := by decide +kernel
theorem dX5_high_210 : decode cX5_high 210 = .ok (.aload_n 0, 1) := by decide +kernel
theorem dX5_high_211 : decode cX5_high 211 = .ok (.bipush 8, 2) := by decide +kernel
theorem dX5_high_213 : decode cX5_high 213 = .ok (.iload_n 1, 1) := by decide +kernel
theorem dX5_high_214 : decode cX5_high 214 = .ok (.imul, 1) := by decide +kernel
theorem dX5_high_215 : decode cX5_high 215 = .ok (.putfield 33, 3) := by decide +kernel
theorem dX5_high_218 : decode cX5_high 218 = .ok (.bipush 11, 2) := by decide +kernel
theorem dX5_high_220 : decode cX5_high 220 = .ok (.ireturn, 1) := by decide +kernel
set_option maxRecDepth 20000 in
theorem ggX5_call_X5_push : GoodIn wsX5_call wsX5_push := goodIn_r _ [6, 7, 8, 9, 10, 11, 5, 12, 13, 14, 15, 16, 17, 18, 19, 20, 21, 22, 23, 24, 25, 26, 27, 28, 29, 30, 31, 32, 33, 34, 35, 36, 37] (by decide +kernel) (by decide +kernel)
set_option maxRecDepth 20000 in
theorem gX5_call_X5_push : GoodIn wsX5_call (wsV RX5 136 RX5 yX5_push wsX5_push) := goodIn_app (goodIn_of _ (by decide +kernel)) ggX5_call_X5_push
theorem dX5_call_0 : decode cX5_call 0 = .ok (.aload_n 0, 1) := by decide +kernel
theorem dX5_call_1 : decode cX5_call 1 = .ok (.aload_n 0, 1) := by decide +kernel
theorem dX5_call_2 : decode cX5_call 2 = .ok (.getfield 33, 3) := by decide +kernel
theorem dX5_call_5 : decode cX5_call 5 = .ok (.invokevirtual 136, 3) := by decide +kernel
theorem dX5_call_8 : decode cX5_call 8 = .ok (.aload_n 0, 1) := by decide +kernel
theorem dX5_call_9 : decode cX5_call 9 = .ok (.iload_n 1, 1) := by decide +kernel
theorem dX5_call_10 : decode cX5_call 10 = .ok (.putfield 33, 3) := by decide +kernel
theorem dX5_call_13 : decode cX5_call 13 = .ok (.bipush 17, 2) := by decide +kernel
theorem dX5_call_15 : decode cX5_call 15 = .ok (.ireturn, 1) := by decide +kernel
set_option maxRecDepth 20000 in
theorem ggX5_popped_X5_pop : GoodIn wsX5_popped wsX5_pop := goodIn_r _ [6, 7, 8, 9, 10, 11, 5, 12, 13, 14, 28, 29, 30, 31, 32, 33, 34, 35, 36, 37, 38, 39, 40, 41, 42, 43, 44, 45, 46, 47, 48, 49, 50, 51] (by decide +kernel) (by decide +kernel)
set_option maxRecDepth 20000 in
theorem gX5_popped_X5_pop : GoodIn wsX5_popped (wsV RX5 118 RX5 yX5_pop wsX5_pop) := goodIn_app (goodIn_of _ (by decide +kernel)) ggX5_popped_X5_pop
set_option maxRecDepth 20000 in
theorem ggX5_popped_X5_setFlags : GoodIn wsX5_popped wsX5_setFlags := goodIn_r _ [18, 19, 20, 21, 22, 23, 28, 29, 30, 31, 32, 33, 34, 35, 36, 37, 38, 39, 40, 41, 42, 43, 44, 45, 46, 47, 48, 49, 50, 51] (by decide +kernel) (by decide +kernel)
set_option maxRecDepth 20000 in
theorem gX5_popped_X5_setFlags : GoodIn wsX5_popped (wsV RX5 139 RX5 yX5_setFlags wsX5_setFlags) := goodIn_app (goodIn_of _ (by decide +kernel)) ggX5_popped_X5_setFlags
set_option maxRecDepth 20000 in
theorem ggX5_popped_X5_setPair : GoodIn wsX5_popped wsX5_setPair := goodIn_r _ [27, 8, 7, 1, 28, 29, 30, 31, 32, 33, 34, 35, 36, 37, 38, 39, 40, 41, 42, 43, 44, 45, 46, 47, 48, 49, 50, 51] (by decide +kernel) (by decide +kernel)
set_option maxRecDepth 20000 in
theorem gX5_popped_X5_setPair : GoodIn wsX5_popped (wsV RX5 99 RX5 yX5_setPair wsX5_setPair) := goodIn_app (goodIn_of _ (by decide +kernel)) ggX5_popped_X5_setPair
theorem dX5_popped_0 : decode cX5_popped 0 = .ok (.aload_n 0, 1) := by decide +kernel
theorem dX5_popped_1 : decode cX5_popped 1 = .ok (.invokevirtual 118, 3) := by decide +kernel
theorem dX5_popped_4 : decode cX5_popped 4 = .ok (.istore_n 2, 1) := by decide +kernel
theorem dX5_popped_5 : decode cX5_popped 5 = .ok (.iload_n 1, 1) := by decide +kernel
theorem dX5_popped_6 : decode cX5_popped 6 = .ok (.iconst 3, 1) := by decide +kernel
theorem dX5_popped_7 : decode cX5_popped 7 = .ok (.if_icmp .ne 22, 3) := by decide +kernel
theorem dX5_popped_10 : decode cX5_popped 10 = .ok (.aload_n 0, 1) := by decide +kernel
theorem dX5_popped_11 : decode cX5_popped 11 = .ok (.getfield 16, 3) := by decide +kernel
theorem dX5_popped_14 : decode cX5_popped 14 = .ok (.bipush 7, 2) := by decide +kernel
theorem dX5_popped_16 : decode cX5_popped 16 = .ok (.iload_n 2, 1) := by decide +kernel
theorem dX5_popped_17 : decode cX5_popped 17 = .ok (.bipush 8, 2) := by decide +kernel
theorem dX5_popped_19 : decode cX5_popped 19 = .ok (.ishr, 1) := by decide +kernel
theorem dX5_popped_20 : decode cX5_popped 20 = .ok (.iastore, 1) := by decide +kernel
theorem dX5_popped_21 : decode cX5_popped 21 = .ok (.aload_n 0, 1) := by decide +kernel
theorem dX5_popped_22 : decode cX5_popped 22 = .ok (.iload_n 2, 1) := by decide +kernel
theorem dX5_popped_23 : decode cX5_popped 23 = .ok (.invokevirtual 139, 3) := by decide +kernel
theorem dX5_popped_26 : decode cX5_popped 26 = .ok (.goto 9, 3) := by decide +kernel
theorem dX5_popped_29 : decode cX5_popped 29 = .ok (.aload_n 0, 1) := by decide +kernel
theorem dX5_popped_30 : decode cX5_popped 30 = .ok (.iload_n 1, 1) := by decide +kernel
theorem dX5_popped_31 : decode cX5_popped 31 = .ok (.iload_n 2, 1) := by decide +kernel
theorem dX5_popped_32 : decode cX5_popped 32 = .ok (.invokevirtual 99, 3) := by decide +kernel
theorem dX5_popped_35 : decode cX5_popped 35 = .ok (.bipush 10, 2) := by decide +kernel
theorem dX5_popped_37 : decode cX5_popped 37 = .ok (.ireturn, 1) := by decide +kernel
set_option maxRecDepth 20000 in
theorem ggX5_odd_X5_pop : GoodIn wsX5_odd wsX5_pop := goodIn_r _ [7, 2, 8, 9, 10, 11, 6, 12, 13, 14, 20, 21, 22, 23, 24, 25, 26, 27, 28, 29, 30, 31, 32, 33, 34, 35, 36, 37, 38, 39, 40, 41, 42, 43] (by decide +kernel) (by decide +kernel)
set_option maxRecDepth 20000 in
theorem gX5_odd_X5_pop : GoodIn wsX5_odd (wsV RX5 118 RX5 yX5_pop wsX5_pop) := goodIn_app (goodIn_of _ (by decide +kernel)) ggX5_odd_X5_pop
set_option maxRecDepth 20000 in
theorem ggX5_odd_X5_hl : GoodIn wsX5_odd wsX5_hl := goodIn_r _ [18, 19, 20, 21, 22, 23, 24, 25, 26, 27, 28, 29, 30, 31, 32, 33, 34, 35, 36, 37, 38, 39, 40, 41, 42, 43] (by decide +kernel) (by decide +kernel)
set_option maxRecDepth 20000 in
theorem gX5_odd_X5_hl : GoodIn wsX5_odd (wsV RX5 51 RX5 yX5_hl wsX5_hl) := goodIn_app (goodIn_of _ (by decide +kernel)) ggX5_odd_X5_hl
theorem dX5_odd_0 : decode cX5_odd 0 = .ok (.iload_n 1, 1) := by decide +kernel
theorem dX5_odd_1 : decode cX5_odd 1 = .ok (.iconst 4, 1) := by decide +kernel
theorem dX5_odd_2 : decode cX5_odd 2 = .ok (.if_icmp .ge 14, 3) := by decide +kernel
theorem dX5_odd_5 : decode cX5_odd 5 = .ok (.aload_n 0, 1) := by decide +kernel
theorem dX5_odd_6 : decode cX5_odd 6 = .ok (.aload_n 0, 1) := by decide +kernel
theorem dX5_odd_7 : decode cX5_odd 7 = .ok (.invokevirtual 118, 3) := by decide +kernel
theorem dX5_odd_10 : decode cX5_odd 10 = .ok (.putfield 33, 3) := by decide +kernel
theorem dX5_odd_13 : decode cX5_odd 13 = .ok (.bipush 10, 2) := by decide +kernel
theorem dX5_odd_15 : decode cX5_odd 15 = .ok (.ireturn, 1) := by decide +kernel
theorem dX5_odd_16 : decode cX5_odd 16 = .ok (.iload_n 1, 1) := by decide +kernel
theorem dX5_odd_17 : decode cX5_odd 17 = .ok (.iconst 5, 1) := by decide +kernel
theorem dX5_odd_18 : decode cX5_odd 18 = .ok (.if_icmp .ne 14, 3) := by decide +kernel
theorem dX5_odd_21 : decode cX5_odd 21 = .ok (.aload_n 0, 1) := by decide +kernel
theorem dX5_odd_22 : decode cX5_odd 22 = .ok (.aload_n 0, 1) := by decide +kernel
theorem dX5_odd_23 : decode cX5_odd 23 = .ok (.invokevirtual 51, 3) := by decide +kernel
theorem dX5_odd_26 : decode cX5_odd 26 = .ok (.putfield 33, 3) := by decide +kernel
theorem dX5_odd_29 : decode cX5_odd 29 = .ok (.goto 11, 3) := by decide +kernel
theorem dX5_odd_32 : decode cX5_odd 32 = .ok (.aload_n 0, 1) := by decide +kernel
theorem dX5_odd_33 : decode cX5_odd 33 = .ok (.aload_n 0, 1) := by decide +kernel
theorem dX5_odd_34 : decode cX5_odd 34 = .ok (.invokevirtual 51, 3) := by decide +kernel
theorem dX5_odd_37 : decode cX5_odd 37 = .ok (.putfield 44, 3) := by decide +kernel
theorem dX5_odd_40 : decode cX5_odd 40 = .ok (.iconst 5, 1) := by decide +kernel
theorem dX5_odd_41 : decode cX5_odd 41 = .ok (.ireturn, 1) := by decide +kernel
set_option maxRecDepth 20000 in
theorem ggX5_single_X5_nextTwo : GoodIn wsX5_single wsX5_nextTwo := goodIn_r _ [12, 13, 14, 15, 11, 16, 1, 4, 17, 18, 19, 20, 21, 22, 53, 54, 55, 56, 57, 58, 59, 60, 61, 62, 63, 64, 65, 66, 67, 68, 69, 70, 71, 72, 73, 74, 75, 76] (by decide +kernel) (by decide +kernel)
set_option maxRecDepth 20000 in
theorem gX5_single_X5_nextTwo : GoodIn wsX5_single (wsV RX5 102 RX5 yX5_nextTwo wsX5_nextTwo) := goodIn_app (goodIn_of _ (by decide +kernel)) ggX5_single_X5_nextTwo
set_option maxRecDepth 20000 in
theorem ggX5_single_X5_next : GoodIn wsX5_single wsX5_next := goodIn_r _ [16, 1, 4, 17, 18, 19, 11, 20, 21, 22, 53, 54, 55, 56, 57, 58, 59, 60, 61, 62, 63, 64, 65, 66, 67, 68, 69, 70, 71, 72, 73, 74, 75, 76] (by decide +kernel) (by decide +kernel)
set_option maxRecDepth 20000 in
theorem gX5_single_X5_next : GoodIn wsX5_single (wsV RX5 40 RX5 yX5_next wsX5_next) := goodIn_app (goodIn_of _ (by decide +kernel)) ggX5_single_X5_next
set_option maxRecDepth 20000 in
theorem ggX5_single_X5_out : GoodIn wsX5_single wsX5_out := goodIn_r _ [26, 27, 28, 29, 30, 31, 53, 54, 55, 56, 57, 58, 59, 60, 61, 62, 63, 64, 65, 66, 67, 68, 69, 70, 71, 72, 73, 74, 75, 76] (by decide +kernel) (by decide +kernel)
set_option maxRecDepth 20000 in
theorem gX5_single_X5_out : GoodIn wsX5_single (wsV RX5 142 RX5 yX5_out wsX5_out) := goodIn_app (goodIn_of _ (by decide +kernel)) ggX5_single_X5_out
set_option maxRecDepth 20000 in
theorem ggX5_single_X5_in : GoodIn wsX5_single wsX5_in := goodIn_r _ [35, 36, 30, 27, 53, 54, 55, 56, 57, 58, 59, 60, 61, 62, 63, 64, 65, 66, 67, 68, 69, 70, 71, 72, 73, 74, 75, 76] (by decide +kernel) (by decide +kernel)
set_option maxRecDepth 20000 in
theorem gX5_single_X5_in : GoodIn wsX5_single (wsV RX5 145 RX5 yX5_in wsX5_in) := goodIn_app (goodIn_of _ (by decide +kernel)) ggX5_single_X5_in
set_option maxRecDepth 20000 in
theorem ggX5_single_X5_read : GoodIn wsX5_single wsX5_read := goodIn_r _ [20, 4, 21, 22, 53, 54, 55, 56, 57, 58, 59, 60, 61, 62, 63, 64, 65, 66, 67, 68, 69, 70, 71, 72, 73, 74, 75, 76] (by decide +kernel) (by decide +kernel)
set_option maxRecDepth 20000 in
theorem gX5_single_X5_read : GoodIn wsX5_single (wsV RX5 36 RX5 yX5_read wsX5_read) := goodIn_app (goodIn_of _ (by decide +kernel)) ggX5_single_X5_read
set_option maxRecDepth 20000 in
theorem ggX5_single_X5_write : GoodIn wsX5_single wsX5_write := goodIn_r _ [40, 21, 53, 54, 55, 56, 57, 58, 59, 60, 61, 62, 63, 64, 65, 66, 67, 68, 69, 70, 71, 72, 73, 74, 75, 76] (by decide +kernel) (by decide +kernel)
set_option maxRecDepth 20000 in
theorem gX5_single_X5_write : GoodIn wsX5_single (wsV RX5 47 RX5 yX5_write wsX5_write) := goodIn_app (goodIn_of _ (by decide +kernel)) ggX5_single_X5_write
set_option maxRecDepth 20000 in
theorem ggX5_single_X5_setPair : GoodIn wsX5_single wsX5_setPair := goodIn_r _ [44, 4, 3, 2, 53, 54, 55, 56, 57, 58, 59, 60, 61, 62, 63, 64, 65, 66, 67, 68, 69, 70, 71, 72, 73, 74, 75, 76] (by decide +kernel) (by decide +kernel)
set_option maxRecDepth 20000 in
theorem gX5_single_X5_setPair : GoodIn wsX5_single (wsV RX5 99 RX5 yX5_setPair wsX5_setPair) := goodIn_app (goodIn_of _ (by decide +kernel)) ggX5_single_X5_setPair
set_option maxRecDepth 20000 in
theorem ggX5_single_X5_hl : GoodIn wsX5_single wsX5_hl := goodIn_r _ [48, 2, 53, 54, 55, 56, 57, 58, 59, 60, 61, 62, 63, 64, 65, 66, 67, 68, 69, 70, 71, 72, 73, 74, 75, 76] (by decide +kernel) (by decide +kernel)
set_option maxRecDepth 20000 in
theorem gX5_single_X5_hl : GoodIn wsX5_single (wsV RX5 51 RX5 yX5_hl wsX5_hl) := goodIn_app (goodIn_of _ (by decide +kernel)) ggX5_single_X5_hl
set_option maxRecDepth 20000 in
theorem ggX5_single_X5_pair : GoodIn wsX5_single wsX5_pair := goodIn_r _ [52, 3, 2, 53, 54, 55, 56, 57, 58, 59, 60, 61, 62, 63, 64, 65, 66, 67, 68, 69, 70, 71, 72, 73, 74, 75, 76] (by decide +kernel) (by decide +kernel)
set_option maxRecDepth 20000 in
theorem gX5_single_X5_pair : GoodIn wsX5_single (wsV RX5 96 RX5 yX5_pair wsX5_pair) := goodIn_app (goodIn_of _ (by decide +kernel)) ggX5_single_X5_pair
theorem dX5_single_0 : decode cX5_single 0 = .ok (.iload_n 1, 1) := by decide +kernel
theorem dX5_single_1 : decode cX5_single 1 = .ok (.iconst 2, 1) := by decide +kernel
theorem dX5_single_2 : decode cX5_single 2 = .ok (.if_icmp .ge 14, 3) := by decide +kernel
theorem dX5_single_5 : decode cX5_single 5 = .ok (.aload_n 0, 1) := by decide +kernel
theorem dX5_single_6 : decode cX5_single 6 = .ok (.aload_n 0, 1) := by decide +kernel
theorem dX5_single_7 : decode cX5_single 7 = .ok (.invokevirtual 102, 3) := by decide +kernel
theorem dX5_single_10 : decode cX5_single 10 = .ok (.putfield 33, 3) := by decide +kernel
theorem dX5_single_13 : decode cX5_single 13 = .ok (.bipush 10, 2) := by decide +kernel
theorem dX5_single_15 : decode cX5_single 15 = .ok (.ireturn, 1) := by decide +kernel
theorem dX5_single_16 : decode cX5_single 16 = .ok (.iload_n 1, 1) := by decide +kernel
theorem dX5_single_17 : decode cX5_single 17 = .ok (.iconst 2, 1) := by decide +kernel
theorem dX5_single_18 : decode cX5_single 18 = .ok (.if_icmp .ne 21, 3) := by decide +kernel
theorem dX5_single_21 : decode cX5_single 21 = .ok (.aload_n 0, 1) := by decide +kernel
theorem dX5_single_22 : decode cX5_single 22 = .ok (.aload_n 0, 1) := by decide +kernel
theorem dX5_single_23 : decode cX5_single 23 = .ok (.invokevirtual 40, 3) := by decide +kernel
theorem dX5_single_26 : decode cX5_single 26 = .ok (.aload_n 0, 1) := by decide +kernel
theorem dX5_single_27 : decode cX5_single 27 = .ok (.getfield 16, 3) := by decide +kernel
theorem dX5_single_30 : decode cX5_single 30 = .ok (.bipush 7, 2) := by decide +kernel
theorem dX5_single_32 : decode cX5_single 32 = .ok (.iaload, 1) := by decide +kernel
theorem dX5_single_33 : decode cX5_single 33 = .ok (.invokevirtual 142, 3) := by decide +kernel
theorem dX5_single_36 : decode cX5_single 36 = .ok (.bipush 10, 2) := by decide +kernel
theorem dX5_single_38 : decode cX5_single 38 = .ok (.ireturn, 1) := by decide +kernel
theorem dX5_single_39 : decode cX5_single 39 = .ok (.iload_n 1, 1) := by decide +kernel
theorem dX5_single_40 : decode cX5_single 40 = .ok (.iconst 3, 1) := by decide +kernel
theorem dX5_single_41 : decode cX5_single 41 = .ok (.if_icmp .ne 21, 3) := by decide +kernel
theorem dX5_single_44 : decode cX5_single 44 = .ok (.aload_n 0, 1) := by decide +kernel
theorem dX5_single_45 : decode cX5_single 45 = .ok (.getfield 16, 3) := by decide +kernel
theorem dX5_single_48 : decode cX5_single 48 = .ok (.bipush 7, 2) := by decide +kernel
theorem dX5_single_50 : decode cX5_single 50 = .ok (.aload_n 0, 1) := by decide +kernel
theorem dX5_single_51 : decode cX5_single 51 = .ok (.aload_n 0, 1) := by decide +kernel
theorem dX5_single_52 : decode cX5_single 52 = .ok (.invokevirtual 40, 3) := by decide +kernel
theorem dX5_single_55 : decode cX5_single 55 = .ok (.invokevirtual 145, 3) := by decide +kernel
theorem dX5_single_58 : decode cX5_single 58 = .ok (.iastore, 1) := by decide +kernel
theorem dX5_single_59 : decode cX5_single 59 = .ok (.bipush 10, 2) := by decide +kernel
theorem dX5_single_61 : decode cX5_single 61 = .ok (.ireturn, 1) := by decide +kernel
theorem dX5_single_62 : decode cX5_single 62 = .ok (.iload_n 1, 1) := by decide +kernel
theorem dX5_single_63 : decode cX5_single 63 = .ok (.iconst 4, 1) := by decide +kernel
theorem dX5_single_64 : decode cX5_single 64 = .ok (.if_icmp .ne 71, 3) := by decide +kernel
theorem dX5_single_67 : decode cX5_single 67 = .ok (.aload_n 0, 1) := by decide +kernel
theorem dX5_single_68 : decode cX5_single 68 = .ok (.aload_n 0, 1) := by decide +kernel
theorem dX5_single_69 : decode cX5_single 69 = .ok (.getfield 44, 3) := by decide +kernel
theorem dX5_single_72 : decode cX5_single 72 = .ok (.invokevirtual 36, 3) := by decide +kernel
theorem dX5_single_75 : decode cX5_single 75 = .ok (.aload_n 0, 1) := by decide +kernel
theorem dX5_single_76 : decode cX5_single 76 = .ok (.aload_n 0, 1) := by decide +kernel
theorem dX5_single_77 : decode cX5_single 77 = .ok (.getfield 44, 3) := by decide +kernel
theorem dX5_single_80 : decode cX5_single 80 = .ok (.iconst 1, 1) := by decide +kernel
theorem dX5_single_81 : decode cX5_single 81 = .ok (.iadd, 1) := by decide +kernel
theorem dX5_single_82 : decode cX5_single 82 = .ok (.ldc 32, 2) := by decide +kernel
theorem dX5_single_84 : decode cX5_single 84 = .ok (.iand, 1) := by decide +kernel
theorem dX5_single_85 : decode cX5_single 85 = .ok (.invokevirtual 36, 3) := by decide +kernel
theorem dX5_single_88 : decode cX5_single 88 = .ok (.bipush 8, 2) := by decide +kernel
theorem dX5_single_90 : decode cX5_single 90 = .ok (.ishl, 1) := by decide +kernel
theorem dX5_single_91 : decode cX5_single 91 = .ok (.ior, 1) := by decide +kernel
theorem dX5_single_92 : decode cX5_single 92 = .ok (.istore_n 2, 1) := by decide +kernel
theorem dX5_single_93 : decode cX5_single 93 = .ok (.aload_n 0, 1) := by decide +kernel
theorem dX5_single_94 : decode cX5_single 94 = .ok (.aload_n 0, 1) := by decide +kernel
theorem dX5_single_95 : decode cX5_single 95 = .ok (.getfield 44, 3) := by decide +kernel
theorem dX5_single_98 : decode cX5_single 98 = .ok (.aload_n 0, 1) := by decide +kernel
theorem dX5_single_99 : decode cX5_single 99 = .ok (.getfield 16, 3) := by decide +kernel
theorem dX5_single_102 : decode cX5_single 102 = .ok (.iconst 5, 1) := by decide +kernel
theorem dX5_single_103 : decode cX5_single 103 = .ok (.iaload, 1) := by decide +kernel
theorem dX5_single_104 : decode cX5_single 104 = .ok (.invokevirtual 47, 3) := by decide +kernel
theorem dX5_single_107 : decode cX5_single 107 = .ok (.aload_n 0, 1) := by decide +kernel
theorem dX5_single_108 : decode cX5_single 108 = .ok (.aload_n 0, 1) := by decide +kernel
theorem dX5_single_109 : decode cX5_single 109 = .ok (.getfield 44, 3) := by decide +kernel
theorem dX5_single_112 : decode cX5_single 112 = .ok (.iconst 1, 1) := by decide +kernel
theorem dX5_single_113 : decode cX5_single 113 = .ok (.iadd, 1) := by decide +kernel
theorem dX5_single_114 : decode cX5_single 114 = .ok (.ldc 32, 2) := by decide +kernel
theorem dX5_single_116 : decode cX5_single 116 = .ok (.iand, 1) := by decide +kernel
theorem dX5_single_117 : decode cX5_single 117 = .ok (.aload_n 0, 1) := by decide +kernel
theorem dX5_single_118 : decode cX5_single 118 = .ok (.getfield 16, 3) := by decide +kernel
theorem dX5_single_121 : decode cX5_single 121 = .ok (.iconst 4, 1) := by decide +kernel
theorem dX5_single_122 : decode cX5_single 122 = .ok (.iaload, 1) := by decide +kernel
theorem dX5_single_123 : decode cX5_single 123 = .ok (.invokevirtual 47, 3) := by decide +kernel
theorem dX5_single_126 : decode cX5_single 126 = .ok (.aload_n 0, 1) := by decide +kernel
theorem dX5_single_127 : decode cX5_single 127 = .ok (.iconst 2, 1) := by decide +kernel
theorem dX5_single_128 : decode cX5_single 128 = .ok (.iload_n 2, 1) := by decide +kernel
theorem dX5_single_129 : decode cX5_single 129 = .ok (.invokevirtual 99, 3) := by decide +kernel
theorem dX5_single_132 : decode cX5_single 132 = .ok (.bipush 18, 2) := by decide +kernel
theorem dX5_single_134 : decode cX5_single 134 = .ok (.ireturn, 1) := by decide +kernel
theorem dX5_single_135 : decode cX5_single 135 = .ok (.iload_n 1, 1) := by decide +kernel
theorem dX5_single_136 : decode cX5_single 136 = .ok (.iconst 5, 1) := by decide +kernel
theorem dX5_single_137 : decode cX5_single 137 = .ok (.if_icmp .ne 26, 3) := by decide +kernel
theorem dX5_single_140 : decode cX5_single 140 = .ok (.aload_n 0, 1) := by decide +kernel
theorem dX5_single_141 : decode cX5_single 141 = .ok (.invokevirtual 51, 3) := by decide +kernel
theorem dX5_single_144 : decode cX5_single 144 = .ok (.istore_n 2, 1) := by decide +kernel
theorem dX5_single_145 : decode cX5_single 145 = .ok (.aload_n 0, 1) := by decide +kernel
theorem dX5_single_146 : decode cX5_single 146 = .ok (.iconst 2, 1) := by decide +kernel
theorem dX5_single_147 : decode cX5_single 147 = .ok (.aload_n 0, 1) := by decide +kernel
theorem dX5_single_148 : decode cX5_single 148 = .ok (.iconst 1, 1) := by decide +kernel
theorem dX5_single_149 : decode cX5_single 149 = .ok (.invokevirtual 96, 3) := by decide +kernel
theorem dX5_single_152 : decode cX5_single 152 = .ok (.invokevirtual 99, 3) := by decide +kernel
theorem dX5_single_155 : decode cX5_single 155 = .ok (.aload_n 0, 1) := by decide +kernel
theorem dX5_single_156 : decode cX5_single 156 = .ok (.iconst 1, 1) := by decide +kernel
theorem dX5_single_157 : decode cX5_single 157 = .ok (.iload_n 2, 1) := by decide +kernel
theorem dX5_single_158 : decode cX5_single 158 = .ok (.invokevirtual 99, 3) := by decide +kernel
theorem dX5_single_161 : decode cX5_single 161 = .ok (.iconst 4, 1) := by decide +kernel
theorem dX5_single_162 : decode cX5_single 162 = .ok (.ireturn, 1) := by decide +kernel
theorem dX5_single_163 : decode cX5_single 163 = .ok (.iload_n 1, 1) := by decide +kernel
theorem dX5_single_164 : decode cX5_single 164 = .ok (.bipush 6, 2) := by decide +kernel
theorem dX5_single_166 : decode cX5_single 166 = .ok (.if_icmp .ne 16, 3) := by decide +kernel
theorem dX5_single_169 : decode cX5_single 169 = .ok (.aload_n 0, 1) := by decide +kernel
theorem dX5_single_170 : decode cX5_single 170 = .ok (.iconst 0, 1) := by decide +kernel
theorem dX5_single_171 : decode cX5_single 171 = .ok (.putfield 148, 3) := by decide +kernel
theorem dX5_single_174 : decode cX5_single 174 = .ok (.aload_n 0, 1) := by decide +kernel
theorem dX5_single_175 : decode cX5_single 175 = .ok (.iconst 0, 1) := by decide +kernel
theorem dX5_single_176 : decode cX5_single 176 = .ok (.putfield 151, 3) := by decide +kernel
theorem dX5_single_179 : decode cX5_single 179 = .ok (.goto 22, 3) := by decide +kernel
theorem dX5_single_182 : decode cX5_single 182 = .ok (.aload_n 0, 1) := by decide +kernel
theorem dX5_single_183 : decode cX5_single 183 = .ok (.getfield 148, 3) := by decide +kernel
theorem dX5_single_186 : decode cX5_single 186 = .ok (.ifCond .ne 15, 3) := by decide +kernel
theorem dX5_single_189 : decode cX5_single 189 = .ok (.aload_n 0, 1) := by decide +kernel
theorem dX5_single_190 : decode cX5_single 190 = .ok (.getfield 151, 3) := by decide +kernel
theorem dX5_single_193 : decode cX5_single 193 = .ok (.ifCond .ne 8, 3) := by decide +kernel
theorem dX5_single_196 : decode cX5_single 196 = .ok (.aload_n 0, 1) := by decide +kernel
theorem dX5_single_197 : decode cX5_single 197 = .ok (.iconst 1, 1) := by decide +kernel
theorem dX5_single_198 : decode cX5_single 198 = .ok (.putfield 154, 3) := by decide +kernel
theorem dX5_single_201 : decode cX5_single 201 = .ok (.iconst 4, 1) := by decide +kernel
theorem dX5_single_202 : decode cX5_single 202 = .ok (.ireturn, 1) := by decide +kernel
theorem dX5_in_0 : decode cX5_in 0 = .ok (.iload_n 1, 1) := by decide +kernel
theorem dX5_in_1 : decode cX5_in 1 = .ok (.iconst 3, 1) := by decide +kernel
theorem dX5_in_2 : decode cX5_in 2 = .ok (.if_icmp .ge 12, 3) := by decide +kernel
theorem dX5_in_5 : decode cX5_in 5 = .ok (.aload_n 0, 1) := by decide +kernel
theorem dX5_in_6 : decode cX5_in 6 = .ok (.getfield 19, 3) := by decide +kernel
theorem dX5_in_9 : decode cX5_in 9 = .ok (.iload_n 1, 1) := by decide +kernel
theorem dX5_in_10 : decode cX5_in 10 = .ok (.iaload, 1) := by decide +kernel
theorem dX5_in_11 : decode cX5_in 11 = .ok (.goto 28, 3) := by decide +kernel
theorem dX5_in_14 : decode cX5_in 14 = .ok (.iload_n 1, 1) := by decide +kernel
theorem dX5_in_15 : decode cX5_in 15 = .ok (.iconst 3, 1) := by decide +kernel
theorem dX5_in_16 : decode cX5_in 16 = .ok (.if_icmp .ne 22, 3) := by decide +kernel
theorem dX5_in_19 : decode cX5_in 19 = .ok (.aload_n 0, 1) := by decide +kernel
theorem dX5_in_20 : decode cX5_in 20 = .ok (.getfield 157, 3) := by decide +kernel
theorem dX5_in_23 : decode cX5_in 23 = .ok (.aload_n 0, 1) := by decide +kernel
theorem dX5_in_24 : decode cX5_in 24 = .ok (.getfield 160, 3) := by decide +kernel
theorem dX5_in_27 : decode cX5_in 27 = .ok (.ishl, 1) := by decide +kernel
theorem dX5_in_28 : decode cX5_in 28 = .ok (.bipush 8, 2) := by decide +kernel
theorem dX5_in_30 : decode cX5_in 30 = .ok (.ishr, 1) := by decide +kernel
theorem dX5_in_31 : decode cX5_in 31 = .ok (.sipush 255, 3) := by decide +kernel
theorem dX5_in_34 : decode cX5_in 34 = .ok (.iand, 1) := by decide +kernel
theorem dX5_in_35 : decode cX5_in 35 = .ok (.goto 4, 3) := by decide +kernel
theorem dX5_in_38 : decode cX5_in 38 = .ok (.iconst 0, 1) := by decide +kernel
theorem dX5_in_39 : decode cX5_in 39 = .ok (.ireturn, 1) := by decide +kernel
theorem dX5_out_0 : decode cX5_out 0 = .ok (.iload_n 1, 1) := by decide +kernel
theorem dX5_out_1 : decode cX5_out 1 = .ok (.iconst 2, 1) := by decide +kernel
theorem dX5_out_2 : decode cX5_out 2 = .ok (.if_icmp .ne 14, 3) := by decide +kernel
theorem dX5_out_5 : decode cX5_out 5 = .ok (.aload_n 0, 1) := by decide +kernel
theorem dX5_out_6 : decode cX5_out 6 = .ok (.iload_n 2, 1) := by decide +kernel
theorem dX5_out_7 : decode cX5_out 7 = .ok (.bipush 7, 2) := by decide +kernel
theorem dX5_out_9 : decode cX5_out 9 = .ok (.iand, 1) := by decide +kernel
theorem dX5_out_10 : decode cX5_out 10 = .ok (.putfield 160, 3) := by decide +kernel
theorem dX5_out_13 : decode cX5_out 13 = .ok (.goto 118, 3) := by decide +kernel
theorem dX5_out_16 : decode cX5_out 16 = .ok (.iload_n 1, 1) := by decide +kernel
theorem dX5_out_17 : decode cX5_out 17 = .ok (.iconst 3, 1) := by decide +kernel
theorem dX5_out_18 : decode cX5_out 18 = .ok (.if_icmp .eq 8, 3) := by decide +kernel
theorem dX5_out_21 : decode cX5_out 21 = .ok (.iload_n 1, 1) := by decide +kernel
theorem dX5_out_22 : decode cX5_out 22 = .ok (.iconst 5, 1) := by decide +kernel
theorem dX5_out_23 : decode cX5_out 23 = .ok (.if_icmp .ne 73, 3) := by decide +kernel
theorem dX5_out_26 : decode cX5_out 26 = .ok (.iload_n 1, 1) := by decide +kernel
theorem dX5_out_27 : decode cX5_out 27 = .ok (.iconst 3, 1) := by decide +kernel
theorem dX5_out_28 : decode cX5_out 28 = .ok (.if_icmp .ne 7, 3) := by decide +kernel
theorem dX5_out_31 : decode cX5_out 31 = .ok (.iconst 0, 1) := by decide +kernel
theorem dX5_out_32 : decode cX5_out 32 = .ok (.goto 4, 3) := by decide +kernel
theorem dX5_out_35 : decode cX5_out 35 = .ok (.iconst 1, 1) := by decide +kernel
theorem dX5_out_36 : decode cX5_out 36 = .ok (.istore_n 3, 1) := by decide +kernel
theorem dX5_out_37 : decode cX5_out 37 = .ok (.iconst 0, 1) := by decide +kernel
theorem dX5_out_38 : decode cX5_out 38 = .ok (.istore 4, 2) := by decide +kernel
theorem dX5_out_40 : decode cX5_out 40 = .ok (.iload 4, 2) := by decide +kernel
theorem dX5_out_42 : decode cX5_out 42 = .ok (.bipush 8, 2) := by decide +kernel
theorem dX5_out_44 : decode cX5_out 44 = .ok (.if_icmp .ge 42, 3) := by decide +kernel
theorem dX5_out_47 : decode cX5_out 47 = .ok (.aload_n 0, 1) := by decide +kernel
theorem dX5_out_48 : decode cX5_out 48 = .ok (.getfield 25, 3) := by decide +kernel
theorem dX5_out_51 : decode cX5_out 51 = .ok (.bipush 8, 2) := by decide +kernel
theorem dX5_out_53 : decode cX5_out 53 = .ok (.iload_n 3, 1) := by decide +kernel
theorem dX5_out_54 : decode cX5_out 54 = .ok (.imul, 1) := by decide +kernel
theorem dX5_out_55 : decode cX5_out 55 = .ok (.iload 4, 2) := by decide +kernel
theorem dX5_out_57 : decode cX5_out 57 = .ok (.iadd, 1) := by decide +kernel
theorem dX5_out_58 : decode cX5_out 58 = .ok (.dup2, 1) := by decide +kernel
theorem dX5_out_59 : decode cX5_out 59 = .ok (.iaload, 1) := by decide +kernel
theorem dX5_out_60 : decode cX5_out 60 = .ok (.iload_n 2, 1) := by decide +kernel
theorem dX5_out_61 : decode cX5_out 61 = .ok (.iload 4, 2) := by decide +kernel
theorem dX5_out_63 : decode cX5_out 63 = .ok (.ishr, 1) := by decide +kernel
theorem dX5_out_64 : decode cX5_out 64 = .ok (.aload_n 0, 1) := by decide +kernel
theorem dX5_out_65 : decode cX5_out 65 = .ok (.getfield 22, 3) := by decide +kernel
theorem dX5_out_68 : decode cX5_out 68 = .ok (.iload_n 3, 1) := by decide +kernel
theorem dX5_out_69 : decode cX5_out 69 = .ok (.iaload, 1) := by decide +kernel
theorem dX5_out_70 : decode cX5_out 70 = .ok (.iconst (-1), 1) := by decide +kernel
theorem dX5_out_71 : decode cX5_out 71 = .ok (.ixor, 1) := by decide +kernel
theorem dX5_out_72 : decode cX5_out 72 = .ok (.iload 4, 2) := by decide +kernel
theorem dX5_out_74 : decode cX5_out 74 = .ok (.ishr, 1) := by decide +kernel
theorem dX5_out_75 : decode cX5_out 75 = .ok (.iand, 1) := by decide +kernel
theorem dX5_out_76 : decode cX5_out 76 = .ok (.iconst 1, 1) := by decide +kernel
theorem dX5_out_77 : decode cX5_out 77 = .ok (.iand, 1) := by decide +kernel
theorem dX5_out_78 : decode cX5_out 78 = .ok (.iadd, 1) := by decide +kernel
theorem dX5_out_79 : decode cX5_out 79 = .ok (.iastore, 1) := by decide +kernel
theorem dX5_out_80 : decode cX5_out 80 = .ok (.iinc 4 1, 3) := by decide +kernel
theorem dX5_out_83 : decode cX5_out 83 = .ok (.goto (-43), 3) := by decide +kernel
theorem dX5_out_86 : decode cX5_out 86 = .ok (.aload_n 0, 1) := by decide +kernel
theorem dX5_out_87 : decode cX5_out 87 = .ok (.getfield 22, 3) := by decide +kernel
theorem dX5_out_90 : decode cX5_out 90 = .ok (.iload_n 3, 1) := by decide +kernel
theorem dX5_out_91 : decode cX5_out 91 = .ok (.iload_n 2, 1) := by decide +kernel
theorem dX5_out_92 : decode cX5_out 92 = .ok (.iastore, 1) := by decide +kernel
theorem dX5_out_93 : decode cX5_out 93 = .ok (.goto 38, 3) := by decide +kernel
theorem dX5_out_96 : decode cX5_out 96 = .ok (.iload_n 1, 1) := by decide +kernel
theorem dX5_out_97 : decode cX5_out 97 = .ok (.iconst 4, 1) := by decide +kernel
theorem dX5_out_98 : decode cX5_out 98 = .ok (.if_icmp .ne 22, 3) := by decide +kernel
theorem dX5_out_101 : decode cX5_out 101 = .ok (.aload_n 0, 1) := by decide +kernel
theorem dX5_out_102 : decode cX5_out 102 = .ok (.iload_n 2, 1) := by decide +kernel
theorem dX5_out_103 : decode cX5_out 103 = .ok (.bipush 8, 2) := by decide +kernel
theorem dX5_out_105 : decode cX5_out 105 = .ok (.ishl, 1) := by decide +kernel
theorem dX5_out_106 : decode cX5_out 106 = .ok (.aload_n 0, 1) := by decide +kernel
theorem dX5_out_107 : decode cX5_out 107 = .ok (.getfield 157, 3) := by decide +kernel
theorem dX5_out_110 : decode cX5_out 110 = .ok (.bipush 8, 2) := by decide +kernel
theorem dX5_out_112 : decode cX5_out 112 = .ok (.ishr, 1) := by decide +kernel
theorem dX5_out_113 : decode cX5_out 113 = .ok (.ior, 1) := by decide +kernel
theorem dX5_out_114 : decode cX5_out 114 = .ok (.putfield 157, 3) := by decide +kernel
theorem dX5_out_117 : decode cX5_out 117 = .ok (.goto 14, 3) := by decide +kernel
theorem dX5_out_120 : decode cX5_out 120 = .ok (.iload_n 1, 1) := by decide +kernel
theorem dX5_out_121 : decode cX5_out 121 = .ok (.bipush 6, 2) := by decide +kernel
theorem dX5_out_123 : decode cX5_out 123 = .ok (.if_icmp .ne 8, 3) := by decide +kernel
theorem dX5_out_126 : decode cX5_out 126 = .ok (.aload_n 0, 1) := by decide +kernel
theorem dX5_out_127 : decode cX5_out 127 = .ok (.iconst 0, 1) := by decide +kernel
theorem dX5_out_128 : decode cX5_out 128 = .ok (.putfield 163, 3) := by decide +kernel
theorem dX5_out_131 : decode cX5_out 131 = .ok (.return_, 1) := by decide +kernel
set_option maxRecDepth 20000 in
theorem ggX5_clear_X5_setFlags : GoodIn wsX5_clear wsX5_setFlags := goodIn_r _ [17, 18, 19, 20, 21, 22, 23, 24, 25, 26, 27, 28, 29, 30, 31, 32, 33, 34, 35, 36, 37, 38, 39, 40, 41, 42, 43, 44, 45, 46] (by decide +kernel) (by decide +kernel)
set_option maxRecDepth 20000 in
theorem gX5_clear_X5_setFlags : GoodIn wsX5_clear (wsV RX5 139 RX5 yX5_setFlags wsX5_setFlags) := goodIn_app (goodIn_of _ (by decide +kernel)) ggX5_clear_X5_setFlags
theorem dX5_clear_0 : decode cX5_clear 0 = .ok (.iconst 0, 1) := by decide +kernel
theorem dX5_clear_1 : decode cX5_clear 1 = .ok (.istore_n 1, 1) := by decide +kernel
theorem dX5_clear_2 : decode cX5_clear 2 = .ok (.iload_n 1, 1) := by decide +kernel
theorem dX5_clear_3 : decode cX5_clear 3 = .ok (.bipush 8, 2) := by decide +kernel
theorem dX5_clear_5 : decode cX5_clear 5 = .ok (.if_icmp .ge 16, 3) := by decide +kernel
theorem dX5_clear_8 : decode cX5_clear 8 = .ok (.aload_n 0, 1) := by decide +kernel
theorem dX5_clear_9 : decode cX5_clear 9 = .ok (.getfield 16, 3) := by decide +kernel
theorem dX5_clear_12 : decode cX5_clear 12 = .ok (.iload_n 1, 1) := by decide +kernel
theorem dX5_clear_13 : decode cX5_clear 13 = .ok (.iconst 0, 1) := by decide +kernel
theorem dX5_clear_14 : decode cX5_clear 14 = .ok (.iastore, 1) := by decide +kernel
theorem dX5_clear_15 : decode cX5_clear 15 = .ok (.iinc 1 1, 3) := by decide +kernel
theorem dX5_clear_18 : decode cX5_clear 18 = .ok (.goto (-16), 3) := by decide +kernel
theorem dX5_clear_21 : decode cX5_clear 21 = .ok (.aload_n 0, 1) := by decide +kernel
theorem dX5_clear_22 : decode cX5_clear 22 = .ok (.iconst 0, 1) := by decide +kernel
theorem dX5_clear_23 : decode cX5_clear 23 = .ok (.putfield 44, 3) := by decide +kernel
theorem dX5_clear_26 : decode cX5_clear 26 = .ok (.aload_n 0, 1) := by decide +kernel
theorem dX5_clear_27 : decode cX5_clear 27 = .ok (.iconst 0, 1) := by decide +kernel
theorem dX5_clear_28 : decode cX5_clear 28 = .ok (.putfield 33, 3) := by decide +kernel
theorem dX5_clear_31 : decode cX5_clear 31 = .ok (.aload_n 0, 1) := by decide +kernel
theorem dX5_clear_32 : decode cX5_clear 32 = .ok (.iconst 0, 1) := by decide +kernel
theorem dX5_clear_33 : decode cX5_clear 33 = .ok (.invokevirtual 139, 3) := by decide +kernel
theorem dX5_clear_36 : decode cX5_clear 36 = .ok (.aload_n 0, 1) := by decide +kernel
theorem dX5_clear_37 : decode cX5_clear 37 = .ok (.iconst 0, 1) := by decide +kernel
theorem dX5_clear_38 : decode cX5_clear 38 = .ok (.putfield 157, 3) := by decide +kernel
theorem dX5_clear_41 : decode cX5_clear 41 = .ok (.aload_n 0, 1) := by decide +kernel
theorem dX5_clear_42 : decode cX5_clear 42 = .ok (.iconst 0, 1) := by decide +kernel
theorem dX5_clear_43 : decode cX5_clear 43 = .ok (.putfield 160, 3) := by decide +kernel
theorem dX5_clear_46 : decode cX5_clear 46 = .ok (.aload_n 0, 1) := by decide +kernel
theorem dX5_clear_47 : decode cX5_clear 47 = .ok (.getfield 22, 3) := by decide +kernel
theorem dX5_clear_50 : decode cX5_clear 50 = .ok (.iconst 0, 1) := by decide +kernel
theorem dX5_clear_51 : decode cX5_clear 51 = .ok (.iconst 0, 1) := by decide +kernel
theorem dX5_clear_52 : decode cX5_clear 52 = .ok (.iastore, 1) := by decide +kernel
theorem dX5_clear_53 : decode cX5_clear 53 = .ok (.aload_n 0, 1) := by decide +kernel
theorem dX5_clear_54 : decode cX5_clear 54 = .ok (.getfield 22, 3) := by decide +kernel
theorem dX5_clear_57 : decode cX5_clear 57 = .ok (.iconst 1, 1) := by decide +kernel
theorem dX5_clear_58 : decode cX5_clear 58 = .ok (.iconst 0, 1) := by decide +kernel
theorem dX5_clear_59 : decode cX5_clear 59 = .ok (.iastore, 1) := by decide +kernel
theorem dX5_clear_60 : decode cX5_clear 60 = .ok (.aload_n 0, 1) := by decide +kernel
theorem dX5_clear_61 : decode cX5_clear 61 = .ok (.iconst 0, 1) := by decide +kernel
theorem dX5_clear_62 : decode cX5_clear 62 = .ok (.putfield 148, 3) := by decide +kernel
theorem dX5_clear_65 : decode cX5_clear 65 = .ok (.aload_n 0, 1) := by decide +kernel
theorem dX5_clear_66 : decode cX5_clear 66 = .ok (.iconst 0, 1) := by decide +kernel
theorem dX5_clear_67 : decode cX5_clear 67 = .ok (.putfield 154, 3) := by decide +kernel
theorem dX5_clear_70 : decode cX5_clear 70 = .ok (.aload_n 0, 1) := by decide +kernel
theorem dX5_clear_71 : decode cX5_clear 71 = .ok (.iconst 0, 1) := by decide +kernel
theorem dX5_clear_72 : decode cX5_clear 72 = .ok (.putfield 151, 3) := by decide +kernel
theorem dX5_clear_75 : decode cX5_clear 75 = .ok (.aload_n 0, 1) := by decide +kernel
theorem dX5_clear_76 : decode cX5_clear 76 = .ok (.iconst 0, 1) := by decide +kernel
theorem dX5_clear_77 : decode cX5_clear 77 = .ok (.putfield 82, 3) := by decide +kernel
theorem dX5_clear_80 : decode cX5_clear 80 = .ok (.aload_n 0, 1) := by decide +kernel
theorem dX5_clear_81 : decode cX5_clear 81 = .ok (.iconst 0, 1) := by decide +kernel
theorem dX5_clear_82 : decode cX5_clear 82 = .ok (.putfield 166, 3) := by decide +kernel
theorem dX5_clear_85 : decode cX5_clear 85 = .ok (.aload_n 0, 1) := by decide +kernel
theorem dX5_clear_86 : decode cX5_clear 86 = .ok (.iconst 0, 1) := by decide +kernel
theorem dX5_clear_87 : decode cX5_clear 87 = .ok (.putfield 163, 3) := by decide +kernel
theorem dX5_clear_90 : decode cX5_clear 90 = .ok (.return_, 1) := by decide +kernel
set_option maxRecDepth 20000 in
theorem ggX5_worked_X5_push : GoodIn wsX5_worked wsX5_push := goodIn_r _ [11, 12, 13, 14, 15, 16, 10, 17, 18, 140, 141, 142, 143, 144, 145, 146, 147, 148, 149, 150, 151, 152, 153, 154, 155, 156, 157, 158, 159, 160, 161, 162, 163] (by decide +kernel) (by decide +kernel)
set_option maxRecDepth 20000 in
theorem gX5_worked_X5_push : GoodIn wsX5_worked (wsV RX5 136 RX5 yX5_push wsX5_push) := goodIn_app (goodIn_of _ (by decide +kernel)) ggX5_worked_X5_push
set_option maxRecDepth 20000 in
theorem ggX5_worked_X5_one : GoodIn wsX5_worked wsX5_one := goodIn_r _ [22, 3, 23, 24, 25, 10, 26, 4, 13, 27, 28, 29, 30, 18, 31, 32, 33, 34, 35, 36, 37, 38, 39, 40, 41, 42, 43, 44, 14, 15, 16, 17, 45, 46, 47, 48, 49, 50, 51, 52, 53, 54, 55, 56, 57, 58, 59, 60, 61, 62, 63, 64, 65, 12, 66, 67, 68, 69, 70, 71, 72, 73, 74, 75, 76, 77, 78, 79, 80, 81, 82, 83, 84, 85, 86, 87, 88, 89, 90, 91, 92, 93, 94, 95, 96, 97, 98, 99, 100, 101, 102, 103, 104, 105, 106, 107, 108, 109, 110, 111, 112, 113, 114, 115, 116, 117, 1, 6, 5, 118, 119, 120, 121, 122, 123, 124, 125, 126, 127, 128, 129, 130, 131, 132, 133, 134, 135, 7, 8, 9, 11, 136, 137, 138, 139, 140, 141, 142, 143, 144, 145, 146, 147, 148, 149, 150, 151, 152, 153, 154, 155, 156, 157, 158, 159, 160, 161, 162, 163] (by decide +kernel) (by decide +kernel)
set_option maxRecDepth 20000 in
theorem gX5_worked_X5_one : GoodIn wsX5_worked (wsV RX5 169 RX5 yX5_one wsX5_one) := goodIn_app (goodIn_of _ (by decide +kernel)) ggX5_worked_X5_one
theorem dX5_worked_0 : decode cX5_worked 0 = .ok (.aload_n 0, 1) := by decide +kernel
theorem dX5_worked_1 : decode cX5_worked 1 = .ok (.getfield 148, 3) := by decide +kernel
theorem dX5_worked_4 : decode cX5_worked 4 = .ok (.ifCond .eq 47, 3) := by decide +kernel
theorem dX5_worked_7 : decode cX5_worked 7 = .ok (.aload_n 0, 1) := by decide +kernel
theorem dX5_worked_8 : decode cX5_worked 8 = .ok (.getfield 166, 3) := by decide +kernel
theorem dX5_worked_11 : decode cX5_worked 11 = .ok (.ifCond .le 40, 3) := by decide +kernel
theorem dX5_worked_14 : decode cX5_worked 14 = .ok (.aload_n 0, 1) := by decide +kernel
theorem dX5_worked_15 : decode cX5_worked 15 = .ok (.iconst 0, 1) := by decide +kernel
theorem dX5_worked_16 : decode cX5_worked 16 = .ok (.putfield 148, 3) := by decide +kernel
theorem dX5_worked_19 : decode cX5_worked 19 = .ok (.aload_n 0, 1) := by decide +kernel
theorem dX5_worked_20 : decode cX5_worked 20 = .ok (.iconst 0, 1) := by decide +kernel
theorem dX5_worked_21 : decode cX5_worked 21 = .ok (.putfield 82, 3) := by decide +kernel
theorem dX5_worked_24 : decode cX5_worked 24 = .ok (.aload_n 0, 1) := by decide +kernel
theorem dX5_worked_25 : decode cX5_worked 25 = .ok (.aload_n 0, 1) := by decide +kernel
theorem dX5_worked_26 : decode cX5_worked 26 = .ok (.getfield 33, 3) := by decide +kernel
theorem dX5_worked_29 : decode cX5_worked 29 = .ok (.invokevirtual 136, 3) := by decide +kernel
theorem dX5_worked_32 : decode cX5_worked 32 = .ok (.aload_n 0, 1) := by decide +kernel
theorem dX5_worked_33 : decode cX5_worked 33 = .ok (.bipush 8, 2) := by decide +kernel
theorem dX5_worked_35 : decode cX5_worked 35 = .ok (.aload_n 0, 1) := by decide +kernel
theorem dX5_worked_36 : decode cX5_worked 36 = .ok (.getfield 166, 3) := by decide +kernel
theorem dX5_worked_39 : decode cX5_worked 39 = .ok (.imul, 1) := by decide +kernel
theorem dX5_worked_40 : decode cX5_worked 40 = .ok (.putfield 33, 3) := by decide +kernel
theorem dX5_worked_43 : decode cX5_worked 43 = .ok (.aload_n 0, 1) := by decide +kernel
theorem dX5_worked_44 : decode cX5_worked 44 = .ok (.iconst 0, 1) := by decide +kernel
theorem dX5_worked_45 : decode cX5_worked 45 = .ok (.putfield 166, 3) := by decide +kernel
theorem dX5_worked_48 : decode cX5_worked 48 = .ok (.bipush 11, 2) := by decide +kernel
theorem dX5_worked_50 : decode cX5_worked 50 = .ok (.ireturn, 1) := by decide +kernel
theorem dX5_worked_51 : decode cX5_worked 51 = .ok (.aload_n 0, 1) := by decide +kernel
theorem dX5_worked_52 : decode cX5_worked 52 = .ok (.getfield 82, 3) := by decide +kernel
theorem dX5_worked_55 : decode cX5_worked 55 = .ok (.ifCond .eq 5, 3) := by decide +kernel
theorem dX5_worked_58 : decode cX5_worked 58 = .ok (.iconst 1, 1) := by decide +kernel
theorem dX5_worked_59 : decode cX5_worked 59 = .ok (.ireturn, 1) := by decide +kernel
theorem dX5_worked_60 : decode cX5_worked 60 = .ok (.aload_n 0, 1) := by decide +kernel
theorem dX5_worked_61 : decode cX5_worked 61 = .ok (.aload_n 0, 1) := by decide +kernel
theorem dX5_worked_62 : decode cX5_worked 62 = .ok (.getfield 154, 3) := by decide +kernel
theorem dX5_worked_65 : decode cX5_worked 65 = .ok (.putfield 151, 3) := by decide +kernel
theorem dX5_worked_68 : decode cX5_worked 68 = .ok (.aload_n 0, 1) := by decide +kernel
theorem dX5_worked_69 : decode cX5_worked 69 = .ok (.iconst 0, 1) := by decide +kernel
theorem dX5_worked_70 : decode cX5_worked 70 = .ok (.putfield 154, 3) := by decide +kernel
theorem dX5_worked_73 : decode cX5_worked 73 = .ok (.aload_n 0, 1) := by decide +kernel
theorem dX5_worked_74 : decode cX5_worked 74 = .ok (.invokevirtual 169, 3) := by decide +kernel
theorem dX5_worked_77 : decode cX5_worked 77 = .ok (.istore_n 1, 1) := by decide +kernel
theorem dX5_worked_78 : decode cX5_worked 78 = .ok (.aload_n 0, 1) := by decide +kernel
theorem dX5_worked_79 : decode cX5_worked 79 = .ok (.aload_n 0, 1) := by decide +kernel
theorem dX5_worked_80 : decode cX5_worked 80 = .ok (.getfield 148, 3) := by decide +kernel
theorem dX5_worked_83 : decode cX5_worked 83 = .ok (.ifCond .ne 10, 3) := by decide +kernel
theorem dX5_worked_86 : decode cX5_worked 86 = .ok (.aload_n 0, 1) := by decide +kernel
theorem dX5_worked_87 : decode cX5_worked 87 = .ok (.getfield 151, 3) := by decide +kernel
theorem dX5_worked_90 : decode cX5_worked 90 = .ok (.ifCond .eq 7, 3) := by decide +kernel
theorem dX5_worked_93 : decode cX5_worked 93 = .ok (.iconst 1, 1) := by decide +kernel
theorem dX5_worked_94 : decode cX5_worked 94 = .ok (.goto 4, 3) := by decide +kernel
theorem dX5_worked_97 : decode cX5_worked 97 = .ok (.iconst 0, 1) := by decide +kernel
theorem dX5_worked_98 : decode cX5_worked 98 = .ok (.putfield 148, 3) := by decide +kernel
theorem dX5_worked_101 : decode cX5_worked 101 = .ok (.iload_n 1, 1) := by decide +kernel
theorem dX5_worked_102 : decode cX5_worked 102 = .ok (.ireturn, 1) := by decide +kernel
set_option maxRecDepth 20000 in
theorem ggX5_step_X5_worked : GoodIn wsX5_step wsX5_worked := goodIn_r _ [11, 12, 3, 13, 14, 15, 16, 17, 18, 19, 10, 20, 21, 22, 23, 24, 25, 26, 27, 28, 29, 30, 31, 32, 33, 34, 35, 36, 37, 38, 39, 40, 41, 42, 43, 44, 45, 46, 47, 48, 49, 50, 51, 52, 53, 54, 55, 56, 57, 58, 59, 60, 61, 62, 63, 64, 65, 66, 67, 68, 69, 70, 71, 72, 73, 74, 75, 76, 77, 78, 79, 80, 81, 82, 83, 84, 85, 86, 87, 88, 89, 90, 91, 92, 93, 94, 95, 96, 97, 98, 99, 100, 101, 102, 103, 104, 105, 106, 107, 108, 109, 110, 111, 112, 113, 114, 115, 116, 117, 118, 119, 120, 121, 122, 123, 124, 125, 126, 127, 128, 129, 130, 131, 132, 133, 134, 6, 135, 136, 137, 138, 139, 140, 141, 142, 143, 144, 145, 146, 147, 152, 153, 154, 155, 156, 157, 158, 159, 160, 161, 162, 163, 164, 165, 166, 167, 168, 169, 170, 171, 172, 173, 174, 175] (by decide +kernel) (by decide +kernel)
set_option maxRecDepth 20000 in
theorem gX5_step_X5_worked : GoodIn wsX5_step (wsV RX5 172 RX5 yX5_worked wsX5_worked) := goodIn_app (goodIn_of _ (by decide +kernel)) ggX5_step_X5_worked
set_option maxRecDepth 20000 in
theorem ggX5_step_X5_clear : GoodIn wsX5_step wsX5_clear := goodIn_r _ [151, 45, 21, 14, 134, 131, 133, 12, 15, 16, 13, 3, 6, 115, 116, 117, 10, 118, 64, 65, 59, 66, 58, 152, 153, 154, 155, 156, 157, 158, 159, 160, 161, 162, 163, 164, 165, 166, 167, 168, 169, 170, 171, 172, 173, 174, 175] (by decide +kernel) (by decide +kernel)
set_option maxRecDepth 20000 in
theorem gX5_step_X5_clear : GoodIn wsX5_step (wsV RX5 182 RX5 yX5_clear wsX5_clear) := goodIn_app (goodIn_of _ (by decide +kernel)) ggX5_step_X5_clear
theorem dX5_step_0 : decode cX5_step 0 = .ok (.aload_n 0, 1) := by decide +kernel
theorem dX5_step_1 : decode cX5_step 1 = .ok (.iconst 0, 1) := by decide +kernel
theorem dX5_step_2 : decode cX5_step 2 = .ok (.putfield 28, 3) := by decide +kernel
theorem dX5_step_5 : decode cX5_step 5 = .ok (.aload_n 0, 1) := by decide +kernel
theorem dX5_step_6 : decode cX5_step 6 = .ok (.invokevirtual 172, 3) := by decide +kernel
theorem dX5_step_9 : decode cX5_step 9 = .ok (.istore_n 1, 1) := by decide +kernel
theorem dX5_step_10 : decode cX5_step 10 = .ok (.aload_n 0, 1) := by decide +kernel
theorem dX5_step_11 : decode cX5_step 11 = .ok (.getfield 175, 3) := by decide +kernel
theorem dX5_step_14 : decode cX5_step 14 = .ok (.istore_n 2, 1) := by decide +kernel
theorem dX5_step_15 : decode cX5_step 15 = .ok (.aload_n 0, 1) := by decide +kernel
theorem dX5_step_16 : decode cX5_step 16 = .ok (.dup, 1) := by decide +kernel
theorem dX5_step_17 : decode cX5_step 17 = .ok (.getfield 175, 3) := by decide +kernel
theorem dX5_step_20 : decode cX5_step 20 = .ok (.iload_n 1, 1) := by decide +kernel
theorem dX5_step_21 : decode cX5_step 21 = .ok (.iadd, 1) := by decide +kernel
theorem dX5_step_22 : decode cX5_step 22 = .ok (.putfield 175, 3) := by decide +kernel
theorem dX5_step_25 : decode cX5_step 25 = .ok (.iload_n 2, 1) := by decide +kernel
theorem dX5_step_26 : decode cX5_step 26 = .ok (.sipush 16667, 3) := by decide +kernel
theorem dX5_step_29 : decode cX5_step 29 = .ok (.if_icmp .ge 18, 3) := by decide +kernel
theorem dX5_step_32 : decode cX5_step 32 = .ok (.aload_n 0, 1) := by decide +kernel
theorem dX5_step_33 : decode cX5_step 33 = .ok (.getfield 175, 3) := by decide +kernel
theorem dX5_step_36 : decode cX5_step 36 = .ok (.sipush 16667, 3) := by decide +kernel
theorem dX5_step_39 : decode cX5_step 39 = .ok (.if_icmp .lt 8, 3) := by decide +kernel
theorem dX5_step_42 : decode cX5_step 42 = .ok (.aload_n 0, 1) := by decide +kernel
theorem dX5_step_43 : decode cX5_step 43 = .ok (.iconst 1, 1) := by decide +kernel
theorem dX5_step_44 : decode cX5_step 44 = .ok (.putfield 166, 3) := by decide +kernel
theorem dX5_step_47 : decode cX5_step 47 = .ok (.aload_n 0, 1) := by decide +kernel
theorem dX5_step_48 : decode cX5_step 48 = .ok (.getfield 175, 3) := by decide +kernel
theorem dX5_step_51 : decode cX5_step 51 = .ok (.ldc 178, 2) := by decide +kernel
theorem dX5_step_53 : decode cX5_step 53 = .ok (.if_icmp .lt 52, 3) := by decide +kernel
theorem dX5_step_56 : decode cX5_step 56 = .ok (.aload_n 0, 1) := by decide +kernel
theorem dX5_step_57 : decode cX5_step 57 = .ok (.dup, 1) := by decide +kernel
theorem dX5_step_58 : decode cX5_step 58 = .ok (.getfield 175, 3) := by decide +kernel
theorem dX5_step_61 : decode cX5_step 61 = .ok (.ldc 178, 2) := by decide +kernel
theorem dX5_step_63 : decode cX5_step 63 = .ok (.isub, 1) := by decide +kernel
theorem dX5_step_64 : decode cX5_step 64 = .ok (.putfield 175, 3) := by decide +kernel
theorem dX5_step_67 : decode cX5_step 67 = .ok (.aload_n 0, 1) := by decide +kernel
theorem dX5_step_68 : decode cX5_step 68 = .ok (.dup, 1) := by decide +kernel
theorem dX5_step_69 : decode cX5_step 69 = .ok (.getfield 179, 3) := by decide +kernel
theorem dX5_step_72 : decode cX5_step 72 = .ok (.iconst 1, 1) := by decide +kernel
theorem dX5_step_73 : decode cX5_step 73 = .ok (.iadd, 1) := by decide +kernel
theorem dX5_step_74 : decode cX5_step 74 = .ok (.putfield 179, 3) := by decide +kernel
theorem dX5_step_77 : decode cX5_step 77 = .ok (.aload_n 0, 1) := by decide +kernel
theorem dX5_step_78 : decode cX5_step 78 = .ok (.dup, 1) := by decide +kernel
theorem dX5_step_79 : decode cX5_step 79 = .ok (.getfield 163, 3) := by decide +kernel
theorem dX5_step_82 : decode cX5_step 82 = .ok (.iconst 1, 1) := by decide +kernel
theorem dX5_step_83 : decode cX5_step 83 = .ok (.iadd, 1) := by decide +kernel
theorem dX5_step_84 : decode cX5_step 84 = .ok (.putfield 163, 3) := by decide +kernel
theorem dX5_step_87 : decode cX5_step 87 = .ok (.aload_n 0, 1) := by decide +kernel
theorem dX5_step_88 : decode cX5_step 88 = .ok (.iconst 2, 1) := by decide +kernel
theorem dX5_step_89 : decode cX5_step 89 = .ok (.putfield 166, 3) := by decide +kernel
theorem dX5_step_92 : decode cX5_step 92 = .ok (.aload_n 0, 1) := by decide +kernel
theorem dX5_step_93 : decode cX5_step 93 = .ok (.getfield 163, 3) := by decide +kernel
theorem dX5_step_96 : decode cX5_step 96 = .ok (.bipush 16, 2) := by decide +kernel
theorem dX5_step_98 : decode cX5_step 98 = .ok (.if_icmp .ne 7, 3) := by decide +kernel
theorem dX5_step_101 : decode cX5_step 101 = .ok (.aload_n 0, 1) := by decide +kernel
theorem dX5_step_102 : decode cX5_step 102 = .ok (.invokevirtual 182, 3) := by decide +kernel
theorem dX5_step_105 : decode cX5_step 105 = .ok (.iload_n 1, 1) := by decide +kernel
theorem dX5_step_106 : decode cX5_step 106 = .ok (.ireturn, 1) := by decide +kernel
set_option maxRecDepth 20000 in
theorem ggX5_run_X5_step : GoodIn wsX5_run wsX5_step := goodIn_r _ [7, 2, 8, 9, 10, 11, 12, 13, 14, 15, 6, 16, 17, 18, 19, 20, 21, 22, 23, 24, 25, 26, 27, 28, 29, 30, 31, 32, 33, 34, 35, 36, 37, 38, 39, 40, 41, 42, 43, 44, 45, 46, 47, 48, 49, 50, 51, 52, 53, 54, 55, 56, 57, 58, 59, 60, 61, 62, 63, 64, 65, 66, 67, 68, 69, 70, 71, 72, 73, 74, 75, 76, 77, 78, 79, 80, 81, 82, 83, 84, 85, 86, 87, 88, 89, 90, 91, 92, 93, 94, 95, 96, 97, 98, 99, 100, 101, 102, 103, 104, 105, 106, 107, 108, 109, 110, 111, 112, 113, 114, 115, 116, 117, 118, 119, 120, 121, 122, 123, 124, 125, 126, 127, 128, 129, 130, 131, 132, 133, 134, 135, 136, 137, 138, 139, 140, 141, 142, 143, 144, 145, 146, 147, 148, 149, 150, 151, 152, 153, 154, 155, 156, 157, 158, 159, 160, 161, 162, 163, 164, 165, 166, 167, 168, 169, 170, 171, 172, 173, 174, 175, 176, 177, 178, 179, 180] (by decide +kernel) (by decide +kernel)
set_option maxRecDepth 20000 in
theorem gX5_run_X5_step : GoodIn wsX5_run (wsV RX5 186 RX5 yX5_step wsX5_step) := goodIn_app (goodIn_of _ (by decide +kernel)) ggX5_run_X5_step
theorem dX5_run_0 : decode cX5_run 0 = .ok (.aload_n 0, 1) := by decide +kernel
theorem dX5_run_1 : decode cX5_run 1 = .ok (.iload_n 1, 1) := by decide +kernel
theorem dX5_run_2 : decode cX5_run 2 = .ok (.iconst 1, 1) := by decide +kernel
theorem dX5_run_3 : decode cX5_run 3 = .ok (.if_icmp .lt 9, 3) := by decide +kernel
theorem dX5_run_6 : decode cX5_run 6 = .ok (.iload_n 1, 1) := by decide +kernel
theorem dX5_run_7 : decode cX5_run 7 = .ok (.ldc 185, 2) := by decide +kernel
theorem dX5_run_9 : decode cX5_run 9 = .ok (.if_icmp .le 7, 3) := by decide +kernel
theorem dX5_run_12 : decode cX5_run 12 = .ok (.iconst 1, 1) := by decide +kernel
theorem dX5_run_13 : decode cX5_run 13 = .ok (.goto 4, 3) := by decide +kernel
theorem dX5_run_16 : decode cX5_run 16 = .ok (.iconst 0, 1) := by decide +kernel
theorem dX5_run_17 : decode cX5_run 17 = .ok (.putfield 28, 3) := by decide +kernel
theorem dX5_run_20 : decode cX5_run 20 = .ok (.aload_n 0, 1) := by decide +kernel
theorem dX5_run_21 : decode cX5_run 21 = .ok (.getfield 28, 3) := by decide +kernel
theorem dX5_run_24 : decode cX5_run 24 = .ok (.ifCond .le 5, 3) := by decide +kernel
theorem dX5_run_27 : decode cX5_run 27 = .ok (.iconst 0, 1) := by decide +kernel
theorem dX5_run_28 : decode cX5_run 28 = .ok (.ireturn, 1) := by decide +kernel
theorem dX5_run_29 : decode cX5_run 29 = .ok (.iconst 0, 1) := by decide +kernel
theorem dX5_run_30 : decode cX5_run 30 = .ok (.istore_n 2, 1) := by decide +kernel
theorem dX5_run_31 : decode cX5_run 31 = .ok (.iload_n 2, 1) := by decide +kernel
theorem dX5_run_32 : decode cX5_run 32 = .ok (.iload_n 1, 1) := by decide +kernel
theorem dX5_run_33 : decode cX5_run 33 = .ok (.if_icmp .ge 13, 3) := by decide +kernel
theorem dX5_run_36 : decode cX5_run 36 = .ok (.iload_n 2, 1) := by decide +kernel
theorem dX5_run_37 : decode cX5_run 37 = .ok (.aload_n 0, 1) := by decide +kernel
theorem dX5_run_38 : decode cX5_run 38 = .ok (.invokevirtual 186, 3) := by decide +kernel
theorem dX5_run_41 : decode cX5_run 41 = .ok (.iadd, 1) := by decide +kernel
theorem dX5_run_42 : decode cX5_run 42 = .ok (.istore_n 2, 1) := by decide +kernel
theorem dX5_run_43 : decode cX5_run 43 = .ok (.goto (-12), 3) := by decide +kernel
theorem dX5_run_46 : decode cX5_run 46 = .ok (.iload_n 2, 1) := by decide +kernel
theorem dX5_run_47 : decode cX5_run 47 = .ok (.ireturn, 1) := by decide +kernel
set_option maxRecDepth 20000 in
theorem ggX5_reset_X5_clear : GoodIn wsX5_reset wsX5_clear := goodIn_r _ [7, 8, 9, 10, 11, 12, 13, 14, 15, 16, 17, 18, 19, 20, 21, 22, 6, 23, 24, 25, 26, 27, 28, 29, 30, 31, 32, 33, 34, 35, 36, 37, 38, 39, 40, 41, 42, 43, 44, 45, 46, 47, 48, 49, 50, 51, 52] (by decide +kernel) (by decide +kernel)
set_option maxRecDepth 20000 in
theorem gX5_reset_X5_clear : GoodIn wsX5_reset (wsV RX5 182 RX5 yX5_clear wsX5_clear) := goodIn_app (goodIn_of _ (by decide +kernel)) ggX5_reset_X5_clear
theorem dX5_reset_0 : decode cX5_reset 0 = .ok (.aload_n 0, 1) := by decide +kernel
theorem dX5_reset_1 : decode cX5_reset 1 = .ok (.iconst 0, 1) := by decide +kernel
theorem dX5_reset_2 : decode cX5_reset 2 = .ok (.putfield 28, 3) := by decide +kernel
theorem dX5_reset_5 : decode cX5_reset 5 = .ok (.aload_n 0, 1) := by decide +kernel
theorem dX5_reset_6 : decode cX5_reset 6 = .ok (.invokevirtual 182, 3) := by decide +kernel
theorem dX5_reset_9 : decode cX5_reset 9 = .ok (.aload_n 0, 1) := by decide +kernel
theorem dX5_reset_10 : decode cX5_reset 10 = .ok (.iconst 0, 1) := by decide +kernel
theorem dX5_reset_11 : decode cX5_reset 11 = .ok (.putfield 175, 3) := by decide +kernel
theorem dX5_reset_14 : decode cX5_reset 14 = .ok (.return_, 1) := by decide +kernel
theorem dX5_load_0 : decode cX5_load 0 = .ok (.aload_n 0, 1) := by decide +kernel
theorem dX5_load_1 : decode cX5_load 1 = .ok (.iload_n 3, 1) := by decide +kernel
theorem dX5_load_2 : decode cX5_load 2 = .ok (.iconst 1, 1) := by decide +kernel
theorem dX5_load_3 : decode cX5_load 3 = .ok (.if_icmp .lt 21, 3) := by decide +kernel
theorem dX5_load_6 : decode cX5_load 6 = .ok (.iload_n 3, 1) := by decide +kernel
theorem dX5_load_7 : decode cX5_load 7 = .ok (.iconst 4, 1) := by decide +kernel
theorem dX5_load_8 : decode cX5_load 8 = .ok (.if_icmp .gt 16, 3) := by decide +kernel
theorem dX5_load_11 : decode cX5_load 11 = .ok (.iload_n 1, 1) := by decide +kernel
theorem dX5_load_12 : decode cX5_load 12 = .ok (.ifCond .lt 12, 3) := by decide +kernel
theorem dX5_load_15 : decode cX5_load 15 = .ok (.iload_n 1, 1) := by decide +kernel
theorem dX5_load_16 : decode cX5_load 16 = .ok (.sipush 2048, 3) := by decide +kernel
theorem dX5_load_19 : decode cX5_load 19 = .ok (.iload_n 3, 1) := by decide +kernel
theorem dX5_load_20 : decode cX5_load 20 = .ok (.isub, 1) := by decide +kernel
theorem dX5_load_21 : decode cX5_load 21 = .ok (.if_icmp .le 7, 3) := by decide +kernel
theorem dX5_load_24 : decode cX5_load 24 = .ok (.iconst 1, 1) := by decide +kernel
theorem dX5_load_25 : decode cX5_load 25 = .ok (.goto 4, 3) := by decide +kernel
theorem dX5_load_28 : decode cX5_load 28 = .ok (.iconst 0, 1) := by decide +kernel
theorem dX5_load_29 : decode cX5_load 29 = .ok (.putfield 28, 3) := by decide +kernel
theorem dX5_load_32 : decode cX5_load 32 = .ok (.aload_n 0, 1) := by decide +kernel
theorem dX5_load_33 : decode cX5_load 33 = .ok (.getfield 28, 3) := by decide +kernel
theorem dX5_load_36 : decode cX5_load 36 = .ok (.ifCond .le 5, 3) := by decide +kernel
theorem dX5_load_39 : decode cX5_load 39 = .ok (.iconst 0, 1) := by decide +kernel
theorem dX5_load_40 : decode cX5_load 40 = .ok (.ireturn, 1) := by decide +kernel
theorem dX5_load_41 : decode cX5_load 41 = .ok (.iconst 0, 1) := by decide +kernel
theorem dX5_load_42 : decode cX5_load 42 = .ok (.istore 4, 2) := by decide +kernel
theorem dX5_load_44 : decode cX5_load 44 = .ok (.iload 4, 2) := by decide +kernel
theorem dX5_load_46 : decode cX5_load 46 = .ok (.iload_n 3, 1) := by decide +kernel
theorem dX5_load_47 : decode cX5_load 47 = .ok (.if_icmp .ge 33, 3) := by decide +kernel
theorem dX5_load_50 : decode cX5_load 50 = .ok (.aload_n 0, 1) := by decide +kernel
theorem dX5_load_51 : decode cX5_load 51 = .ok (.getfield 7, 3) := by decide +kernel
theorem dX5_load_54 : decode cX5_load 54 = .ok (.iload_n 1, 1) := by decide +kernel
theorem dX5_load_55 : decode cX5_load 55 = .ok (.iload 4, 2) := by decide +kernel
theorem dX5_load_57 : decode cX5_load 57 = .ok (.iadd, 1) := by decide +kernel
theorem dX5_load_58 : decode cX5_load 58 = .ok (.iload_n 2, 1) := by decide +kernel
theorem dX5_load_59 : decode cX5_load 59 = .ok (.bipush 8, 2) := by decide +kernel
theorem dX5_load_61 : decode cX5_load 61 = .ok (.iload_n 3, 1) := by decide +kernel
theorem dX5_load_62 : decode cX5_load 62 = .ok (.iconst 1, 1) := by decide +kernel
theorem dX5_load_63 : decode cX5_load 63 = .ok (.isub, 1) := by decide +kernel
theorem dX5_load_64 : decode cX5_load 64 = .ok (.iload 4, 2) := by decide +kernel
theorem dX5_load_66 : decode cX5_load 66 = .ok (.isub, 1) := by decide +kernel
theorem dX5_load_67 : decode cX5_load 67 = .ok (.imul, 1) := by decide +kernel
theorem dX5_load_68 : decode cX5_load 68 = .ok (.ishr, 1) := by decide +kernel
theorem dX5_load_69 : decode cX5_load 69 = .ok (.sipush 255, 3) := by decide +kernel
theorem dX5_load_72 : decode cX5_load 72 = .ok (.iand, 1) := by decide +kernel
theorem dX5_load_73 : decode cX5_load 73 = .ok (.iastore, 1) := by decide +kernel
theorem dX5_load_74 : decode cX5_load 74 = .ok (.iinc 4 1, 3) := by decide +kernel
theorem dX5_load_77 : decode cX5_load 77 = .ok (.goto (-33), 3) := by decide +kernel
theorem dX5_load_80 : decode cX5_load 80 = .ok (.iload_n 1, 1) := by decide +kernel
theorem dX5_load_81 : decode cX5_load 81 = .ok (.iload_n 3, 1) := by decide +kernel
theorem dX5_load_82 : decode cX5_load 82 = .ok (.iadd, 1) := by decide +kernel
theorem dX5_load_83 : decode cX5_load 83 = .ok (.ireturn, 1) := by decide +kernel
theorem dX5_input_0 : decode cX5_input 0 = .ok (.aload_n 0, 1) := by decide +kernel
theorem dX5_input_1 : decode cX5_input 1 = .ok (.iload_n 1, 1) := by decide +kernel
theorem dX5_input_2 : decode cX5_input 2 = .ok (.ifCond .lt 8, 3) := by decide +kernel
theorem dX5_input_5 : decode cX5_input 5 = .ok (.iload_n 1, 1) := by decide +kernel
theorem dX5_input_6 : decode cX5_input 6 = .ok (.iconst 2, 1) := by decide +kernel
theorem dX5_input_7 : decode cX5_input 7 = .ok (.if_icmp .le 7, 3) := by decide +kernel
theorem dX5_input_10 : decode cX5_input 10 = .ok (.iconst 1, 1) := by decide +kernel
theorem dX5_input_11 : decode cX5_input 11 = .ok (.goto 4, 3) := by decide +kernel
theorem dX5_input_14 : decode cX5_input 14 = .ok (.iconst 0, 1) := by decide +kernel
theorem dX5_input_15 : decode cX5_input 15 = .ok (.putfield 28, 3) := by decide +kernel
theorem dX5_input_18 : decode cX5_input 18 = .ok (.aload_n 0, 1) := by decide +kernel
theorem dX5_input_19 : decode cX5_input 19 = .ok (.getfield 28, 3) := by decide +kernel
theorem dX5_input_22 : decode cX5_input 22 = .ok (.ifCond .ne 14, 3) := by decide +kernel
theorem dX5_input_25 : decode cX5_input 25 = .ok (.aload_n 0, 1) := by decide +kernel
theorem dX5_input_26 : decode cX5_input 26 = .ok (.getfield 19, 3) := by decide +kernel
theorem dX5_input_29 : decode cX5_input 29 = .ok (.iload_n 1, 1) := by decide +kernel
theorem dX5_input_30 : decode cX5_input 30 = .ok (.iload_n 2, 1) := by decide +kernel
theorem dX5_input_31 : decode cX5_input 31 = .ok (.sipush 255, 3) := by decide +kernel
theorem dX5_input_34 : decode cX5_input 34 = .ok (.iand, 1) := by decide +kernel
theorem dX5_input_35 : decode cX5_input 35 = .ok (.iastore, 1) := by decide +kernel
theorem dX5_input_36 : decode cX5_input 36 = .ok (.return_, 1) := by decide +kernel
set_option maxRecDepth 20000 in
theorem ggX5_register_X5_flags : GoodIn wsX5_register wsX5_flags := goodIn_r _ [11, 12, 13, 14, 15, 16, 17, 18, 19, 20, 21, 22, 23, 24, 25, 26, 27, 28, 29, 30, 31, 32, 33, 34, 35, 36, 37, 38, 39, 40] (by decide +kernel) (by decide +kernel)
set_option maxRecDepth 20000 in
theorem gX5_register_X5_flags : GoodIn wsX5_register (wsV RX5 133 RX5 yX5_flags wsX5_flags) := goodIn_app (goodIn_of _ (by decide +kernel)) ggX5_register_X5_flags
theorem dX5_register_0 : decode cX5_register 0 = .ok (.aload_n 0, 1) := by decide +kernel
theorem dX5_register_1 : decode cX5_register 1 = .ok (.iload_n 1, 1) := by decide +kernel
theorem dX5_register_2 : decode cX5_register 2 = .ok (.ifCond .lt 9, 3) := by decide +kernel
theorem dX5_register_5 : decode cX5_register 5 = .ok (.iload_n 1, 1) := by decide +kernel
theorem dX5_register_6 : decode cX5_register 6 = .ok (.bipush 11, 2) := by decide +kernel
theorem dX5_register_8 : decode cX5_register 8 = .ok (.if_icmp .le 7, 3) := by decide +kernel
theorem dX5_register_11 : decode cX5_register 11 = .ok (.iconst 1, 1) := by decide +kernel
theorem dX5_register_12 : decode cX5_register 12 = .ok (.goto 4, 3) := by decide +kernel
theorem dX5_register_15 : decode cX5_register 15 = .ok (.iconst 0, 1) := by decide +kernel
theorem dX5_register_16 : decode cX5_register 16 = .ok (.putfield 28, 3) := by decide +kernel
theorem dX5_register_19 : decode cX5_register 19 = .ok (.aload_n 0, 1) := by decide +kernel
theorem dX5_register_20 : decode cX5_register 20 = .ok (.getfield 28, 3) := by decide +kernel
theorem dX5_register_23 : decode cX5_register 23 = .ok (.ifCond .le 5, 3) := by decide +kernel
theorem dX5_register_26 : decode cX5_register 26 = .ok (.iconst 0, 1) := by decide +kernel
theorem dX5_register_27 : decode cX5_register 27 = .ok (.ireturn, 1) := by decide +kernel
theorem dX5_register_28 : decode cX5_register 28 = .ok (.iload_n 1, 1) := by decide +kernel
theorem dX5_register_29 : decode cX5_register 29 = .ok (.bipush 6, 2) := by decide +kernel
theorem dX5_register_31 : decode cX5_register 31 = .ok (.if_icmp .ne 8, 3) := by decide +kernel
theorem dX5_register_34 : decode cX5_register 34 = .ok (.aload_n 0, 1) := by decide +kernel
theorem dX5_register_35 : decode cX5_register 35 = .ok (.invokevirtual 133, 3) := by decide +kernel
theorem dX5_register_38 : decode cX5_register 38 = .ok (.ireturn, 1) := by decide +kernel
theorem dX5_register_39 : decode cX5_register 39 = .ok (.iload_n 1, 1) := by decide +kernel
theorem dX5_register_40 : decode cX5_register 40 = .ok (.bipush 8, 2) := by decide +kernel
theorem dX5_register_42 : decode cX5_register 42 = .ok (.if_icmp .ge 10, 3) := by decide +kernel
theorem dX5_register_45 : decode cX5_register 45 = .ok (.aload_n 0, 1) := by decide +kernel
theorem dX5_register_46 : decode cX5_register 46 = .ok (.getfield 16, 3) := by decide +kernel
theorem dX5_register_49 : decode cX5_register 49 = .ok (.iload_n 1, 1) := by decide +kernel
theorem dX5_register_50 : decode cX5_register 50 = .ok (.iaload, 1) := by decide +kernel
theorem dX5_register_51 : decode cX5_register 51 = .ok (.ireturn, 1) := by decide +kernel
theorem dX5_register_52 : decode cX5_register 52 = .ok (.iload_n 1, 1) := by decide +kernel
theorem dX5_register_53 : decode cX5_register 53 = .ok (.bipush 8, 2) := by decide +kernel
theorem dX5_register_55 : decode cX5_register 55 = .ok (.if_icmp .ne 10, 3) := by decide +kernel
theorem dX5_register_58 : decode cX5_register 58 = .ok (.aload_n 0, 1) := by decide +kernel
theorem dX5_register_59 : decode cX5_register 59 = .ok (.getfield 44, 3) := by decide +kernel
theorem dX5_register_62 : decode cX5_register 62 = .ok (.goto 49, 3) := by decide +kernel
theorem dX5_register_65 : decode cX5_register 65 = .ok (.iload_n 1, 1) := by decide +kernel
theorem dX5_register_66 : decode cX5_register 66 = .ok (.bipush 9, 2) := by decide +kernel
theorem dX5_register_68 : decode cX5_register 68 = .ok (.if_icmp .ne 10, 3) := by decide +kernel
theorem dX5_register_71 : decode cX5_register 71 = .ok (.aload_n 0, 1) := by decide +kernel
theorem dX5_register_72 : decode cX5_register 72 = .ok (.getfield 33, 3) := by decide +kernel
theorem dX5_register_75 : decode cX5_register 75 = .ok (.goto 36, 3) := by decide +kernel
theorem dX5_register_78 : decode cX5_register 78 = .ok (.iload_n 1, 1) := by decide +kernel
theorem dX5_register_79 : decode cX5_register 79 = .ok (.bipush 10, 2) := by decide +kernel
theorem dX5_register_81 : decode cX5_register 81 = .ok (.if_icmp .ne 18, 3) := by decide +kernel
theorem dX5_register_84 : decode cX5_register 84 = .ok (.aload_n 0, 1) := by decide +kernel
theorem dX5_register_85 : decode cX5_register 85 = .ok (.getfield 148, 3) := by decide +kernel
theorem dX5_register_88 : decode cX5_register 88 = .ok (.ifCond .eq 7, 3) := by decide +kernel
theorem dX5_register_91 : decode cX5_register 91 = .ok (.iconst 1, 1) := by decide +kernel
theorem dX5_register_92 : decode cX5_register 92 = .ok (.goto 19, 3) := by decide +kernel
theorem dX5_register_95 : decode cX5_register 95 = .ok (.iconst 0, 1) := by decide +kernel
theorem dX5_register_96 : decode cX5_register 96 = .ok (.goto 15, 3) := by decide +kernel
theorem dX5_register_99 : decode cX5_register 99 = .ok (.aload_n 0, 1) := by decide +kernel
theorem dX5_register_100 : decode cX5_register 100 = .ok (.getfield 82, 3) := by decide +kernel
theorem dX5_register_103 : decode cX5_register 103 = .ok (.ifCond .eq 7, 3) := by decide +kernel
theorem dX5_register_106 : decode cX5_register 106 = .ok (.iconst 1, 1) := by decide +kernel
theorem dX5_register_107 : decode cX5_register 107 = .ok (.goto 4, 3) := by decide +kernel
theorem dX5_register_110 : decode cX5_register 110 = .ok (.iconst 0, 1) := by decide +kernel
theorem dX5_register_111 : decode cX5_register 111 = .ok (.ireturn, 1) := by decide +kernel
set_option maxRecDepth 20000 in
theorem ggX5_memory_X5_read : GoodIn wsX5_memory wsX5_read := goodIn_r _ [6, 7, 8, 9, 10, 11, 12, 13, 14, 15, 16, 17, 18, 19, 20, 21, 22, 23, 24, 25, 26, 27, 28, 29, 30, 31, 32, 33] (by decide +kernel) (by decide +kernel)
set_option maxRecDepth 20000 in
theorem gX5_memory_X5_read : GoodIn wsX5_memory (wsV RX5 36 RX5 yX5_read wsX5_read) := goodIn_app (goodIn_of _ (by decide +kernel)) ggX5_memory_X5_read
theorem dX5_memory_0 : decode cX5_memory 0 = .ok (.aload_n 0, 1) := by decide +kernel
theorem dX5_memory_1 : decode cX5_memory 1 = .ok (.iconst 0, 1) := by decide +kernel
theorem dX5_memory_2 : decode cX5_memory 2 = .ok (.putfield 28, 3) := by decide +kernel
theorem dX5_memory_5 : decode cX5_memory 5 = .ok (.aload_n 0, 1) := by decide +kernel
theorem dX5_memory_6 : decode cX5_memory 6 = .ok (.iload_n 1, 1) := by decide +kernel
theorem dX5_memory_7 : decode cX5_memory 7 = .ok (.invokevirtual 36, 3) := by decide +kernel
theorem dX5_memory_10 : decode cX5_memory 10 = .ok (.ireturn, 1) := by decide +kernel
set_option maxRecDepth 20000 in
theorem ggX5_poke_X5_write : GoodIn wsX5_poke wsX5_write := goodIn_r _ [6, 7, 14, 15, 16, 17, 18, 19, 20, 21, 22, 23, 24, 25, 26, 27, 28, 29, 30, 31, 32, 33, 34, 35, 36, 37] (by decide +kernel) (by decide +kernel)
set_option maxRecDepth 20000 in
theorem gX5_poke_X5_write : GoodIn wsX5_poke (wsV RX5 47 RX5 yX5_write wsX5_write) := goodIn_app (goodIn_of _ (by decide +kernel)) ggX5_poke_X5_write
set_option maxRecDepth 20000 in
theorem ggX5_poke_X5_read : GoodIn wsX5_poke wsX5_read := goodIn_r _ [11, 12, 7, 13, 14, 15, 16, 17, 18, 19, 20, 21, 22, 23, 24, 25, 26, 27, 28, 29, 30, 31, 32, 33, 34, 35, 36, 37] (by decide +kernel) (by decide +kernel)
set_option maxRecDepth 20000 in
theorem gX5_poke_X5_read : GoodIn wsX5_poke (wsV RX5 36 RX5 yX5_read wsX5_read) := goodIn_app (goodIn_of _ (by decide +kernel)) ggX5_poke_X5_read
theorem dX5_poke_0 : decode cX5_poke 0 = .ok (.aload_n 0, 1) := by decide +kernel
theorem dX5_poke_1 : decode cX5_poke 1 = .ok (.iconst 0, 1) := by decide +kernel
theorem dX5_poke_2 : decode cX5_poke 2 = .ok (.putfield 28, 3) := by decide +kernel
theorem dX5_poke_5 : decode cX5_poke 5 = .ok (.aload_n 0, 1) := by decide +kernel
theorem dX5_poke_6 : decode cX5_poke 6 = .ok (.iload_n 1, 1) := by decide +kernel
theorem dX5_poke_7 : decode cX5_poke 7 = .ok (.iload_n 2, 1) := by decide +kernel
theorem dX5_poke_8 : decode cX5_poke 8 = .ok (.invokevirtual 47, 3) := by decide +kernel
theorem dX5_poke_11 : decode cX5_poke 11 = .ok (.aload_n 0, 1) := by decide +kernel
theorem dX5_poke_12 : decode cX5_poke 12 = .ok (.iload_n 1, 1) := by decide +kernel
theorem dX5_poke_13 : decode cX5_poke 13 = .ok (.invokevirtual 36, 3) := by decide +kernel
theorem dX5_poke_16 : decode cX5_poke 16 = .ok (.ireturn, 1) := by decide +kernel
theorem dX5_bit_0 : decode cX5_bit 0 = .ok (.aload_n 0, 1) := by decide +kernel
theorem dX5_bit_1 : decode cX5_bit 1 = .ok (.getfield 13, 3) := by decide +kernel
theorem dX5_bit_4 : decode cX5_bit 4 = .ok (.sipush 1024, 3) := by decide +kernel
theorem dX5_bit_7 : decode cX5_bit 7 = .ok (.bipush 32, 2) := by decide +kernel
theorem dX5_bit_9 : decode cX5_bit 9 = .ok (.iload_n 1, 1) := by decide +kernel
theorem dX5_bit_10 : decode cX5_bit 10 = .ok (.imul, 1) := by decide +kernel
theorem dX5_bit_11 : decode cX5_bit 11 = .ok (.iadd, 1) := by decide +kernel
theorem dX5_bit_12 : decode cX5_bit 12 = .ok (.sipush 255, 3) := by decide +kernel
theorem dX5_bit_15 : decode cX5_bit 15 = .ok (.iload_n 2, 1) := by decide +kernel
theorem dX5_bit_16 : decode cX5_bit 16 = .ok (.isub, 1) := by decide +kernel
theorem dX5_bit_17 : decode cX5_bit 17 = .ok (.bipush 8, 2) := by decide +kernel
theorem dX5_bit_19 : decode cX5_bit 19 = .ok (.idiv, 1) := by decide +kernel
theorem dX5_bit_20 : decode cX5_bit 20 = .ok (.iadd, 1) := by decide +kernel
theorem dX5_bit_21 : decode cX5_bit 21 = .ok (.iaload, 1) := by decide +kernel
theorem dX5_bit_22 : decode cX5_bit 22 = .ok (.sipush 255, 3) := by decide +kernel
theorem dX5_bit_25 : decode cX5_bit 25 = .ok (.iload_n 2, 1) := by decide +kernel
theorem dX5_bit_26 : decode cX5_bit 26 = .ok (.isub, 1) := by decide +kernel
theorem dX5_bit_27 : decode cX5_bit 27 = .ok (.bipush 8, 2) := by decide +kernel
theorem dX5_bit_29 : decode cX5_bit 29 = .ok (.irem, 1) := by decide +kernel
theorem dX5_bit_30 : decode cX5_bit 30 = .ok (.ishr, 1) := by decide +kernel
theorem dX5_bit_31 : decode cX5_bit 31 = .ok (.iconst 1, 1) := by decide +kernel
theorem dX5_bit_32 : decode cX5_bit 32 = .ok (.iand, 1) := by decide +kernel
theorem dX5_bit_33 : decode cX5_bit 33 = .ok (.ireturn, 1) := by decide +kernel
set_option maxRecDepth 20000 in
theorem ggX5_dot_X5_bit : GoodIn wsX5_dot wsX5_bit := goodIn_r _ [6, 7, 8, 9, 10, 11, 12, 13, 14, 15, 16, 17, 18, 19, 20, 21, 22, 23, 24, 25, 26, 27, 28, 29, 30, 31] (by decide +kernel) (by decide +kernel)
set_option maxRecDepth 20000 in
theorem gX5_dot_X5_bit : GoodIn wsX5_dot (wsV RX5 189 RX5 yX5_bit wsX5_bit) := goodIn_app (goodIn_of _ (by decide +kernel)) ggX5_dot_X5_bit
theorem dX5_dot_0 : decode cX5_dot 0 = .ok (.aload_n 0, 1) := by decide +kernel
theorem dX5_dot_1 : decode cX5_dot 1 = .ok (.iload_n 1, 1) := by decide +kernel
theorem dX5_dot_2 : decode cX5_dot 2 = .ok (.ifCond .lt 21, 3) := by decide +kernel
theorem dX5_dot_5 : decode cX5_dot 5 = .ok (.iload_n 1, 1) := by decide +kernel
theorem dX5_dot_6 : decode cX5_dot 6 = .ok (.sipush 223, 3) := by decide +kernel
theorem dX5_dot_9 : decode cX5_dot 9 = .ok (.if_icmp .gt 14, 3) := by decide +kernel
theorem dX5_dot_12 : decode cX5_dot 12 = .ok (.iload_n 2, 1) := by decide +kernel
theorem dX5_dot_13 : decode cX5_dot 13 = .ok (.ifCond .lt 10, 3) := by decide +kernel
theorem dX5_dot_16 : decode cX5_dot 16 = .ok (.iload_n 2, 1) := by decide +kernel
theorem dX5_dot_17 : decode cX5_dot 17 = .ok (.sipush 255, 3) := by decide +kernel
theorem dX5_dot_20 : decode cX5_dot 20 = .ok (.if_icmp .le 7, 3) := by decide +kernel
theorem dX5_dot_23 : decode cX5_dot 23 = .ok (.iconst 1, 1) := by decide +kernel
theorem dX5_dot_24 : decode cX5_dot 24 = .ok (.goto 4, 3) := by decide +kernel
theorem dX5_dot_27 : decode cX5_dot 27 = .ok (.iconst 0, 1) := by decide +kernel
theorem dX5_dot_28 : decode cX5_dot 28 = .ok (.putfield 28, 3) := by decide +kernel
theorem dX5_dot_31 : decode cX5_dot 31 = .ok (.aload_n 0, 1) := by decide +kernel
theorem dX5_dot_32 : decode cX5_dot 32 = .ok (.getfield 28, 3) := by decide +kernel
theorem dX5_dot_35 : decode cX5_dot 35 = .ok (.ifCond .le 7, 3) := by decide +kernel
theorem dX5_dot_38 : decode cX5_dot 38 = .ok (.iconst 0, 1) := by decide +kernel
theorem dX5_dot_39 : decode cX5_dot 39 = .ok (.goto 9, 3) := by decide +kernel
theorem dX5_dot_42 : decode cX5_dot 42 = .ok (.aload_n 0, 1) := by decide +kernel
theorem dX5_dot_43 : decode cX5_dot 43 = .ok (.iload_n 1, 1) := by decide +kernel
theorem dX5_dot_44 : decode cX5_dot 44 = .ok (.iload_n 2, 1) := by decide +kernel
theorem dX5_dot_45 : decode cX5_dot 45 = .ok (.invokevirtual 189, 3) := by decide +kernel
theorem dX5_dot_48 : decode cX5_dot 48 = .ok (.ireturn, 1) := by decide +kernel
set_option maxRecDepth 20000 in
theorem ggX5_lit_X5_bit : GoodIn wsX5_lit wsX5_bit := goodIn_r _ [6, 7, 8, 9, 10, 11, 12, 13, 14, 15, 16, 17, 18, 19, 20, 21, 22, 23, 24, 25, 26, 27, 28, 29, 30, 31] (by decide +kernel) (by decide +kernel)
set_option maxRecDepth 20000 in
theorem gX5_lit_X5_bit : GoodIn wsX5_lit (wsV RX5 189 RX5 yX5_bit wsX5_bit) := goodIn_app (goodIn_of _ (by decide +kernel)) ggX5_lit_X5_bit
theorem dX5_lit_0 : decode cX5_lit 0 = .ok (.aload_n 0, 1) := by decide +kernel
theorem dX5_lit_1 : decode cX5_lit 1 = .ok (.iconst 0, 1) := by decide +kernel
theorem dX5_lit_2 : decode cX5_lit 2 = .ok (.putfield 28, 3) := by decide +kernel
theorem dX5_lit_5 : decode cX5_lit 5 = .ok (.iconst 0, 1) := by decide +kernel
theorem dX5_lit_6 : decode cX5_lit 6 = .ok (.istore 5, 2) := by decide +kernel
theorem dX5_lit_8 : decode cX5_lit 8 = .ok (.iconst 0, 1) := by decide +kernel
theorem dX5_lit_9 : decode cX5_lit 9 = .ok (.istore 6, 2) := by decide +kernel
theorem dX5_lit_11 : decode cX5_lit 11 = .ok (.iload 6, 2) := by decide +kernel
theorem dX5_lit_13 : decode cX5_lit 13 = .ok (.sipush 224, 3) := by decide +kernel
theorem dX5_lit_16 : decode cX5_lit 16 = .ok (.if_icmp .ge 80, 3) := by decide +kernel
theorem dX5_lit_19 : decode cX5_lit 19 = .ok (.iconst 0, 1) := by decide +kernel
theorem dX5_lit_20 : decode cX5_lit 20 = .ok (.istore 7, 2) := by decide +kernel
theorem dX5_lit_22 : decode cX5_lit 22 = .ok (.iload 7, 2) := by decide +kernel
theorem dX5_lit_24 : decode cX5_lit 24 = .ok (.sipush 256, 3) := by decide +kernel
theorem dX5_lit_27 : decode cX5_lit 27 = .ok (.if_icmp .ge 63, 3) := by decide +kernel
theorem dX5_lit_30 : decode cX5_lit 30 = .ok (.iload 5, 2) := by decide +kernel
theorem dX5_lit_32 : decode cX5_lit 32 = .ok (.iload 6, 2) := by decide +kernel
theorem dX5_lit_34 : decode cX5_lit 34 = .ok (.iload_n 1, 1) := by decide +kernel
theorem dX5_lit_35 : decode cX5_lit 35 = .ok (.if_icmp .lt 45, 3) := by decide +kernel
theorem dX5_lit_38 : decode cX5_lit 38 = .ok (.iload 6, 2) := by decide +kernel
theorem dX5_lit_40 : decode cX5_lit 40 = .ok (.i2l, 1) := by decide +kernel
theorem dX5_lit_41 : decode cX5_lit 41 = .ok (.iload_n 1, 1) := by decide +kernel
theorem dX5_lit_42 : decode cX5_lit 42 = .ok (.i2l, 1) := by decide +kernel
theorem dX5_lit_43 : decode cX5_lit 43 = .ok (.iload_n 3, 1) := by decide +kernel
theorem dX5_lit_44 : decode cX5_lit 44 = .ok (.i2l, 1) := by decide +kernel
theorem dX5_lit_45 : decode cX5_lit 45 = .ok (.ladd, 1) := by decide +kernel
theorem dX5_lit_46 : decode cX5_lit 46 = .ok (.lcmp, 1) := by decide +kernel
theorem dX5_lit_47 : decode cX5_lit 47 = .ok (.ifCond .ge 33, 3) := by decide +kernel
theorem dX5_lit_50 : decode cX5_lit 50 = .ok (.iload 7, 2) := by decide +kernel
theorem dX5_lit_52 : decode cX5_lit 52 = .ok (.iload_n 2, 1) := by decide +kernel
theorem dX5_lit_53 : decode cX5_lit 53 = .ok (.if_icmp .lt 27, 3) := by decide +kernel
theorem dX5_lit_56 : decode cX5_lit 56 = .ok (.iload 7, 2) := by decide +kernel
theorem dX5_lit_58 : decode cX5_lit 58 = .ok (.i2l, 1) := by decide +kernel
theorem dX5_lit_59 : decode cX5_lit 59 = .ok (.iload_n 2, 1) := by decide +kernel
theorem dX5_lit_60 : decode cX5_lit 60 = .ok (.i2l, 1) := by decide +kernel
theorem dX5_lit_61 : decode cX5_lit 61 = .ok (.iload 4, 2) := by decide +kernel
theorem dX5_lit_63 : decode cX5_lit 63 = .ok (.i2l, 1) := by decide +kernel
theorem dX5_lit_64 : decode cX5_lit 64 = .ok (.ladd, 1) := by decide +kernel
theorem dX5_lit_65 : decode cX5_lit 65 = .ok (.lcmp, 1) := by decide +kernel
theorem dX5_lit_66 : decode cX5_lit 66 = .ok (.ifCond .ge 14, 3) := by decide +kernel
theorem dX5_lit_69 : decode cX5_lit 69 = .ok (.aload_n 0, 1) := by decide +kernel
theorem dX5_lit_70 : decode cX5_lit 70 = .ok (.iload 6, 2) := by decide +kernel
theorem dX5_lit_72 : decode cX5_lit 72 = .ok (.iload 7, 2) := by decide +kernel
theorem dX5_lit_74 : decode cX5_lit 74 = .ok (.invokevirtual 189, 3) := by decide +kernel
theorem dX5_lit_77 : decode cX5_lit 77 = .ok (.goto 4, 3) := by decide +kernel
theorem dX5_lit_80 : decode cX5_lit 80 = .ok (.iconst 0, 1) := by decide +kernel
theorem dX5_lit_81 : decode cX5_lit 81 = .ok (.iadd, 1) := by decide +kernel
theorem dX5_lit_82 : decode cX5_lit 82 = .ok (.istore 5, 2) := by decide +kernel
theorem dX5_lit_84 : decode cX5_lit 84 = .ok (.iinc 7 1, 3) := by decide +kernel
theorem dX5_lit_87 : decode cX5_lit 87 = .ok (.goto (-65), 3) := by decide +kernel
theorem dX5_lit_90 : decode cX5_lit 90 = .ok (.iinc 6 1, 3) := by decide +kernel
theorem dX5_lit_93 : decode cX5_lit 93 = .ok (.goto (-82), 3) := by decide +kernel
theorem dX5_lit_96 : decode cX5_lit 96 = .ok (.iload 5, 2) := by decide +kernel
theorem dX5_lit_98 : decode cX5_lit 98 = .ok (.ireturn, 1) := by decide +kernel
set_option maxRecDepth 20000 in
theorem ggX5_state_X5_in : GoodIn wsX5_state wsX5_in := goodIn_r _ [11, 12, 13, 14, 15, 16, 17, 18, 19, 20, 21, 22, 23, 24, 25, 26, 27, 28, 29, 30, 31, 32, 33, 34, 35, 36, 37, 38] (by decide +kernel) (by decide +kernel)
set_option maxRecDepth 20000 in
theorem gX5_state_X5_in : GoodIn wsX5_state (wsV RX5 145 RX5 yX5_in wsX5_in) := goodIn_app (goodIn_of _ (by decide +kernel)) ggX5_state_X5_in
theorem dX5_state_0 : decode cX5_state 0 = .ok (.aload_n 0, 1) := by decide +kernel
theorem dX5_state_1 : decode cX5_state 1 = .ok (.iload_n 1, 1) := by decide +kernel
theorem dX5_state_2 : decode cX5_state 2 = .ok (.ifCond .lt 9, 3) := by decide +kernel
theorem dX5_state_5 : decode cX5_state 5 = .ok (.iload_n 1, 1) := by decide +kernel
theorem dX5_state_6 : decode cX5_state 6 = .ok (.bipush 6, 2) := by decide +kernel
theorem dX5_state_8 : decode cX5_state 8 = .ok (.if_icmp .le 7, 3) := by decide +kernel
theorem dX5_state_11 : decode cX5_state 11 = .ok (.iconst 1, 1) := by decide +kernel
theorem dX5_state_12 : decode cX5_state 12 = .ok (.goto 4, 3) := by decide +kernel
theorem dX5_state_15 : decode cX5_state 15 = .ok (.iconst 0, 1) := by decide +kernel
theorem dX5_state_16 : decode cX5_state 16 = .ok (.putfield 28, 3) := by decide +kernel
theorem dX5_state_19 : decode cX5_state 19 = .ok (.aload_n 0, 1) := by decide +kernel
theorem dX5_state_20 : decode cX5_state 20 = .ok (.getfield 28, 3) := by decide +kernel
theorem dX5_state_23 : decode cX5_state 23 = .ok (.ifCond .le 5, 3) := by decide +kernel
theorem dX5_state_26 : decode cX5_state 26 = .ok (.iconst 0, 1) := by decide +kernel
theorem dX5_state_27 : decode cX5_state 27 = .ok (.ireturn, 1) := by decide +kernel
theorem dX5_state_28 : decode cX5_state 28 = .ok (.iload_n 1, 1) := by decide +kernel
theorem dX5_state_29 : decode cX5_state 29 = .ok (.iconst 2, 1) := by decide +kernel
theorem dX5_state_30 : decode cX5_state 30 = .ok (.if_icmp .ge 12, 3) := by decide +kernel
theorem dX5_state_33 : decode cX5_state 33 = .ok (.aload_n 0, 1) := by decide +kernel
theorem dX5_state_34 : decode cX5_state 34 = .ok (.getfield 22, 3) := by decide +kernel
theorem dX5_state_37 : decode cX5_state 37 = .ok (.iload_n 1, 1) := by decide +kernel
theorem dX5_state_38 : decode cX5_state 38 = .ok (.iaload, 1) := by decide +kernel
theorem dX5_state_39 : decode cX5_state 39 = .ok (.goto 56, 3) := by decide +kernel
theorem dX5_state_42 : decode cX5_state 42 = .ok (.iload_n 1, 1) := by decide +kernel
theorem dX5_state_43 : decode cX5_state 43 = .ok (.iconst 2, 1) := by decide +kernel
theorem dX5_state_44 : decode cX5_state 44 = .ok (.if_icmp .ne 10, 3) := by decide +kernel
theorem dX5_state_47 : decode cX5_state 47 = .ok (.aload_n 0, 1) := by decide +kernel
theorem dX5_state_48 : decode cX5_state 48 = .ok (.getfield 175, 3) := by decide +kernel
theorem dX5_state_51 : decode cX5_state 51 = .ok (.goto 44, 3) := by decide +kernel
theorem dX5_state_54 : decode cX5_state 54 = .ok (.iload_n 1, 1) := by decide +kernel
theorem dX5_state_55 : decode cX5_state 55 = .ok (.iconst 3, 1) := by decide +kernel
theorem dX5_state_56 : decode cX5_state 56 = .ok (.if_icmp .ne 10, 3) := by decide +kernel
theorem dX5_state_59 : decode cX5_state 59 = .ok (.aload_n 0, 1) := by decide +kernel
theorem dX5_state_60 : decode cX5_state 60 = .ok (.getfield 179, 3) := by decide +kernel
theorem dX5_state_63 : decode cX5_state 63 = .ok (.goto 32, 3) := by decide +kernel
theorem dX5_state_66 : decode cX5_state 66 = .ok (.iload_n 1, 1) := by decide +kernel
theorem dX5_state_67 : decode cX5_state 67 = .ok (.iconst 4, 1) := by decide +kernel
theorem dX5_state_68 : decode cX5_state 68 = .ok (.if_icmp .ne 10, 3) := by decide +kernel
theorem dX5_state_71 : decode cX5_state 71 = .ok (.aload_n 0, 1) := by decide +kernel
theorem dX5_state_72 : decode cX5_state 72 = .ok (.getfield 166, 3) := by decide +kernel
theorem dX5_state_75 : decode cX5_state 75 = .ok (.goto 20, 3) := by decide +kernel
theorem dX5_state_78 : decode cX5_state 78 = .ok (.iload_n 1, 1) := by decide +kernel
theorem dX5_state_79 : decode cX5_state 79 = .ok (.iconst 5, 1) := by decide +kernel
theorem dX5_state_80 : decode cX5_state 80 = .ok (.if_icmp .ne 10, 3) := by decide +kernel
theorem dX5_state_83 : decode cX5_state 83 = .ok (.aload_n 0, 1) := by decide +kernel
theorem dX5_state_84 : decode cX5_state 84 = .ok (.getfield 163, 3) := by decide +kernel
theorem dX5_state_87 : decode cX5_state 87 = .ok (.goto 8, 3) := by decide +kernel
theorem dX5_state_90 : decode cX5_state 90 = .ok (.aload_n 0, 1) := by decide +kernel
theorem dX5_state_91 : decode cX5_state 91 = .ok (.iconst 3, 1) := by decide +kernel
theorem dX5_state_92 : decode cX5_state 92 = .ok (.invokevirtual 145, 3) := by decide +kernel
theorem dX5_state_95 : decode cX5_state 95 = .ok (.ireturn, 1) := by decide +kernel
theorem dX5_sounds_0 : decode cX5_sounds 0 = .ok (.aload_n 0, 1) := by decide +kernel
theorem dX5_sounds_1 : decode cX5_sounds 1 = .ok (.iload_n 1, 1) := by decide +kernel
theorem dX5_sounds_2 : decode cX5_sounds 2 = .ok (.ifCond .lt 9, 3) := by decide +kernel
theorem dX5_sounds_5 : decode cX5_sounds 5 = .ok (.iload_n 1, 1) := by decide +kernel
theorem dX5_sounds_6 : decode cX5_sounds 6 = .ok (.bipush 15, 2) := by decide +kernel
theorem dX5_sounds_8 : decode cX5_sounds 8 = .ok (.if_icmp .le 7, 3) := by decide +kernel
theorem dX5_sounds_11 : decode cX5_sounds 11 = .ok (.iconst 1, 1) := by decide +kernel
theorem dX5_sounds_12 : decode cX5_sounds 12 = .ok (.goto 4, 3) := by decide +kernel
theorem dX5_sounds_15 : decode cX5_sounds 15 = .ok (.iconst 0, 1) := by decide +kernel
theorem dX5_sounds_16 : decode cX5_sounds 16 = .ok (.putfield 28, 3) := by decide +kernel
theorem dX5_sounds_19 : decode cX5_sounds 19 = .ok (.aload_n 0, 1) := by decide +kernel
theorem dX5_sounds_20 : decode cX5_sounds 20 = .ok (.getfield 28, 3) := by decide +kernel
theorem dX5_sounds_23 : decode cX5_sounds 23 = .ok (.ifCond .le 7, 3) := by decide +kernel
theorem dX5_sounds_26 : decode cX5_sounds 26 = .ok (.iconst 0, 1) := by decide +kernel
theorem dX5_sounds_27 : decode cX5_sounds 27 = .ok (.goto 9, 3) := by decide +kernel
theorem dX5_sounds_30 : decode cX5_sounds 30 = .ok (.aload_n 0, 1) := by decide +kernel
theorem dX5_sounds_31 : decode cX5_sounds 31 = .ok (.getfield 25, 3) := by decide +kernel
theorem dX5_sounds_34 : decode cX5_sounds 34 = .ok (.iload_n 1, 1) := by decide +kernel
theorem dX5_sounds_35 : decode cX5_sounds 35 = .ok (.iaload, 1) := by decide +kernel
theorem dX5_sounds_36 : decode cX5_sounds 36 = .ok (.ireturn, 1) := by decide +kernel
