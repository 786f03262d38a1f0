theorem dX0_init_0 : decode cX0_init 0 = .ok (.aload_n 0, 1) := by decide +kernel
theorem dX0_init_1 : decode cX0_init 1 = .ok (.invokespecial 3, 3) := by decide +kernel
theorem dX0_init_4 : decode cX0_init 4 = .ok (.aload_n 0, 1) := by decide +kernel
theorem dX0_init_5 : decode cX0_init 5 = .ok (.sipush 565, 3) := by decide +kernel
theorem dX0_init_8 : decode cX0_init 8 = .ok (.newarray .int, 2) := by decide +kernel
theorem dX0_init_10 : decode cX0_init 10 = .ok (.putfield 9, 3) := by decide +kernel
theorem dX0_init_13 : decode cX0_init 13 = .ok (.aload_n 0, 1) := by decide +kernel
theorem dX0_init_14 : decode cX0_init 14 = .ok (.iconst 0, 1) := by decide +kernel
theorem dX0_init_15 : decode cX0_init 15 = .ok (.putfield 15, 3) := by decide +kernel
theorem dX0_init_18 : decode cX0_init 18 = .ok (.return_, 1) := by decide +kernel
theorem dX0_begin_0 : decode cX0_begin 0 = .ok (.aload_n 0, 1) := by decide +kernel
theorem dX0_begin_1 : decode cX0_begin 1 = .ok (.iconst 0, 1) := by decide +kernel
theorem dX0_begin_2 : decode cX0_begin 2 = .ok (.putfield 15, 3) := by decide +kernel
theorem dX0_begin_5 : decode cX0_begin 5 = .ok (.return_, 1) := by decide +kernel
theorem dX0_size_0 : decode cX0_size 0 = .ok (.aload_n 0, 1) := by decide +kernel
theorem dX0_size_1 : decode cX0_size 1 = .ok (.getfield 15, 3) := by decide +kernel
theorem dX0_size_4 : decode cX0_size 4 = .ok (.bipush 7, 2) := by decide +kernel
theorem dX0_size_6 : decode cX0_size 6 = .ok (.iadd, 1) := by decide +kernel
theorem dX0_size_7 : decode cX0_size 7 = .ok (.bipush 8, 2) := by decide +kernel
theorem dX0_size_9 : decode cX0_size 9 = .ok (.idiv, 1) := by decide +kernel
theorem dX0_size_10 : decode cX0_size 10 = .ok (.ireturn, 1) := by decide +kernel
set_option maxRecDepth 20000 in
theorem ggX0_get_X0_size : GoodIn wsX0_get wsX0_size := goodIn_r _ [6, 7, 8, 9] (by decide +kernel) (by decide +kernel)
set_option maxRecDepth 20000 in
theorem gX0_get_X0_size : GoodIn wsX0_get (wsV RX0 19 RX0 yX0_size wsX0_size) := goodIn_app (goodIn_of _ (by decide +kernel)) ggX0_get_X0_size
theorem dX0_get_0 : decode cX0_get 0 = .ok (.iload_n 1, 1) := by decide +kernel
theorem dX0_get_1 : decode cX0_get 1 = .ok (.ifCond .lt 20, 3) := by decide +kernel
theorem dX0_get_4 : decode cX0_get 4 = .ok (.iload_n 1, 1) := by decide +kernel
theorem dX0_get_5 : decode cX0_get 5 = .ok (.aload_n 0, 1) := by decide +kernel
theorem dX0_get_6 : decode cX0_get 6 = .ok (.invokevirtual 19, 3) := by decide +kernel
theorem dX0_get_9 : decode cX0_get 9 = .ok (.if_icmp .ge 12, 3) := by decide +kernel
theorem dX0_get_12 : decode cX0_get 12 = .ok (.aload_n 0, 1) := by decide +kernel
theorem dX0_get_13 : decode cX0_get 13 = .ok (.getfield 9, 3) := by decide +kernel
theorem dX0_get_16 : decode cX0_get 16 = .ok (.iload_n 1, 1) := by decide +kernel
theorem dX0_get_17 : decode cX0_get 17 = .ok (.iaload, 1) := by decide +kernel
theorem dX0_get_18 : decode cX0_get 18 = .ok (.goto 4, 3) := by decide +kernel
theorem dX0_get_21 : decode cX0_get 21 = .ok (.iconst (-1), 1) := by decide +kernel
theorem dX0_get_22 : decode cX0_get 22 = .ok (.ireturn, 1) := by decide +kernel
set_option maxRecDepth 20000 in
theorem ggX0_put_X0_putBit : GoodIn wsX0_put wsX0_putBit := goodIn_r _ [5, 6, 7, 8, 9] (by decide +kernel) (by decide +kernel)
set_option maxRecDepth 20000 in
theorem gX0_put_X0_putBit : GoodIn wsX0_put (wsV RX0 23 RX0 yX0_putBit wsX0_putBit) := goodIn_app (goodIn_of _ (by decide +kernel)) ggX0_put_X0_putBit
theorem dX0_put_0 : decode cX0_put 0 = .ok (.iload_n 2, 1) := by decide +kernel
theorem dX0_put_1 : decode cX0_put 1 = .ok (.iconst 1, 1) := by decide +kernel
theorem dX0_put_2 : decode cX0_put 2 = .ok (.isub, 1) := by decide +kernel
theorem dX0_put_3 : decode cX0_put 3 = .ok (.istore_n 3, 1) := by decide +kernel
theorem dX0_put_4 : decode cX0_put 4 = .ok (.iload_n 3, 1) := by decide +kernel
theorem dX0_put_5 : decode cX0_put 5 = .ok (.ifCond .lt 18, 3) := by decide +kernel
theorem dX0_put_8 : decode cX0_put 8 = .ok (.aload_n 0, 1) := by decide +kernel
theorem dX0_put_9 : decode cX0_put 9 = .ok (.iload_n 1, 1) := by decide +kernel
theorem dX0_put_10 : decode cX0_put 10 = .ok (.iload_n 3, 1) := by decide +kernel
theorem dX0_put_11 : decode cX0_put 11 = .ok (.ishr, 1) := by decide +kernel
theorem dX0_put_12 : decode cX0_put 12 = .ok (.iconst 1, 1) := by decide +kernel
theorem dX0_put_13 : decode cX0_put 13 = .ok (.iand, 1) := by decide +kernel
theorem dX0_put_14 : decode cX0_put 14 = .ok (.invokevirtual 23, 3) := by decide +kernel
theorem dX0_put_17 : decode cX0_put 17 = .ok (.iinc 3 (-1), 3) := by decide +kernel
theorem dX0_put_20 : decode cX0_put 20 = .ok (.goto (-16), 3) := by decide +kernel
theorem dX0_put_23 : decode cX0_put 23 = .ok (.return_, 1) := by decide +kernel
theorem dX0_putBit_0 : decode cX0_putBit 0 = .ok (.aload_n 0, 1) := by decide +kernel
theorem dX0_putBit_1 : decode cX0_putBit 1 = .ok (.getfield 15, 3) := by decide +kernel
theorem dX0_putBit_4 : decode cX0_putBit 4 = .ok (.bipush 8, 2) := by decide +kernel
theorem dX0_putBit_6 : decode cX0_putBit 6 = .ok (.idiv, 1) := by decide +kernel
theorem dX0_putBit_7 : decode cX0_putBit 7 = .ok (.istore_n 2, 1) := by decide +kernel
theorem dX0_putBit_8 : decode cX0_putBit 8 = .ok (.iload_n 2, 1) := by decide +kernel
theorem dX0_putBit_9 : decode cX0_putBit 9 = .ok (.aload_n 0, 1) := by decide +kernel
theorem dX0_putBit_10 : decode cX0_putBit 10 = .ok (.getfield 9, 3) := by decide +kernel
theorem dX0_putBit_13 : decode cX0_putBit 13 = .ok (.arraylength, 1) := by decide +kernel
theorem dX0_putBit_14 : decode cX0_putBit 14 = .ok (.if_icmp .lt 4, 3) := by decide +kernel
theorem dX0_putBit_17 : decode cX0_putBit 17 = .ok (.return_, 1) := by decide +kernel
theorem dX0_putBit_18 : decode cX0_putBit 18 = .ok (.aload_n 0, 1) := by decide +kernel
theorem dX0_putBit_19 : decode cX0_putBit 19 = .ok (.getfield 15, 3) := by decide +kernel
theorem dX0_putBit_22 : decode cX0_putBit 22 = .ok (.bipush 8, 2) := by decide +kernel
theorem dX0_putBit_24 : decode cX0_putBit 24 = .ok (.irem, 1) := by decide +kernel
theorem dX0_putBit_25 : decode cX0_putBit 25 = .ok (.ifCond .ne 10, 3) := by decide +kernel
theorem dX0_putBit_28 : decode cX0_putBit 28 = .ok (.aload_n 0, 1) := by decide +kernel
theorem dX0_putBit_29 : decode cX0_putBit 29 = .ok (.getfield 9, 3) := by decide +kernel
theorem dX0_putBit_32 : decode cX0_putBit 32 = .ok (.iload_n 2, 1) := by decide +kernel
theorem dX0_putBit_33 : decode cX0_putBit 33 = .ok (.iconst 0, 1) := by decide +kernel
theorem dX0_putBit_34 : decode cX0_putBit 34 = .ok (.iastore, 1) := by decide +kernel
theorem dX0_putBit_35 : decode cX0_putBit 35 = .ok (.aload_n 0, 1) := by decide +kernel
theorem dX0_putBit_36 : decode cX0_putBit 36 = .ok (.getfield 9, 3) := by decide +kernel
theorem dX0_putBit_39 : decode cX0_putBit 39 = .ok (.iload_n 2, 1) := by decide +kernel
theorem dX0_putBit_40 : decode cX0_putBit 40 = .ok (.dup2, 1) := by decide +kernel
theorem dX0_putBit_41 : decode cX0_putBit 41 = .ok (.iaload, 1) := by decide +kernel
theorem dX0_putBit_42 : decode cX0_putBit 42 = .ok (.iload_n 1, 1) := by decide +kernel
theorem dX0_putBit_43 : decode cX0_putBit 43 = .ok (.bipush 7, 2) := by decide +kernel
theorem dX0_putBit_45 : decode cX0_putBit 45 = .ok (.aload_n 0, 1) := by decide +kernel
theorem dX0_putBit_46 : decode cX0_putBit 46 = .ok (.getfield 15, 3) := by decide +kernel
theorem dX0_putBit_49 : decode cX0_putBit 49 = .ok (.bipush 8, 2) := by decide +kernel
theorem dX0_putBit_51 : decode cX0_putBit 51 = .ok (.irem, 1) := by decide +kernel
theorem dX0_putBit_52 : decode cX0_putBit 52 = .ok (.isub, 1) := by decide +kernel
theorem dX0_putBit_53 : decode cX0_putBit 53 = .ok (.ishl, 1) := by decide +kernel
theorem dX0_putBit_54 : decode cX0_putBit 54 = .ok (.ior, 1) := by decide +kernel
theorem dX0_putBit_55 : decode cX0_putBit 55 = .ok (.iastore, 1) := by decide +kernel
theorem dX0_putBit_56 : decode cX0_putBit 56 = .ok (.aload_n 0, 1) := by decide +kernel
theorem dX0_putBit_57 : decode cX0_putBit 57 = .ok (.dup, 1) := by decide +kernel
theorem dX0_putBit_58 : decode cX0_putBit 58 = .ok (.getfield 15, 3) := by decide +kernel
theorem dX0_putBit_61 : decode cX0_putBit 61 = .ok (.iconst 1, 1) := by decide +kernel
theorem dX0_putBit_62 : decode cX0_putBit 62 = .ok (.iadd, 1) := by decide +kernel
theorem dX0_putBit_63 : decode cX0_putBit 63 = .ok (.putfield 15, 3) := by decide +kernel
theorem dX0_putBit_66 : decode cX0_putBit 66 = .ok (.return_, 1) := by decide +kernel
theorem dX1_init_0 : decode cX1_init 0 = .ok (.aload_n 0, 1) := by decide +kernel
theorem dX1_init_1 : decode cX1_init 1 = .ok (.invokespecial 3, 3) := by decide +kernel
theorem dX1_init_4 : decode cX1_init 4 = .ok (.aload_n 0, 1) := by decide +kernel
theorem dX1_init_5 : decode cX1_init 5 = .ok (.iload_n 1, 1) := by decide +kernel
theorem dX1_init_6 : decode cX1_init 6 = .ok (.newarray .int, 2) := by decide +kernel
theorem dX1_init_8 : decode cX1_init 8 = .ok (.putfield 9, 3) := by decide +kernel
theorem dX1_init_11 : decode cX1_init 11 = .ok (.aload_n 0, 1) := by decide +kernel
theorem dX1_init_12 : decode cX1_init 12 = .ok (.iconst 0, 1) := by decide +kernel
theorem dX1_init_13 : decode cX1_init 13 = .ok (.putfield 15, 3) := by decide +kernel
theorem dX1_init_16 : decode cX1_init 16 = .ok (.return_, 1) := by decide +kernel
theorem dX1_size_0 : decode cX1_size 0 = .ok (.aload_n 0, 1) := by decide +kernel
theorem dX1_size_1 : decode cX1_size 1 = .ok (.getfield 15, 3) := by decide +kernel
theorem dX1_size_4 : decode cX1_size 4 = .ok (.ireturn, 1) := by decide +kernel
theorem dX1_get_0 : decode cX1_get 0 = .ok (.iload_n 1, 1) := by decide +kernel
theorem dX1_get_1 : decode cX1_get 1 = .ok (.ifCond .lt 20, 3) := by decide +kernel
theorem dX1_get_4 : decode cX1_get 4 = .ok (.iload_n 1, 1) := by decide +kernel
theorem dX1_get_5 : decode cX1_get 5 = .ok (.aload_n 0, 1) := by decide +kernel
theorem dX1_get_6 : decode cX1_get 6 = .ok (.getfield 15, 3) := by decide +kernel
theorem dX1_get_9 : decode cX1_get 9 = .ok (.if_icmp .ge 12, 3) := by decide +kernel
theorem dX1_get_12 : decode cX1_get 12 = .ok (.aload_n 0, 1) := by decide +kernel
theorem dX1_get_13 : decode cX1_get 13 = .ok (.getfield 9, 3) := by decide +kernel
theorem dX1_get_16 : decode cX1_get 16 = .ok (.iload_n 1, 1) := by decide +kernel
theorem dX1_get_17 : decode cX1_get 17 = .ok (.iaload, 1) := by decide +kernel
theorem dX1_get_18 : decode cX1_get 18 = .ok (.goto 4, 3) := by decide +kernel
theorem dX1_get_21 : decode cX1_get 21 = .ok (.iconst (-1), 1) := by decide +kernel
theorem dX1_get_22 : decode cX1_get 22 = .ok (.ireturn, 1) := by decide +kernel
theorem dX1_empty_0 : decode cX1_empty 0 = .ok (.aload_n 0, 1) := by decide +kernel
theorem dX1_empty_1 : decode cX1_empty 1 = .ok (.iconst 0, 1) := by decide +kernel
theorem dX1_empty_2 : decode cX1_empty 2 = .ok (.putfield 15, 3) := by decide +kernel
theorem dX1_empty_5 : decode cX1_empty 5 = .ok (.return_, 1) := by decide +kernel
theorem dX1_add_0 : decode cX1_add 0 = .ok (.aload_n 0, 1) := by decide +kernel
theorem dX1_add_1 : decode cX1_add 1 = .ok (.getfield 15, 3) := by decide +kernel
theorem dX1_add_4 : decode cX1_add 4 = .ok (.aload_n 0, 1) := by decide +kernel
theorem dX1_add_5 : decode cX1_add 5 = .ok (.getfield 9, 3) := by decide +kernel
theorem dX1_add_8 : decode cX1_add 8 = .ok (.arraylength, 1) := by decide +kernel
theorem dX1_add_9 : decode cX1_add 9 = .ok (.if_icmp .ge 27, 3) := by decide +kernel
theorem dX1_add_12 : decode cX1_add 12 = .ok (.aload_n 0, 1) := by decide +kernel
theorem dX1_add_13 : decode cX1_add 13 = .ok (.getfield 9, 3) := by decide +kernel
theorem dX1_add_16 : decode cX1_add 16 = .ok (.aload_n 0, 1) := by decide +kernel
theorem dX1_add_17 : decode cX1_add 17 = .ok (.getfield 15, 3) := by decide +kernel
theorem dX1_add_20 : decode cX1_add 20 = .ok (.iload_n 1, 1) := by decide +kernel
theorem dX1_add_21 : decode cX1_add 21 = .ok (.sipush 255, 3) := by decide +kernel
theorem dX1_add_24 : decode cX1_add 24 = .ok (.iand, 1) := by decide +kernel
theorem dX1_add_25 : decode cX1_add 25 = .ok (.iastore, 1) := by decide +kernel
theorem dX1_add_26 : decode cX1_add 26 = .ok (.aload_n 0, 1) := by decide +kernel
theorem dX1_add_27 : decode cX1_add 27 = .ok (.dup, 1) := by decide +kernel
theorem dX1_add_28 : decode cX1_add 28 = .ok (.getfield 15, 3) := by decide +kernel
theorem dX1_add_31 : decode cX1_add 31 = .ok (.iconst 1, 1) := by decide +kernel
theorem dX1_add_32 : decode cX1_add 32 = .ok (.iadd, 1) := by decide +kernel
theorem dX1_add_33 : decode cX1_add 33 = .ok (.putfield 15, 3) := by decide +kernel
theorem dX1_add_36 : decode cX1_add 36 = .ok (.return_, 1) := by decide +kernel
set_option maxRecDepth 20000 in
theorem ggX1_addLowest_X1_add : GoodIn wsX1_addLowest wsX1_add := goodIn_r _ [7, 2, 1, 8, 9] (by decide +kernel) (by decide +kernel)
set_option maxRecDepth 20000 in
theorem gX1_addLowest_X1_add : GoodIn wsX1_addLowest (wsV RX1 19 RX1 yX1_add wsX1_add) := goodIn_app (goodIn_of _ (by decide +kernel)) ggX1_addLowest_X1_add
theorem dX1_addLowest_0 : decode cX1_addLowest 0 = .ok (.iload_n 3, 1) := by decide +kernel
theorem dX1_addLowest_1 : decode cX1_addLowest 1 = .ok (.iconst 1, 1) := by decide +kernel
theorem dX1_addLowest_2 : decode cX1_addLowest 2 = .ok (.if_icmp .lt 23, 3) := by decide +kernel
theorem dX1_addLowest_5 : decode cX1_addLowest 5 = .ok (.iload_n 3, 1) := by decide +kernel
theorem dX1_addLowest_6 : decode cX1_addLowest 6 = .ok (.bipush 8, 2) := by decide +kernel
theorem dX1_addLowest_8 : decode cX1_addLowest 8 = .ok (.if_icmp .gt 17, 3) := by decide +kernel
theorem dX1_addLowest_11 : decode cX1_addLowest 11 = .ok (.iload_n 3, 1) := by decide +kernel
theorem dX1_addLowest_12 : decode cX1_addLowest 12 = .ok (.aload_n 0, 1) := by decide +kernel
theorem dX1_addLowest_13 : decode cX1_addLowest 13 = .ok (.getfield 9, 3) := by decide +kernel
theorem dX1_addLowest_16 : decode cX1_addLowest 16 = .ok (.arraylength, 1) := by decide +kernel
theorem dX1_addLowest_17 : decode cX1_addLowest 17 = .ok (.aload_n 0, 1) := by decide +kernel
theorem dX1_addLowest_18 : decode cX1_addLowest 18 = .ok (.getfield 15, 3) := by decide +kernel
theorem dX1_addLowest_21 : decode cX1_addLowest 21 = .ok (.isub, 1) := by decide +kernel
theorem dX1_addLowest_22 : decode cX1_addLowest 22 = .ok (.if_icmp .le 5, 3) := by decide +kernel
theorem dX1_addLowest_25 : decode cX1_addLowest 25 = .ok (.iconst (-1), 1) := by decide +kernel
theorem dX1_addLowest_26 : decode cX1_addLowest 26 = .ok (.ireturn, 1) := by decide +kernel
theorem dX1_addLowest_27 : decode cX1_addLowest 27 = .ok (.iload_n 3, 1) := by decide +kernel
theorem dX1_addLowest_28 : decode cX1_addLowest 28 = .ok (.iconst 1, 1) := by decide +kernel
theorem dX1_addLowest_29 : decode cX1_addLowest 29 = .ok (.isub, 1) := by decide +kernel
theorem dX1_addLowest_30 : decode cX1_addLowest 30 = .ok (.istore 4, 2) := by decide +kernel
theorem dX1_addLowest_32 : decode cX1_addLowest 32 = .ok (.iload 4, 2) := by decide +kernel
theorem dX1_addLowest_34 : decode cX1_addLowest 34 = .ok (.ifCond .lt 21, 3) := by decide +kernel
theorem dX1_addLowest_37 : decode cX1_addLowest 37 = .ok (.aload_n 0, 1) := by decide +kernel
theorem dX1_addLowest_38 : decode cX1_addLowest 38 = .ok (.lload_n 1, 1) := by decide +kernel
theorem dX1_addLowest_39 : decode cX1_addLowest 39 = .ok (.bipush 8, 2) := by decide +kernel
theorem dX1_addLowest_41 : decode cX1_addLowest 41 = .ok (.iload 4, 2) := by decide +kernel
theorem dX1_addLowest_43 : decode cX1_addLowest 43 = .ok (.imul, 1) := by decide +kernel
theorem dX1_addLowest_44 : decode cX1_addLowest 44 = .ok (.lushr, 1) := by decide +kernel
theorem dX1_addLowest_45 : decode cX1_addLowest 45 = .ok (.l2i, 1) := by decide +kernel
theorem dX1_addLowest_46 : decode cX1_addLowest 46 = .ok (.invokevirtual 19, 3) := by decide +kernel
theorem dX1_addLowest_49 : decode cX1_addLowest 49 = .ok (.iinc 4 (-1), 3) := by decide +kernel
theorem dX1_addLowest_52 : decode cX1_addLowest 52 = .ok (.goto (-20), 3) := by decide +kernel
theorem dX1_addLowest_55 : decode cX1_addLowest 55 = .ok (.aload_n 0, 1) := by decide +kernel
theorem dX1_addLowest_56 : decode cX1_addLowest 56 = .ok (.getfield 15, 3) := by decide +kernel
theorem dX1_addLowest_59 : decode cX1_addLowest 59 = .ok (.ireturn, 1) := by decide +kernel
set_option maxRecDepth 20000 in
theorem ggX1_addTimes_X1_add : GoodIn wsX1_addTimes wsX1_add := goodIn_r _ [7, 2, 1, 8, 9] (by decide +kernel) (by decide +kernel)
set_option maxRecDepth 20000 in
theorem gX1_addTimes_X1_add : GoodIn wsX1_addTimes (wsV RX1 19 RX1 yX1_add wsX1_add) := goodIn_app (goodIn_of _ (by decide +kernel)) ggX1_addTimes_X1_add
theorem dX1_addTimes_0 : decode cX1_addTimes 0 = .ok (.iload_n 2, 1) := by decide +kernel
theorem dX1_addTimes_1 : decode cX1_addTimes 1 = .ok (.iconst 1, 1) := by decide +kernel
theorem dX1_addTimes_2 : decode cX1_addTimes 2 = .ok (.if_icmp .lt 17, 3) := by decide +kernel
theorem dX1_addTimes_5 : decode cX1_addTimes 5 = .ok (.iload_n 2, 1) := by decide +kernel
theorem dX1_addTimes_6 : decode cX1_addTimes 6 = .ok (.aload_n 0, 1) := by decide +kernel
theorem dX1_addTimes_7 : decode cX1_addTimes 7 = .ok (.getfield 9, 3) := by decide +kernel
theorem dX1_addTimes_10 : decode cX1_addTimes 10 = .ok (.arraylength, 1) := by decide +kernel
theorem dX1_addTimes_11 : decode cX1_addTimes 11 = .ok (.aload_n 0, 1) := by decide +kernel
theorem dX1_addTimes_12 : decode cX1_addTimes 12 = .ok (.getfield 15, 3) := by decide +kernel
theorem dX1_addTimes_15 : decode cX1_addTimes 15 = .ok (.isub, 1) := by decide +kernel
theorem dX1_addTimes_16 : decode cX1_addTimes 16 = .ok (.if_icmp .le 5, 3) := by decide +kernel
theorem dX1_addTimes_19 : decode cX1_addTimes 19 = .ok (.iconst (-1), 1) := by decide +kernel
theorem dX1_addTimes_20 : decode cX1_addTimes 20 = .ok (.ireturn, 1) := by decide +kernel
theorem dX1_addTimes_21 : decode cX1_addTimes 21 = .ok (.iconst 0, 1) := by decide +kernel
theorem dX1_addTimes_22 : decode cX1_addTimes 22 = .ok (.istore_n 3, 1) := by decide +kernel
theorem dX1_addTimes_23 : decode cX1_addTimes 23 = .ok (.iload_n 3, 1) := by decide +kernel
theorem dX1_addTimes_24 : decode cX1_addTimes 24 = .ok (.iload_n 2, 1) := by decide +kernel
theorem dX1_addTimes_25 : decode cX1_addTimes 25 = .ok (.if_icmp .ge 14, 3) := by decide +kernel
theorem dX1_addTimes_28 : decode cX1_addTimes 28 = .ok (.aload_n 0, 1) := by decide +kernel
theorem dX1_addTimes_29 : decode cX1_addTimes 29 = .ok (.iload_n 1, 1) := by decide +kernel
theorem dX1_addTimes_30 : decode cX1_addTimes 30 = .ok (.invokevirtual 19, 3) := by decide +kernel
theorem dX1_addTimes_33 : decode cX1_addTimes 33 = .ok (.iinc 3 1, 3) := by decide +kernel
theorem dX1_addTimes_36 : decode cX1_addTimes 36 = .ok (.goto (-13), 3) := by decide +kernel
theorem dX1_addTimes_39 : decode cX1_addTimes 39 = .ok (.aload_n 0, 1) := by decide +kernel
theorem dX1_addTimes_40 : decode cX1_addTimes 40 = .ok (.getfield 15, 3) := by decide +kernel
theorem dX1_addTimes_43 : decode cX1_addTimes 43 = .ok (.ireturn, 1) := by decide +kernel
set_option maxRecDepth 20000 in
theorem ggX1_addAgain_X1_get : GoodIn wsX1_addAgain wsX1_get := goodIn_r _ [6, 1, 7, 12, 13] (by decide +kernel) (by decide +kernel)
set_option maxRecDepth 20000 in
theorem gX1_addAgain_X1_get : GoodIn wsX1_addAgain (wsV RX1 23 RX1 yX1_get wsX1_get) := goodIn_app (goodIn_of _ (by decide +kernel)) ggX1_addAgain_X1_get
set_option maxRecDepth 20000 in
theorem ggX1_addAgain_X1_add : GoodIn wsX1_addAgain wsX1_add := goodIn_r _ [11, 1, 7, 12, 13] (by decide +kernel) (by decide +kernel)
set_option maxRecDepth 20000 in
theorem gX1_addAgain_X1_add : GoodIn wsX1_addAgain (wsV RX1 19 RX1 yX1_add wsX1_add) := goodIn_app (goodIn_of _ (by decide +kernel)) ggX1_addAgain_X1_add
theorem dX1_addAgain_0 : decode cX1_addAgain 0 = .ok (.iconst 0, 1) := by decide +kernel
theorem dX1_addAgain_1 : decode cX1_addAgain 1 = .ok (.istore_n 3, 1) := by decide +kernel
theorem dX1_addAgain_2 : decode cX1_addAgain 2 = .ok (.iload_n 3, 1) := by decide +kernel
theorem dX1_addAgain_3 : decode cX1_addAgain 3 = .ok (.iload_n 2, 1) := by decide +kernel
theorem dX1_addAgain_4 : decode cX1_addAgain 4 = .ok (.if_icmp .ge 23, 3) := by decide +kernel
theorem dX1_addAgain_7 : decode cX1_addAgain 7 = .ok (.aload_n 0, 1) := by decide +kernel
theorem dX1_addAgain_8 : decode cX1_addAgain 8 = .ok (.aload_n 0, 1) := by decide +kernel
theorem dX1_addAgain_9 : decode cX1_addAgain 9 = .ok (.aload_n 0, 1) := by decide +kernel
theorem dX1_addAgain_10 : decode cX1_addAgain 10 = .ok (.getfield 15, 3) := by decide +kernel
theorem dX1_addAgain_13 : decode cX1_addAgain 13 = .ok (.iload_n 1, 1) := by decide +kernel
theorem dX1_addAgain_14 : decode cX1_addAgain 14 = .ok (.isub, 1) := by decide +kernel
theorem dX1_addAgain_15 : decode cX1_addAgain 15 = .ok (.invokevirtual 23, 3) := by decide +kernel
theorem dX1_addAgain_18 : decode cX1_addAgain 18 = .ok (.invokevirtual 19, 3) := by decide +kernel
theorem dX1_addAgain_21 : decode cX1_addAgain 21 = .ok (.iinc 3 1, 3) := by decide +kernel
theorem dX1_addAgain_24 : decode cX1_addAgain 24 = .ok (.goto (-22), 3) := by decide +kernel
theorem dX1_addAgain_27 : decode cX1_addAgain 27 = .ok (.return_, 1) := by decide +kernel
theorem dX1_copyOf_0 : decode cX1_copyOf 0 = .ok (.aload_n 0, 1) := by decide +kernel
theorem dX1_copyOf_1 : decode cX1_copyOf 1 = .ok (.aload_n 1, 1) := by decide +kernel
theorem dX1_copyOf_2 : decode cX1_copyOf 2 = .ok (.getfield 15, 3) := by decide +kernel
theorem dX1_copyOf_5 : decode cX1_copyOf 5 = .ok (.aload_n 0, 1) := by decide +kernel
theorem dX1_copyOf_6 : decode cX1_copyOf 6 = .ok (.getfield 9, 3) := by decide +kernel
theorem dX1_copyOf_9 : decode cX1_copyOf 9 = .ok (.arraylength, 1) := by decide +kernel
theorem dX1_copyOf_10 : decode cX1_copyOf 10 = .ok (.invokestatic 27, 3) := by decide +kernel
theorem dX1_copyOf_13 : decode cX1_copyOf 13 = .ok (.putfield 15, 3) := by decide +kernel
theorem dX1_copyOf_16 : decode cX1_copyOf 16 = .ok (.aload_n 1, 1) := by decide +kernel
theorem dX1_copyOf_17 : decode cX1_copyOf 17 = .ok (.getfield 9, 3) := by decide +kernel
theorem dX1_copyOf_20 : decode cX1_copyOf 20 = .ok (.iconst 0, 1) := by decide +kernel
theorem dX1_copyOf_21 : decode cX1_copyOf 21 = .ok (.aload_n 0, 1) := by decide +kernel
theorem dX1_copyOf_22 : decode cX1_copyOf 22 = .ok (.getfield 9, 3) := by decide +kernel
theorem dX1_copyOf_25 : decode cX1_copyOf 25 = .ok (.iconst 0, 1) := by decide +kernel
theorem dX1_copyOf_26 : decode cX1_copyOf 26 = .ok (.aload_n 0, 1) := by decide +kernel
theorem dX1_copyOf_27 : decode cX1_copyOf 27 = .ok (.getfield 15, 3) := by decide +kernel
theorem dX1_copyOf_30 : decode cX1_copyOf 30 = .ok (.invokestatic 33, 3) := by decide +kernel
theorem dX1_copyOf_33 : decode cX1_copyOf 33 = .ok (.return_, 1) := by decide +kernel
theorem dX1_sameAs_0 : decode cX1_sameAs 0 = .ok (.aload_n 0, 1) := by decide +kernel
theorem dX1_sameAs_1 : decode cX1_sameAs 1 = .ok (.getfield 15, 3) := by decide +kernel
theorem dX1_sameAs_4 : decode cX1_sameAs 4 = .ok (.aload_n 1, 1) := by decide +kernel
theorem dX1_sameAs_5 : decode cX1_sameAs 5 = .ok (.getfield 15, 3) := by decide +kernel
theorem dX1_sameAs_8 : decode cX1_sameAs 8 = .ok (.if_icmp .eq 5, 3) := by decide +kernel
theorem dX1_sameAs_11 : decode cX1_sameAs 11 = .ok (.iconst 0, 1) := by decide +kernel
theorem dX1_sameAs_12 : decode cX1_sameAs 12 = .ok (.ireturn, 1) := by decide +kernel
theorem dX1_sameAs_13 : decode cX1_sameAs 13 = .ok (.iconst 0, 1) := by decide +kernel
theorem dX1_sameAs_14 : decode cX1_sameAs 14 = .ok (.istore_n 2, 1) := by decide +kernel
theorem dX1_sameAs_15 : decode cX1_sameAs 15 = .ok (.iload_n 2, 1) := by decide +kernel
theorem dX1_sameAs_16 : decode cX1_sameAs 16 = .ok (.aload_n 0, 1) := by decide +kernel
theorem dX1_sameAs_17 : decode cX1_sameAs 17 = .ok (.getfield 15, 3) := by decide +kernel
theorem dX1_sameAs_20 : decode cX1_sameAs 20 = .ok (.if_icmp .ge 26, 3) := by decide +kernel
theorem dX1_sameAs_23 : decode cX1_sameAs 23 = .ok (.aload_n 0, 1) := by decide +kernel
theorem dX1_sameAs_24 : decode cX1_sameAs 24 = .ok (.getfield 9, 3) := by decide +kernel
theorem dX1_sameAs_27 : decode cX1_sameAs 27 = .ok (.iload_n 2, 1) := by decide +kernel
theorem dX1_sameAs_28 : decode cX1_sameAs 28 = .ok (.iaload, 1) := by decide +kernel
theorem dX1_sameAs_29 : decode cX1_sameAs 29 = .ok (.aload_n 1, 1) := by decide +kernel
theorem dX1_sameAs_30 : decode cX1_sameAs 30 = .ok (.getfield 9, 3) := by decide +kernel
theorem dX1_sameAs_33 : decode cX1_sameAs 33 = .ok (.iload_n 2, 1) := by decide +kernel
theorem dX1_sameAs_34 : decode cX1_sameAs 34 = .ok (.iaload, 1) := by decide +kernel
theorem dX1_sameAs_35 : decode cX1_sameAs 35 = .ok (.if_icmp .eq 5, 3) := by decide +kernel
theorem dX1_sameAs_38 : decode cX1_sameAs 38 = .ok (.iconst 0, 1) := by decide +kernel
theorem dX1_sameAs_39 : decode cX1_sameAs 39 = .ok (.ireturn, 1) := by decide +kernel
theorem dX1_sameAs_40 : decode cX1_sameAs 40 = .ok (.iinc 2 1, 3) := by decide +kernel
theorem dX1_sameAs_43 : decode cX1_sameAs 43 = .ok (.goto (-28), 3) := by decide +kernel
theorem dX1_sameAs_46 : decode cX1_sameAs 46 = .ok (.iconst 1, 1) := by decide +kernel
theorem dX1_sameAs_47 : decode cX1_sameAs 47 = .ok (.ireturn, 1) := by decide +kernel
theorem dX1_repeats_0 : decode cX1_repeats 0 = .ok (.iload_n 2, 1) := by decide +kernel
theorem dX1_repeats_1 : decode cX1_repeats 1 = .ok (.iconst 1, 1) := by decide +kernel
theorem dX1_repeats_2 : decode cX1_repeats 2 = .ok (.if_icmp .lt 18, 3) := by decide +kernel
theorem dX1_repeats_5 : decode cX1_repeats 5 = .ok (.iload_n 2, 1) := by decide +kernel
theorem dX1_repeats_6 : decode cX1_repeats 6 = .ok (.iload_n 1, 1) := by decide +kernel
theorem dX1_repeats_7 : decode cX1_repeats 7 = .ok (.if_icmp .gt 13, 3) := by decide +kernel
theorem dX1_repeats_10 : decode cX1_repeats 10 = .ok (.iload_n 3, 1) := by decide +kernel
theorem dX1_repeats_11 : decode cX1_repeats 11 = .ok (.aload_n 0, 1) := by decide +kernel
theorem dX1_repeats_12 : decode cX1_repeats 12 = .ok (.getfield 15, 3) := by decide +kernel
theorem dX1_repeats_15 : decode cX1_repeats 15 = .ok (.iload_n 1, 1) := by decide +kernel
theorem dX1_repeats_16 : decode cX1_repeats 16 = .ok (.isub, 1) := by decide +kernel
theorem dX1_repeats_17 : decode cX1_repeats 17 = .ok (.if_icmp .le 5, 3) := by decide +kernel
theorem dX1_repeats_20 : decode cX1_repeats 20 = .ok (.iconst 0, 1) := by decide +kernel
theorem dX1_repeats_21 : decode cX1_repeats 21 = .ok (.ireturn, 1) := by decide +kernel
theorem dX1_repeats_22 : decode cX1_repeats 22 = .ok (.iload_n 1, 1) := by decide +kernel
theorem dX1_repeats_23 : decode cX1_repeats 23 = .ok (.istore 4, 2) := by decide +kernel
theorem dX1_repeats_25 : decode cX1_repeats 25 = .ok (.iload 4, 2) := by decide +kernel
theorem dX1_repeats_27 : decode cX1_repeats 27 = .ok (.iload_n 1, 1) := by decide +kernel
theorem dX1_repeats_28 : decode cX1_repeats 28 = .ok (.iload_n 3, 1) := by decide +kernel
theorem dX1_repeats_29 : decode cX1_repeats 29 = .ok (.iadd, 1) := by decide +kernel
theorem dX1_repeats_30 : decode cX1_repeats 30 = .ok (.if_icmp .ge 30, 3) := by decide +kernel
theorem dX1_repeats_33 : decode cX1_repeats 33 = .ok (.aload_n 0, 1) := by decide +kernel
theorem dX1_repeats_34 : decode cX1_repeats 34 = .ok (.getfield 9, 3) := by decide +kernel
theorem dX1_repeats_37 : decode cX1_repeats 37 = .ok (.iload 4, 2) := by decide +kernel
theorem dX1_repeats_39 : decode cX1_repeats 39 = .ok (.iaload, 1) := by decide +kernel
theorem dX1_repeats_40 : decode cX1_repeats 40 = .ok (.aload_n 0, 1) := by decide +kernel
theorem dX1_repeats_41 : decode cX1_repeats 41 = .ok (.getfield 9, 3) := by decide +kernel
theorem dX1_repeats_44 : decode cX1_repeats 44 = .ok (.iload 4, 2) := by decide +kernel
theorem dX1_repeats_46 : decode cX1_repeats 46 = .ok (.iload_n 2, 1) := by decide +kernel
theorem dX1_repeats_47 : decode cX1_repeats 47 = .ok (.isub, 1) := by decide +kernel
theorem dX1_repeats_48 : decode cX1_repeats 48 = .ok (.iaload, 1) := by decide +kernel
theorem dX1_repeats_49 : decode cX1_repeats 49 = .ok (.if_icmp .eq 5, 3) := by decide +kernel
theorem dX1_repeats_52 : decode cX1_repeats 52 = .ok (.iconst 0, 1) := by decide +kernel
theorem dX1_repeats_53 : decode cX1_repeats 53 = .ok (.ireturn, 1) := by decide +kernel
theorem dX1_repeats_54 : decode cX1_repeats 54 = .ok (.iinc 4 1, 3) := by decide +kernel
theorem dX1_repeats_57 : decode cX1_repeats 57 = .ok (.goto (-32), 3) := by decide +kernel
theorem dX1_repeats_60 : decode cX1_repeats 60 = .ok (.iconst 1, 1) := by decide +kernel
theorem dX1_repeats_61 : decode cX1_repeats 61 = .ok (.ireturn, 1) := by decide +kernel
theorem dX2_init_0 : decode cX2_init 0 = .ok (.aload_n 0, 1) := by decide +kernel
theorem dX2_init_1 : decode cX2_init 1 = .ok (.invokespecial 3, 3) := by decide +kernel
theorem dX2_init_4 : decode cX2_init 4 = .ok (.aload_n 0, 1) := by decide +kernel
theorem dX2_init_5 : decode cX2_init 5 = .ok (.aload_n 1, 1) := by decide +kernel
theorem dX2_init_6 : decode cX2_init 6 = .ok (.putfield 9, 3) := by decide +kernel
theorem dX2_init_9 : decode cX2_init 9 = .ok (.aload_n 0, 1) := by decide +kernel
theorem dX2_init_10 : decode cX2_init 10 = .ok (.aload_n 2, 1) := by decide +kernel
theorem dX2_init_11 : decode cX2_init 11 = .ok (.putfield 15, 3) := by decide +kernel
theorem dX2_init_14 : decode cX2_init 14 = .ok (.aload_n 0, 1) := by decide +kernel
theorem dX2_init_15 : decode cX2_init 15 = .ok (.aload_n 3, 1) := by decide +kernel
theorem dX2_init_16 : decode cX2_init 16 = .ok (.putfield 19, 3) := by decide +kernel
theorem dX2_init_19 : decode cX2_init 19 = .ok (.aload_n 0, 1) := by decide +kernel
theorem dX2_init_20 : decode cX2_init 20 = .ok (.aload 4, 2) := by decide +kernel
theorem dX2_init_22 : decode cX2_init 22 = .ok (.putfield 23, 3) := by decide +kernel
theorem dX2_init_25 : decode cX2_init 25 = .ok (.aload_n 0, 1) := by decide +kernel
theorem dX2_init_26 : decode cX2_init 26 = .ok (.sipush 501, 3) := by decide +kernel
theorem dX2_init_29 : decode cX2_init 29 = .ok (.newarray .int, 2) := by decide +kernel
theorem dX2_init_31 : decode cX2_init 31 = .ok (.putfield 27, 3) := by decide +kernel
theorem dX2_init_34 : decode cX2_init 34 = .ok (.aload_n 0, 1) := by decide +kernel
theorem dX2_init_35 : decode cX2_init 35 = .ok (.sipush 500, 3) := by decide +kernel
theorem dX2_init_38 : decode cX2_init 38 = .ok (.newarray .int, 2) := by decide +kernel
theorem dX2_init_40 : decode cX2_init 40 = .ok (.putfield 31, 3) := by decide +kernel
theorem dX2_init_43 : decode cX2_init 43 = .ok (.aload_n 0, 1) := by decide +kernel
theorem dX2_init_44 : decode cX2_init 44 = .ok (.sipush 500, 3) := by decide +kernel
theorem dX2_init_47 : decode cX2_init 47 = .ok (.newarray .int, 2) := by decide +kernel
theorem dX2_init_49 : decode cX2_init 49 = .ok (.putfield 34, 3) := by decide +kernel
theorem dX2_init_52 : decode cX2_init 52 = .ok (.aload_n 0, 1) := by decide +kernel
theorem dX2_init_53 : decode cX2_init 53 = .ok (.sipush 256, 3) := by decide +kernel
theorem dX2_init_56 : decode cX2_init 56 = .ok (.newarray .int, 2) := by decide +kernel
theorem dX2_init_58 : decode cX2_init 58 = .ok (.putfield 37, 3) := by decide +kernel
theorem dX2_init_61 : decode cX2_init 61 = .ok (.aload_n 0, 1) := by decide +kernel
theorem dX2_init_62 : decode cX2_init 62 = .ok (.sipush 256, 3) := by decide +kernel
theorem dX2_init_65 : decode cX2_init 65 = .ok (.newarray .int, 2) := by decide +kernel
theorem dX2_init_67 : decode cX2_init 67 = .ok (.putfield 40, 3) := by decide +kernel
theorem dX2_init_70 : decode cX2_init 70 = .ok (.return_, 1) := by decide +kernel
set_option maxRecDepth 20000 in
theorem ggX2_build_X5_least : GoodIn wsX2_build wsX5_least := goodIn_r _ [10, 11, 89, 90, 91] (by decide +kernel) (by decide +kernel)
set_option maxRecDepth 20000 in
theorem gX2_build_X5_least : GoodIn wsX2_build (wsV RX2 43 RX5 yX5_least wsX5_least) := goodIn_app (goodIn_of _ (by decide +kernel)) ggX2_build_X5_least
set_option maxRecDepth 20000 in
theorem ggX2_build_X5_most : GoodIn wsX2_build wsX5_most := goodIn_r _ [15, 16, 89, 90, 91] (by decide +kernel) (by decide +kernel)
set_option maxRecDepth 20000 in
theorem gX2_build_X5_most : GoodIn wsX2_build (wsV RX2 48 RX5 yX5_most wsX5_most) := goodIn_app (goodIn_of _ (by decide +kernel)) ggX2_build_X5_most
set_option maxRecDepth 20000 in
theorem ggX2_build_X7_ofLength : GoodIn wsX2_build wsX7_ofLength := goodIn_r _ [21, 22, 23, 24, 25, 26, 27, 28, 29, 30, 92, 93, 94, 95] (by decide +kernel) (by decide +kernel)
set_option maxRecDepth 20000 in
theorem gX2_build_X7_ofLength : GoodIn wsX2_build (wsV RX2 51 RX7 yX7_ofLength wsX7_ofLength) := goodIn_app (goodIn_of _ (by decide +kernel)) ggX2_build_X7_ofLength
set_option maxRecDepth 20000 in
theorem ggX2_build_X1_size : GoodIn wsX2_build wsX1_size := goodIn_r _ [35, 36, 96, 97] (by decide +kernel) (by decide +kernel)
set_option maxRecDepth 20000 in
theorem gX2_build_X1_size : GoodIn wsX2_build (wsV RX2 57 RX1 yX1_size wsX1_size) := goodIn_app (goodIn_of _ (by decide +kernel)) ggX2_build_X1_size
set_option maxRecDepth 20000 in
theorem ggX2_build_X2_chooseStep : GoodIn wsX2_build wsX2_chooseStep := goodIn_r _ [41, 42, 43, 1, 44, 45, 25, 26, 27, 2, 4, 3, 5, 46, 47, 48, 49, 50, 51, 52, 53, 54, 55, 32, 33, 34, 35, 36, 56, 57, 58, 40, 59, 60, 61, 62, 63, 64, 65, 66, 67, 20, 68, 69, 24, 6, 7, 8, 9, 10, 11, 70, 71, 72, 73, 74, 75, 76, 77, 78, 79, 80, 81, 82, 83, 84, 85, 86, 87, 88, 98, 99, 100, 101, 102, 103, 104, 96, 97, 92, 93, 94, 95, 89, 90, 91] (by decide +kernel) (by decide +kernel)
set_option maxRecDepth 20000 in
theorem gX2_build_X2_chooseStep : GoodIn wsX2_build (wsV RX2 62 RX2 yX2_chooseStep wsX2_chooseStep) := goodIn_app (goodIn_of _ (by decide +kernel)) ggX2_build_X2_chooseStep
theorem dX2_build_0 : decode cX2_build 0 = .ok (.aload_n 0, 1) := by decide +kernel
theorem dX2_build_1 : decode cX2_build 1 = .ok (.getfield 15, 3) := by decide +kernel
theorem dX2_build_4 : decode cX2_build 4 = .ok (.invokevirtual 43, 3) := by decide +kernel
theorem dX2_build_7 : decode cX2_build 7 = .ok (.istore_n 1, 1) := by decide +kernel
theorem dX2_build_8 : decode cX2_build 8 = .ok (.iload_n 1, 1) := by decide +kernel
theorem dX2_build_9 : decode cX2_build 9 = .ok (.aload_n 0, 1) := by decide +kernel
theorem dX2_build_10 : decode cX2_build 10 = .ok (.getfield 15, 3) := by decide +kernel
theorem dX2_build_13 : decode cX2_build 13 = .ok (.invokevirtual 48, 3) := by decide +kernel
theorem dX2_build_16 : decode cX2_build 16 = .ok (.if_icmp .gt 23, 3) := by decide +kernel
theorem dX2_build_19 : decode cX2_build 19 = .ok (.aload_n 0, 1) := by decide +kernel
theorem dX2_build_20 : decode cX2_build 20 = .ok (.getfield 37, 3) := by decide +kernel
theorem dX2_build_23 : decode cX2_build 23 = .ok (.iload_n 1, 1) := by decide +kernel
theorem dX2_build_24 : decode cX2_build 24 = .ok (.aload_n 0, 1) := by decide +kernel
theorem dX2_build_25 : decode cX2_build 25 = .ok (.getfield 19, 3) := by decide +kernel
theorem dX2_build_28 : decode cX2_build 28 = .ok (.iload_n 1, 1) := by decide +kernel
theorem dX2_build_29 : decode cX2_build 29 = .ok (.invokevirtual 51, 3) := by decide +kernel
theorem dX2_build_32 : decode cX2_build 32 = .ok (.iastore, 1) := by decide +kernel
theorem dX2_build_33 : decode cX2_build 33 = .ok (.iinc 1 1, 3) := by decide +kernel
theorem dX2_build_36 : decode cX2_build 36 = .ok (.goto (-28), 3) := by decide +kernel
theorem dX2_build_39 : decode cX2_build 39 = .ok (.aload_n 0, 1) := by decide +kernel
theorem dX2_build_40 : decode cX2_build 40 = .ok (.getfield 27, 3) := by decide +kernel
theorem dX2_build_43 : decode cX2_build 43 = .ok (.aload_n 0, 1) := by decide +kernel
theorem dX2_build_44 : decode cX2_build 44 = .ok (.getfield 9, 3) := by decide +kernel
theorem dX2_build_47 : decode cX2_build 47 = .ok (.invokevirtual 57, 3) := by decide +kernel
theorem dX2_build_50 : decode cX2_build 50 = .ok (.iconst 0, 1) := by decide +kernel
theorem dX2_build_51 : decode cX2_build 51 = .ok (.iastore, 1) := by decide +kernel
theorem dX2_build_52 : decode cX2_build 52 = .ok (.aload_n 0, 1) := by decide +kernel
theorem dX2_build_53 : decode cX2_build 53 = .ok (.getfield 9, 3) := by decide +kernel
theorem dX2_build_56 : decode cX2_build 56 = .ok (.invokevirtual 57, 3) := by decide +kernel
theorem dX2_build_59 : decode cX2_build 59 = .ok (.iconst 1, 1) := by decide +kernel
theorem dX2_build_60 : decode cX2_build 60 = .ok (.isub, 1) := by decide +kernel
theorem dX2_build_61 : decode cX2_build 61 = .ok (.istore_n 1, 1) := by decide +kernel
theorem dX2_build_62 : decode cX2_build 62 = .ok (.iload_n 1, 1) := by decide +kernel
theorem dX2_build_63 : decode cX2_build 63 = .ok (.ifCond .lt 14, 3) := by decide +kernel
theorem dX2_build_66 : decode cX2_build 66 = .ok (.aload_n 0, 1) := by decide +kernel
theorem dX2_build_67 : decode cX2_build 67 = .ok (.iload_n 1, 1) := by decide +kernel
theorem dX2_build_68 : decode cX2_build 68 = .ok (.invokevirtual 62, 3) := by decide +kernel
theorem dX2_build_71 : decode cX2_build 71 = .ok (.iinc 1 (-1), 3) := by decide +kernel
theorem dX2_build_74 : decode cX2_build 74 = .ok (.goto (-12), 3) := by decide +kernel
theorem dX2_build_77 : decode cX2_build 77 = .ok (.return_, 1) := by decide +kernel
set_option maxRecDepth 20000 in
theorem ggX2_leastFrom_X1_size : GoodIn wsX2_leastFrom wsX1_size := goodIn_r _ [7, 8, 18, 19] (by decide +kernel) (by decide +kernel)
set_option maxRecDepth 20000 in
theorem gX2_leastFrom_X1_size : GoodIn wsX2_leastFrom (wsV RX2 57 RX1 yX1_size wsX1_size) := goodIn_app (goodIn_of _ (by decide +kernel)) ggX2_leastFrom_X1_size
theorem dX2_leastFrom_0 : decode cX2_leastFrom 0 = .ok (.iload_n 1, 1) := by decide +kernel
theorem dX2_leastFrom_1 : decode cX2_leastFrom 1 = .ok (.ifCond .lt 23, 3) := by decide +kernel
theorem dX2_leastFrom_4 : decode cX2_leastFrom 4 = .ok (.iload_n 1, 1) := by decide +kernel
theorem dX2_leastFrom_5 : decode cX2_leastFrom 5 = .ok (.aload_n 0, 1) := by decide +kernel
theorem dX2_leastFrom_6 : decode cX2_leastFrom 6 = .ok (.getfield 9, 3) := by decide +kernel
theorem dX2_leastFrom_9 : decode cX2_leastFrom 9 = .ok (.invokevirtual 57, 3) := by decide +kernel
theorem dX2_leastFrom_12 : decode cX2_leastFrom 12 = .ok (.if_icmp .gt 12, 3) := by decide +kernel
theorem dX2_leastFrom_15 : decode cX2_leastFrom 15 = .ok (.aload_n 0, 1) := by decide +kernel
theorem dX2_leastFrom_16 : decode cX2_leastFrom 16 = .ok (.getfield 27, 3) := by decide +kernel
theorem dX2_leastFrom_19 : decode cX2_leastFrom 19 = .ok (.iload_n 1, 1) := by decide +kernel
theorem dX2_leastFrom_20 : decode cX2_leastFrom 20 = .ok (.iaload, 1) := by decide +kernel
theorem dX2_leastFrom_21 : decode cX2_leastFrom 21 = .ok (.goto 4, 3) := by decide +kernel
theorem dX2_leastFrom_24 : decode cX2_leastFrom 24 = .ok (.iconst (-1), 1) := by decide +kernel
theorem dX2_leastFrom_25 : decode cX2_leastFrom 25 = .ok (.ireturn, 1) := by decide +kernel
set_option maxRecDepth 20000 in
theorem ggX2_lengthAt_X1_size : GoodIn wsX2_lengthAt wsX1_size := goodIn_r _ [7, 8, 18, 19] (by decide +kernel) (by decide +kernel)
set_option maxRecDepth 20000 in
theorem gX2_lengthAt_X1_size : GoodIn wsX2_lengthAt (wsV RX2 57 RX1 yX1_size wsX1_size) := goodIn_app (goodIn_of _ (by decide +kernel)) ggX2_lengthAt_X1_size
theorem dX2_lengthAt_0 : decode cX2_lengthAt 0 = .ok (.iload_n 1, 1) := by decide +kernel
theorem dX2_lengthAt_1 : decode cX2_lengthAt 1 = .ok (.ifCond .lt 23, 3) := by decide +kernel
theorem dX2_lengthAt_4 : decode cX2_lengthAt 4 = .ok (.iload_n 1, 1) := by decide +kernel
theorem dX2_lengthAt_5 : decode cX2_lengthAt 5 = .ok (.aload_n 0, 1) := by decide +kernel
theorem dX2_lengthAt_6 : decode cX2_lengthAt 6 = .ok (.getfield 9, 3) := by decide +kernel
theorem dX2_lengthAt_9 : decode cX2_lengthAt 9 = .ok (.invokevirtual 57, 3) := by decide +kernel
theorem dX2_lengthAt_12 : decode cX2_lengthAt 12 = .ok (.if_icmp .ge 12, 3) := by decide +kernel
theorem dX2_lengthAt_15 : decode cX2_lengthAt 15 = .ok (.aload_n 0, 1) := by decide +kernel
theorem dX2_lengthAt_16 : decode cX2_lengthAt 16 = .ok (.getfield 31, 3) := by decide +kernel
theorem dX2_lengthAt_19 : decode cX2_lengthAt 19 = .ok (.iload_n 1, 1) := by decide +kernel
theorem dX2_lengthAt_20 : decode cX2_lengthAt 20 = .ok (.iaload, 1) := by decide +kernel
theorem dX2_lengthAt_21 : decode cX2_lengthAt 21 = .ok (.goto 4, 3) := by decide +kernel
theorem dX2_lengthAt_24 : decode cX2_lengthAt 24 = .ok (.iconst 0, 1) := by decide +kernel
theorem dX2_lengthAt_25 : decode cX2_lengthAt 25 = .ok (.ireturn, 1) := by decide +kernel
set_option maxRecDepth 20000 in
theorem ggX2_distanceAt_X2_lengthAt : GoodIn wsX2_distanceAt wsX2_lengthAt := goodIn_r _ [8, 9, 10, 11, 12, 13, 14, 15, 16, 55, 56, 57, 58, 59, 60, 61, 62, 63, 64, 65] (by decide +kernel) (by decide +kernel)
set_option maxRecDepth 20000 in
theorem gX2_distanceAt_X2_lengthAt : GoodIn wsX2_distanceAt (wsV RX2 66 RX2 yX2_lengthAt wsX2_lengthAt) := goodIn_app (goodIn_of _ (by decide +kernel)) ggX2_distanceAt_X2_lengthAt
set_option maxRecDepth 20000 in
theorem ggX2_distanceAt_X7_ofDistanceClass : GoodIn wsX2_distanceAt wsX7_ofDistanceClass := goodIn_r _ [21, 22, 23, 24, 25, 26, 66, 67, 68, 69] (by decide +kernel) (by decide +kernel)
set_option maxRecDepth 20000 in
theorem gX2_distanceAt_X7_ofDistanceClass : GoodIn wsX2_distanceAt (wsV RX2 69 RX7 yX7_ofDistanceClass wsX7_ofDistanceClass) := goodIn_app (goodIn_of _ (by decide +kernel)) ggX2_distanceAt_X7_ofDistanceClass
set_option maxRecDepth 20000 in
theorem ggX2_distanceAt_X3_reachAt : GoodIn wsX2_distanceAt wsX3_reachAt := goodIn_r _ [31, 32, 70, 71, 72, 73, 74, 75, 76] (by decide +kernel) (by decide +kernel)
set_option maxRecDepth 20000 in
theorem gX2_distanceAt_X3_reachAt : GoodIn wsX2_distanceAt (wsV RX2 72 RX3 yX3_reachAt wsX3_reachAt) := goodIn_app (goodIn_of _ (by decide +kernel)) ggX2_distanceAt_X3_reachAt
set_option maxRecDepth 20000 in
theorem ggX2_distanceAt_X3_nearestOfClass : GoodIn wsX2_distanceAt wsX3_nearestOfClass := goodIn_r _ [36, 37, 38, 39, 40, 30, 41, 42, 43, 24, 25, 26, 44, 45, 46, 47, 48, 49, 50, 51, 52, 14, 53, 16, 54, 70, 71, 72, 73, 74, 75, 76, 77, 78, 79, 64, 65] (by decide +kernel) (by decide +kernel)
set_option maxRecDepth 20000 in
theorem gX2_distanceAt_X3_nearestOfClass : GoodIn wsX2_distanceAt (wsV RX2 78 RX3 yX3_nearestOfClass wsX3_nearestOfClass) := goodIn_app (goodIn_of _ (by decide +kernel)) ggX2_distanceAt_X3_nearestOfClass
theorem dX2_distanceAt_0 : decode cX2_distanceAt 0 = .ok (.aload_n 0, 1) := by decide +kernel
theorem dX2_distanceAt_1 : decode cX2_distanceAt 1 = .ok (.iload_n 1, 1) := by decide +kernel
theorem dX2_distanceAt_2 : decode cX2_distanceAt 2 = .ok (.invokevirtual 66, 3) := by decide +kernel
theorem dX2_distanceAt_5 : decode cX2_distanceAt 5 = .ok (.istore_n 2, 1) := by decide +kernel
theorem dX2_distanceAt_6 : decode cX2_distanceAt 6 = .ok (.iload_n 2, 1) := by decide +kernel
theorem dX2_distanceAt_7 : decode cX2_distanceAt 7 = .ok (.iconst 1, 1) := by decide +kernel
theorem dX2_distanceAt_8 : decode cX2_distanceAt 8 = .ok (.if_icmp .gt 5, 3) := by decide +kernel
theorem dX2_distanceAt_11 : decode cX2_distanceAt 11 = .ok (.iconst 0, 1) := by decide +kernel
theorem dX2_distanceAt_12 : decode cX2_distanceAt 12 = .ok (.ireturn, 1) := by decide +kernel
theorem dX2_distanceAt_13 : decode cX2_distanceAt 13 = .ok (.iconst 0, 1) := by decide +kernel
theorem dX2_distanceAt_14 : decode cX2_distanceAt 14 = .ok (.istore_n 3, 1) := by decide +kernel
theorem dX2_distanceAt_15 : decode cX2_distanceAt 15 = .ok (.iload_n 3, 1) := by decide +kernel
theorem dX2_distanceAt_16 : decode cX2_distanceAt 16 = .ok (.bipush 9, 2) := by decide +kernel
theorem dX2_distanceAt_18 : decode cX2_distanceAt 18 = .ok (.if_icmp .ge 50, 3) := by decide +kernel
theorem dX2_distanceAt_21 : decode cX2_distanceAt 21 = .ok (.aload_n 0, 1) := by decide +kernel
theorem dX2_distanceAt_22 : decode cX2_distanceAt 22 = .ok (.getfield 19, 3) := by decide +kernel
theorem dX2_distanceAt_25 : decode cX2_distanceAt 25 = .ok (.iload_n 3, 1) := by decide +kernel
theorem dX2_distanceAt_26 : decode cX2_distanceAt 26 = .ok (.invokevirtual 69, 3) := by decide +kernel
theorem dX2_distanceAt_29 : decode cX2_distanceAt 29 = .ok (.aload_n 0, 1) := by decide +kernel
theorem dX2_distanceAt_30 : decode cX2_distanceAt 30 = .ok (.getfield 34, 3) := by decide +kernel
theorem dX2_distanceAt_33 : decode cX2_distanceAt 33 = .ok (.iload_n 1, 1) := by decide +kernel
theorem dX2_distanceAt_34 : decode cX2_distanceAt 34 = .ok (.iaload, 1) := by decide +kernel
theorem dX2_distanceAt_35 : decode cX2_distanceAt 35 = .ok (.if_icmp .ne 27, 3) := by decide +kernel
theorem dX2_distanceAt_38 : decode cX2_distanceAt 38 = .ok (.aload_n 0, 1) := by decide +kernel
theorem dX2_distanceAt_39 : decode cX2_distanceAt 39 = .ok (.getfield 23, 3) := by decide +kernel
theorem dX2_distanceAt_42 : decode cX2_distanceAt 42 = .ok (.iload_n 1, 1) := by decide +kernel
theorem dX2_distanceAt_43 : decode cX2_distanceAt 43 = .ok (.iload_n 3, 1) := by decide +kernel
theorem dX2_distanceAt_44 : decode cX2_distanceAt 44 = .ok (.invokevirtual 72, 3) := by decide +kernel
theorem dX2_distanceAt_47 : decode cX2_distanceAt 47 = .ok (.iload_n 2, 1) := by decide +kernel
theorem dX2_distanceAt_48 : decode cX2_distanceAt 48 = .ok (.if_icmp .lt 14, 3) := by decide +kernel
theorem dX2_distanceAt_51 : decode cX2_distanceAt 51 = .ok (.aload_n 0, 1) := by decide +kernel
theorem dX2_distanceAt_52 : decode cX2_distanceAt 52 = .ok (.getfield 23, 3) := by decide +kernel
theorem dX2_distanceAt_55 : decode cX2_distanceAt 55 = .ok (.iload_n 1, 1) := by decide +kernel
theorem dX2_distanceAt_56 : decode cX2_distanceAt 56 = .ok (.iload_n 2, 1) := by decide +kernel
theorem dX2_distanceAt_57 : decode cX2_distanceAt 57 = .ok (.iload_n 3, 1) := by decide +kernel
theorem dX2_distanceAt_58 : decode cX2_distanceAt 58 = .ok (.invokevirtual 78, 3) := by decide +kernel
theorem dX2_distanceAt_61 : decode cX2_distanceAt 61 = .ok (.ireturn, 1) := by decide +kernel
theorem dX2_distanceAt_62 : decode cX2_distanceAt 62 = .ok (.iinc 3 1, 3) := by decide +kernel
theorem dX2_distanceAt_65 : decode cX2_distanceAt 65 = .ok (.goto (-50), 3) := by decide +kernel
theorem dX2_distanceAt_68 : decode cX2_distanceAt 68 = .ok (.iconst 0, 1) := by decide +kernel
theorem dX2_distanceAt_69 : decode cX2_distanceAt 69 = .ok (.ireturn, 1) := by decide +kernel
set_option maxRecDepth 20000 in
theorem ggX2_chooseStep_X3_longestAt : GoodIn wsX2_chooseStep wsX3_longestAt := goodIn_r _ [19, 20, 21, 22, 23, 24, 25, 26, 27, 70, 71, 72, 73, 74, 75, 76, 77, 78] (by decide +kernel) (by decide +kernel)
set_option maxRecDepth 20000 in
theorem gX2_chooseStep_X3_longestAt : GoodIn wsX2_chooseStep (wsV RX2 82 RX3 yX3_longestAt wsX3_longestAt) := goodIn_app (goodIn_of _ (by decide +kernel)) ggX2_chooseStep_X3_longestAt
set_option maxRecDepth 20000 in
theorem ggX2_chooseStep_X2_sortByReach : GoodIn wsX2_chooseStep wsX2_sortByReach := goodIn_r _ [32, 4, 2, 1, 11, 5, 6, 7, 8, 33, 34, 35, 18, 36, 37, 38, 39, 40, 41, 42, 43, 44, 61, 62, 63, 64, 65, 66, 67, 68, 69, 70, 71, 72, 73, 74, 75, 76, 79, 80, 81, 82] (by decide +kernel) (by decide +kernel)
set_option maxRecDepth 20000 in
theorem gX2_chooseStep_X2_sortByReach : GoodIn wsX2_chooseStep (wsV RX2 85 RX2 yX2_sortByReach wsX2_sortByReach) := goodIn_app (goodIn_of _ (by decide +kernel)) ggX2_chooseStep_X2_sortByReach
set_option maxRecDepth 20000 in
theorem ggX2_chooseStep_X5_least : GoodIn wsX2_chooseStep wsX5_least := goodIn_r _ [49, 50, 83, 84, 85] (by decide +kernel) (by decide +kernel)
set_option maxRecDepth 20000 in
theorem gX2_chooseStep_X5_least : GoodIn wsX2_chooseStep (wsV RX2 43 RX5 yX5_least wsX5_least) := goodIn_app (goodIn_of _ (by decide +kernel)) ggX2_chooseStep_X5_least
set_option maxRecDepth 20000 in
theorem ggX2_chooseStep_X1_get : GoodIn wsX2_chooseStep wsX1_get := goodIn_r _ [54, 27, 55, 77, 78] (by decide +kernel) (by decide +kernel)
set_option maxRecDepth 20000 in
theorem gX2_chooseStep_X1_get : GoodIn wsX2_chooseStep (wsV RX2 95 RX1 yX1_get wsX1_get) := goodIn_app (goodIn_of _ (by decide +kernel)) ggX2_chooseStep_X1_get
set_option maxRecDepth 20000 in
theorem ggX2_chooseStep_X7_ofByte : GoodIn wsX2_chooseStep wsX7_ofByte := goodIn_r _ [59, 60, 79, 80, 81, 82] (by decide +kernel) (by decide +kernel)
set_option maxRecDepth 20000 in
theorem gX2_chooseStep_X7_ofByte : GoodIn wsX2_chooseStep (wsV RX2 98 RX7 yX7_ofByte wsX7_ofByte) := goodIn_app (goodIn_of _ (by decide +kernel)) ggX2_chooseStep_X7_ofByte
theorem dX2_chooseStep_0 : decode cX2_chooseStep 0 = .ok (.aload_n 0, 1) := by decide +kernel
theorem dX2_chooseStep_1 : decode cX2_chooseStep 1 = .ok (.getfield 23, 3) := by decide +kernel
theorem dX2_chooseStep_4 : decode cX2_chooseStep 4 = .ok (.iload_n 1, 1) := by decide +kernel
theorem dX2_chooseStep_5 : decode cX2_chooseStep 5 = .ok (.invokevirtual 82, 3) := by decide +kernel
theorem dX2_chooseStep_8 : decode cX2_chooseStep 8 = .ok (.istore_n 2, 1) := by decide +kernel
theorem dX2_chooseStep_9 : decode cX2_chooseStep 9 = .ok (.aload_n 0, 1) := by decide +kernel
theorem dX2_chooseStep_10 : decode cX2_chooseStep 10 = .ok (.iload_n 1, 1) := by decide +kernel
theorem dX2_chooseStep_11 : decode cX2_chooseStep 11 = .ok (.iload_n 2, 1) := by decide +kernel
theorem dX2_chooseStep_12 : decode cX2_chooseStep 12 = .ok (.invokevirtual 85, 3) := by decide +kernel
theorem dX2_chooseStep_15 : decode cX2_chooseStep 15 = .ok (.ldc 89, 2) := by decide +kernel
theorem dX2_chooseStep_17 : decode cX2_chooseStep 17 = .ok (.istore_n 3, 1) := by decide +kernel
theorem dX2_chooseStep_18 : decode cX2_chooseStep 18 = .ok (.iconst 1, 1) := by decide +kernel
theorem dX2_chooseStep_19 : decode cX2_chooseStep 19 = .ok (.istore 4, 2) := by decide +kernel
theorem dX2_chooseStep_21 : decode cX2_chooseStep 21 = .ok (.iconst 0, 1) := by decide +kernel
theorem dX2_chooseStep_22 : decode cX2_chooseStep 22 = .ok (.istore 5, 2) := by decide +kernel
theorem dX2_chooseStep_24 : decode cX2_chooseStep 24 = .ok (.ldc 89, 2) := by decide +kernel
theorem dX2_chooseStep_26 : decode cX2_chooseStep 26 = .ok (.istore 6, 2) := by decide +kernel
theorem dX2_chooseStep_28 : decode cX2_chooseStep 28 = .ok (.iload_n 2, 1) := by decide +kernel
theorem dX2_chooseStep_29 : decode cX2_chooseStep 29 = .ok (.istore 7, 2) := by decide +kernel
theorem dX2_chooseStep_31 : decode cX2_chooseStep 31 = .ok (.iload 7, 2) := by decide +kernel
theorem dX2_chooseStep_33 : decode cX2_chooseStep 33 = .ok (.aload_n 0, 1) := by decide +kernel
theorem dX2_chooseStep_34 : decode cX2_chooseStep 34 = .ok (.getfield 15, 3) := by decide +kernel
theorem dX2_chooseStep_37 : decode cX2_chooseStep 37 = .ok (.invokevirtual 43, 3) := by decide +kernel
theorem dX2_chooseStep_40 : decode cX2_chooseStep 40 = .ok (.if_icmp .lt 62, 3) := by decide +kernel
theorem dX2_chooseStep_43 : decode cX2_chooseStep 43 = .ok (.iload 6, 2) := by decide +kernel
theorem dX2_chooseStep_45 : decode cX2_chooseStep 45 = .ok (.aload_n 0, 1) := by decide +kernel
theorem dX2_chooseStep_46 : decode cX2_chooseStep 46 = .ok (.getfield 40, 3) := by decide +kernel
theorem dX2_chooseStep_49 : decode cX2_chooseStep 49 = .ok (.iload 7, 2) := by decide +kernel
theorem dX2_chooseStep_51 : decode cX2_chooseStep 51 = .ok (.iaload, 1) := by decide +kernel
theorem dX2_chooseStep_52 : decode cX2_chooseStep 52 = .ok (.invokestatic 90, 3) := by decide +kernel
theorem dX2_chooseStep_55 : decode cX2_chooseStep 55 = .ok (.istore 6, 2) := by decide +kernel
theorem dX2_chooseStep_57 : decode cX2_chooseStep 57 = .ok (.aload_n 0, 1) := by decide +kernel
theorem dX2_chooseStep_58 : decode cX2_chooseStep 58 = .ok (.getfield 37, 3) := by decide +kernel
theorem dX2_chooseStep_61 : decode cX2_chooseStep 61 = .ok (.iload 7, 2) := by decide +kernel
theorem dX2_chooseStep_63 : decode cX2_chooseStep 63 = .ok (.iaload, 1) := by decide +kernel
theorem dX2_chooseStep_64 : decode cX2_chooseStep 64 = .ok (.iload 6, 2) := by decide +kernel
theorem dX2_chooseStep_66 : decode cX2_chooseStep 66 = .ok (.iadd, 1) := by decide +kernel
theorem dX2_chooseStep_67 : decode cX2_chooseStep 67 = .ok (.aload_n 0, 1) := by decide +kernel
theorem dX2_chooseStep_68 : decode cX2_chooseStep 68 = .ok (.getfield 27, 3) := by decide +kernel
theorem dX2_chooseStep_71 : decode cX2_chooseStep 71 = .ok (.iload_n 1, 1) := by decide +kernel
theorem dX2_chooseStep_72 : decode cX2_chooseStep 72 = .ok (.iload 7, 2) := by decide +kernel
theorem dX2_chooseStep_74 : decode cX2_chooseStep 74 = .ok (.iadd, 1) := by decide +kernel
theorem dX2_chooseStep_75 : decode cX2_chooseStep 75 = .ok (.iaload, 1) := by decide +kernel
theorem dX2_chooseStep_76 : decode cX2_chooseStep 76 = .ok (.iadd, 1) := by decide +kernel
theorem dX2_chooseStep_77 : decode cX2_chooseStep 77 = .ok (.istore 8, 2) := by decide +kernel
theorem dX2_chooseStep_79 : decode cX2_chooseStep 79 = .ok (.iload 8, 2) := by decide +kernel
theorem dX2_chooseStep_81 : decode cX2_chooseStep 81 = .ok (.iload_n 3, 1) := by decide +kernel
theorem dX2_chooseStep_82 : decode cX2_chooseStep 82 = .ok (.if_icmp .ge 14, 3) := by decide +kernel
theorem dX2_chooseStep_85 : decode cX2_chooseStep 85 = .ok (.iload 8, 2) := by decide +kernel
theorem dX2_chooseStep_87 : decode cX2_chooseStep 87 = .ok (.istore_n 3, 1) := by decide +kernel
theorem dX2_chooseStep_88 : decode cX2_chooseStep 88 = .ok (.iload 7, 2) := by decide +kernel
theorem dX2_chooseStep_90 : decode cX2_chooseStep 90 = .ok (.istore 4, 2) := by decide +kernel
theorem dX2_chooseStep_92 : decode cX2_chooseStep 92 = .ok (.iload 6, 2) := by decide +kernel
theorem dX2_chooseStep_94 : decode cX2_chooseStep 94 = .ok (.istore 5, 2) := by decide +kernel
theorem dX2_chooseStep_96 : decode cX2_chooseStep 96 = .ok (.iinc 7 (-1), 3) := by decide +kernel
theorem dX2_chooseStep_99 : decode cX2_chooseStep 99 = .ok (.goto (-68), 3) := by decide +kernel
theorem dX2_chooseStep_102 : decode cX2_chooseStep 102 = .ok (.aload_n 0, 1) := by decide +kernel
theorem dX2_chooseStep_103 : decode cX2_chooseStep 103 = .ok (.getfield 19, 3) := by decide +kernel
theorem dX2_chooseStep_106 : decode cX2_chooseStep 106 = .ok (.aload_n 0, 1) := by decide +kernel
theorem dX2_chooseStep_107 : decode cX2_chooseStep 107 = .ok (.getfield 9, 3) := by decide +kernel
theorem dX2_chooseStep_110 : decode cX2_chooseStep 110 = .ok (.iload_n 1, 1) := by decide +kernel
theorem dX2_chooseStep_111 : decode cX2_chooseStep 111 = .ok (.invokevirtual 95, 3) := by decide +kernel
theorem dX2_chooseStep_114 : decode cX2_chooseStep 114 = .ok (.invokevirtual 98, 3) := by decide +kernel
theorem dX2_chooseStep_117 : decode cX2_chooseStep 117 = .ok (.aload_n 0, 1) := by decide +kernel
theorem dX2_chooseStep_118 : decode cX2_chooseStep 118 = .ok (.getfield 27, 3) := by decide +kernel
theorem dX2_chooseStep_121 : decode cX2_chooseStep 121 = .ok (.iload_n 1, 1) := by decide +kernel
theorem dX2_chooseStep_122 : decode cX2_chooseStep 122 = .ok (.iconst 1, 1) := by decide +kernel
theorem dX2_chooseStep_123 : decode cX2_chooseStep 123 = .ok (.iadd, 1) := by decide +kernel
theorem dX2_chooseStep_124 : decode cX2_chooseStep 124 = .ok (.iaload, 1) := by decide +kernel
theorem dX2_chooseStep_125 : decode cX2_chooseStep 125 = .ok (.iadd, 1) := by decide +kernel
theorem dX2_chooseStep_126 : decode cX2_chooseStep 126 = .ok (.istore 7, 2) := by decide +kernel
theorem dX2_chooseStep_128 : decode cX2_chooseStep 128 = .ok (.iload 7, 2) := by decide +kernel
theorem dX2_chooseStep_130 : decode cX2_chooseStep 130 = .ok (.iload_n 3, 1) := by decide +kernel
theorem dX2_chooseStep_131 : decode cX2_chooseStep 131 = .ok (.if_icmp .ge 12, 3) := by decide +kernel
theorem dX2_chooseStep_134 : decode cX2_chooseStep 134 = .ok (.iload 7, 2) := by decide +kernel
theorem dX2_chooseStep_136 : decode cX2_chooseStep 136 = .ok (.istore_n 3, 1) := by decide +kernel
theorem dX2_chooseStep_137 : decode cX2_chooseStep 137 = .ok (.iconst 1, 1) := by decide +kernel
theorem dX2_chooseStep_138 : decode cX2_chooseStep 138 = .ok (.istore 4, 2) := by decide +kernel
theorem dX2_chooseStep_140 : decode cX2_chooseStep 140 = .ok (.iconst 0, 1) := by decide +kernel
theorem dX2_chooseStep_141 : decode cX2_chooseStep 141 = .ok (.istore 5, 2) := by decide +kernel
theorem dX2_chooseStep_143 : decode cX2_chooseStep 143 = .ok (.aload_n 0, 1) := by decide +kernel
theorem dX2_chooseStep_144 : decode cX2_chooseStep 144 = .ok (.getfield 27, 3) := by decide +kernel
theorem dX2_chooseStep_147 : decode cX2_chooseStep 147 = .ok (.iload_n 1, 1) := by decide +kernel
theorem dX2_chooseStep_148 : decode cX2_chooseStep 148 = .ok (.iload_n 3, 1) := by decide +kernel
theorem dX2_chooseStep_149 : decode cX2_chooseStep 149 = .ok (.iastore, 1) := by decide +kernel
theorem dX2_chooseStep_150 : decode cX2_chooseStep 150 = .ok (.aload_n 0, 1) := by decide +kernel
theorem dX2_chooseStep_151 : decode cX2_chooseStep 151 = .ok (.getfield 31, 3) := by decide +kernel
theorem dX2_chooseStep_154 : decode cX2_chooseStep 154 = .ok (.iload_n 1, 1) := by decide +kernel
theorem dX2_chooseStep_155 : decode cX2_chooseStep 155 = .ok (.iload 4, 2) := by decide +kernel
theorem dX2_chooseStep_157 : decode cX2_chooseStep 157 = .ok (.iastore, 1) := by decide +kernel
theorem dX2_chooseStep_158 : decode cX2_chooseStep 158 = .ok (.aload_n 0, 1) := by decide +kernel
theorem dX2_chooseStep_159 : decode cX2_chooseStep 159 = .ok (.getfield 34, 3) := by decide +kernel
theorem dX2_chooseStep_162 : decode cX2_chooseStep 162 = .ok (.iload_n 1, 1) := by decide +kernel
theorem dX2_chooseStep_163 : decode cX2_chooseStep 163 = .ok (.iload 5, 2) := by decide +kernel
theorem dX2_chooseStep_165 : decode cX2_chooseStep 165 = .ok (.iastore, 1) := by decide +kernel
theorem dX2_chooseStep_166 : decode cX2_chooseStep 166 = .ok (.return_, 1) := by decide +kernel
set_option maxRecDepth 20000 in
theorem ggX2_sortByReach_X3_reachAt : GoodIn wsX2_sortByReach wsX3_reachAt := goodIn_r _ [13, 14, 31, 32, 33, 34, 35, 36, 37] (by decide +kernel) (by decide +kernel)
set_option maxRecDepth 20000 in
theorem gX2_sortByReach_X3_reachAt : GoodIn wsX2_sortByReach (wsV RX2 72 RX3 yX3_reachAt wsX3_reachAt) := goodIn_app (goodIn_of _ (by decide +kernel)) ggX2_sortByReach_X3_reachAt
set_option maxRecDepth 20000 in
theorem ggX2_sortByReach_X7_ofDistanceClass : GoodIn wsX2_sortByReach wsX7_ofDistanceClass := goodIn_r _ [19, 20, 21, 6, 7, 8, 38, 39, 40, 41] (by decide +kernel) (by decide +kernel)
set_option maxRecDepth 20000 in
theorem gX2_sortByReach_X7_ofDistanceClass : GoodIn wsX2_sortByReach (wsV RX2 69 RX7 yX7_ofDistanceClass wsX7_ofDistanceClass) := goodIn_app (goodIn_of _ (by decide +kernel)) ggX2_sortByReach_X7_ofDistanceClass
theorem dX2_sortByReach_0 : decode cX2_sortByReach 0 = .ok (.iconst 0, 1) := by decide +kernel
theorem dX2_sortByReach_1 : decode cX2_sortByReach 1 = .ok (.istore_n 3, 1) := by decide +kernel
theorem dX2_sortByReach_2 : decode cX2_sortByReach 2 = .ok (.iload_n 3, 1) := by decide +kernel
theorem dX2_sortByReach_3 : decode cX2_sortByReach 3 = .ok (.iload_n 2, 1) := by decide +kernel
theorem dX2_sortByReach_4 : decode cX2_sortByReach 4 = .ok (.if_icmp .gt 17, 3) := by decide +kernel
theorem dX2_sortByReach_7 : decode cX2_sortByReach 7 = .ok (.aload_n 0, 1) := by decide +kernel
theorem dX2_sortByReach_8 : decode cX2_sortByReach 8 = .ok (.getfield 40, 3) := by decide +kernel
theorem dX2_sortByReach_11 : decode cX2_sortByReach 11 = .ok (.iload_n 3, 1) := by decide +kernel
theorem dX2_sortByReach_12 : decode cX2_sortByReach 12 = .ok (.ldc 89, 2) := by decide +kernel
theorem dX2_sortByReach_14 : decode cX2_sortByReach 14 = .ok (.iastore, 1) := by decide +kernel
theorem dX2_sortByReach_15 : decode cX2_sortByReach 15 = .ok (.iinc 3 1, 3) := by decide +kernel
theorem dX2_sortByReach_18 : decode cX2_sortByReach 18 = .ok (.goto (-16), 3) := by decide +kernel
theorem dX2_sortByReach_21 : decode cX2_sortByReach 21 = .ok (.iconst 0, 1) := by decide +kernel
theorem dX2_sortByReach_22 : decode cX2_sortByReach 22 = .ok (.istore_n 3, 1) := by decide +kernel
theorem dX2_sortByReach_23 : decode cX2_sortByReach 23 = .ok (.iload_n 3, 1) := by decide +kernel
theorem dX2_sortByReach_24 : decode cX2_sortByReach 24 = .ok (.bipush 9, 2) := by decide +kernel
theorem dX2_sortByReach_26 : decode cX2_sortByReach 26 = .ok (.if_icmp .ge 45, 3) := by decide +kernel
theorem dX2_sortByReach_29 : decode cX2_sortByReach 29 = .ok (.aload_n 0, 1) := by decide +kernel
theorem dX2_sortByReach_30 : decode cX2_sortByReach 30 = .ok (.getfield 23, 3) := by decide +kernel
theorem dX2_sortByReach_33 : decode cX2_sortByReach 33 = .ok (.iload_n 1, 1) := by decide +kernel
theorem dX2_sortByReach_34 : decode cX2_sortByReach 34 = .ok (.iload_n 3, 1) := by decide +kernel
theorem dX2_sortByReach_35 : decode cX2_sortByReach 35 = .ok (.invokevirtual 72, 3) := by decide +kernel
theorem dX2_sortByReach_38 : decode cX2_sortByReach 38 = .ok (.istore 4, 2) := by decide +kernel
theorem dX2_sortByReach_40 : decode cX2_sortByReach 40 = .ok (.aload_n 0, 1) := by decide +kernel
theorem dX2_sortByReach_41 : decode cX2_sortByReach 41 = .ok (.getfield 40, 3) := by decide +kernel
theorem dX2_sortByReach_44 : decode cX2_sortByReach 44 = .ok (.iload 4, 2) := by decide +kernel
theorem dX2_sortByReach_46 : decode cX2_sortByReach 46 = .ok (.aload_n 0, 1) := by decide +kernel
theorem dX2_sortByReach_47 : decode cX2_sortByReach 47 = .ok (.getfield 40, 3) := by decide +kernel
theorem dX2_sortByReach_50 : decode cX2_sortByReach 50 = .ok (.iload 4, 2) := by decide +kernel
theorem dX2_sortByReach_52 : decode cX2_sortByReach 52 = .ok (.iaload, 1) := by decide +kernel
theorem dX2_sortByReach_53 : decode cX2_sortByReach 53 = .ok (.aload_n 0, 1) := by decide +kernel
theorem dX2_sortByReach_54 : decode cX2_sortByReach 54 = .ok (.getfield 19, 3) := by decide +kernel
theorem dX2_sortByReach_57 : decode cX2_sortByReach 57 = .ok (.iload_n 3, 1) := by decide +kernel
theorem dX2_sortByReach_58 : decode cX2_sortByReach 58 = .ok (.invokevirtual 69, 3) := by decide +kernel
theorem dX2_sortByReach_61 : decode cX2_sortByReach 61 = .ok (.invokestatic 90, 3) := by decide +kernel
theorem dX2_sortByReach_64 : decode cX2_sortByReach 64 = .ok (.iastore, 1) := by decide +kernel
theorem dX2_sortByReach_65 : decode cX2_sortByReach 65 = .ok (.iinc 3 1, 3) := by decide +kernel
theorem dX2_sortByReach_68 : decode cX2_sortByReach 68 = .ok (.goto (-45), 3) := by decide +kernel
theorem dX2_sortByReach_71 : decode cX2_sortByReach 71 = .ok (.return_, 1) := by decide +kernel
theorem dX3_init_0 : decode cX3_init 0 = .ok (.aload_n 0, 1) := by decide +kernel
theorem dX3_init_1 : decode cX3_init 1 = .ok (.invokespecial 3, 3) := by decide +kernel
theorem dX3_init_4 : decode cX3_init 4 = .ok (.aload_n 0, 1) := by decide +kernel
theorem dX3_init_5 : decode cX3_init 5 = .ok (.aload_n 1, 1) := by decide +kernel
theorem dX3_init_6 : decode cX3_init 6 = .ok (.putfield 9, 3) := by decide +kernel
theorem dX3_init_9 : decode cX3_init 9 = .ok (.aload_n 0, 1) := by decide +kernel
theorem dX3_init_10 : decode cX3_init 10 = .ok (.aload_n 2, 1) := by decide +kernel
theorem dX3_init_11 : decode cX3_init 11 = .ok (.putfield 15, 3) := by decide +kernel
theorem dX3_init_14 : decode cX3_init 14 = .ok (.aload_n 0, 1) := by decide +kernel
theorem dX3_init_15 : decode cX3_init 15 = .ok (.sipush 500, 3) := by decide +kernel
theorem dX3_init_18 : decode cX3_init 18 = .ok (.newarray .int, 2) := by decide +kernel
theorem dX3_init_20 : decode cX3_init 20 = .ok (.putfield 19, 3) := by decide +kernel
theorem dX3_init_23 : decode cX3_init 23 = .ok (.aload_n 0, 1) := by decide +kernel
theorem dX3_init_24 : decode cX3_init 24 = .ok (.sipush 500, 3) := by decide +kernel
theorem dX3_init_27 : decode cX3_init 27 = .ok (.newarray .int, 2) := by decide +kernel
theorem dX3_init_29 : decode cX3_init 29 = .ok (.putfield 23, 3) := by decide +kernel
theorem dX3_init_32 : decode cX3_init 32 = .ok (.aload_n 0, 1) := by decide +kernel
theorem dX3_init_33 : decode cX3_init 33 = .ok (.sipush 500, 3) := by decide +kernel
theorem dX3_init_36 : decode cX3_init 36 = .ok (.newarray .int, 2) := by decide +kernel
theorem dX3_init_38 : decode cX3_init 38 = .ok (.putfield 26, 3) := by decide +kernel
theorem dX3_init_41 : decode cX3_init 41 = .ok (.aload_n 0, 1) := by decide +kernel
theorem dX3_init_42 : decode cX3_init 42 = .ok (.sipush 4500, 3) := by decide +kernel
theorem dX3_init_45 : decode cX3_init 45 = .ok (.newarray .int, 2) := by decide +kernel
theorem dX3_init_47 : decode cX3_init 47 = .ok (.putfield 29, 3) := by decide +kernel
theorem dX3_init_50 : decode cX3_init 50 = .ok (.aload_n 0, 1) := by decide +kernel
theorem dX3_init_51 : decode cX3_init 51 = .ok (.sipush 501, 3) := by decide +kernel
theorem dX3_init_54 : decode cX3_init 54 = .ok (.newarray .int, 2) := by decide +kernel
theorem dX3_init_56 : decode cX3_init 56 = .ok (.putfield 32, 3) := by decide +kernel
theorem dX3_init_59 : decode cX3_init 59 = .ok (.return_, 1) := by decide +kernel
set_option maxRecDepth 20000 in
theorem ggX3_build_X1_size : GoodIn wsX3_build wsX1_size := goodIn_r _ [10, 11, 57, 58] (by decide +kernel) (by decide +kernel)
set_option maxRecDepth 20000 in
theorem gX3_build_X1_size : GoodIn wsX3_build (wsV RX3 35 RX1 yX1_size wsX1_size) := goodIn_app (goodIn_of _ (by decide +kernel)) ggX3_build_X1_size
set_option maxRecDepth 20000 in
theorem ggX3_build_X3_noteClass : GoodIn wsX3_build wsX3_noteClass := goodIn_r _ [16, 2, 17, 1, 18, 19, 20, 21, 22, 23, 24, 25, 26, 27, 28, 29, 30, 31, 15, 32, 33, 34, 35, 36, 37, 38, 39, 40, 41, 42, 43, 44, 5, 3, 4, 45, 46, 47, 48, 49, 50, 51, 52, 53, 54, 55, 56, 57, 58, 59, 60, 61] (by decide +kernel) (by decide +kernel)
set_option maxRecDepth 20000 in
theorem gX3_build_X3_noteClass : GoodIn wsX3_build (wsV RX3 41 RX3 yX3_noteClass wsX3_noteClass) := goodIn_app (goodIn_of _ (by decide +kernel)) ggX3_build_X3_noteClass
theorem dX3_build_0 : decode cX3_build 0 = .ok (.iconst 0, 1) := by decide +kernel
theorem dX3_build_1 : decode cX3_build 1 = .ok (.istore_n 1, 1) := by decide +kernel
theorem dX3_build_2 : decode cX3_build 2 = .ok (.iload_n 1, 1) := by decide +kernel
theorem dX3_build_3 : decode cX3_build 3 = .ok (.sipush 500, 3) := by decide +kernel
theorem dX3_build_6 : decode cX3_build 6 = .ok (.if_icmp .gt 16, 3) := by decide +kernel
theorem dX3_build_9 : decode cX3_build 9 = .ok (.aload_n 0, 1) := by decide +kernel
theorem dX3_build_10 : decode cX3_build 10 = .ok (.getfield 32, 3) := by decide +kernel
theorem dX3_build_13 : decode cX3_build 13 = .ok (.iload_n 1, 1) := by decide +kernel
theorem dX3_build_14 : decode cX3_build 14 = .ok (.iconst 0, 1) := by decide +kernel
theorem dX3_build_15 : decode cX3_build 15 = .ok (.iastore, 1) := by decide +kernel
theorem dX3_build_16 : decode cX3_build 16 = .ok (.iinc 1 1, 3) := by decide +kernel
theorem dX3_build_19 : decode cX3_build 19 = .ok (.goto (-17), 3) := by decide +kernel
theorem dX3_build_22 : decode cX3_build 22 = .ok (.aload_n 0, 1) := by decide +kernel
theorem dX3_build_23 : decode cX3_build 23 = .ok (.getfield 9, 3) := by decide +kernel
theorem dX3_build_26 : decode cX3_build 26 = .ok (.invokevirtual 35, 3) := by decide +kernel
theorem dX3_build_29 : decode cX3_build 29 = .ok (.iconst 1, 1) := by decide +kernel
theorem dX3_build_30 : decode cX3_build 30 = .ok (.isub, 1) := by decide +kernel
theorem dX3_build_31 : decode cX3_build 31 = .ok (.istore_n 1, 1) := by decide +kernel
theorem dX3_build_32 : decode cX3_build 32 = .ok (.iload_n 1, 1) := by decide +kernel
theorem dX3_build_33 : decode cX3_build 33 = .ok (.ifCond .lt 50, 3) := by decide +kernel
theorem dX3_build_36 : decode cX3_build 36 = .ok (.aload_n 0, 1) := by decide +kernel
theorem dX3_build_37 : decode cX3_build 37 = .ok (.getfield 19, 3) := by decide +kernel
theorem dX3_build_40 : decode cX3_build 40 = .ok (.iload_n 1, 1) := by decide +kernel
theorem dX3_build_41 : decode cX3_build 41 = .ok (.iconst 0, 1) := by decide +kernel
theorem dX3_build_42 : decode cX3_build 42 = .ok (.iastore, 1) := by decide +kernel
theorem dX3_build_43 : decode cX3_build 43 = .ok (.aload_n 0, 1) := by decide +kernel
theorem dX3_build_44 : decode cX3_build 44 = .ok (.getfield 23, 3) := by decide +kernel
theorem dX3_build_47 : decode cX3_build 47 = .ok (.iload_n 1, 1) := by decide +kernel
theorem dX3_build_48 : decode cX3_build 48 = .ok (.iconst 0, 1) := by decide +kernel
theorem dX3_build_49 : decode cX3_build 49 = .ok (.iastore, 1) := by decide +kernel
theorem dX3_build_50 : decode cX3_build 50 = .ok (.aload_n 0, 1) := by decide +kernel
theorem dX3_build_51 : decode cX3_build 51 = .ok (.getfield 26, 3) := by decide +kernel
theorem dX3_build_54 : decode cX3_build 54 = .ok (.iload_n 1, 1) := by decide +kernel
theorem dX3_build_55 : decode cX3_build 55 = .ok (.iconst 0, 1) := by decide +kernel
theorem dX3_build_56 : decode cX3_build 56 = .ok (.iastore, 1) := by decide +kernel
theorem dX3_build_57 : decode cX3_build 57 = .ok (.iconst 0, 1) := by decide +kernel
theorem dX3_build_58 : decode cX3_build 58 = .ok (.istore_n 2, 1) := by decide +kernel
theorem dX3_build_59 : decode cX3_build 59 = .ok (.iload_n 2, 1) := by decide +kernel
theorem dX3_build_60 : decode cX3_build 60 = .ok (.bipush 9, 2) := by decide +kernel
theorem dX3_build_62 : decode cX3_build 62 = .ok (.if_icmp .ge 15, 3) := by decide +kernel
theorem dX3_build_65 : decode cX3_build 65 = .ok (.aload_n 0, 1) := by decide +kernel
theorem dX3_build_66 : decode cX3_build 66 = .ok (.iload_n 1, 1) := by decide +kernel
theorem dX3_build_67 : decode cX3_build 67 = .ok (.iload_n 2, 1) := by decide +kernel
theorem dX3_build_68 : decode cX3_build 68 = .ok (.invokevirtual 41, 3) := by decide +kernel
theorem dX3_build_71 : decode cX3_build 71 = .ok (.iinc 2 1, 3) := by decide +kernel
theorem dX3_build_74 : decode cX3_build 74 = .ok (.goto (-15), 3) := by decide +kernel
theorem dX3_build_77 : decode cX3_build 77 = .ok (.iinc 1 (-1), 3) := by decide +kernel
theorem dX3_build_80 : decode cX3_build 80 = .ok (.goto (-48), 3) := by decide +kernel
theorem dX3_build_83 : decode cX3_build 83 = .ok (.return_, 1) := by decide +kernel
set_option maxRecDepth 20000 in
theorem ggX3_longestAt_X1_size : GoodIn wsX3_longestAt wsX1_size := goodIn_r _ [7, 8, 16, 17] (by decide +kernel) (by decide +kernel)
set_option maxRecDepth 20000 in
theorem gX3_longestAt_X1_size : GoodIn wsX3_longestAt (wsV RX3 35 RX1 yX1_size wsX1_size) := goodIn_app (goodIn_of _ (by decide +kernel)) ggX3_longestAt_X1_size
theorem dX3_longestAt_0 : decode cX3_longestAt 0 = .ok (.iload_n 1, 1) := by decide +kernel
theorem dX3_longestAt_1 : decode cX3_longestAt 1 = .ok (.ifCond .lt 23, 3) := by decide +kernel
theorem dX3_longestAt_4 : decode cX3_longestAt 4 = .ok (.iload_n 1, 1) := by decide +kernel
theorem dX3_longestAt_5 : decode cX3_longestAt 5 = .ok (.aload_n 0, 1) := by decide +kernel
theorem dX3_longestAt_6 : decode cX3_longestAt 6 = .ok (.getfield 9, 3) := by decide +kernel
theorem dX3_longestAt_9 : decode cX3_longestAt 9 = .ok (.invokevirtual 35, 3) := by decide +kernel
theorem dX3_longestAt_12 : decode cX3_longestAt 12 = .ok (.if_icmp .ge 12, 3) := by decide +kernel
theorem dX3_longestAt_15 : decode cX3_longestAt 15 = .ok (.aload_n 0, 1) := by decide +kernel
theorem dX3_longestAt_16 : decode cX3_longestAt 16 = .ok (.getfield 19, 3) := by decide +kernel
theorem dX3_longestAt_19 : decode cX3_longestAt 19 = .ok (.iload_n 1, 1) := by decide +kernel
theorem dX3_longestAt_20 : decode cX3_longestAt 20 = .ok (.iaload, 1) := by decide +kernel
theorem dX3_longestAt_21 : decode cX3_longestAt 21 = .ok (.goto 4, 3) := by decide +kernel
theorem dX3_longestAt_24 : decode cX3_longestAt 24 = .ok (.iconst 0, 1) := by decide +kernel
theorem dX3_longestAt_25 : decode cX3_longestAt 25 = .ok (.ireturn, 1) := by decide +kernel
set_option maxRecDepth 20000 in
theorem ggX3_nearestAt_X1_size : GoodIn wsX3_nearestAt wsX1_size := goodIn_r _ [7, 8, 16, 17] (by decide +kernel) (by decide +kernel)
set_option maxRecDepth 20000 in
theorem gX3_nearestAt_X1_size : GoodIn wsX3_nearestAt (wsV RX3 35 RX1 yX1_size wsX1_size) := goodIn_app (goodIn_of _ (by decide +kernel)) ggX3_nearestAt_X1_size
theorem dX3_nearestAt_0 : decode cX3_nearestAt 0 = .ok (.iload_n 1, 1) := by decide +kernel
theorem dX3_nearestAt_1 : decode cX3_nearestAt 1 = .ok (.ifCond .lt 23, 3) := by decide +kernel
theorem dX3_nearestAt_4 : decode cX3_nearestAt 4 = .ok (.iload_n 1, 1) := by decide +kernel
theorem dX3_nearestAt_5 : decode cX3_nearestAt 5 = .ok (.aload_n 0, 1) := by decide +kernel
theorem dX3_nearestAt_6 : decode cX3_nearestAt 6 = .ok (.getfield 9, 3) := by decide +kernel
theorem dX3_nearestAt_9 : decode cX3_nearestAt 9 = .ok (.invokevirtual 35, 3) := by decide +kernel
theorem dX3_nearestAt_12 : decode cX3_nearestAt 12 = .ok (.if_icmp .ge 12, 3) := by decide +kernel
theorem dX3_nearestAt_15 : decode cX3_nearestAt 15 = .ok (.aload_n 0, 1) := by decide +kernel
theorem dX3_nearestAt_16 : decode cX3_nearestAt 16 = .ok (.getfield 23, 3) := by decide +kernel
theorem dX3_nearestAt_19 : decode cX3_nearestAt 19 = .ok (.iload_n 1, 1) := by decide +kernel
theorem dX3_nearestAt_20 : decode cX3_nearestAt 20 = .ok (.iaload, 1) := by decide +kernel
theorem dX3_nearestAt_21 : decode cX3_nearestAt 21 = .ok (.goto 4, 3) := by decide +kernel
theorem dX3_nearestAt_24 : decode cX3_nearestAt 24 = .ok (.iconst 0, 1) := by decide +kernel
theorem dX3_nearestAt_25 : decode cX3_nearestAt 25 = .ok (.ireturn, 1) := by decide +kernel
set_option maxRecDepth 20000 in
theorem ggX3_distancesAt_X1_size : GoodIn wsX3_distancesAt wsX1_size := goodIn_r _ [7, 8, 16, 17] (by decide +kernel) (by decide +kernel)
set_option maxRecDepth 20000 in
theorem gX3_distancesAt_X1_size : GoodIn wsX3_distancesAt (wsV RX3 35 RX1 yX1_size wsX1_size) := goodIn_app (goodIn_of _ (by decide +kernel)) ggX3_distancesAt_X1_size
theorem dX3_distancesAt_0 : decode cX3_distancesAt 0 = .ok (.iload_n 1, 1) := by decide +kernel
theorem dX3_distancesAt_1 : decode cX3_distancesAt 1 = .ok (.ifCond .lt 23, 3) := by decide +kernel
theorem dX3_distancesAt_4 : decode cX3_distancesAt 4 = .ok (.iload_n 1, 1) := by decide +kernel
theorem dX3_distancesAt_5 : decode cX3_distancesAt 5 = .ok (.aload_n 0, 1) := by decide +kernel
theorem dX3_distancesAt_6 : decode cX3_distancesAt 6 = .ok (.getfield 9, 3) := by decide +kernel
theorem dX3_distancesAt_9 : decode cX3_distancesAt 9 = .ok (.invokevirtual 35, 3) := by decide +kernel
theorem dX3_distancesAt_12 : decode cX3_distancesAt 12 = .ok (.if_icmp .ge 12, 3) := by decide +kernel
theorem dX3_distancesAt_15 : decode cX3_distancesAt 15 = .ok (.aload_n 0, 1) := by decide +kernel
theorem dX3_distancesAt_16 : decode cX3_distancesAt 16 = .ok (.getfield 26, 3) := by decide +kernel
theorem dX3_distancesAt_19 : decode cX3_distancesAt 19 = .ok (.iload_n 1, 1) := by decide +kernel
theorem dX3_distancesAt_20 : decode cX3_distancesAt 20 = .ok (.iaload, 1) := by decide +kernel
theorem dX3_distancesAt_21 : decode cX3_distancesAt 21 = .ok (.goto 4, 3) := by decide +kernel
theorem dX3_distancesAt_24 : decode cX3_distancesAt 24 = .ok (.iconst 0, 1) := by decide +kernel
theorem dX3_distancesAt_25 : decode cX3_distancesAt 25 = .ok (.ireturn, 1) := by decide +kernel
theorem dX3_reachAt_0 : decode cX3_reachAt 0 = .ok (.aload_n 0, 1) := by decide +kernel
theorem dX3_reachAt_1 : decode cX3_reachAt 1 = .ok (.getfield 29, 3) := by decide +kernel
theorem dX3_reachAt_4 : decode cX3_reachAt 4 = .ok (.iload_n 1, 1) := by decide +kernel
theorem dX3_reachAt_5 : decode cX3_reachAt 5 = .ok (.bipush 9, 2) := by decide +kernel
theorem dX3_reachAt_7 : decode cX3_reachAt 7 = .ok (.imul, 1) := by decide +kernel
theorem dX3_reachAt_8 : decode cX3_reachAt 8 = .ok (.iload_n 2, 1) := by decide +kernel
theorem dX3_reachAt_9 : decode cX3_reachAt 9 = .ok (.iadd, 1) := by decide +kernel
theorem dX3_reachAt_10 : decode cX3_reachAt 10 = .ok (.iaload, 1) := by decide +kernel
theorem dX3_reachAt_11 : decode cX3_reachAt 11 = .ok (.ireturn, 1) := by decide +kernel
set_option maxRecDepth 20000 in
theorem ggX3_nearestOfClass_X3_lastOfClass : GoodIn wsX3_nearestOfClass wsX3_lastOfClass := goodIn_r _ [6, 7, 8, 9, 10, 11, 12, 13, 14, 15, 16, 17, 25, 26, 27, 28, 29, 30, 31, 32, 33, 34] (by decide +kernel) (by decide +kernel)
set_option maxRecDepth 20000 in
theorem gX3_nearestOfClass_X3_lastOfClass : GoodIn wsX3_nearestOfClass (wsV RX3 45 RX3 yX3_lastOfClass wsX3_lastOfClass) := goodIn_app (goodIn_of _ (by decide +kernel)) ggX3_nearestOfClass_X3_lastOfClass
set_option maxRecDepth 20000 in
theorem ggX3_nearestOfClass_X1_repeats : GoodIn wsX3_nearestOfClass wsX1_repeats := goodIn_r _ [22, 23, 24, 35, 36] (by decide +kernel) (by decide +kernel)
set_option maxRecDepth 20000 in
theorem gX3_nearestOfClass_X1_repeats : GoodIn wsX3_nearestOfClass (wsV RX3 49 RX1 yX1_repeats wsX1_repeats) := goodIn_app (goodIn_of _ (by decide +kernel)) ggX3_nearestOfClass_X1_repeats
theorem dX3_nearestOfClass_0 : decode cX3_nearestOfClass 0 = .ok (.aload_n 0, 1) := by decide +kernel
theorem dX3_nearestOfClass_1 : decode cX3_nearestOfClass 1 = .ok (.iload_n 1, 1) := by decide +kernel
theorem dX3_nearestOfClass_2 : decode cX3_nearestOfClass 2 = .ok (.iload_n 3, 1) := by decide +kernel
theorem dX3_nearestOfClass_3 : decode cX3_nearestOfClass 3 = .ok (.invokevirtual 45, 3) := by decide +kernel
theorem dX3_nearestOfClass_6 : decode cX3_nearestOfClass 6 = .ok (.istore 4, 2) := by decide +kernel
theorem dX3_nearestOfClass_8 : decode cX3_nearestOfClass 8 = .ok (.iconst 1, 1) := by decide +kernel
theorem dX3_nearestOfClass_9 : decode cX3_nearestOfClass 9 = .ok (.iload_n 3, 1) := by decide +kernel
theorem dX3_nearestOfClass_10 : decode cX3_nearestOfClass 10 = .ok (.ishl, 1) := by decide +kernel
theorem dX3_nearestOfClass_11 : decode cX3_nearestOfClass 11 = .ok (.istore 5, 2) := by decide +kernel
theorem dX3_nearestOfClass_13 : decode cX3_nearestOfClass 13 = .ok (.iload 5, 2) := by decide +kernel
theorem dX3_nearestOfClass_15 : decode cX3_nearestOfClass 15 = .ok (.iload 4, 2) := by decide +kernel
theorem dX3_nearestOfClass_17 : decode cX3_nearestOfClass 17 = .ok (.if_icmp .gt 26, 3) := by decide +kernel
theorem dX3_nearestOfClass_20 : decode cX3_nearestOfClass 20 = .ok (.aload_n 0, 1) := by decide +kernel
theorem dX3_nearestOfClass_21 : decode cX3_nearestOfClass 21 = .ok (.getfield 9, 3) := by decide +kernel
theorem dX3_nearestOfClass_24 : decode cX3_nearestOfClass 24 = .ok (.iload_n 1, 1) := by decide +kernel
theorem dX3_nearestOfClass_25 : decode cX3_nearestOfClass 25 = .ok (.iload 5, 2) := by decide +kernel
theorem dX3_nearestOfClass_27 : decode cX3_nearestOfClass 27 = .ok (.iload_n 2, 1) := by decide +kernel
theorem dX3_nearestOfClass_28 : decode cX3_nearestOfClass 28 = .ok (.invokevirtual 49, 3) := by decide +kernel
theorem dX3_nearestOfClass_31 : decode cX3_nearestOfClass 31 = .ok (.ifCond .eq 6, 3) := by decide +kernel
theorem dX3_nearestOfClass_34 : decode cX3_nearestOfClass 34 = .ok (.iload 5, 2) := by decide +kernel
theorem dX3_nearestOfClass_36 : decode cX3_nearestOfClass 36 = .ok (.ireturn, 1) := by decide +kernel
theorem dX3_nearestOfClass_37 : decode cX3_nearestOfClass 37 = .ok (.iinc 5 1, 3) := by decide +kernel
theorem dX3_nearestOfClass_40 : decode cX3_nearestOfClass 40 = .ok (.goto (-27), 3) := by decide +kernel
theorem dX3_nearestOfClass_43 : decode cX3_nearestOfClass 43 = .ok (.iconst 0, 1) := by decide +kernel
theorem dX3_nearestOfClass_44 : decode cX3_nearestOfClass 44 = .ok (.ireturn, 1) := by decide +kernel
set_option maxRecDepth 20000 in
theorem ggX3_lastOfClass_X5_window : GoodIn wsX3_lastOfClass wsX5_window := goodIn_r _ [10, 11, 19, 20, 21] (by decide +kernel) (by decide +kernel)
set_option maxRecDepth 20000 in
theorem gX3_lastOfClass_X5_window : GoodIn wsX3_lastOfClass (wsV RX3 53 RX5 yX5_window wsX5_window) := goodIn_app (goodIn_of _ (by decide +kernel)) ggX3_lastOfClass_X5_window
theorem dX3_lastOfClass_0 : decode cX3_lastOfClass 0 = .ok (.iload_n 1, 1) := by decide +kernel
theorem dX3_lastOfClass_1 : decode cX3_lastOfClass 1 = .ok (.aload_n 0, 1) := by decide +kernel
theorem dX3_lastOfClass_2 : decode cX3_lastOfClass 2 = .ok (.getfield 15, 3) := by decide +kernel
theorem dX3_lastOfClass_5 : decode cX3_lastOfClass 5 = .ok (.invokevirtual 53, 3) := by decide +kernel
theorem dX3_lastOfClass_8 : decode cX3_lastOfClass 8 = .ok (.invokestatic 58, 3) := by decide +kernel
theorem dX3_lastOfClass_11 : decode cX3_lastOfClass 11 = .ok (.istore_n 3, 1) := by decide +kernel
theorem dX3_lastOfClass_12 : decode cX3_lastOfClass 12 = .ok (.iconst 2, 1) := by decide +kernel
theorem dX3_lastOfClass_13 : decode cX3_lastOfClass 13 = .ok (.iload_n 2, 1) := by decide +kernel
theorem dX3_lastOfClass_14 : decode cX3_lastOfClass 14 = .ok (.ishl, 1) := by decide +kernel
theorem dX3_lastOfClass_15 : decode cX3_lastOfClass 15 = .ok (.iconst 1, 1) := by decide +kernel
theorem dX3_lastOfClass_16 : decode cX3_lastOfClass 16 = .ok (.isub, 1) := by decide +kernel
theorem dX3_lastOfClass_17 : decode cX3_lastOfClass 17 = .ok (.iload_n 3, 1) := by decide +kernel
theorem dX3_lastOfClass_18 : decode cX3_lastOfClass 18 = .ok (.invokestatic 58, 3) := by decide +kernel
theorem dX3_lastOfClass_21 : decode cX3_lastOfClass 21 = .ok (.ireturn, 1) := by decide +kernel
set_option maxRecDepth 20000 in
theorem ggX3_noteClass_X5_least : GoodIn wsX3_noteClass wsX5_least := goodIn_r _ [13, 14, 49, 50, 51] (by decide +kernel) (by decide +kernel)
set_option maxRecDepth 20000 in
theorem gX3_noteClass_X5_least : GoodIn wsX3_noteClass (wsV RX3 66 RX5 yX5_least wsX5_least) := goodIn_app (goodIn_of _ (by decide +kernel)) ggX3_noteClass_X5_least
set_option maxRecDepth 20000 in
theorem ggX3_noteClass_X3_lastOfClass : GoodIn wsX3_noteClass wsX3_lastOfClass := goodIn_r _ [19, 2, 20, 21, 6, 22, 23, 24, 25, 12, 26, 27, 40, 41, 42, 43, 44, 45, 46, 49, 50, 51] (by decide +kernel) (by decide +kernel)
set_option maxRecDepth 20000 in
theorem gX3_noteClass_X3_lastOfClass : GoodIn wsX3_noteClass (wsV RX3 45 RX3 yX3_lastOfClass wsX3_lastOfClass) := goodIn_app (goodIn_of _ (by decide +kernel)) ggX3_noteClass_X3_lastOfClass
set_option maxRecDepth 20000 in
theorem ggX3_noteClass_X3_noteMatch : GoodIn wsX3_noteClass wsX3_noteMatch := goodIn_r _ [31, 2, 20, 21, 6, 22, 32, 33, 34, 35, 36, 37, 12, 38, 39, 40, 41, 42, 43, 44, 45, 46, 49, 50, 51] (by decide +kernel) (by decide +kernel)
set_option maxRecDepth 20000 in
theorem gX3_noteClass_X3_noteMatch : GoodIn wsX3_noteClass (wsV RX3 69 RX3 yX3_noteMatch wsX3_noteMatch) := goodIn_app (goodIn_of _ (by decide +kernel)) ggX3_noteClass_X3_noteMatch
theorem dX3_noteClass_0 : decode cX3_noteClass 0 = .ok (.aload_n 0, 1) := by decide +kernel
theorem dX3_noteClass_1 : decode cX3_noteClass 1 = .ok (.getfield 9, 3) := by decide +kernel
theorem dX3_noteClass_4 : decode cX3_noteClass 4 = .ok (.getfield 63, 3) := by decide +kernel
theorem dX3_noteClass_7 : decode cX3_noteClass 7 = .ok (.astore_n 3, 1) := by decide +kernel
theorem dX3_noteClass_8 : decode cX3_noteClass 8 = .ok (.aload_n 3, 1) := by decide +kernel
theorem dX3_noteClass_9 : decode cX3_noteClass 9 = .ok (.iload_n 1, 1) := by decide +kernel
theorem dX3_noteClass_10 : decode cX3_noteClass 10 = .ok (.iaload, 1) := by decide +kernel
theorem dX3_noteClass_11 : decode cX3_noteClass 11 = .ok (.istore 4, 2) := by decide +kernel
theorem dX3_noteClass_13 : decode cX3_noteClass 13 = .ok (.aload_n 0, 1) := by decide +kernel
theorem dX3_noteClass_14 : decode cX3_noteClass 14 = .ok (.getfield 15, 3) := by decide +kernel
theorem dX3_noteClass_17 : decode cX3_noteClass 17 = .ok (.invokevirtual 66, 3) := by decide +kernel
theorem dX3_noteClass_20 : decode cX3_noteClass 20 = .ok (.istore 5, 2) := by decide +kernel
theorem dX3_noteClass_22 : decode cX3_noteClass 22 = .ok (.aload_n 0, 1) := by decide +kernel
theorem dX3_noteClass_23 : decode cX3_noteClass 23 = .ok (.iload_n 1, 1) := by decide +kernel
theorem dX3_noteClass_24 : decode cX3_noteClass 24 = .ok (.iload_n 2, 1) := by decide +kernel
theorem dX3_noteClass_25 : decode cX3_noteClass 25 = .ok (.invokevirtual 45, 3) := by decide +kernel
theorem dX3_noteClass_28 : decode cX3_noteClass 28 = .ok (.istore 6, 2) := by decide +kernel
theorem dX3_noteClass_30 : decode cX3_noteClass 30 = .ok (.iconst 0, 1) := by decide +kernel
theorem dX3_noteClass_31 : decode cX3_noteClass 31 = .ok (.istore 7, 2) := by decide +kernel
theorem dX3_noteClass_33 : decode cX3_noteClass 33 = .ok (.iconst 1, 1) := by decide +kernel
theorem dX3_noteClass_34 : decode cX3_noteClass 34 = .ok (.iload_n 2, 1) := by decide +kernel
theorem dX3_noteClass_35 : decode cX3_noteClass 35 = .ok (.ishl, 1) := by decide +kernel
theorem dX3_noteClass_36 : decode cX3_noteClass 36 = .ok (.istore 8, 2) := by decide +kernel
theorem dX3_noteClass_38 : decode cX3_noteClass 38 = .ok (.iload 8, 2) := by decide +kernel
theorem dX3_noteClass_40 : decode cX3_noteClass 40 = .ok (.iload 6, 2) := by decide +kernel
theorem dX3_noteClass_42 : decode cX3_noteClass 42 = .ok (.if_icmp .gt 67, 3) := by decide +kernel
theorem dX3_noteClass_45 : decode cX3_noteClass 45 = .ok (.aload_n 3, 1) := by decide +kernel
theorem dX3_noteClass_46 : decode cX3_noteClass 46 = .ok (.iload_n 1, 1) := by decide +kernel
theorem dX3_noteClass_47 : decode cX3_noteClass 47 = .ok (.iload 8, 2) := by decide +kernel
theorem dX3_noteClass_49 : decode cX3_noteClass 49 = .ok (.isub, 1) := by decide +kernel
theorem dX3_noteClass_50 : decode cX3_noteClass 50 = .ok (.iaload, 1) := by decide +kernel
theorem dX3_noteClass_51 : decode cX3_noteClass 51 = .ok (.iload 4, 2) := by decide +kernel
theorem dX3_noteClass_53 : decode cX3_noteClass 53 = .ok (.if_icmp .ne 15, 3) := by decide +kernel
theorem dX3_noteClass_56 : decode cX3_noteClass 56 = .ok (.aload_n 0, 1) := by decide +kernel
theorem dX3_noteClass_57 : decode cX3_noteClass 57 = .ok (.getfield 32, 3) := by decide +kernel
theorem dX3_noteClass_60 : decode cX3_noteClass 60 = .ok (.iload 8, 2) := by decide +kernel
theorem dX3_noteClass_62 : decode cX3_noteClass 62 = .ok (.iaload, 1) := by decide +kernel
theorem dX3_noteClass_63 : decode cX3_noteClass 63 = .ok (.iconst 1, 1) := by decide +kernel
theorem dX3_noteClass_64 : decode cX3_noteClass 64 = .ok (.iadd, 1) := by decide +kernel
theorem dX3_noteClass_65 : decode cX3_noteClass 65 = .ok (.goto 4, 3) := by decide +kernel
theorem dX3_noteClass_68 : decode cX3_noteClass 68 = .ok (.iconst 0, 1) := by decide +kernel
theorem dX3_noteClass_69 : decode cX3_noteClass 69 = .ok (.istore 9, 2) := by decide +kernel
theorem dX3_noteClass_71 : decode cX3_noteClass 71 = .ok (.aload_n 0, 1) := by decide +kernel
theorem dX3_noteClass_72 : decode cX3_noteClass 72 = .ok (.getfield 32, 3) := by decide +kernel
theorem dX3_noteClass_75 : decode cX3_noteClass 75 = .ok (.iload 8, 2) := by decide +kernel
theorem dX3_noteClass_77 : decode cX3_noteClass 77 = .ok (.iload 9, 2) := by decide +kernel
theorem dX3_noteClass_79 : decode cX3_noteClass 79 = .ok (.iastore, 1) := by decide +kernel
theorem dX3_noteClass_80 : decode cX3_noteClass 80 = .ok (.iload 9, 2) := by decide +kernel
theorem dX3_noteClass_82 : decode cX3_noteClass 82 = .ok (.iload 5, 2) := by decide +kernel
theorem dX3_noteClass_84 : decode cX3_noteClass 84 = .ok (.if_icmp .lt 19, 3) := by decide +kernel
theorem dX3_noteClass_87 : decode cX3_noteClass 87 = .ok (.iload 7, 2) := by decide +kernel
theorem dX3_noteClass_89 : decode cX3_noteClass 89 = .ok (.aload_n 0, 1) := by decide +kernel
theorem dX3_noteClass_90 : decode cX3_noteClass 90 = .ok (.iload_n 1, 1) := by decide +kernel
theorem dX3_noteClass_91 : decode cX3_noteClass 91 = .ok (.iload 8, 2) := by decide +kernel
theorem dX3_noteClass_93 : decode cX3_noteClass 93 = .ok (.iload 9, 2) := by decide +kernel
theorem dX3_noteClass_95 : decode cX3_noteClass 95 = .ok (.invokevirtual 69, 3) := by decide +kernel
theorem dX3_noteClass_98 : decode cX3_noteClass 98 = .ok (.invokestatic 73, 3) := by decide +kernel
theorem dX3_noteClass_101 : decode cX3_noteClass 101 = .ok (.istore 7, 2) := by decide +kernel
theorem dX3_noteClass_103 : decode cX3_noteClass 103 = .ok (.iinc 8 1, 3) := by decide +kernel
theorem dX3_noteClass_106 : decode cX3_noteClass 106 = .ok (.goto (-68), 3) := by decide +kernel
theorem dX3_noteClass_109 : decode cX3_noteClass 109 = .ok (.aload_n 0, 1) := by decide +kernel
theorem dX3_noteClass_110 : decode cX3_noteClass 110 = .ok (.getfield 29, 3) := by decide +kernel
theorem dX3_noteClass_113 : decode cX3_noteClass 113 = .ok (.iload_n 1, 1) := by decide +kernel
theorem dX3_noteClass_114 : decode cX3_noteClass 114 = .ok (.bipush 9, 2) := by decide +kernel
theorem dX3_noteClass_116 : decode cX3_noteClass 116 = .ok (.imul, 1) := by decide +kernel
theorem dX3_noteClass_117 : decode cX3_noteClass 117 = .ok (.iload_n 2, 1) := by decide +kernel
theorem dX3_noteClass_118 : decode cX3_noteClass 118 = .ok (.iadd, 1) := by decide +kernel
theorem dX3_noteClass_119 : decode cX3_noteClass 119 = .ok (.iload 7, 2) := by decide +kernel
theorem dX3_noteClass_121 : decode cX3_noteClass 121 = .ok (.iastore, 1) := by decide +kernel
theorem dX3_noteClass_122 : decode cX3_noteClass 122 = .ok (.return_, 1) := by decide +kernel
set_option maxRecDepth 20000 in
theorem ggX3_noteMatch_X5_most : GoodIn wsX3_noteMatch wsX5_most := goodIn_r _ [13, 14, 22, 23, 24] (by decide +kernel) (by decide +kernel)
set_option maxRecDepth 20000 in
theorem gX3_noteMatch_X5_most : GoodIn wsX3_noteMatch (wsV RX3 76 RX5 yX5_most wsX5_most) := goodIn_app (goodIn_of _ (by decide +kernel)) ggX3_noteMatch_X5_most
theorem dX3_noteMatch_0 : decode cX3_noteMatch 0 = .ok (.iload_n 3, 1) := by decide +kernel
theorem dX3_noteMatch_1 : decode cX3_noteMatch 1 = .ok (.aload_n 0, 1) := by decide +kernel
theorem dX3_noteMatch_2 : decode cX3_noteMatch 2 = .ok (.getfield 15, 3) := by decide +kernel
theorem dX3_noteMatch_5 : decode cX3_noteMatch 5 = .ok (.invokevirtual 76, 3) := by decide +kernel
theorem dX3_noteMatch_8 : decode cX3_noteMatch 8 = .ok (.invokestatic 58, 3) := by decide +kernel
theorem dX3_noteMatch_11 : decode cX3_noteMatch 11 = .ok (.istore 4, 2) := by decide +kernel
theorem dX3_noteMatch_13 : decode cX3_noteMatch 13 = .ok (.aload_n 0, 1) := by decide +kernel
theorem dX3_noteMatch_14 : decode cX3_noteMatch 14 = .ok (.getfield 26, 3) := by decide +kernel
theorem dX3_noteMatch_17 : decode cX3_noteMatch 17 = .ok (.iload_n 1, 1) := by decide +kernel
theorem dX3_noteMatch_18 : decode cX3_noteMatch 18 = .ok (.dup2, 1) := by decide +kernel
theorem dX3_noteMatch_19 : decode cX3_noteMatch 19 = .ok (.iaload, 1) := by decide +kernel
theorem dX3_noteMatch_20 : decode cX3_noteMatch 20 = .ok (.iconst 1, 1) := by decide +kernel
theorem dX3_noteMatch_21 : decode cX3_noteMatch 21 = .ok (.iadd, 1) := by decide +kernel
theorem dX3_noteMatch_22 : decode cX3_noteMatch 22 = .ok (.iastore, 1) := by decide +kernel
theorem dX3_noteMatch_23 : decode cX3_noteMatch 23 = .ok (.iload 4, 2) := by decide +kernel
theorem dX3_noteMatch_25 : decode cX3_noteMatch 25 = .ok (.aload_n 0, 1) := by decide +kernel
theorem dX3_noteMatch_26 : decode cX3_noteMatch 26 = .ok (.getfield 19, 3) := by decide +kernel
theorem dX3_noteMatch_29 : decode cX3_noteMatch 29 = .ok (.iload_n 1, 1) := by decide +kernel
theorem dX3_noteMatch_30 : decode cX3_noteMatch 30 = .ok (.iaload, 1) := by decide +kernel
theorem dX3_noteMatch_31 : decode cX3_noteMatch 31 = .ok (.if_icmp .le 18, 3) := by decide +kernel
theorem dX3_noteMatch_34 : decode cX3_noteMatch 34 = .ok (.aload_n 0, 1) := by decide +kernel
theorem dX3_noteMatch_35 : decode cX3_noteMatch 35 = .ok (.getfield 19, 3) := by decide +kernel
theorem dX3_noteMatch_38 : decode cX3_noteMatch 38 = .ok (.iload_n 1, 1) := by decide +kernel
theorem dX3_noteMatch_39 : decode cX3_noteMatch 39 = .ok (.iload 4, 2) := by decide +kernel
theorem dX3_noteMatch_41 : decode cX3_noteMatch 41 = .ok (.iastore, 1) := by decide +kernel
theorem dX3_noteMatch_42 : decode cX3_noteMatch 42 = .ok (.aload_n 0, 1) := by decide +kernel
theorem dX3_noteMatch_43 : decode cX3_noteMatch 43 = .ok (.getfield 23, 3) := by decide +kernel
theorem dX3_noteMatch_46 : decode cX3_noteMatch 46 = .ok (.iload_n 1, 1) := by decide +kernel
theorem dX3_noteMatch_47 : decode cX3_noteMatch 47 = .ok (.iload_n 2, 1) := by decide +kernel
theorem dX3_noteMatch_48 : decode cX3_noteMatch 48 = .ok (.iastore, 1) := by decide +kernel
theorem dX3_noteMatch_49 : decode cX3_noteMatch 49 = .ok (.iload 4, 2) := by decide +kernel
theorem dX3_noteMatch_51 : decode cX3_noteMatch 51 = .ok (.ireturn, 1) := by decide +kernel
theorem dX4_init_0 : decode cX4_init 0 = .ok (.aload_n 0, 1) := by decide +kernel
theorem dX4_init_1 : decode cX4_init 1 = .ok (.invokespecial 3, 3) := by decide +kernel
theorem dX4_init_4 : decode cX4_init 4 = .ok (.aload_n 0, 1) := by decide +kernel
theorem dX4_init_5 : decode cX4_init 5 = .ok (.aload_n 1, 1) := by decide +kernel
theorem dX4_init_6 : decode cX4_init 6 = .ok (.putfield 9, 3) := by decide +kernel
theorem dX4_init_9 : decode cX4_init 9 = .ok (.aload_n 0, 1) := by decide +kernel
theorem dX4_init_10 : decode cX4_init 10 = .ok (.aload_n 2, 1) := by decide +kernel
theorem dX4_init_11 : decode cX4_init 11 = .ok (.putfield 15, 3) := by decide +kernel
theorem dX4_init_14 : decode cX4_init 14 = .ok (.aload_n 0, 1) := by decide +kernel
theorem dX4_init_15 : decode cX4_init 15 = .ok (.aload_n 3, 1) := by decide +kernel
theorem dX4_init_16 : decode cX4_init 16 = .ok (.putfield 19, 3) := by decide +kernel
theorem dX4_init_19 : decode cX4_init 19 = .ok (.aload_n 0, 1) := by decide +kernel
theorem dX4_init_20 : decode cX4_init 20 = .ok (.iconst 0, 1) := by decide +kernel
theorem dX4_init_21 : decode cX4_init 21 = .ok (.putfield 22, 3) := by decide +kernel
theorem dX4_init_24 : decode cX4_init 24 = .ok (.return_, 1) := by decide +kernel
set_option maxRecDepth 20000 in
theorem ggX4_readText_X1_empty : GoodIn wsX4_readText wsX1_empty := goodIn_r _ [7, 8, 79, 80] (by decide +kernel) (by decide +kernel)
set_option maxRecDepth 20000 in
theorem gX4_readText_X1_empty : GoodIn wsX4_readText (wsV RX4 26 RX1 yX1_empty wsX1_empty) := goodIn_app (goodIn_of _ (by decide +kernel)) ggX4_readText_X1_empty
set_option maxRecDepth 20000 in
theorem ggX4_readText_X4_number : GoodIn wsX4_readText wsX4_number := goodIn_r _ [13, 14, 1, 15, 16, 17, 6, 18, 8, 19, 75, 76, 77, 78, 79, 80] (by decide +kernel) (by decide +kernel)
set_option maxRecDepth 20000 in
theorem gX4_readText_X4_number : GoodIn wsX4_readText (wsV RX4 31 RX4 yX4_number wsX4_number) := goodIn_app (goodIn_of _ (by decide +kernel)) ggX4_readText_X4_number
set_option maxRecDepth 20000 in
theorem ggX4_readText_X1_size : GoodIn wsX4_readText wsX1_size := goodIn_r _ [23, 8, 79, 80] (by decide +kernel) (by decide +kernel)
set_option maxRecDepth 20000 in
theorem gX4_readText_X1_size : GoodIn wsX4_readText (wsV RX4 35 RX1 yX1_size wsX1_size) := goodIn_app (goodIn_of _ (by decide +kernel)) ggX4_readText_X1_size
set_option maxRecDepth 20000 in
theorem ggX4_readText_X4_readStep : GoodIn wsX4_readText wsX4_readStep := goodIn_r _ [27, 9, 10, 11, 12, 13, 14, 1, 15, 16, 17, 6, 18, 8, 19, 28, 29, 30, 31, 2, 32, 33, 34, 35, 36, 37, 38, 39, 40, 41, 42, 43, 44, 45, 46, 47, 48, 49, 50, 51, 52, 53, 54, 55, 56, 57, 58, 59, 20, 21, 22, 23, 60, 61, 62, 63, 64, 65, 66, 67, 68, 69, 70, 75, 76, 77, 78, 79, 80, 81, 82, 83] (by decide +kernel) (by decide +kernel)
set_option maxRecDepth 20000 in
theorem gX4_readText_X4_readStep : GoodIn wsX4_readText (wsV RX4 39 RX4 yX4_readStep wsX4_readStep) := goodIn_app (goodIn_of _ (by decide +kernel)) ggX4_readText_X4_readStep
set_option maxRecDepth 20000 in
theorem ggX4_readText_X4_faultBehind : GoodIn wsX4_readText wsX4_faultBehind := goodIn_r _ [74, 1, 14, 9, 10, 11, 12, 13, 15, 16, 17, 6, 18, 8, 19, 20, 21, 22, 23, 75, 76, 77, 78, 79, 80] (by decide +kernel) (by decide +kernel)
set_option maxRecDepth 20000 in
theorem gX4_readText_X4_faultBehind : GoodIn wsX4_readText (wsV RX4 42 RX4 yX4_faultBehind wsX4_faultBehind) := goodIn_app (goodIn_of _ (by decide +kernel)) ggX4_readText_X4_faultBehind
theorem dX4_readText_0 : decode cX4_readText 0 = .ok (.aload_n 0, 1) := by decide +kernel
theorem dX4_readText_1 : decode cX4_readText 1 = .ok (.iconst 0, 1) := by decide +kernel
theorem dX4_readText_2 : decode cX4_readText 2 = .ok (.putfield 22, 3) := by decide +kernel
theorem dX4_readText_5 : decode cX4_readText 5 = .ok (.aload_n 0, 1) := by decide +kernel
theorem dX4_readText_6 : decode cX4_readText 6 = .ok (.getfield 19, 3) := by decide +kernel
theorem dX4_readText_9 : decode cX4_readText 9 = .ok (.invokevirtual 26, 3) := by decide +kernel
theorem dX4_readText_12 : decode cX4_readText 12 = .ok (.aload_n 0, 1) := by decide +kernel
theorem dX4_readText_13 : decode cX4_readText 13 = .ok (.bipush 16, 2) := by decide +kernel
theorem dX4_readText_15 : decode cX4_readText 15 = .ok (.invokevirtual 31, 3) := by decide +kernel
theorem dX4_readText_18 : decode cX4_readText 18 = .ok (.istore_n 1, 1) := by decide +kernel
theorem dX4_readText_19 : decode cX4_readText 19 = .ok (.iload_n 1, 1) := by decide +kernel
theorem dX4_readText_20 : decode cX4_readText 20 = .ok (.iconst (-1), 1) := by decide +kernel
theorem dX4_readText_21 : decode cX4_readText 21 = .ok (.if_icmp .ne 5, 3) := by decide +kernel
theorem dX4_readText_24 : decode cX4_readText 24 = .ok (.iconst 1, 1) := by decide +kernel
theorem dX4_readText_25 : decode cX4_readText 25 = .ok (.ireturn, 1) := by decide +kernel
theorem dX4_readText_26 : decode cX4_readText 26 = .ok (.iload_n 1, 1) := by decide +kernel
theorem dX4_readText_27 : decode cX4_readText 27 = .ok (.sipush 500, 3) := by decide +kernel
theorem dX4_readText_30 : decode cX4_readText 30 = .ok (.if_icmp .le 5, 3) := by decide +kernel
theorem dX4_readText_33 : decode cX4_readText 33 = .ok (.iconst 2, 1) := by decide +kernel
theorem dX4_readText_34 : decode cX4_readText 34 = .ok (.ireturn, 1) := by decide +kernel
theorem dX4_readText_35 : decode cX4_readText 35 = .ok (.iconst 0, 1) := by decide +kernel
theorem dX4_readText_36 : decode cX4_readText 36 = .ok (.istore_n 2, 1) := by decide +kernel
theorem dX4_readText_37 : decode cX4_readText 37 = .ok (.iload_n 2, 1) := by decide +kernel
theorem dX4_readText_38 : decode cX4_readText 38 = .ok (.sipush 500, 3) := by decide +kernel
theorem dX4_readText_41 : decode cX4_readText 41 = .ok (.if_icmp .ge 32, 3) := by decide +kernel
theorem dX4_readText_44 : decode cX4_readText 44 = .ok (.aload_n 0, 1) := by decide +kernel
theorem dX4_readText_45 : decode cX4_readText 45 = .ok (.getfield 19, 3) := by decide +kernel
theorem dX4_readText_48 : decode cX4_readText 48 = .ok (.invokevirtual 35, 3) := by decide +kernel
theorem dX4_readText_51 : decode cX4_readText 51 = .ok (.iload_n 1, 1) := by decide +kernel
theorem dX4_readText_52 : decode cX4_readText 52 = .ok (.if_icmp .ge 21, 3) := by decide +kernel
theorem dX4_readText_55 : decode cX4_readText 55 = .ok (.aload_n 0, 1) := by decide +kernel
theorem dX4_readText_56 : decode cX4_readText 56 = .ok (.iload_n 1, 1) := by decide +kernel
theorem dX4_readText_57 : decode cX4_readText 57 = .ok (.invokevirtual 39, 3) := by decide +kernel
theorem dX4_readText_60 : decode cX4_readText 60 = .ok (.istore_n 3, 1) := by decide +kernel
theorem dX4_readText_61 : decode cX4_readText 61 = .ok (.iload_n 3, 1) := by decide +kernel
theorem dX4_readText_62 : decode cX4_readText 62 = .ok (.ifCond .eq 5, 3) := by decide +kernel
theorem dX4_readText_65 : decode cX4_readText 65 = .ok (.iload_n 3, 1) := by decide +kernel
theorem dX4_readText_66 : decode cX4_readText 66 = .ok (.ireturn, 1) := by decide +kernel
theorem dX4_readText_67 : decode cX4_readText 67 = .ok (.iinc 2 1, 3) := by decide +kernel
theorem dX4_readText_70 : decode cX4_readText 70 = .ok (.goto (-33), 3) := by decide +kernel
theorem dX4_readText_73 : decode cX4_readText 73 = .ok (.aload_n 0, 1) := by decide +kernel
theorem dX4_readText_74 : decode cX4_readText 74 = .ok (.invokevirtual 42, 3) := by decide +kernel
theorem dX4_readText_77 : decode cX4_readText 77 = .ok (.ireturn, 1) := by decide +kernel
set_option maxRecDepth 20000 in
theorem ggX4_readStep_X4_number : GoodIn wsX4_readStep wsX4_number := goodIn_r _ [5, 6, 7, 8, 9, 10, 11, 12, 13, 14, 63, 64, 65, 66, 67, 68] (by decide +kernel) (by decide +kernel)
set_option maxRecDepth 20000 in
theorem gX4_readStep_X4_number : GoodIn wsX4_readStep (wsV RX4 31 RX4 yX4_number wsX4_number) := goodIn_app (goodIn_of _ (by decide +kernel)) ggX4_readStep_X4_number
set_option maxRecDepth 20000 in
theorem ggX4_readStep_X4_readByte : GoodIn wsX4_readStep wsX4_readByte := goodIn_r _ [18, 19, 1, 2, 3, 4, 5, 6, 7, 8, 9, 10, 11, 12, 13, 14, 20, 21, 22, 23, 63, 64, 65, 66, 67, 68] (by decide +kernel) (by decide +kernel)
set_option maxRecDepth 20000 in
theorem gX4_readStep_X4_readByte : GoodIn wsX4_readStep (wsV RX4 45 RX4 yX4_readByte wsX4_readByte) := goodIn_app (goodIn_of _ (by decide +kernel)) ggX4_readStep_X4_readByte
set_option maxRecDepth 20000 in
theorem ggX4_readStep_X4_readMatch : GoodIn wsX4_readStep wsX4_readMatch := goodIn_r _ [27, 28, 19, 29, 30, 31, 4, 32, 1, 2, 3, 5, 6, 7, 8, 9, 10, 11, 12, 13, 14, 33, 34, 35, 36, 37, 38, 39, 40, 41, 42, 43, 44, 45, 46, 47, 48, 49, 50, 51, 52, 53, 54, 55, 56, 57, 58, 59, 60, 61, 62, 21, 22, 23, 63, 64, 65, 66, 67, 68, 69, 70, 71] (by decide +kernel) (by decide +kernel)
set_option maxRecDepth 20000 in
theorem gX4_readStep_X4_readMatch : GoodIn wsX4_readStep (wsV RX4 48 RX4 yX4_readMatch wsX4_readMatch) := goodIn_app (goodIn_of _ (by decide +kernel)) ggX4_readStep_X4_readMatch
theorem dX4_readStep_0 : decode cX4_readStep 0 = .ok (.aload_n 0, 1) := by decide +kernel
theorem dX4_readStep_1 : decode cX4_readStep 1 = .ok (.iconst 1, 1) := by decide +kernel
theorem dX4_readStep_2 : decode cX4_readStep 2 = .ok (.invokevirtual 31, 3) := by decide +kernel
theorem dX4_readStep_5 : decode cX4_readStep 5 = .ok (.istore_n 2, 1) := by decide +kernel
theorem dX4_readStep_6 : decode cX4_readStep 6 = .ok (.iload_n 2, 1) := by decide +kernel
theorem dX4_readStep_7 : decode cX4_readStep 7 = .ok (.iconst (-1), 1) := by decide +kernel
theorem dX4_readStep_8 : decode cX4_readStep 8 = .ok (.if_icmp .ne 5, 3) := by decide +kernel
theorem dX4_readStep_11 : decode cX4_readStep 11 = .ok (.iconst 1, 1) := by decide +kernel
theorem dX4_readStep_12 : decode cX4_readStep 12 = .ok (.ireturn, 1) := by decide +kernel
theorem dX4_readStep_13 : decode cX4_readStep 13 = .ok (.iload_n 2, 1) := by decide +kernel
theorem dX4_readStep_14 : decode cX4_readStep 14 = .ok (.ifCond .ne 10, 3) := by decide +kernel
theorem dX4_readStep_17 : decode cX4_readStep 17 = .ok (.aload_n 0, 1) := by decide +kernel
theorem dX4_readStep_18 : decode cX4_readStep 18 = .ok (.invokevirtual 45, 3) := by decide +kernel
theorem dX4_readStep_21 : decode cX4_readStep 21 = .ok (.goto 8, 3) := by decide +kernel
theorem dX4_readStep_24 : decode cX4_readStep 24 = .ok (.aload_n 0, 1) := by decide +kernel
theorem dX4_readStep_25 : decode cX4_readStep 25 = .ok (.iload_n 1, 1) := by decide +kernel
theorem dX4_readStep_26 : decode cX4_readStep 26 = .ok (.invokevirtual 48, 3) := by decide +kernel
theorem dX4_readStep_29 : decode cX4_readStep 29 = .ok (.ireturn, 1) := by decide +kernel
set_option maxRecDepth 20000 in
theorem ggX4_readByte_X4_number : GoodIn wsX4_readByte wsX4_number := goodIn_r _ [6, 7, 8, 9, 10, 11, 12, 13, 14, 15, 20, 21, 22, 23, 24, 25] (by decide +kernel) (by decide +kernel)
set_option maxRecDepth 20000 in
theorem gX4_readByte_X4_number : GoodIn wsX4_readByte (wsV RX4 31 RX4 yX4_number wsX4_number) := goodIn_app (goodIn_of _ (by decide +kernel)) ggX4_readByte_X4_number
set_option maxRecDepth 20000 in
theorem ggX4_readByte_X1_add : GoodIn wsX4_readByte wsX1_add := goodIn_r _ [19, 14, 15, 24, 25] (by decide +kernel) (by decide +kernel)
set_option maxRecDepth 20000 in
theorem gX4_readByte_X1_add : GoodIn wsX4_readByte (wsV RX4 51 RX1 yX1_add wsX1_add) := goodIn_app (goodIn_of _ (by decide +kernel)) ggX4_readByte_X1_add
theorem dX4_readByte_0 : decode cX4_readByte 0 = .ok (.aload_n 0, 1) := by decide +kernel
theorem dX4_readByte_1 : decode cX4_readByte 1 = .ok (.bipush 8, 2) := by decide +kernel
theorem dX4_readByte_3 : decode cX4_readByte 3 = .ok (.invokevirtual 31, 3) := by decide +kernel
theorem dX4_readByte_6 : decode cX4_readByte 6 = .ok (.istore_n 1, 1) := by decide +kernel
theorem dX4_readByte_7 : decode cX4_readByte 7 = .ok (.iload_n 1, 1) := by decide +kernel
theorem dX4_readByte_8 : decode cX4_readByte 8 = .ok (.iconst (-1), 1) := by decide +kernel
theorem dX4_readByte_9 : decode cX4_readByte 9 = .ok (.if_icmp .ne 5, 3) := by decide +kernel
theorem dX4_readByte_12 : decode cX4_readByte 12 = .ok (.iconst 1, 1) := by decide +kernel
theorem dX4_readByte_13 : decode cX4_readByte 13 = .ok (.ireturn, 1) := by decide +kernel
theorem dX4_readByte_14 : decode cX4_readByte 14 = .ok (.aload_n 0, 1) := by decide +kernel
theorem dX4_readByte_15 : decode cX4_readByte 15 = .ok (.getfield 19, 3) := by decide +kernel
theorem dX4_readByte_18 : decode cX4_readByte 18 = .ok (.iload_n 1, 1) := by decide +kernel
theorem dX4_readByte_19 : decode cX4_readByte 19 = .ok (.invokevirtual 51, 3) := by decide +kernel
theorem dX4_readByte_22 : decode cX4_readByte 22 = .ok (.iconst 0, 1) := by decide +kernel
theorem dX4_readByte_23 : decode cX4_readByte 23 = .ok (.ireturn, 1) := by decide +kernel
set_option maxRecDepth 20000 in
theorem ggX4_readMatch_X4_countZeros : GoodIn wsX4_readMatch wsX4_countZeros := goodIn_r _ [7, 8, 9, 10, 6, 11, 12, 13, 14, 15, 16, 17, 18, 19, 20, 54, 55, 56, 57, 58, 59] (by decide +kernel) (by decide +kernel)
set_option maxRecDepth 20000 in
theorem gX4_readMatch_X4_countZeros : GoodIn wsX4_readMatch (wsV RX4 55 RX4 yX4_countZeros wsX4_countZeros) := goodIn_app (goodIn_of _ (by decide +kernel)) ggX4_readMatch_X4_countZeros
set_option maxRecDepth 20000 in
theorem ggX4_readMatch_X4_numberOfClass : GoodIn wsX4_readMatch wsX4_numberOfClass := goodIn_r _ [24, 8, 9, 10, 6, 11, 12, 13, 14, 15, 16, 17, 18, 19, 20, 54, 55, 56, 57, 58, 59] (by decide +kernel) (by decide +kernel)
set_option maxRecDepth 20000 in
theorem gX4_readMatch_X4_numberOfClass : GoodIn wsX4_readMatch (wsV RX4 58 RX4 yX4_numberOfClass wsX4_numberOfClass) := goodIn_app (goodIn_of _ (by decide +kernel)) ggX4_readMatch_X4_numberOfClass
set_option maxRecDepth 20000 in
theorem ggX4_readMatch_X5_least : GoodIn wsX4_readMatch wsX5_least := goodIn_r _ [29, 30, 60, 61, 62] (by decide +kernel) (by decide +kernel)
set_option maxRecDepth 20000 in
theorem gX4_readMatch_X5_least : GoodIn wsX4_readMatch (wsV RX4 61 RX5 yX5_least wsX5_least) := goodIn_app (goodIn_of _ (by decide +kernel)) ggX4_readMatch_X5_least
set_option maxRecDepth 20000 in
theorem ggX4_readMatch_X5_most : GoodIn wsX4_readMatch wsX5_most := goodIn_r _ [34, 35, 60, 61, 62] (by decide +kernel) (by decide +kernel)
set_option maxRecDepth 20000 in
theorem gX4_readMatch_X5_most : GoodIn wsX4_readMatch (wsV RX4 66 RX5 yX5_most wsX5_most) := goodIn_app (goodIn_of _ (by decide +kernel)) ggX4_readMatch_X5_most
set_option maxRecDepth 20000 in
theorem ggX4_readMatch_X1_size : GoodIn wsX4_readMatch wsX1_size := goodIn_r _ [39, 19, 58, 59] (by decide +kernel) (by decide +kernel)
set_option maxRecDepth 20000 in
theorem gX4_readMatch_X1_size : GoodIn wsX4_readMatch (wsV RX4 35 RX1 yX1_size wsX1_size) := goodIn_app (goodIn_of _ (by decide +kernel)) ggX4_readMatch_X1_size
set_option maxRecDepth 20000 in
theorem ggX4_readMatch_X4_number : GoodIn wsX4_readMatch wsX4_number := goodIn_r _ [11, 12, 13, 14, 15, 16, 17, 18, 19, 20, 54, 55, 56, 57, 58, 59] (by decide +kernel) (by decide +kernel)
set_option maxRecDepth 20000 in
theorem gX4_readMatch_X4_number : GoodIn wsX4_readMatch (wsV RX4 31 RX4 yX4_number wsX4_number) := goodIn_app (goodIn_of _ (by decide +kernel)) ggX4_readMatch_X4_number
set_option maxRecDepth 20000 in
theorem ggX4_readMatch_X5_window : GoodIn wsX4_readMatch wsX5_window := goodIn_r _ [43, 44, 60, 61, 62] (by decide +kernel) (by decide +kernel)
set_option maxRecDepth 20000 in
theorem gX4_readMatch_X5_window : GoodIn wsX4_readMatch (wsV RX4 69 RX5 yX5_window wsX5_window) := goodIn_app (goodIn_of _ (by decide +kernel)) ggX4_readMatch_X5_window
set_option maxRecDepth 20000 in
theorem ggX4_readMatch_X1_addAgain : GoodIn wsX4_readMatch wsX1_addAgain := goodIn_r _ [48, 19, 49, 15, 16, 17, 18, 20, 50, 51, 52, 53, 58, 59] (by decide +kernel) (by decide +kernel)
set_option maxRecDepth 20000 in
theorem gX4_readMatch_X1_addAgain : GoodIn wsX4_readMatch (wsV RX4 72 RX1 yX1_addAgain wsX1_addAgain) := goodIn_app (goodIn_of _ (by decide +kernel)) ggX4_readMatch_X1_addAgain
theorem dX4_readMatch_0 : decode cX4_readMatch 0 = .ok (.aload_n 0, 1) := by decide +kernel
theorem dX4_readMatch_1 : decode cX4_readMatch 1 = .ok (.invokevirtual 55, 3) := by decide +kernel
theorem dX4_readMatch_4 : decode cX4_readMatch 4 = .ok (.istore_n 2, 1) := by decide +kernel
theorem dX4_readMatch_5 : decode cX4_readMatch 5 = .ok (.iload_n 2, 1) := by decide +kernel
theorem dX4_readMatch_6 : decode cX4_readMatch 6 = .ok (.bipush 9, 2) := by decide +kernel
theorem dX4_readMatch_8 : decode cX4_readMatch 8 = .ok (.if_icmp .ne 5, 3) := by decide +kernel
theorem dX4_readMatch_11 : decode cX4_readMatch 11 = .ok (.iconst 3, 1) := by decide +kernel
theorem dX4_readMatch_12 : decode cX4_readMatch 12 = .ok (.ireturn, 1) := by decide +kernel
theorem dX4_readMatch_13 : decode cX4_readMatch 13 = .ok (.aload_n 0, 1) := by decide +kernel
theorem dX4_readMatch_14 : decode cX4_readMatch 14 = .ok (.iload_n 2, 1) := by decide +kernel
theorem dX4_readMatch_15 : decode cX4_readMatch 15 = .ok (.invokevirtual 58, 3) := by decide +kernel
theorem dX4_readMatch_18 : decode cX4_readMatch 18 = .ok (.istore_n 3, 1) := by decide +kernel
theorem dX4_readMatch_19 : decode cX4_readMatch 19 = .ok (.iload_n 3, 1) := by decide +kernel
theorem dX4_readMatch_20 : decode cX4_readMatch 20 = .ok (.iconst (-1), 1) := by decide +kernel
theorem dX4_readMatch_21 : decode cX4_readMatch 21 = .ok (.if_icmp .ne 5, 3) := by decide +kernel
theorem dX4_readMatch_24 : decode cX4_readMatch 24 = .ok (.iconst 1, 1) := by decide +kernel
theorem dX4_readMatch_25 : decode cX4_readMatch 25 = .ok (.ireturn, 1) := by decide +kernel
theorem dX4_readMatch_26 : decode cX4_readMatch 26 = .ok (.iload_n 3, 1) := by decide +kernel
theorem dX4_readMatch_27 : decode cX4_readMatch 27 = .ok (.iconst 1, 1) := by decide +kernel
theorem dX4_readMatch_28 : decode cX4_readMatch 28 = .ok (.isub, 1) := by decide +kernel
theorem dX4_readMatch_29 : decode cX4_readMatch 29 = .ok (.aload_n 0, 1) := by decide +kernel
theorem dX4_readMatch_30 : decode cX4_readMatch 30 = .ok (.getfield 15, 3) := by decide +kernel
theorem dX4_readMatch_33 : decode cX4_readMatch 33 = .ok (.invokevirtual 61, 3) := by decide +kernel
theorem dX4_readMatch_36 : decode cX4_readMatch 36 = .ok (.iadd, 1) := by decide +kernel
theorem dX4_readMatch_37 : decode cX4_readMatch 37 = .ok (.istore 4, 2) := by decide +kernel
theorem dX4_readMatch_39 : decode cX4_readMatch 39 = .ok (.iload 4, 2) := by decide +kernel
theorem dX4_readMatch_41 : decode cX4_readMatch 41 = .ok (.aload_n 0, 1) := by decide +kernel
theorem dX4_readMatch_42 : decode cX4_readMatch 42 = .ok (.getfield 15, 3) := by decide +kernel
theorem dX4_readMatch_45 : decode cX4_readMatch 45 = .ok (.invokevirtual 66, 3) := by decide +kernel
theorem dX4_readMatch_48 : decode cX4_readMatch 48 = .ok (.if_icmp .gt 17, 3) := by decide +kernel
theorem dX4_readMatch_51 : decode cX4_readMatch 51 = .ok (.iload 4, 2) := by decide +kernel
theorem dX4_readMatch_53 : decode cX4_readMatch 53 = .ok (.iload_n 1, 1) := by decide +kernel
theorem dX4_readMatch_54 : decode cX4_readMatch 54 = .ok (.aload_n 0, 1) := by decide +kernel
theorem dX4_readMatch_55 : decode cX4_readMatch 55 = .ok (.getfield 19, 3) := by decide +kernel
theorem dX4_readMatch_58 : decode cX4_readMatch 58 = .ok (.invokevirtual 35, 3) := by decide +kernel
theorem dX4_readMatch_61 : decode cX4_readMatch 61 = .ok (.isub, 1) := by decide +kernel
theorem dX4_readMatch_62 : decode cX4_readMatch 62 = .ok (.if_icmp .le 5, 3) := by decide +kernel
theorem dX4_readMatch_65 : decode cX4_readMatch 65 = .ok (.iconst 3, 1) := by decide +kernel
theorem dX4_readMatch_66 : decode cX4_readMatch 66 = .ok (.ireturn, 1) := by decide +kernel
theorem dX4_readMatch_67 : decode cX4_readMatch 67 = .ok (.aload_n 0, 1) := by decide +kernel
theorem dX4_readMatch_68 : decode cX4_readMatch 68 = .ok (.aload_n 0, 1) := by decide +kernel
theorem dX4_readMatch_69 : decode cX4_readMatch 69 = .ok (.iconst 4, 1) := by decide +kernel
theorem dX4_readMatch_70 : decode cX4_readMatch 70 = .ok (.invokevirtual 31, 3) := by decide +kernel
theorem dX4_readMatch_73 : decode cX4_readMatch 73 = .ok (.invokevirtual 58, 3) := by decide +kernel
theorem dX4_readMatch_76 : decode cX4_readMatch 76 = .ok (.istore 5, 2) := by decide +kernel
theorem dX4_readMatch_78 : decode cX4_readMatch 78 = .ok (.iload 5, 2) := by decide +kernel
theorem dX4_readMatch_80 : decode cX4_readMatch 80 = .ok (.iconst (-1), 1) := by decide +kernel
theorem dX4_readMatch_81 : decode cX4_readMatch 81 = .ok (.if_icmp .ne 5, 3) := by decide +kernel
theorem dX4_readMatch_84 : decode cX4_readMatch 84 = .ok (.iconst 1, 1) := by decide +kernel
theorem dX4_readMatch_85 : decode cX4_readMatch 85 = .ok (.ireturn, 1) := by decide +kernel
theorem dX4_readMatch_86 : decode cX4_readMatch 86 = .ok (.iload 5, 2) := by decide +kernel
theorem dX4_readMatch_88 : decode cX4_readMatch 88 = .ok (.aload_n 0, 1) := by decide +kernel
theorem dX4_readMatch_89 : decode cX4_readMatch 89 = .ok (.getfield 15, 3) := by decide +kernel
theorem dX4_readMatch_92 : decode cX4_readMatch 92 = .ok (.invokevirtual 69, 3) := by decide +kernel
theorem dX4_readMatch_95 : decode cX4_readMatch 95 = .ok (.if_icmp .gt 15, 3) := by decide +kernel
theorem dX4_readMatch_98 : decode cX4_readMatch 98 = .ok (.iload 5, 2) := by decide +kernel
theorem dX4_readMatch_100 : decode cX4_readMatch 100 = .ok (.aload_n 0, 1) := by decide +kernel
theorem dX4_readMatch_101 : decode cX4_readMatch 101 = .ok (.getfield 19, 3) := by decide +kernel
theorem dX4_readMatch_104 : decode cX4_readMatch 104 = .ok (.invokevirtual 35, 3) := by decide +kernel
theorem dX4_readMatch_107 : decode cX4_readMatch 107 = .ok (.if_icmp .le 5, 3) := by decide +kernel
theorem dX4_readMatch_110 : decode cX4_readMatch 110 = .ok (.iconst 4, 1) := by decide +kernel
theorem dX4_readMatch_111 : decode cX4_readMatch 111 = .ok (.ireturn, 1) := by decide +kernel
theorem dX4_readMatch_112 : decode cX4_readMatch 112 = .ok (.aload_n 0, 1) := by decide +kernel
theorem dX4_readMatch_113 : decode cX4_readMatch 113 = .ok (.getfield 19, 3) := by decide +kernel
theorem dX4_readMatch_116 : decode cX4_readMatch 116 = .ok (.iload 5, 2) := by decide +kernel
theorem dX4_readMatch_118 : decode cX4_readMatch 118 = .ok (.iload 4, 2) := by decide +kernel
theorem dX4_readMatch_120 : decode cX4_readMatch 120 = .ok (.invokevirtual 72, 3) := by decide +kernel
theorem dX4_readMatch_123 : decode cX4_readMatch 123 = .ok (.iconst 0, 1) := by decide +kernel
theorem dX4_readMatch_124 : decode cX4_readMatch 124 = .ok (.ireturn, 1) := by decide +kernel
set_option maxRecDepth 20000 in
theorem ggX4_countZeros_X4_number : GoodIn wsX4_countZeros wsX4_number := goodIn_r _ [5, 6, 7, 8, 9, 10, 11, 12, 13, 14, 15, 16, 17, 18, 19, 20] (by decide +kernel) (by decide +kernel)
set_option maxRecDepth 20000 in
theorem gX4_countZeros_X4_number : GoodIn wsX4_countZeros (wsV RX4 31 RX4 yX4_number wsX4_number) := goodIn_app (goodIn_of _ (by decide +kernel)) ggX4_countZeros_X4_number
theorem dX4_countZeros_0 : decode cX4_countZeros 0 = .ok (.iconst 0, 1) := by decide +kernel
theorem dX4_countZeros_1 : decode cX4_countZeros 1 = .ok (.istore_n 1, 1) := by decide +kernel
theorem dX4_countZeros_2 : decode cX4_countZeros 2 = .ok (.iload_n 1, 1) := by decide +kernel
theorem dX4_countZeros_3 : decode cX4_countZeros 3 = .ok (.bipush 9, 2) := by decide +kernel
theorem dX4_countZeros_5 : decode cX4_countZeros 5 = .ok (.if_icmp .ge 30, 3) := by decide +kernel
theorem dX4_countZeros_8 : decode cX4_countZeros 8 = .ok (.aload_n 0, 1) := by decide +kernel
theorem dX4_countZeros_9 : decode cX4_countZeros 9 = .ok (.iconst 1, 1) := by decide +kernel
theorem dX4_countZeros_10 : decode cX4_countZeros 10 = .ok (.invokevirtual 31, 3) := by decide +kernel
theorem dX4_countZeros_13 : decode cX4_countZeros 13 = .ok (.istore_n 2, 1) := by decide +kernel
theorem dX4_countZeros_14 : decode cX4_countZeros 14 = .ok (.iload_n 2, 1) := by decide +kernel
theorem dX4_countZeros_15 : decode cX4_countZeros 15 = .ok (.ifCond .eq 14, 3) := by decide +kernel
theorem dX4_countZeros_18 : decode cX4_countZeros 18 = .ok (.iload_n 2, 1) := by decide +kernel
theorem dX4_countZeros_19 : decode cX4_countZeros 19 = .ok (.iconst (-1), 1) := by decide +kernel
theorem dX4_countZeros_20 : decode cX4_countZeros 20 = .ok (.if_icmp .ne 7, 3) := by decide +kernel
theorem dX4_countZeros_23 : decode cX4_countZeros 23 = .ok (.iconst (-1), 1) := by decide +kernel
theorem dX4_countZeros_24 : decode cX4_countZeros 24 = .ok (.goto 4, 3) := by decide +kernel
theorem dX4_countZeros_27 : decode cX4_countZeros 27 = .ok (.iload_n 1, 1) := by decide +kernel
theorem dX4_countZeros_28 : decode cX4_countZeros 28 = .ok (.ireturn, 1) := by decide +kernel
theorem dX4_countZeros_29 : decode cX4_countZeros 29 = .ok (.iinc 1 1, 3) := by decide +kernel
theorem dX4_countZeros_32 : decode cX4_countZeros 32 = .ok (.goto (-30), 3) := by decide +kernel
theorem dX4_countZeros_35 : decode cX4_countZeros 35 = .ok (.bipush 9, 2) := by decide +kernel
theorem dX4_countZeros_37 : decode cX4_countZeros 37 = .ok (.ireturn, 1) := by decide +kernel
set_option maxRecDepth 20000 in
theorem ggX4_numberOfClass_X4_number : GoodIn wsX4_numberOfClass wsX4_number := goodIn_r _ [5, 6, 7, 8, 9, 10, 11, 12, 13, 14, 15, 16, 17, 18, 19, 20] (by decide +kernel) (by decide +kernel)
set_option maxRecDepth 20000 in
theorem gX4_numberOfClass_X4_number : GoodIn wsX4_numberOfClass (wsV RX4 31 RX4 yX4_number wsX4_number) := goodIn_app (goodIn_of _ (by decide +kernel)) ggX4_numberOfClass_X4_number
theorem dX4_numberOfClass_0 : decode cX4_numberOfClass 0 = .ok (.iload_n 1, 1) := by decide +kernel
theorem dX4_numberOfClass_1 : decode cX4_numberOfClass 1 = .ok (.iconst (-1), 1) := by decide +kernel
theorem dX4_numberOfClass_2 : decode cX4_numberOfClass 2 = .ok (.if_icmp .ne 5, 3) := by decide +kernel
theorem dX4_numberOfClass_5 : decode cX4_numberOfClass 5 = .ok (.iconst (-1), 1) := by decide +kernel
theorem dX4_numberOfClass_6 : decode cX4_numberOfClass 6 = .ok (.ireturn, 1) := by decide +kernel
theorem dX4_numberOfClass_7 : decode cX4_numberOfClass 7 = .ok (.aload_n 0, 1) := by decide +kernel
theorem dX4_numberOfClass_8 : decode cX4_numberOfClass 8 = .ok (.iload_n 1, 1) := by decide +kernel
theorem dX4_numberOfClass_9 : decode cX4_numberOfClass 9 = .ok (.invokevirtual 31, 3) := by decide +kernel
theorem dX4_numberOfClass_12 : decode cX4_numberOfClass 12 = .ok (.istore_n 2, 1) := by decide +kernel
theorem dX4_numberOfClass_13 : decode cX4_numberOfClass 13 = .ok (.iload_n 2, 1) := by decide +kernel
theorem dX4_numberOfClass_14 : decode cX4_numberOfClass 14 = .ok (.iconst (-1), 1) := by decide +kernel
theorem dX4_numberOfClass_15 : decode cX4_numberOfClass 15 = .ok (.if_icmp .ne 7, 3) := by decide +kernel
theorem dX4_numberOfClass_18 : decode cX4_numberOfClass 18 = .ok (.iconst (-1), 1) := by decide +kernel
theorem dX4_numberOfClass_19 : decode cX4_numberOfClass 19 = .ok (.goto 8, 3) := by decide +kernel
theorem dX4_numberOfClass_22 : decode cX4_numberOfClass 22 = .ok (.iconst 1, 1) := by decide +kernel
theorem dX4_numberOfClass_23 : decode cX4_numberOfClass 23 = .ok (.iload_n 1, 1) := by decide +kernel
theorem dX4_numberOfClass_24 : decode cX4_numberOfClass 24 = .ok (.ishl, 1) := by decide +kernel
theorem dX4_numberOfClass_25 : decode cX4_numberOfClass 25 = .ok (.iload_n 2, 1) := by decide +kernel
theorem dX4_numberOfClass_26 : decode cX4_numberOfClass 26 = .ok (.iadd, 1) := by decide +kernel
theorem dX4_numberOfClass_27 : decode cX4_numberOfClass 27 = .ok (.ireturn, 1) := by decide +kernel
set_option maxRecDepth 20000 in
theorem ggX4_number_X1_get : GoodIn wsX4_number wsX1_get := goodIn_r _ [7, 8, 9, 14, 15] (by decide +kernel) (by decide +kernel)
set_option maxRecDepth 20000 in
theorem gX4_number_X1_get : GoodIn wsX4_number (wsV RX4 76 RX1 yX1_get wsX1_get) := goodIn_app (goodIn_of _ (by decide +kernel)) ggX4_number_X1_get
theorem dX4_number_0 : decode cX4_number 0 = .ok (.iconst 0, 1) := by decide +kernel
theorem dX4_number_1 : decode cX4_number 1 = .ok (.istore_n 2, 1) := by decide +kernel
theorem dX4_number_2 : decode cX4_number 2 = .ok (.iconst 0, 1) := by decide +kernel
theorem dX4_number_3 : decode cX4_number 3 = .ok (.istore_n 3, 1) := by decide +kernel
theorem dX4_number_4 : decode cX4_number 4 = .ok (.iload_n 3, 1) := by decide +kernel
theorem dX4_number_5 : decode cX4_number 5 = .ok (.iload_n 1, 1) := by decide +kernel
theorem dX4_number_6 : decode cX4_number 6 = .ok (.if_icmp .ge 63, 3) := by decide +kernel
theorem dX4_number_9 : decode cX4_number 9 = .ok (.aload_n 0, 1) := by decide +kernel
theorem dX4_number_10 : decode cX4_number 10 = .ok (.getfield 9, 3) := by decide +kernel
theorem dX4_number_13 : decode cX4_number 13 = .ok (.aload_n 0, 1) := by decide +kernel
theorem dX4_number_14 : decode cX4_number 14 = .ok (.getfield 22, 3) := by decide +kernel
theorem dX4_number_17 : decode cX4_number 17 = .ok (.bipush 8, 2) := by decide +kernel
theorem dX4_number_19 : decode cX4_number 19 = .ok (.idiv, 1) := by decide +kernel
theorem dX4_number_20 : decode cX4_number 20 = .ok (.invokevirtual 76, 3) := by decide +kernel
theorem dX4_number_23 : decode cX4_number 23 = .ok (.istore 4, 2) := by decide +kernel
theorem dX4_number_25 : decode cX4_number 25 = .ok (.iload 4, 2) := by decide +kernel
theorem dX4_number_27 : decode cX4_number 27 = .ok (.iconst (-1), 1) := by decide +kernel
theorem dX4_number_28 : decode cX4_number 28 = .ok (.if_icmp .ne 5, 3) := by decide +kernel
theorem dX4_number_31 : decode cX4_number 31 = .ok (.iconst (-1), 1) := by decide +kernel
theorem dX4_number_32 : decode cX4_number 32 = .ok (.ireturn, 1) := by decide +kernel
theorem dX4_number_33 : decode cX4_number 33 = .ok (.iconst 2, 1) := by decide +kernel
theorem dX4_number_34 : decode cX4_number 34 = .ok (.iload_n 2, 1) := by decide +kernel
theorem dX4_number_35 : decode cX4_number 35 = .ok (.imul, 1) := by decide +kernel
theorem dX4_number_36 : decode cX4_number 36 = .ok (.iload 4, 2) := by decide +kernel
theorem dX4_number_38 : decode cX4_number 38 = .ok (.bipush 7, 2) := by decide +kernel
theorem dX4_number_40 : decode cX4_number 40 = .ok (.aload_n 0, 1) := by decide +kernel
theorem dX4_number_41 : decode cX4_number 41 = .ok (.getfield 22, 3) := by decide +kernel
theorem dX4_number_44 : decode cX4_number 44 = .ok (.bipush 8, 2) := by decide +kernel
theorem dX4_number_46 : decode cX4_number 46 = .ok (.irem, 1) := by decide +kernel
theorem dX4_number_47 : decode cX4_number 47 = .ok (.isub, 1) := by decide +kernel
theorem dX4_number_48 : decode cX4_number 48 = .ok (.ishr, 1) := by decide +kernel
theorem dX4_number_49 : decode cX4_number 49 = .ok (.iconst 1, 1) := by decide +kernel
theorem dX4_number_50 : decode cX4_number 50 = .ok (.iand, 1) := by decide +kernel
theorem dX4_number_51 : decode cX4_number 51 = .ok (.iadd, 1) := by decide +kernel
theorem dX4_number_52 : decode cX4_number 52 = .ok (.istore_n 2, 1) := by decide +kernel
theorem dX4_number_53 : decode cX4_number 53 = .ok (.aload_n 0, 1) := by decide +kernel
theorem dX4_number_54 : decode cX4_number 54 = .ok (.dup, 1) := by decide +kernel
theorem dX4_number_55 : decode cX4_number 55 = .ok (.getfield 22, 3) := by decide +kernel
theorem dX4_number_58 : decode cX4_number 58 = .ok (.iconst 1, 1) := by decide +kernel
theorem dX4_number_59 : decode cX4_number 59 = .ok (.iadd, 1) := by decide +kernel
theorem dX4_number_60 : decode cX4_number 60 = .ok (.putfield 22, 3) := by decide +kernel
theorem dX4_number_63 : decode cX4_number 63 = .ok (.iinc 3 1, 3) := by decide +kernel
theorem dX4_number_66 : decode cX4_number 66 = .ok (.goto (-62), 3) := by decide +kernel
theorem dX4_number_69 : decode cX4_number 69 = .ok (.iload_n 2, 1) := by decide +kernel
theorem dX4_number_70 : decode cX4_number 70 = .ok (.ireturn, 1) := by decide +kernel
set_option maxRecDepth 20000 in
theorem ggX4_faultBehind_X4_number : GoodIn wsX4_faultBehind wsX4_number := goodIn_r _ [7, 2, 1, 8, 9, 10, 11, 12, 13, 14, 19, 20, 21, 22, 23, 24] (by decide +kernel) (by decide +kernel)
set_option maxRecDepth 20000 in
theorem gX4_faultBehind_X4_number : GoodIn wsX4_faultBehind (wsV RX4 31 RX4 yX4_number wsX4_number) := goodIn_app (goodIn_of _ (by decide +kernel)) ggX4_faultBehind_X4_number
set_option maxRecDepth 20000 in
theorem ggX4_faultBehind_X1_size : GoodIn wsX4_faultBehind wsX1_size := goodIn_r _ [18, 13, 23, 24] (by decide +kernel) (by decide +kernel)
set_option maxRecDepth 20000 in
theorem gX4_faultBehind_X1_size : GoodIn wsX4_faultBehind (wsV RX4 35 RX1 yX1_size wsX1_size) := goodIn_app (goodIn_of _ (by decide +kernel)) ggX4_faultBehind_X1_size
theorem dX4_faultBehind_0 : decode cX4_faultBehind 0 = .ok (.bipush 8, 2) := by decide +kernel
theorem dX4_faultBehind_2 : decode cX4_faultBehind 2 = .ok (.aload_n 0, 1) := by decide +kernel
theorem dX4_faultBehind_3 : decode cX4_faultBehind 3 = .ok (.getfield 22, 3) := by decide +kernel
theorem dX4_faultBehind_6 : decode cX4_faultBehind 6 = .ok (.bipush 8, 2) := by decide +kernel
theorem dX4_faultBehind_8 : decode cX4_faultBehind 8 = .ok (.irem, 1) := by decide +kernel
theorem dX4_faultBehind_9 : decode cX4_faultBehind 9 = .ok (.isub, 1) := by decide +kernel
theorem dX4_faultBehind_10 : decode cX4_faultBehind 10 = .ok (.bipush 8, 2) := by decide +kernel
theorem dX4_faultBehind_12 : decode cX4_faultBehind 12 = .ok (.irem, 1) := by decide +kernel
theorem dX4_faultBehind_13 : decode cX4_faultBehind 13 = .ok (.istore_n 1, 1) := by decide +kernel
theorem dX4_faultBehind_14 : decode cX4_faultBehind 14 = .ok (.aload_n 0, 1) := by decide +kernel
theorem dX4_faultBehind_15 : decode cX4_faultBehind 15 = .ok (.iload_n 1, 1) := by decide +kernel
theorem dX4_faultBehind_16 : decode cX4_faultBehind 16 = .ok (.invokevirtual 31, 3) := by decide +kernel
theorem dX4_faultBehind_19 : decode cX4_faultBehind 19 = .ok (.ifCond .ne 20, 3) := by decide +kernel
theorem dX4_faultBehind_22 : decode cX4_faultBehind 22 = .ok (.aload_n 0, 1) := by decide +kernel
theorem dX4_faultBehind_23 : decode cX4_faultBehind 23 = .ok (.getfield 22, 3) := by decide +kernel
theorem dX4_faultBehind_26 : decode cX4_faultBehind 26 = .ok (.bipush 8, 2) := by decide +kernel
theorem dX4_faultBehind_28 : decode cX4_faultBehind 28 = .ok (.idiv, 1) := by decide +kernel
theorem dX4_faultBehind_29 : decode cX4_faultBehind 29 = .ok (.aload_n 0, 1) := by decide +kernel
theorem dX4_faultBehind_30 : decode cX4_faultBehind 30 = .ok (.getfield 9, 3) := by decide +kernel
theorem dX4_faultBehind_33 : decode cX4_faultBehind 33 = .ok (.invokevirtual 35, 3) := by decide +kernel
theorem dX4_faultBehind_36 : decode cX4_faultBehind 36 = .ok (.if_icmp .eq 5, 3) := by decide +kernel
theorem dX4_faultBehind_39 : decode cX4_faultBehind 39 = .ok (.iconst 5, 1) := by decide +kernel
theorem dX4_faultBehind_40 : decode cX4_faultBehind 40 = .ok (.ireturn, 1) := by decide +kernel
theorem dX4_faultBehind_41 : decode cX4_faultBehind 41 = .ok (.iconst 0, 1) := by decide +kernel
theorem dX4_faultBehind_42 : decode cX4_faultBehind 42 = .ok (.ireturn, 1) := by decide +kernel
theorem dX5_init_0 : decode cX5_init 0 = .ok (.aload_n 0, 1) := by decide +kernel
theorem dX5_init_1 : decode cX5_init 1 = .ok (.invokespecial 3, 3) := by decide +kernel
theorem dX5_init_4 : decode cX5_init 4 = .ok (.aload_n 0, 1) := by decide +kernel
theorem dX5_init_5 : decode cX5_init 5 = .ok (.iconst 3, 1) := by decide +kernel
theorem dX5_init_6 : decode cX5_init 6 = .ok (.putfield 9, 3) := by decide +kernel
theorem dX5_init_9 : decode cX5_init 9 = .ok (.aload_n 0, 1) := by decide +kernel
theorem dX5_init_10 : decode cX5_init 10 = .ok (.bipush 64, 2) := by decide +kernel
theorem dX5_init_12 : decode cX5_init 12 = .ok (.putfield 15, 3) := by decide +kernel
theorem dX5_init_15 : decode cX5_init 15 = .ok (.aload_n 0, 1) := by decide +kernel
theorem dX5_init_16 : decode cX5_init 16 = .ok (.sipush 500, 3) := by decide +kernel
theorem dX5_init_19 : decode cX5_init 19 = .ok (.putfield 18, 3) := by decide +kernel
theorem dX5_init_22 : decode cX5_init 22 = .ok (.return_, 1) := by decide +kernel
theorem dX5_least_0 : decode cX5_least 0 = .ok (.aload_n 0, 1) := by decide +kernel
theorem dX5_least_1 : decode cX5_least 1 = .ok (.getfield 9, 3) := by decide +kernel
theorem dX5_least_4 : decode cX5_least 4 = .ok (.ireturn, 1) := by decide +kernel
theorem dX5_most_0 : decode cX5_most 0 = .ok (.aload_n 0, 1) := by decide +kernel
theorem dX5_most_1 : decode cX5_most 1 = .ok (.getfield 15, 3) := by decide +kernel
theorem dX5_most_4 : decode cX5_most 4 = .ok (.ireturn, 1) := by decide +kernel
theorem dX5_window_0 : decode cX5_window 0 = .ok (.aload_n 0, 1) := by decide +kernel
theorem dX5_window_1 : decode cX5_window 1 = .ok (.getfield 18, 3) := by decide +kernel
theorem dX5_window_4 : decode cX5_window 4 = .ok (.ireturn, 1) := by decide +kernel
theorem dX5_change_0 : decode cX5_change 0 = .ok (.iload_n 1, 1) := by decide +kernel
theorem dX5_change_1 : decode cX5_change 1 = .ok (.iconst 2, 1) := by decide +kernel
theorem dX5_change_2 : decode cX5_change 2 = .ok (.if_icmp .lt 37, 3) := by decide +kernel
theorem dX5_change_5 : decode cX5_change 5 = .ok (.iload_n 1, 1) := by decide +kernel
theorem dX5_change_6 : decode cX5_change 6 = .ok (.bipush 16, 2) := by decide +kernel
theorem dX5_change_8 : decode cX5_change 8 = .ok (.if_icmp .gt 31, 3) := by decide +kernel
theorem dX5_change_11 : decode cX5_change 11 = .ok (.iload_n 2, 1) := by decide +kernel
theorem dX5_change_12 : decode cX5_change 12 = .ok (.iload_n 1, 1) := by decide +kernel
theorem dX5_change_13 : decode cX5_change 13 = .ok (.if_icmp .lt 26, 3) := by decide +kernel
theorem dX5_change_16 : decode cX5_change 16 = .ok (.iload_n 2, 1) := by decide +kernel
theorem dX5_change_17 : decode cX5_change 17 = .ok (.sipush 255, 3) := by decide +kernel
theorem dX5_change_20 : decode cX5_change 20 = .ok (.if_icmp .gt 19, 3) := by decide +kernel
theorem dX5_change_23 : decode cX5_change 23 = .ok (.iload_n 3, 1) := by decide +kernel
theorem dX5_change_24 : decode cX5_change 24 = .ok (.iconst 1, 1) := by decide +kernel
theorem dX5_change_25 : decode cX5_change 25 = .ok (.if_icmp .lt 14, 3) := by decide +kernel
theorem dX5_change_28 : decode cX5_change 28 = .ok (.iload_n 3, 1) := by decide +kernel
theorem dX5_change_29 : decode cX5_change 29 = .ok (.sipush 500, 3) := by decide +kernel
theorem dX5_change_32 : decode cX5_change 32 = .ok (.if_icmp .gt 7, 3) := by decide +kernel
theorem dX5_change_35 : decode cX5_change 35 = .ok (.iconst 1, 1) := by decide +kernel
theorem dX5_change_36 : decode cX5_change 36 = .ok (.goto 4, 3) := by decide +kernel
theorem dX5_change_39 : decode cX5_change 39 = .ok (.iconst 0, 1) := by decide +kernel
theorem dX5_change_40 : decode cX5_change 40 = .ok (.istore 4, 2) := by decide +kernel
theorem dX5_change_42 : decode cX5_change 42 = .ok (.iload 4, 2) := by decide +kernel
theorem dX5_change_44 : decode cX5_change 44 = .ok (.ifCond .eq 18, 3) := by decide +kernel
theorem dX5_change_47 : decode cX5_change 47 = .ok (.aload_n 0, 1) := by decide +kernel
theorem dX5_change_48 : decode cX5_change 48 = .ok (.iload_n 1, 1) := by decide +kernel
theorem dX5_change_49 : decode cX5_change 49 = .ok (.putfield 9, 3) := by decide +kernel
theorem dX5_change_52 : decode cX5_change 52 = .ok (.aload_n 0, 1) := by decide +kernel
theorem dX5_change_53 : decode cX5_change 53 = .ok (.iload_n 2, 1) := by decide +kernel
theorem dX5_change_54 : decode cX5_change 54 = .ok (.putfield 15, 3) := by decide +kernel
theorem dX5_change_57 : decode cX5_change 57 = .ok (.aload_n 0, 1) := by decide +kernel
theorem dX5_change_58 : decode cX5_change 58 = .ok (.iload_n 3, 1) := by decide +kernel
theorem dX5_change_59 : decode cX5_change 59 = .ok (.putfield 18, 3) := by decide +kernel
theorem dX5_change_62 : decode cX5_change 62 = .ok (.iload 4, 2) := by decide +kernel
theorem dX5_change_64 : decode cX5_change 64 = .ok (.ireturn, 1) := by decide +kernel
set_option maxRecDepth 20000 in
theorem ggX6_init_X1_init : GoodIn wsX6_init wsX1_init := goodIn_r _ [20, 21, 2, 3, 8, 22, 23, 24, 25] (by decide +kernel) (by decide +kernel)
set_option maxRecDepth 20000 in
theorem gX6_init_X1_init : GoodIn wsX6_init (wsX1_init) := ggX6_init_X1_init
theorem dX6_init_0 : decode cX6_init 0 = .ok (.aload_n 0, 1) := by decide +kernel
theorem dX6_init_1 : decode cX6_init 1 = .ok (.invokespecial 3, 3) := by decide +kernel
theorem dX6_init_4 : decode cX6_init 4 = .ok (.aload_n 0, 1) := by decide +kernel
theorem dX6_init_5 : decode cX6_init 5 = .ok (.new 9, 3) := by decide +kernel
theorem dX6_init_8 : decode cX6_init 8 = .ok (.dup, 1) := by decide +kernel
theorem dX6_init_9 : decode cX6_init 9 = .ok (.sipush 500, 3) := by decide +kernel
theorem dX6_init_12 : decode cX6_init 12 = .ok (.invokespecial 11, 3) := by decide +kernel
theorem dX6_init_15 : decode cX6_init 15 = .ok (.putfield 14, 3) := by decide +kernel
theorem dX6_init_18 : decode cX6_init 18 = .ok (.aload_n 0, 1) := by decide +kernel
theorem dX6_init_19 : decode cX6_init 19 = .ok (.sipush 500, 3) := by decide +kernel
theorem dX6_init_22 : decode cX6_init 22 = .ok (.newarray .int, 2) := by decide +kernel
theorem dX6_init_24 : decode cX6_init 24 = .ok (.putfield 20, 3) := by decide +kernel
theorem dX6_init_27 : decode cX6_init 27 = .ok (.aload_n 0, 1) := by decide +kernel
theorem dX6_init_28 : decode cX6_init 28 = .ok (.sipush 500, 3) := by decide +kernel
theorem dX6_init_31 : decode cX6_init 31 = .ok (.newarray .int, 2) := by decide +kernel
theorem dX6_init_33 : decode cX6_init 33 = .ok (.putfield 24, 3) := by decide +kernel
theorem dX6_init_36 : decode cX6_init 36 = .ok (.aload_n 0, 1) := by decide +kernel
theorem dX6_init_37 : decode cX6_init 37 = .ok (.sipush 500, 3) := by decide +kernel
theorem dX6_init_40 : decode cX6_init 40 = .ok (.newarray .int, 2) := by decide +kernel
theorem dX6_init_42 : decode cX6_init 42 = .ok (.putfield 27, 3) := by decide +kernel
theorem dX6_init_45 : decode cX6_init 45 = .ok (.aload_n 0, 1) := by decide +kernel
theorem dX6_init_46 : decode cX6_init 46 = .ok (.iconst 0, 1) := by decide +kernel
theorem dX6_init_47 : decode cX6_init 47 = .ok (.putfield 30, 3) := by decide +kernel
theorem dX6_init_50 : decode cX6_init 50 = .ok (.aload_n 0, 1) := by decide +kernel
theorem dX6_init_51 : decode cX6_init 51 = .ok (.iconst 0, 1) := by decide +kernel
theorem dX6_init_52 : decode cX6_init 52 = .ok (.putfield 34, 3) := by decide +kernel
theorem dX6_init_55 : decode cX6_init 55 = .ok (.aload_n 0, 1) := by decide +kernel
theorem dX6_init_56 : decode cX6_init 56 = .ok (.iconst 0, 1) := by decide +kernel
theorem dX6_init_57 : decode cX6_init 57 = .ok (.putfield 37, 3) := by decide +kernel
theorem dX6_init_60 : decode cX6_init 60 = .ok (.aload_n 0, 1) := by decide +kernel
theorem dX6_init_61 : decode cX6_init 61 = .ok (.iconst 0, 1) := by decide +kernel
theorem dX6_init_62 : decode cX6_init 62 = .ok (.putfield 40, 3) := by decide +kernel
theorem dX6_init_65 : decode cX6_init 65 = .ok (.aload_n 0, 1) := by decide +kernel
theorem dX6_init_66 : decode cX6_init 66 = .ok (.iconst 0, 1) := by decide +kernel
theorem dX6_init_67 : decode cX6_init 67 = .ok (.putfield 43, 3) := by decide +kernel
theorem dX6_init_70 : decode cX6_init 70 = .ok (.aload_n 0, 1) := by decide +kernel
theorem dX6_init_71 : decode cX6_init 71 = .ok (.iconst 0, 1) := by decide +kernel
theorem dX6_init_72 : decode cX6_init 72 = .ok (.putfield 46, 3) := by decide +kernel
theorem dX6_init_75 : decode cX6_init 75 = .ok (.return_, 1) := by decide +kernel
set_option maxRecDepth 20000 in
theorem ggX6_begin_X1_copyOf : GoodIn wsX6_begin wsX1_copyOf := goodIn_r _ [12, 13, 14, 15, 16, 17, 18, 19, 20, 21, 22, 33, 34] (by decide +kernel) (by decide +kernel)
set_option maxRecDepth 20000 in
theorem gX6_begin_X1_copyOf : GoodIn wsX6_begin (wsV RX6 50 RX1 yX1_copyOf wsX1_copyOf) := goodIn_app (goodIn_of _ (by decide +kernel)) ggX6_begin_X1_copyOf
theorem dX6_begin_0 : decode cX6_begin 0 = .ok (.aload_n 0, 1) := by decide +kernel
theorem dX6_begin_1 : decode cX6_begin 1 = .ok (.getfield 14, 3) := by decide +kernel
theorem dX6_begin_4 : decode cX6_begin 4 = .ok (.aload_n 1, 1) := by decide +kernel
theorem dX6_begin_5 : decode cX6_begin 5 = .ok (.invokevirtual 50, 3) := by decide +kernel
theorem dX6_begin_8 : decode cX6_begin 8 = .ok (.aload_n 0, 1) := by decide +kernel
theorem dX6_begin_9 : decode cX6_begin 9 = .ok (.iload_n 2, 1) := by decide +kernel
theorem dX6_begin_10 : decode cX6_begin 10 = .ok (.putfield 30, 3) := by decide +kernel
theorem dX6_begin_13 : decode cX6_begin 13 = .ok (.aload_n 0, 1) := by decide +kernel
theorem dX6_begin_14 : decode cX6_begin 14 = .ok (.iconst 0, 1) := by decide +kernel
theorem dX6_begin_15 : decode cX6_begin 15 = .ok (.putfield 34, 3) := by decide +kernel
theorem dX6_begin_18 : decode cX6_begin 18 = .ok (.aload_n 0, 1) := by decide +kernel
theorem dX6_begin_19 : decode cX6_begin 19 = .ok (.iconst 0, 1) := by decide +kernel
theorem dX6_begin_20 : decode cX6_begin 20 = .ok (.putfield 37, 3) := by decide +kernel
theorem dX6_begin_23 : decode cX6_begin 23 = .ok (.aload_n 0, 1) := by decide +kernel
theorem dX6_begin_24 : decode cX6_begin 24 = .ok (.iconst 0, 1) := by decide +kernel
theorem dX6_begin_25 : decode cX6_begin 25 = .ok (.putfield 40, 3) := by decide +kernel
theorem dX6_begin_28 : decode cX6_begin 28 = .ok (.aload_n 0, 1) := by decide +kernel
theorem dX6_begin_29 : decode cX6_begin 29 = .ok (.bipush 16, 2) := by decide +kernel
theorem dX6_begin_31 : decode cX6_begin 31 = .ok (.putfield 43, 3) := by decide +kernel
theorem dX6_begin_34 : decode cX6_begin 34 = .ok (.aload_n 0, 1) := by decide +kernel
theorem dX6_begin_35 : decode cX6_begin 35 = .ok (.iconst 1, 1) := by decide +kernel
theorem dX6_begin_36 : decode cX6_begin 36 = .ok (.putfield 46, 3) := by decide +kernel
theorem dX6_begin_39 : decode cX6_begin 39 = .ok (.return_, 1) := by decide +kernel
set_option maxRecDepth 20000 in
theorem ggX6_addByte_X6_addOne : GoodIn wsX6_addByte wsX6_addOne := goodIn_r _ [6, 7, 8, 9, 10, 11, 12, 13, 14, 15, 16, 17, 18, 19, 20, 21] (by decide +kernel) (by decide +kernel)
set_option maxRecDepth 20000 in
theorem gX6_addByte_X6_addOne : GoodIn wsX6_addByte (wsV RX6 54 RX6 yX6_addOne wsX6_addOne) := goodIn_app (goodIn_of _ (by decide +kernel)) ggX6_addByte_X6_addOne
theorem dX6_addByte_0 : decode cX6_addByte 0 = .ok (.aload_n 0, 1) := by decide +kernel
theorem dX6_addByte_1 : decode cX6_addByte 1 = .ok (.iload_n 1, 1) := by decide +kernel
theorem dX6_addByte_2 : decode cX6_addByte 2 = .ok (.iconst 1, 1) := by decide +kernel
theorem dX6_addByte_3 : decode cX6_addByte 3 = .ok (.iconst 0, 1) := by decide +kernel
theorem dX6_addByte_4 : decode cX6_addByte 4 = .ok (.iload_n 2, 1) := by decide +kernel
theorem dX6_addByte_5 : decode cX6_addByte 5 = .ok (.invokevirtual 54, 3) := by decide +kernel
theorem dX6_addByte_8 : decode cX6_addByte 8 = .ok (.aload_n 0, 1) := by decide +kernel
theorem dX6_addByte_9 : decode cX6_addByte 9 = .ok (.dup, 1) := by decide +kernel
theorem dX6_addByte_10 : decode cX6_addByte 10 = .ok (.getfield 43, 3) := by decide +kernel
theorem dX6_addByte_13 : decode cX6_addByte 13 = .ok (.bipush 9, 2) := by decide +kernel
theorem dX6_addByte_15 : decode cX6_addByte 15 = .ok (.iadd, 1) := by decide +kernel
theorem dX6_addByte_16 : decode cX6_addByte 16 = .ok (.putfield 43, 3) := by decide +kernel
theorem dX6_addByte_19 : decode cX6_addByte 19 = .ok (.return_, 1) := by decide +kernel
set_option maxRecDepth 20000 in
theorem ggX6_addMatch_X6_addOne : GoodIn wsX6_addMatch wsX6_addOne := goodIn_r _ [7, 8, 9, 10, 11, 12, 25, 26, 27, 28, 29, 30, 31, 32, 33, 34] (by decide +kernel) (by decide +kernel)
set_option maxRecDepth 20000 in
theorem gX6_addMatch_X6_addOne : GoodIn wsX6_addMatch (wsV RX6 54 RX6 yX6_addOne wsX6_addOne) := goodIn_app (goodIn_of _ (by decide +kernel)) ggX6_addMatch_X6_addOne
set_option maxRecDepth 20000 in
theorem ggX6_addMatch_X6_lengthBits : GoodIn wsX6_addMatch wsX6_lengthBits := goodIn_r _ [16, 17, 18, 19, 6, 20, 21, 22, 23, 24, 25, 26, 27, 28, 29, 30, 31, 32, 33, 34] (by decide +kernel) (by decide +kernel)
set_option maxRecDepth 20000 in
theorem gX6_addMatch_X6_lengthBits : GoodIn wsX6_addMatch (wsV RX6 58 RX6 yX6_lengthBits wsX6_lengthBits) := goodIn_app (goodIn_of _ (by decide +kernel)) ggX6_addMatch_X6_lengthBits
set_option maxRecDepth 20000 in
theorem ggX6_addMatch_X8_classOf : GoodIn wsX6_addMatch wsX8_classOf := goodIn_r _ [24] (by decide +kernel) (by decide +kernel)
set_option maxRecDepth 20000 in
theorem gX6_addMatch_X8_classOf_n62 : GoodIn wsX6_addMatch (wsX8_classOf) := ggX6_addMatch_X8_classOf
theorem dX6_addMatch_0 : decode cX6_addMatch 0 = .ok (.aload_n 0, 1) := by decide +kernel
theorem dX6_addMatch_1 : decode cX6_addMatch 1 = .ok (.iload_n 1, 1) := by decide +kernel
theorem dX6_addMatch_2 : decode cX6_addMatch 2 = .ok (.iload_n 2, 1) := by decide +kernel
theorem dX6_addMatch_3 : decode cX6_addMatch 3 = .ok (.iload_n 3, 1) := by decide +kernel
theorem dX6_addMatch_4 : decode cX6_addMatch 4 = .ok (.iload 4, 2) := by decide +kernel
theorem dX6_addMatch_6 : decode cX6_addMatch 6 = .ok (.invokevirtual 54, 3) := by decide +kernel
theorem dX6_addMatch_9 : decode cX6_addMatch 9 = .ok (.aload_n 0, 1) := by decide +kernel
theorem dX6_addMatch_10 : decode cX6_addMatch 10 = .ok (.dup, 1) := by decide +kernel
theorem dX6_addMatch_11 : decode cX6_addMatch 11 = .ok (.getfield 37, 3) := by decide +kernel
theorem dX6_addMatch_14 : decode cX6_addMatch 14 = .ok (.iconst 1, 1) := by decide +kernel
theorem dX6_addMatch_15 : decode cX6_addMatch 15 = .ok (.iadd, 1) := by decide +kernel
theorem dX6_addMatch_16 : decode cX6_addMatch 16 = .ok (.putfield 37, 3) := by decide +kernel
theorem dX6_addMatch_19 : decode cX6_addMatch 19 = .ok (.aload_n 0, 1) := by decide +kernel
theorem dX6_addMatch_20 : decode cX6_addMatch 20 = .ok (.dup, 1) := by decide +kernel
theorem dX6_addMatch_21 : decode cX6_addMatch 21 = .ok (.getfield 43, 3) := by decide +kernel
theorem dX6_addMatch_24 : decode cX6_addMatch 24 = .ok (.iconst 1, 1) := by decide +kernel
theorem dX6_addMatch_25 : decode cX6_addMatch 25 = .ok (.aload_n 0, 1) := by decide +kernel
theorem dX6_addMatch_26 : decode cX6_addMatch 26 = .ok (.iload_n 2, 1) := by decide +kernel
theorem dX6_addMatch_27 : decode cX6_addMatch 27 = .ok (.invokevirtual 58, 3) := by decide +kernel
theorem dX6_addMatch_30 : decode cX6_addMatch 30 = .ok (.iadd, 1) := by decide +kernel
theorem dX6_addMatch_31 : decode cX6_addMatch 31 = .ok (.iconst 4, 1) := by decide +kernel
theorem dX6_addMatch_32 : decode cX6_addMatch 32 = .ok (.iadd, 1) := by decide +kernel
theorem dX6_addMatch_33 : decode cX6_addMatch 33 = .ok (.iload_n 3, 1) := by decide +kernel
theorem dX6_addMatch_34 : decode cX6_addMatch 34 = .ok (.invokestatic 62, 3) := by decide +kernel
theorem dX6_addMatch_37 : decode cX6_addMatch 37 = .ok (.iadd, 1) := by decide +kernel
theorem dX6_addMatch_38 : decode cX6_addMatch 38 = .ok (.iadd, 1) := by decide +kernel
theorem dX6_addMatch_39 : decode cX6_addMatch 39 = .ok (.putfield 43, 3) := by decide +kernel
theorem dX6_addMatch_42 : decode cX6_addMatch 42 = .ok (.return_, 1) := by decide +kernel
theorem dX6_made_0 : decode cX6_made 0 = .ok (.aload_n 0, 1) := by decide +kernel
theorem dX6_made_1 : decode cX6_made 1 = .ok (.getfield 46, 3) := by decide +kernel
theorem dX6_made_4 : decode cX6_made 4 = .ok (.ireturn, 1) := by decide +kernel
theorem dX6_count_0 : decode cX6_count 0 = .ok (.aload_n 0, 1) := by decide +kernel
theorem dX6_count_1 : decode cX6_count 1 = .ok (.getfield 34, 3) := by decide +kernel
theorem dX6_count_4 : decode cX6_count 4 = .ok (.ireturn, 1) := by decide +kernel
theorem dX6_matchCount_0 : decode cX6_matchCount 0 = .ok (.aload_n 0, 1) := by decide +kernel
theorem dX6_matchCount_1 : decode cX6_matchCount 1 = .ok (.getfield 37, 3) := by decide +kernel
theorem dX6_matchCount_4 : decode cX6_matchCount 4 = .ok (.ireturn, 1) := by decide +kernel
theorem dX6_wholePrice_0 : decode cX6_wholePrice 0 = .ok (.aload_n 0, 1) := by decide +kernel
theorem dX6_wholePrice_1 : decode cX6_wholePrice 1 = .ok (.getfield 40, 3) := by decide +kernel
theorem dX6_wholePrice_4 : decode cX6_wholePrice 4 = .ok (.ireturn, 1) := by decide +kernel
theorem dX6_bits_0 : decode cX6_bits 0 = .ok (.aload_n 0, 1) := by decide +kernel
theorem dX6_bits_1 : decode cX6_bits 1 = .ok (.getfield 43, 3) := by decide +kernel
theorem dX6_bits_4 : decode cX6_bits 4 = .ok (.ireturn, 1) := by decide +kernel
set_option maxRecDepth 20000 in
theorem ggX6_textSize_X1_size : GoodIn wsX6_textSize wsX1_size := goodIn_r _ [6, 7, 18, 19] (by decide +kernel) (by decide +kernel)
set_option maxRecDepth 20000 in
theorem gX6_textSize_X1_size : GoodIn wsX6_textSize (wsV RX6 65 RX1 yX1_size wsX1_size) := goodIn_app (goodIn_of _ (by decide +kernel)) ggX6_textSize_X1_size
theorem dX6_textSize_0 : decode cX6_textSize 0 = .ok (.aload_n 0, 1) := by decide +kernel
theorem dX6_textSize_1 : decode cX6_textSize 1 = .ok (.getfield 14, 3) := by decide +kernel
theorem dX6_textSize_4 : decode cX6_textSize 4 = .ok (.invokevirtual 65, 3) := by decide +kernel
theorem dX6_textSize_7 : decode cX6_textSize 7 = .ok (.ireturn, 1) := by decide +kernel
theorem dX6_has_0 : decode cX6_has 0 = .ok (.iload_n 1, 1) := by decide +kernel
theorem dX6_has_1 : decode cX6_has 1 = .ok (.ifCond .lt 15, 3) := by decide +kernel
theorem dX6_has_4 : decode cX6_has 4 = .ok (.iload_n 1, 1) := by decide +kernel
theorem dX6_has_5 : decode cX6_has 5 = .ok (.aload_n 0, 1) := by decide +kernel
theorem dX6_has_6 : decode cX6_has 6 = .ok (.getfield 34, 3) := by decide +kernel
theorem dX6_has_9 : decode cX6_has 9 = .ok (.if_icmp .ge 7, 3) := by decide +kernel
theorem dX6_has_12 : decode cX6_has 12 = .ok (.iconst 1, 1) := by decide +kernel
theorem dX6_has_13 : decode cX6_has 13 = .ok (.goto 4, 3) := by decide +kernel
theorem dX6_has_16 : decode cX6_has 16 = .ok (.iconst 0, 1) := by decide +kernel
theorem dX6_has_17 : decode cX6_has 17 = .ok (.ireturn, 1) := by decide +kernel
set_option maxRecDepth 20000 in
theorem ggX6_placeOf_X6_has : GoodIn wsX6_placeOf wsX6_has := goodIn_r _ [6, 7, 8, 9, 10, 11, 12, 13, 14, 15, 16, 17] (by decide +kernel) (by decide +kernel)
set_option maxRecDepth 20000 in
theorem gX6_placeOf_X6_has : GoodIn wsX6_placeOf (wsV RX6 69 RX6 yX6_has wsX6_has) := goodIn_app (goodIn_of _ (by decide +kernel)) ggX6_placeOf_X6_has
theorem dX6_placeOf_0 : decode cX6_placeOf 0 = .ok (.aload_n 0, 1) := by decide +kernel
theorem dX6_placeOf_1 : decode cX6_placeOf 1 = .ok (.iload_n 1, 1) := by decide +kernel
theorem dX6_placeOf_2 : decode cX6_placeOf 2 = .ok (.invokevirtual 69, 3) := by decide +kernel
theorem dX6_placeOf_5 : decode cX6_placeOf 5 = .ok (.ifCond .eq 12, 3) := by decide +kernel
theorem dX6_placeOf_8 : decode cX6_placeOf 8 = .ok (.aload_n 0, 1) := by decide +kernel
theorem dX6_placeOf_9 : decode cX6_placeOf 9 = .ok (.getfield 20, 3) := by decide +kernel
theorem dX6_placeOf_12 : decode cX6_placeOf 12 = .ok (.iload_n 1, 1) := by decide +kernel
theorem dX6_placeOf_13 : decode cX6_placeOf 13 = .ok (.iaload, 1) := by decide +kernel
theorem dX6_placeOf_14 : decode cX6_placeOf 14 = .ok (.goto 4, 3) := by decide +kernel
theorem dX6_placeOf_17 : decode cX6_placeOf 17 = .ok (.iconst (-1), 1) := by decide +kernel
theorem dX6_placeOf_18 : decode cX6_placeOf 18 = .ok (.ireturn, 1) := by decide +kernel
set_option maxRecDepth 20000 in
theorem ggX6_lengthOf_X6_has : GoodIn wsX6_lengthOf wsX6_has := goodIn_r _ [6, 7, 8, 9, 10, 11, 12, 13, 14, 15, 16, 17] (by decide +kernel) (by decide +kernel)
set_option maxRecDepth 20000 in
theorem gX6_lengthOf_X6_has : GoodIn wsX6_lengthOf (wsV RX6 69 RX6 yX6_has wsX6_has) := goodIn_app (goodIn_of _ (by decide +kernel)) ggX6_lengthOf_X6_has
theorem dX6_lengthOf_0 : decode cX6_lengthOf 0 = .ok (.aload_n 0, 1) := by decide +kernel
theorem dX6_lengthOf_1 : decode cX6_lengthOf 1 = .ok (.iload_n 1, 1) := by decide +kernel
theorem dX6_lengthOf_2 : decode cX6_lengthOf 2 = .ok (.invokevirtual 69, 3) := by decide +kernel
theorem dX6_lengthOf_5 : decode cX6_lengthOf 5 = .ok (.ifCond .eq 12, 3) := by decide +kernel
theorem dX6_lengthOf_8 : decode cX6_lengthOf 8 = .ok (.aload_n 0, 1) := by decide +kernel
theorem dX6_lengthOf_9 : decode cX6_lengthOf 9 = .ok (.getfield 24, 3) := by decide +kernel
theorem dX6_lengthOf_12 : decode cX6_lengthOf 12 = .ok (.iload_n 1, 1) := by decide +kernel
theorem dX6_lengthOf_13 : decode cX6_lengthOf 13 = .ok (.iaload, 1) := by decide +kernel
theorem dX6_lengthOf_14 : decode cX6_lengthOf 14 = .ok (.goto 4, 3) := by decide +kernel
theorem dX6_lengthOf_17 : decode cX6_lengthOf 17 = .ok (.iconst (-1), 1) := by decide +kernel
theorem dX6_lengthOf_18 : decode cX6_lengthOf 18 = .ok (.ireturn, 1) := by decide +kernel
set_option maxRecDepth 20000 in
theorem ggX6_distanceOf_X6_has : GoodIn wsX6_distanceOf wsX6_has := goodIn_r _ [6, 7, 8, 9, 10, 11, 12, 13, 14, 15, 16, 17] (by decide +kernel) (by decide +kernel)
set_option maxRecDepth 20000 in
theorem gX6_distanceOf_X6_has : GoodIn wsX6_distanceOf (wsV RX6 69 RX6 yX6_has wsX6_has) := goodIn_app (goodIn_of _ (by decide +kernel)) ggX6_distanceOf_X6_has
theorem dX6_distanceOf_0 : decode cX6_distanceOf 0 = .ok (.aload_n 0, 1) := by decide +kernel
theorem dX6_distanceOf_1 : decode cX6_distanceOf 1 = .ok (.iload_n 1, 1) := by decide +kernel
theorem dX6_distanceOf_2 : decode cX6_distanceOf 2 = .ok (.invokevirtual 69, 3) := by decide +kernel
theorem dX6_distanceOf_5 : decode cX6_distanceOf 5 = .ok (.ifCond .eq 12, 3) := by decide +kernel
theorem dX6_distanceOf_8 : decode cX6_distanceOf 8 = .ok (.aload_n 0, 1) := by decide +kernel
theorem dX6_distanceOf_9 : decode cX6_distanceOf 9 = .ok (.getfield 27, 3) := by decide +kernel
theorem dX6_distanceOf_12 : decode cX6_distanceOf 12 = .ok (.iload_n 1, 1) := by decide +kernel
theorem dX6_distanceOf_13 : decode cX6_distanceOf 13 = .ok (.iaload, 1) := by decide +kernel
theorem dX6_distanceOf_14 : decode cX6_distanceOf 14 = .ok (.goto 4, 3) := by decide +kernel
theorem dX6_distanceOf_17 : decode cX6_distanceOf 17 = .ok (.iconst (-1), 1) := by decide +kernel
theorem dX6_distanceOf_18 : decode cX6_distanceOf 18 = .ok (.ireturn, 1) := by decide +kernel
set_option maxRecDepth 20000 in
theorem ggX6_byteOf_X6_has : GoodIn wsX6_byteOf wsX6_has := goodIn_r _ [8, 9, 17, 18, 19, 20, 21, 22, 23, 24, 25, 26] (by decide +kernel) (by decide +kernel)
set_option maxRecDepth 20000 in
theorem gX6_byteOf_X6_has : GoodIn wsX6_byteOf (wsV RX6 69 RX6 yX6_has wsX6_has) := goodIn_app (goodIn_of _ (by decide +kernel)) ggX6_byteOf_X6_has
set_option maxRecDepth 20000 in
theorem ggX6_byteOf_X1_get : GoodIn wsX6_byteOf wsX1_get := goodIn_r _ [14, 15, 16, 27, 28] (by decide +kernel) (by decide +kernel)
set_option maxRecDepth 20000 in
theorem gX6_byteOf_X1_get : GoodIn wsX6_byteOf (wsV RX6 73 RX1 yX1_get wsX1_get) := goodIn_app (goodIn_of _ (by decide +kernel)) ggX6_byteOf_X1_get
theorem dX6_byteOf_0 : decode cX6_byteOf 0 = .ok (.aload_n 0, 1) := by decide +kernel
theorem dX6_byteOf_1 : decode cX6_byteOf 1 = .ok (.iload_n 1, 1) := by decide +kernel
theorem dX6_byteOf_2 : decode cX6_byteOf 2 = .ok (.invokevirtual 69, 3) := by decide +kernel
theorem dX6_byteOf_5 : decode cX6_byteOf 5 = .ok (.ifCond .eq 28, 3) := by decide +kernel
theorem dX6_byteOf_8 : decode cX6_byteOf 8 = .ok (.aload_n 0, 1) := by decide +kernel
theorem dX6_byteOf_9 : decode cX6_byteOf 9 = .ok (.getfield 27, 3) := by decide +kernel
theorem dX6_byteOf_12 : decode cX6_byteOf 12 = .ok (.iload_n 1, 1) := by decide +kernel
theorem dX6_byteOf_13 : decode cX6_byteOf 13 = .ok (.iaload, 1) := by decide +kernel
theorem dX6_byteOf_14 : decode cX6_byteOf 14 = .ok (.ifCond .ne 19, 3) := by decide +kernel
theorem dX6_byteOf_17 : decode cX6_byteOf 17 = .ok (.aload_n 0, 1) := by decide +kernel
theorem dX6_byteOf_18 : decode cX6_byteOf 18 = .ok (.getfield 14, 3) := by decide +kernel
theorem dX6_byteOf_21 : decode cX6_byteOf 21 = .ok (.aload_n 0, 1) := by decide +kernel
theorem dX6_byteOf_22 : decode cX6_byteOf 22 = .ok (.getfield 20, 3) := by decide +kernel
theorem dX6_byteOf_25 : decode cX6_byteOf 25 = .ok (.iload_n 1, 1) := by decide +kernel
theorem dX6_byteOf_26 : decode cX6_byteOf 26 = .ok (.iaload, 1) := by decide +kernel
theorem dX6_byteOf_27 : decode cX6_byteOf 27 = .ok (.invokevirtual 73, 3) := by decide +kernel
theorem dX6_byteOf_30 : decode cX6_byteOf 30 = .ok (.goto 4, 3) := by decide +kernel
theorem dX6_byteOf_33 : decode cX6_byteOf 33 = .ok (.iconst (-1), 1) := by decide +kernel
theorem dX6_byteOf_34 : decode cX6_byteOf 34 = .ok (.ireturn, 1) := by decide +kernel
set_option maxRecDepth 20000 in
theorem ggX6_putInto_X0_begin : GoodIn wsX6_putInto wsX0_begin := goodIn_r _ [9, 10, 67, 68] (by decide +kernel) (by decide +kernel)
set_option maxRecDepth 20000 in
theorem gX6_putInto_X0_begin : GoodIn wsX6_putInto (wsV RX6 76 RX0 yX0_begin wsX0_begin) := goodIn_app (goodIn_of _ (by decide +kernel)) ggX6_putInto_X0_begin
set_option maxRecDepth 20000 in
theorem ggX6_putInto_X1_size : GoodIn wsX6_putInto wsX1_size := goodIn_r _ [15, 16, 69, 70] (by decide +kernel) (by decide +kernel)
set_option maxRecDepth 20000 in
theorem gX6_putInto_X1_size : GoodIn wsX6_putInto (wsV RX6 65 RX1 yX1_size wsX1_size) := goodIn_app (goodIn_of _ (by decide +kernel)) ggX6_putInto_X1_size
set_option maxRecDepth 20000 in
theorem ggX6_putInto_X0_put : GoodIn wsX6_putInto wsX0_put := goodIn_r _ [20, 21, 22, 23, 8, 24, 10, 25, 67, 68] (by decide +kernel) (by decide +kernel)
set_option maxRecDepth 20000 in
theorem gX6_putInto_X0_put : GoodIn wsX6_putInto (wsV RX6 81 RX0 yX0_put wsX0_put) := goodIn_app (goodIn_of _ (by decide +kernel)) ggX6_putInto_X0_put
set_option maxRecDepth 20000 in
theorem ggX6_putInto_X6_byteOf : GoodIn wsX6_putInto wsX6_byteOf := goodIn_r _ [30, 3, 1, 31, 32, 33, 34, 29, 35, 2, 36, 37, 38, 14, 39, 16, 40, 57, 58, 59, 60, 61, 62, 63, 64, 65, 66, 69, 70] (by decide +kernel) (by decide +kernel)
set_option maxRecDepth 20000 in
theorem gX6_putInto_X6_byteOf : GoodIn wsX6_putInto (wsV RX6 85 RX6 yX6_byteOf wsX6_byteOf) := goodIn_app (goodIn_of _ (by decide +kernel)) ggX6_putInto_X6_byteOf
set_option maxRecDepth 20000 in
theorem ggX6_putInto_X6_putMatch : GoodIn wsX6_putInto wsX6_putMatch := goodIn_r _ [44, 17, 18, 19, 8, 20, 21, 22, 23, 24, 10, 25, 45, 46, 47, 29, 48, 49, 50, 51, 52, 53, 54, 55, 56, 67, 68, 57, 58, 59, 60, 61, 62, 63, 64, 65, 66] (by decide +kernel) (by decide +kernel)
set_option maxRecDepth 20000 in
theorem gX6_putInto_X6_putMatch : GoodIn wsX6_putInto (wsV RX6 88 RX6 yX6_putMatch wsX6_putMatch) := goodIn_app (goodIn_of _ (by decide +kernel)) ggX6_putInto_X6_putMatch
theorem dX6_putInto_0 : decode cX6_putInto 0 = .ok (.aload_n 1, 1) := by decide +kernel
theorem dX6_putInto_1 : decode cX6_putInto 1 = .ok (.invokevirtual 76, 3) := by decide +kernel
theorem dX6_putInto_4 : decode cX6_putInto 4 = .ok (.aload_n 1, 1) := by decide +kernel
theorem dX6_putInto_5 : decode cX6_putInto 5 = .ok (.aload_n 0, 1) := by decide +kernel
theorem dX6_putInto_6 : decode cX6_putInto 6 = .ok (.getfield 14, 3) := by decide +kernel
theorem dX6_putInto_9 : decode cX6_putInto 9 = .ok (.invokevirtual 65, 3) := by decide +kernel
theorem dX6_putInto_12 : decode cX6_putInto 12 = .ok (.bipush 16, 2) := by decide +kernel
theorem dX6_putInto_14 : decode cX6_putInto 14 = .ok (.invokevirtual 81, 3) := by decide +kernel
theorem dX6_putInto_17 : decode cX6_putInto 17 = .ok (.iconst 0, 1) := by decide +kernel
theorem dX6_putInto_18 : decode cX6_putInto 18 = .ok (.istore_n 2, 1) := by decide +kernel
theorem dX6_putInto_19 : decode cX6_putInto 19 = .ok (.iload_n 2, 1) := by decide +kernel
theorem dX6_putInto_20 : decode cX6_putInto 20 = .ok (.aload_n 0, 1) := by decide +kernel
theorem dX6_putInto_21 : decode cX6_putInto 21 = .ok (.getfield 34, 3) := by decide +kernel
theorem dX6_putInto_24 : decode cX6_putInto 24 = .ok (.if_icmp .ge 55, 3) := by decide +kernel
theorem dX6_putInto_27 : decode cX6_putInto 27 = .ok (.aload_n 0, 1) := by decide +kernel
theorem dX6_putInto_28 : decode cX6_putInto 28 = .ok (.getfield 27, 3) := by decide +kernel
theorem dX6_putInto_31 : decode cX6_putInto 31 = .ok (.iload_n 2, 1) := by decide +kernel
theorem dX6_putInto_32 : decode cX6_putInto 32 = .ok (.iaload, 1) := by decide +kernel
theorem dX6_putInto_33 : decode cX6_putInto 33 = .ok (.ifCond .ne 23, 3) := by decide +kernel
theorem dX6_putInto_36 : decode cX6_putInto 36 = .ok (.aload_n 1, 1) := by decide +kernel
theorem dX6_putInto_37 : decode cX6_putInto 37 = .ok (.iconst 0, 1) := by decide +kernel
theorem dX6_putInto_38 : decode cX6_putInto 38 = .ok (.iconst 1, 1) := by decide +kernel
theorem dX6_putInto_39 : decode cX6_putInto 39 = .ok (.invokevirtual 81, 3) := by decide +kernel
theorem dX6_putInto_42 : decode cX6_putInto 42 = .ok (.aload_n 1, 1) := by decide +kernel
theorem dX6_putInto_43 : decode cX6_putInto 43 = .ok (.aload_n 0, 1) := by decide +kernel
theorem dX6_putInto_44 : decode cX6_putInto 44 = .ok (.iload_n 2, 1) := by decide +kernel
theorem dX6_putInto_45 : decode cX6_putInto 45 = .ok (.invokevirtual 85, 3) := by decide +kernel
theorem dX6_putInto_48 : decode cX6_putInto 48 = .ok (.bipush 8, 2) := by decide +kernel
theorem dX6_putInto_50 : decode cX6_putInto 50 = .ok (.invokevirtual 81, 3) := by decide +kernel
theorem dX6_putInto_53 : decode cX6_putInto 53 = .ok (.goto 20, 3) := by decide +kernel
theorem dX6_putInto_56 : decode cX6_putInto 56 = .ok (.aload_n 0, 1) := by decide +kernel
theorem dX6_putInto_57 : decode cX6_putInto 57 = .ok (.aload_n 1, 1) := by decide +kernel
theorem dX6_putInto_58 : decode cX6_putInto 58 = .ok (.aload_n 0, 1) := by decide +kernel
theorem dX6_putInto_59 : decode cX6_putInto 59 = .ok (.getfield 24, 3) := by decide +kernel
theorem dX6_putInto_62 : decode cX6_putInto 62 = .ok (.iload_n 2, 1) := by decide +kernel
theorem dX6_putInto_63 : decode cX6_putInto 63 = .ok (.iaload, 1) := by decide +kernel
theorem dX6_putInto_64 : decode cX6_putInto 64 = .ok (.aload_n 0, 1) := by decide +kernel
theorem dX6_putInto_65 : decode cX6_putInto 65 = .ok (.getfield 27, 3) := by decide +kernel
theorem dX6_putInto_68 : decode cX6_putInto 68 = .ok (.iload_n 2, 1) := by decide +kernel
theorem dX6_putInto_69 : decode cX6_putInto 69 = .ok (.iaload, 1) := by decide +kernel
theorem dX6_putInto_70 : decode cX6_putInto 70 = .ok (.invokevirtual 88, 3) := by decide +kernel
theorem dX6_putInto_73 : decode cX6_putInto 73 = .ok (.iinc 2 1, 3) := by decide +kernel
theorem dX6_putInto_76 : decode cX6_putInto 76 = .ok (.goto (-57), 3) := by decide +kernel
theorem dX6_putInto_79 : decode cX6_putInto 79 = .ok (.return_, 1) := by decide +kernel
set_option maxRecDepth 20000 in
theorem ggX6_makeTheirText_X1_empty : GoodIn wsX6_makeTheirText wsX1_empty := goodIn_r _ [10, 11, 54, 55] (by decide +kernel) (by decide +kernel)
set_option maxRecDepth 20000 in
theorem gX6_makeTheirText_X1_empty : GoodIn wsX6_makeTheirText (wsV RX6 92 RX1 yX1_empty wsX1_empty) := goodIn_app (goodIn_of _ (by decide +kernel)) ggX6_makeTheirText_X1_empty
set_option maxRecDepth 20000 in
theorem ggX6_makeTheirText_X1_size : GoodIn wsX6_makeTheirText wsX1_size := goodIn_r _ [15, 11, 54, 55] (by decide +kernel) (by decide +kernel)
set_option maxRecDepth 20000 in
theorem gX6_makeTheirText_X1_size : GoodIn wsX6_makeTheirText (wsV RX6 65 RX1 yX1_size wsX1_size) := goodIn_app (goodIn_of _ (by decide +kernel)) ggX6_makeTheirText_X1_size
set_option maxRecDepth 20000 in
theorem ggX6_makeTheirText_X6_byteOf : GoodIn wsX6_makeTheirText wsX6_byteOf := goodIn_r _ [20, 3, 5, 2, 21, 22, 23, 19, 24, 1, 25, 26, 27, 9, 28, 11, 29, 44, 45, 46, 47, 48, 49, 50, 51, 52, 53, 54, 55] (by decide +kernel) (by decide +kernel)
set_option maxRecDepth 20000 in
theorem gX6_makeTheirText_X6_byteOf : GoodIn wsX6_makeTheirText (wsV RX6 85 RX6 yX6_byteOf wsX6_byteOf) := goodIn_app (goodIn_of _ (by decide +kernel)) ggX6_makeTheirText_X6_byteOf
set_option maxRecDepth 20000 in
theorem ggX6_makeTheirText_X1_add : GoodIn wsX6_makeTheirText wsX1_add := goodIn_r _ [33, 11, 29, 54, 55] (by decide +kernel) (by decide +kernel)
set_option maxRecDepth 20000 in
theorem gX6_makeTheirText_X1_add : GoodIn wsX6_makeTheirText (wsV RX6 95 RX1 yX1_add wsX1_add) := goodIn_app (goodIn_of _ (by decide +kernel)) ggX6_makeTheirText_X1_add
set_option maxRecDepth 20000 in
theorem ggX6_makeTheirText_X1_addAgain : GoodIn wsX6_makeTheirText wsX1_addAgain := goodIn_r _ [37, 11, 38, 26, 27, 9, 28, 29, 39, 31, 32, 33, 54, 55] (by decide +kernel) (by decide +kernel)
set_option maxRecDepth 20000 in
theorem gX6_makeTheirText_X1_addAgain : GoodIn wsX6_makeTheirText (wsV RX6 98 RX1 yX1_addAgain wsX1_addAgain) := goodIn_app (goodIn_of _ (by decide +kernel)) ggX6_makeTheirText_X1_addAgain
set_option maxRecDepth 20000 in
theorem ggX6_makeTheirText_X1_sameAs : GoodIn wsX6_makeTheirText wsX1_sameAs := goodIn_r _ [43, 11, 29, 54, 55] (by decide +kernel) (by decide +kernel)
set_option maxRecDepth 20000 in
theorem gX6_makeTheirText_X1_sameAs : GoodIn wsX6_makeTheirText (wsV RX6 101 RX1 yX1_sameAs wsX1_sameAs) := goodIn_app (goodIn_of _ (by decide +kernel)) ggX6_makeTheirText_X1_sameAs
theorem dX6_makeTheirText_0 : decode cX6_makeTheirText 0 = .ok (.aload_n 1, 1) := by decide +kernel
theorem dX6_makeTheirText_1 : decode cX6_makeTheirText 1 = .ok (.invokevirtual 92, 3) := by decide +kernel
theorem dX6_makeTheirText_4 : decode cX6_makeTheirText 4 = .ok (.iconst 0, 1) := by decide +kernel
theorem dX6_makeTheirText_5 : decode cX6_makeTheirText 5 = .ok (.istore_n 2, 1) := by decide +kernel
theorem dX6_makeTheirText_6 : decode cX6_makeTheirText 6 = .ok (.iload_n 2, 1) := by decide +kernel
theorem dX6_makeTheirText_7 : decode cX6_makeTheirText 7 = .ok (.aload_n 0, 1) := by decide +kernel
theorem dX6_makeTheirText_8 : decode cX6_makeTheirText 8 = .ok (.getfield 34, 3) := by decide +kernel
theorem dX6_makeTheirText_11 : decode cX6_makeTheirText 11 = .ok (.if_icmp .ge 61, 3) := by decide +kernel
theorem dX6_makeTheirText_14 : decode cX6_makeTheirText 14 = .ok (.aload_n 0, 1) := by decide +kernel
theorem dX6_makeTheirText_15 : decode cX6_makeTheirText 15 = .ok (.getfield 20, 3) := by decide +kernel
theorem dX6_makeTheirText_18 : decode cX6_makeTheirText 18 = .ok (.iload_n 2, 1) := by decide +kernel
theorem dX6_makeTheirText_19 : decode cX6_makeTheirText 19 = .ok (.iaload, 1) := by decide +kernel
theorem dX6_makeTheirText_20 : decode cX6_makeTheirText 20 = .ok (.aload_n 1, 1) := by decide +kernel
theorem dX6_makeTheirText_21 : decode cX6_makeTheirText 21 = .ok (.invokevirtual 65, 3) := by decide +kernel
theorem dX6_makeTheirText_24 : decode cX6_makeTheirText 24 = .ok (.if_icmp .eq 5, 3) := by decide +kernel
theorem dX6_makeTheirText_27 : decode cX6_makeTheirText 27 = .ok (.iconst 0, 1) := by decide +kernel
theorem dX6_makeTheirText_28 : decode cX6_makeTheirText 28 = .ok (.ireturn, 1) := by decide +kernel
theorem dX6_makeTheirText_29 : decode cX6_makeTheirText 29 = .ok (.aload_n 0, 1) := by decide +kernel
theorem dX6_makeTheirText_30 : decode cX6_makeTheirText 30 = .ok (.getfield 27, 3) := by decide +kernel
theorem dX6_makeTheirText_33 : decode cX6_makeTheirText 33 = .ok (.iload_n 2, 1) := by decide +kernel
theorem dX6_makeTheirText_34 : decode cX6_makeTheirText 34 = .ok (.iaload, 1) := by decide +kernel
theorem dX6_makeTheirText_35 : decode cX6_makeTheirText 35 = .ok (.ifCond .ne 15, 3) := by decide +kernel
theorem dX6_makeTheirText_38 : decode cX6_makeTheirText 38 = .ok (.aload_n 1, 1) := by decide +kernel
theorem dX6_makeTheirText_39 : decode cX6_makeTheirText 39 = .ok (.aload_n 0, 1) := by decide +kernel
theorem dX6_makeTheirText_40 : decode cX6_makeTheirText 40 = .ok (.iload_n 2, 1) := by decide +kernel
theorem dX6_makeTheirText_41 : decode cX6_makeTheirText 41 = .ok (.invokevirtual 85, 3) := by decide +kernel
theorem dX6_makeTheirText_44 : decode cX6_makeTheirText 44 = .ok (.invokevirtual 95, 3) := by decide +kernel
theorem dX6_makeTheirText_47 : decode cX6_makeTheirText 47 = .ok (.goto 19, 3) := by decide +kernel
theorem dX6_makeTheirText_50 : decode cX6_makeTheirText 50 = .ok (.aload_n 1, 1) := by decide +kernel
theorem dX6_makeTheirText_51 : decode cX6_makeTheirText 51 = .ok (.aload_n 0, 1) := by decide +kernel
theorem dX6_makeTheirText_52 : decode cX6_makeTheirText 52 = .ok (.getfield 27, 3) := by decide +kernel
theorem dX6_makeTheirText_55 : decode cX6_makeTheirText 55 = .ok (.iload_n 2, 1) := by decide +kernel
theorem dX6_makeTheirText_56 : decode cX6_makeTheirText 56 = .ok (.iaload, 1) := by decide +kernel
theorem dX6_makeTheirText_57 : decode cX6_makeTheirText 57 = .ok (.aload_n 0, 1) := by decide +kernel
theorem dX6_makeTheirText_58 : decode cX6_makeTheirText 58 = .ok (.getfield 24, 3) := by decide +kernel
theorem dX6_makeTheirText_61 : decode cX6_makeTheirText 61 = .ok (.iload_n 2, 1) := by decide +kernel
theorem dX6_makeTheirText_62 : decode cX6_makeTheirText 62 = .ok (.iaload, 1) := by decide +kernel
theorem dX6_makeTheirText_63 : decode cX6_makeTheirText 63 = .ok (.invokevirtual 98, 3) := by decide +kernel
theorem dX6_makeTheirText_66 : decode cX6_makeTheirText 66 = .ok (.iinc 2 1, 3) := by decide +kernel
theorem dX6_makeTheirText_69 : decode cX6_makeTheirText 69 = .ok (.goto (-63), 3) := by decide +kernel
theorem dX6_makeTheirText_72 : decode cX6_makeTheirText 72 = .ok (.aload_n 1, 1) := by decide +kernel
theorem dX6_makeTheirText_73 : decode cX6_makeTheirText 73 = .ok (.aload_n 0, 1) := by decide +kernel
theorem dX6_makeTheirText_74 : decode cX6_makeTheirText 74 = .ok (.getfield 14, 3) := by decide +kernel
theorem dX6_makeTheirText_77 : decode cX6_makeTheirText 77 = .ok (.invokevirtual 101, 3) := by decide +kernel
theorem dX6_makeTheirText_80 : decode cX6_makeTheirText 80 = .ok (.ireturn, 1) := by decide +kernel
theorem dX6_addOne_0 : decode cX6_addOne 0 = .ok (.aload_n 0, 1) := by decide +kernel
theorem dX6_addOne_1 : decode cX6_addOne 1 = .ok (.getfield 34, 3) := by decide +kernel
theorem dX6_addOne_4 : decode cX6_addOne 4 = .ok (.sipush 500, 3) := by decide +kernel
theorem dX6_addOne_7 : decode cX6_addOne 7 = .ok (.if_icmp .ge 54, 3) := by decide +kernel
theorem dX6_addOne_10 : decode cX6_addOne 10 = .ok (.aload_n 0, 1) := by decide +kernel
theorem dX6_addOne_11 : decode cX6_addOne 11 = .ok (.getfield 20, 3) := by decide +kernel
theorem dX6_addOne_14 : decode cX6_addOne 14 = .ok (.aload_n 0, 1) := by decide +kernel
theorem dX6_addOne_15 : decode cX6_addOne 15 = .ok (.getfield 34, 3) := by decide +kernel
theorem dX6_addOne_18 : decode cX6_addOne 18 = .ok (.iload_n 1, 1) := by decide +kernel
theorem dX6_addOne_19 : decode cX6_addOne 19 = .ok (.iastore, 1) := by decide +kernel
theorem dX6_addOne_20 : decode cX6_addOne 20 = .ok (.aload_n 0, 1) := by decide +kernel
theorem dX6_addOne_21 : decode cX6_addOne 21 = .ok (.getfield 24, 3) := by decide +kernel
theorem dX6_addOne_24 : decode cX6_addOne 24 = .ok (.aload_n 0, 1) := by decide +kernel
theorem dX6_addOne_25 : decode cX6_addOne 25 = .ok (.getfield 34, 3) := by decide +kernel
theorem dX6_addOne_28 : decode cX6_addOne 28 = .ok (.iload_n 2, 1) := by decide +kernel
theorem dX6_addOne_29 : decode cX6_addOne 29 = .ok (.iastore, 1) := by decide +kernel
theorem dX6_addOne_30 : decode cX6_addOne 30 = .ok (.aload_n 0, 1) := by decide +kernel
theorem dX6_addOne_31 : decode cX6_addOne 31 = .ok (.getfield 27, 3) := by decide +kernel
theorem dX6_addOne_34 : decode cX6_addOne 34 = .ok (.aload_n 0, 1) := by decide +kernel
theorem dX6_addOne_35 : decode cX6_addOne 35 = .ok (.getfield 34, 3) := by decide +kernel
theorem dX6_addOne_38 : decode cX6_addOne 38 = .ok (.iload_n 3, 1) := by decide +kernel
theorem dX6_addOne_39 : decode cX6_addOne 39 = .ok (.iastore, 1) := by decide +kernel
theorem dX6_addOne_40 : decode cX6_addOne 40 = .ok (.aload_n 0, 1) := by decide +kernel
theorem dX6_addOne_41 : decode cX6_addOne 41 = .ok (.dup, 1) := by decide +kernel
theorem dX6_addOne_42 : decode cX6_addOne 42 = .ok (.getfield 34, 3) := by decide +kernel
theorem dX6_addOne_45 : decode cX6_addOne 45 = .ok (.iconst 1, 1) := by decide +kernel
theorem dX6_addOne_46 : decode cX6_addOne 46 = .ok (.iadd, 1) := by decide +kernel
theorem dX6_addOne_47 : decode cX6_addOne 47 = .ok (.putfield 34, 3) := by decide +kernel
theorem dX6_addOne_50 : decode cX6_addOne 50 = .ok (.aload_n 0, 1) := by decide +kernel
theorem dX6_addOne_51 : decode cX6_addOne 51 = .ok (.dup, 1) := by decide +kernel
theorem dX6_addOne_52 : decode cX6_addOne 52 = .ok (.getfield 40, 3) := by decide +kernel
theorem dX6_addOne_55 : decode cX6_addOne 55 = .ok (.iload 4, 2) := by decide +kernel
theorem dX6_addOne_57 : decode cX6_addOne 57 = .ok (.iadd, 1) := by decide +kernel
theorem dX6_addOne_58 : decode cX6_addOne 58 = .ok (.putfield 40, 3) := by decide +kernel
theorem dX6_addOne_61 : decode cX6_addOne 61 = .ok (.return_, 1) := by decide +kernel
theorem dX6_lengthTold_0 : decode cX6_lengthTold 0 = .ok (.iload_n 1, 1) := by decide +kernel
theorem dX6_lengthTold_1 : decode cX6_lengthTold 1 = .ok (.aload_n 0, 1) := by decide +kernel
theorem dX6_lengthTold_2 : decode cX6_lengthTold 2 = .ok (.getfield 30, 3) := by decide +kernel
theorem dX6_lengthTold_5 : decode cX6_lengthTold 5 = .ok (.isub, 1) := by decide +kernel
theorem dX6_lengthTold_6 : decode cX6_lengthTold 6 = .ok (.iconst 1, 1) := by decide +kernel
theorem dX6_lengthTold_7 : decode cX6_lengthTold 7 = .ok (.iadd, 1) := by decide +kernel
theorem dX6_lengthTold_8 : decode cX6_lengthTold 8 = .ok (.ireturn, 1) := by decide +kernel
set_option maxRecDepth 20000 in
theorem ggX6_lengthBits_X6_lengthTold : GoodIn wsX6_lengthBits wsX6_lengthTold := goodIn_r _ [5, 6, 10, 11, 12, 13, 14, 15, 16, 17, 18, 19] (by decide +kernel) (by decide +kernel)
set_option maxRecDepth 20000 in
theorem gX6_lengthBits_X6_lengthTold : GoodIn wsX6_lengthBits (wsV RX6 105 RX6 yX6_lengthTold wsX6_lengthTold) := goodIn_app (goodIn_of _ (by decide +kernel)) ggX6_lengthBits_X6_lengthTold
set_option maxRecDepth 20000 in
theorem ggX6_lengthBits_X8_classOf : GoodIn wsX6_lengthBits wsX8_classOf := goodIn_r _ [9] (by decide +kernel) (by decide +kernel)
set_option maxRecDepth 20000 in
theorem gX6_lengthBits_X8_classOf_n62 : GoodIn wsX6_lengthBits (wsX8_classOf) := ggX6_lengthBits_X8_classOf
theorem dX6_lengthBits_0 : decode cX6_lengthBits 0 = .ok (.iconst 2, 1) := by decide +kernel
theorem dX6_lengthBits_1 : decode cX6_lengthBits 1 = .ok (.aload_n 0, 1) := by decide +kernel
theorem dX6_lengthBits_2 : decode cX6_lengthBits 2 = .ok (.iload_n 1, 1) := by decide +kernel
theorem dX6_lengthBits_3 : decode cX6_lengthBits 3 = .ok (.invokevirtual 105, 3) := by decide +kernel
theorem dX6_lengthBits_6 : decode cX6_lengthBits 6 = .ok (.invokestatic 62, 3) := by decide +kernel
theorem dX6_lengthBits_9 : decode cX6_lengthBits 9 = .ok (.imul, 1) := by decide +kernel
theorem dX6_lengthBits_10 : decode cX6_lengthBits 10 = .ok (.iconst 1, 1) := by decide +kernel
theorem dX6_lengthBits_11 : decode cX6_lengthBits 11 = .ok (.iadd, 1) := by decide +kernel
theorem dX6_lengthBits_12 : decode cX6_lengthBits 12 = .ok (.ireturn, 1) := by decide +kernel
set_option maxRecDepth 20000 in
theorem ggX6_putMatch_X0_put : GoodIn wsX6_putMatch wsX0_put := goodIn_r _ [5, 6, 7, 8, 4, 9, 10, 11, 25, 26] (by decide +kernel) (by decide +kernel)
set_option maxRecDepth 20000 in
theorem gX6_putMatch_X0_put : GoodIn wsX6_putMatch (wsV RX6 81 RX0 yX0_put wsX0_put) := goodIn_app (goodIn_of _ (by decide +kernel)) ggX6_putMatch_X0_put
set_option maxRecDepth 20000 in
theorem ggX6_putMatch_X6_lengthTold : GoodIn wsX6_putMatch wsX6_lengthTold := goodIn_r _ [16, 17, 27, 28, 29, 30, 31, 32, 33, 34, 35, 36] (by decide +kernel) (by decide +kernel)
set_option maxRecDepth 20000 in
theorem gX6_putMatch_X6_lengthTold : GoodIn wsX6_putMatch (wsV RX6 105 RX6 yX6_lengthTold wsX6_lengthTold) := goodIn_app (goodIn_of _ (by decide +kernel)) ggX6_putMatch_X6_lengthTold
set_option maxRecDepth 20000 in
theorem ggX6_putMatch_X6_lengthBits : GoodIn wsX6_putMatch wsX6_lengthBits := goodIn_r _ [21, 12, 13, 14, 15, 16, 17, 22, 23, 24, 27, 28, 29, 30, 31, 32, 33, 34, 35, 36] (by decide +kernel) (by decide +kernel)
set_option maxRecDepth 20000 in
theorem gX6_putMatch_X6_lengthBits : GoodIn wsX6_putMatch (wsV RX6 58 RX6 yX6_lengthBits wsX6_lengthBits) := goodIn_app (goodIn_of _ (by decide +kernel)) ggX6_putMatch_X6_lengthBits
set_option maxRecDepth 20000 in
theorem ggX6_putMatch_X8_classOf : GoodIn wsX6_putMatch wsX8_classOf := goodIn_r _ [24] (by decide +kernel) (by decide +kernel)
set_option maxRecDepth 20000 in
theorem gX6_putMatch_X8_classOf_n62 : GoodIn wsX6_putMatch (wsX8_classOf) := ggX6_putMatch_X8_classOf
theorem dX6_putMatch_0 : decode cX6_putMatch 0 = .ok (.aload_n 1, 1) := by decide +kernel
theorem dX6_putMatch_1 : decode cX6_putMatch 1 = .ok (.iconst 1, 1) := by decide +kernel
theorem dX6_putMatch_2 : decode cX6_putMatch 2 = .ok (.iconst 1, 1) := by decide +kernel
theorem dX6_putMatch_3 : decode cX6_putMatch 3 = .ok (.invokevirtual 81, 3) := by decide +kernel
theorem dX6_putMatch_6 : decode cX6_putMatch 6 = .ok (.aload_n 1, 1) := by decide +kernel
theorem dX6_putMatch_7 : decode cX6_putMatch 7 = .ok (.aload_n 0, 1) := by decide +kernel
theorem dX6_putMatch_8 : decode cX6_putMatch 8 = .ok (.iload_n 2, 1) := by decide +kernel
theorem dX6_putMatch_9 : decode cX6_putMatch 9 = .ok (.invokevirtual 105, 3) := by decide +kernel
theorem dX6_putMatch_12 : decode cX6_putMatch 12 = .ok (.aload_n 0, 1) := by decide +kernel
theorem dX6_putMatch_13 : decode cX6_putMatch 13 = .ok (.iload_n 2, 1) := by decide +kernel
theorem dX6_putMatch_14 : decode cX6_putMatch 14 = .ok (.invokevirtual 58, 3) := by decide +kernel
theorem dX6_putMatch_17 : decode cX6_putMatch 17 = .ok (.invokevirtual 81, 3) := by decide +kernel
theorem dX6_putMatch_20 : decode cX6_putMatch 20 = .ok (.iload_n 3, 1) := by decide +kernel
theorem dX6_putMatch_21 : decode cX6_putMatch 21 = .ok (.invokestatic 62, 3) := by decide +kernel
theorem dX6_putMatch_24 : decode cX6_putMatch 24 = .ok (.istore 4, 2) := by decide +kernel
theorem dX6_putMatch_26 : decode cX6_putMatch 26 = .ok (.aload_n 1, 1) := by decide +kernel
theorem dX6_putMatch_27 : decode cX6_putMatch 27 = .ok (.iload 4, 2) := by decide +kernel
theorem dX6_putMatch_29 : decode cX6_putMatch 29 = .ok (.iconst 4, 1) := by decide +kernel
theorem dX6_putMatch_30 : decode cX6_putMatch 30 = .ok (.invokevirtual 81, 3) := by decide +kernel
theorem dX6_putMatch_33 : decode cX6_putMatch 33 = .ok (.aload_n 1, 1) := by decide +kernel
theorem dX6_putMatch_34 : decode cX6_putMatch 34 = .ok (.iload_n 3, 1) := by decide +kernel
theorem dX6_putMatch_35 : decode cX6_putMatch 35 = .ok (.iload 4, 2) := by decide +kernel
theorem dX6_putMatch_37 : decode cX6_putMatch 37 = .ok (.invokevirtual 81, 3) := by decide +kernel
theorem dX6_putMatch_40 : decode cX6_putMatch 40 = .ok (.return_, 1) := by decide +kernel
set_option maxRecDepth 20000 in
theorem ggX7_init_X7_firstPrices : GoodIn wsX7_init wsX7_firstPrices := goodIn_r _ [11, 12] (by decide +kernel) (by decide +kernel)
set_option maxRecDepth 20000 in
theorem gX7_init_X7_firstPrices : GoodIn wsX7_init (va_wsS RX7 9 yX7_firstPrices wsX7_firstPrices) := goodIn_app (goodIn_of _ (by decide +kernel)) ggX7_init_X7_firstPrices
theorem dX7_init_0 : decode cX7_init 0 = .ok (.aload_n 0, 1) := by decide +kernel
theorem dX7_init_1 : decode cX7_init 1 = .ok (.invokespecial 3, 3) := by decide +kernel
theorem dX7_init_4 : decode cX7_init 4 = .ok (.aload_n 0, 1) := by decide +kernel
theorem dX7_init_5 : decode cX7_init 5 = .ok (.bipush 8, 2) := by decide +kernel
theorem dX7_init_7 : decode cX7_init 7 = .ok (.invokestatic 9, 3) := by decide +kernel
theorem dX7_init_10 : decode cX7_init 10 = .ok (.putfield 15, 3) := by decide +kernel
theorem dX7_init_13 : decode cX7_init 13 = .ok (.aload_n 0, 1) := by decide +kernel
theorem dX7_init_14 : decode cX7_init 14 = .ok (.iconst 1, 1) := by decide +kernel
theorem dX7_init_15 : decode cX7_init 15 = .ok (.invokestatic 9, 3) := by decide +kernel
theorem dX7_init_18 : decode cX7_init 18 = .ok (.putfield 19, 3) := by decide +kernel
theorem dX7_init_21 : decode cX7_init 21 = .ok (.aload_n 0, 1) := by decide +kernel
theorem dX7_init_22 : decode cX7_init 22 = .ok (.bipush 8, 2) := by decide +kernel
theorem dX7_init_24 : decode cX7_init 24 = .ok (.invokestatic 9, 3) := by decide +kernel
theorem dX7_init_27 : decode cX7_init 27 = .ok (.putfield 22, 3) := by decide +kernel
theorem dX7_init_30 : decode cX7_init 30 = .ok (.aload_n 0, 1) := by decide +kernel
theorem dX7_init_31 : decode cX7_init 31 = .ok (.bipush 9, 2) := by decide +kernel
theorem dX7_init_33 : decode cX7_init 33 = .ok (.invokestatic 9, 3) := by decide +kernel
theorem dX7_init_36 : decode cX7_init 36 = .ok (.putfield 25, 3) := by decide +kernel
theorem dX7_init_39 : decode cX7_init 39 = .ok (.return_, 1) := by decide +kernel
set_option maxRecDepth 20000 in
theorem ggX7_change_X7_rowOf : GoodIn wsX7_change wsX7_rowOf := goodIn_r _ [5, 6, 7, 8, 9, 10, 11, 12, 13] (by decide +kernel) (by decide +kernel)
set_option maxRecDepth 20000 in
theorem gX7_change_X7_rowOf : GoodIn wsX7_change (wsV RX7 28 RX7 yX7_rowOf wsX7_rowOf) := goodIn_app (goodIn_of _ (by decide +kernel)) ggX7_change_X7_rowOf
theorem dX7_change_0 : decode cX7_change 0 = .ok (.aload_n 0, 1) := by decide +kernel
theorem dX7_change_1 : decode cX7_change 1 = .ok (.iload_n 1, 1) := by decide +kernel
theorem dX7_change_2 : decode cX7_change 2 = .ok (.invokevirtual 28, 3) := by decide +kernel
theorem dX7_change_5 : decode cX7_change 5 = .ok (.astore 4, 2) := by decide +kernel
theorem dX7_change_7 : decode cX7_change 7 = .ok (.aload 4, 2) := by decide +kernel
theorem dX7_change_9 : decode cX7_change 9 = .ok (.ifnull 26, 3) := by decide +kernel
theorem dX7_change_12 : decode cX7_change 12 = .ok (.iload_n 2, 1) := by decide +kernel
theorem dX7_change_13 : decode cX7_change 13 = .ok (.ifCond .lt 22, 3) := by decide +kernel
theorem dX7_change_16 : decode cX7_change 16 = .ok (.iload_n 2, 1) := by decide +kernel
theorem dX7_change_17 : decode cX7_change 17 = .ok (.aload 4, 2) := by decide +kernel
theorem dX7_change_19 : decode cX7_change 19 = .ok (.arraylength, 1) := by decide +kernel
theorem dX7_change_20 : decode cX7_change 20 = .ok (.if_icmp .ge 15, 3) := by decide +kernel
theorem dX7_change_23 : decode cX7_change 23 = .ok (.iload_n 3, 1) := by decide +kernel
theorem dX7_change_24 : decode cX7_change 24 = .ok (.iconst 1, 1) := by decide +kernel
theorem dX7_change_25 : decode cX7_change 25 = .ok (.if_icmp .lt 10, 3) := by decide +kernel
theorem dX7_change_28 : decode cX7_change 28 = .ok (.iload_n 3, 1) := by decide +kernel
theorem dX7_change_29 : decode cX7_change 29 = .ok (.sipush 1000, 3) := by decide +kernel
theorem dX7_change_32 : decode cX7_change 32 = .ok (.if_icmp .le 5, 3) := by decide +kernel
theorem dX7_change_35 : decode cX7_change 35 = .ok (.iconst 0, 1) := by decide +kernel
theorem dX7_change_36 : decode cX7_change 36 = .ok (.ireturn, 1) := by decide +kernel
theorem dX7_change_37 : decode cX7_change 37 = .ok (.aload 4, 2) := by decide +kernel
theorem dX7_change_39 : decode cX7_change 39 = .ok (.iload_n 2, 1) := by decide +kernel
theorem dX7_change_40 : decode cX7_change 40 = .ok (.iload_n 3, 1) := by decide +kernel
theorem dX7_change_41 : decode cX7_change 41 = .ok (.iastore, 1) := by decide +kernel
theorem dX7_change_42 : decode cX7_change 42 = .ok (.iconst 1, 1) := by decide +kernel
theorem dX7_change_43 : decode cX7_change 43 = .ok (.ireturn, 1) := by decide +kernel
theorem dX7_ofByte_0 : decode cX7_ofByte 0 = .ok (.aload_n 0, 1) := by decide +kernel
theorem dX7_ofByte_1 : decode cX7_ofByte 1 = .ok (.getfield 15, 3) := by decide +kernel
theorem dX7_ofByte_4 : decode cX7_ofByte 4 = .ok (.iload_n 1, 1) := by decide +kernel
theorem dX7_ofByte_5 : decode cX7_ofByte 5 = .ok (.sipush 255, 3) := by decide +kernel
theorem dX7_ofByte_8 : decode cX7_ofByte 8 = .ok (.iand, 1) := by decide +kernel
theorem dX7_ofByte_9 : decode cX7_ofByte 9 = .ok (.bipush 32, 2) := by decide +kernel
theorem dX7_ofByte_11 : decode cX7_ofByte 11 = .ok (.idiv, 1) := by decide +kernel
theorem dX7_ofByte_12 : decode cX7_ofByte 12 = .ok (.iaload, 1) := by decide +kernel
theorem dX7_ofByte_13 : decode cX7_ofByte 13 = .ok (.ireturn, 1) := by decide +kernel
set_option maxRecDepth 20000 in
theorem ggX7_ofMatch_X7_ofLength : GoodIn wsX7_ofMatch wsX7_ofLength := goodIn_r _ [5, 6, 7, 8, 9, 10, 11, 12, 13, 14, 20, 21, 22, 23] (by decide +kernel) (by decide +kernel)
set_option maxRecDepth 20000 in
theorem gX7_ofMatch_X7_ofLength : GoodIn wsX7_ofMatch (wsV RX7 31 RX7 yX7_ofLength wsX7_ofLength) := goodIn_app (goodIn_of _ (by decide +kernel)) ggX7_ofMatch_X7_ofLength
set_option maxRecDepth 20000 in
theorem ggX7_ofMatch_X8_classOf : GoodIn wsX7_ofMatch wsX8_classOf := goodIn_r _ [14] (by decide +kernel) (by decide +kernel)
set_option maxRecDepth 20000 in
theorem gX7_ofMatch_X8_classOf_n35 : GoodIn wsX7_ofMatch (wsX8_classOf) := ggX7_ofMatch_X8_classOf
set_option maxRecDepth 20000 in
theorem ggX7_ofMatch_X7_ofDistanceClass : GoodIn wsX7_ofMatch wsX7_ofDistanceClass := goodIn_r _ [18, 19, 8, 9, 10, 11, 20, 21, 22, 23] (by decide +kernel) (by decide +kernel)
set_option maxRecDepth 20000 in
theorem gX7_ofMatch_X7_ofDistanceClass : GoodIn wsX7_ofMatch (wsV RX7 38 RX7 yX7_ofDistanceClass wsX7_ofDistanceClass) := goodIn_app (goodIn_of _ (by decide +kernel)) ggX7_ofMatch_X7_ofDistanceClass
theorem dX7_ofMatch_0 : decode cX7_ofMatch 0 = .ok (.aload_n 0, 1) := by decide +kernel
theorem dX7_ofMatch_1 : decode cX7_ofMatch 1 = .ok (.iload_n 1, 1) := by decide +kernel
theorem dX7_ofMatch_2 : decode cX7_ofMatch 2 = .ok (.invokevirtual 31, 3) := by decide +kernel
theorem dX7_ofMatch_5 : decode cX7_ofMatch 5 = .ok (.aload_n 0, 1) := by decide +kernel
theorem dX7_ofMatch_6 : decode cX7_ofMatch 6 = .ok (.iload_n 2, 1) := by decide +kernel
theorem dX7_ofMatch_7 : decode cX7_ofMatch 7 = .ok (.invokestatic 35, 3) := by decide +kernel
theorem dX7_ofMatch_10 : decode cX7_ofMatch 10 = .ok (.invokevirtual 38, 3) := by decide +kernel
theorem dX7_ofMatch_13 : decode cX7_ofMatch 13 = .ok (.iadd, 1) := by decide +kernel
theorem dX7_ofMatch_14 : decode cX7_ofMatch 14 = .ok (.ireturn, 1) := by decide +kernel
set_option maxRecDepth 20000 in
theorem ggX7_ofLength_X8_classOf : GoodIn wsX7_ofLength wsX8_classOf := goodIn_r _ [9] (by decide +kernel) (by decide +kernel)
set_option maxRecDepth 20000 in
theorem gX7_ofLength_X8_classOf_n35 : GoodIn wsX7_ofLength (wsX8_classOf) := ggX7_ofLength_X8_classOf
theorem dX7_ofLength_0 : decode cX7_ofLength 0 = .ok (.aload_n 0, 1) := by decide +kernel
theorem dX7_ofLength_1 : decode cX7_ofLength 1 = .ok (.getfield 19, 3) := by decide +kernel
theorem dX7_ofLength_4 : decode cX7_ofLength 4 = .ok (.iconst 0, 1) := by decide +kernel
theorem dX7_ofLength_5 : decode cX7_ofLength 5 = .ok (.iaload, 1) := by decide +kernel
theorem dX7_ofLength_6 : decode cX7_ofLength 6 = .ok (.aload_n 0, 1) := by decide +kernel
theorem dX7_ofLength_7 : decode cX7_ofLength 7 = .ok (.getfield 22, 3) := by decide +kernel
theorem dX7_ofLength_10 : decode cX7_ofLength 10 = .ok (.iload_n 1, 1) := by decide +kernel
theorem dX7_ofLength_11 : decode cX7_ofLength 11 = .ok (.invokestatic 35, 3) := by decide +kernel
theorem dX7_ofLength_14 : decode cX7_ofLength 14 = .ok (.bipush 7, 2) := by decide +kernel
theorem dX7_ofLength_16 : decode cX7_ofLength 16 = .ok (.invokestatic 41, 3) := by decide +kernel
theorem dX7_ofLength_19 : decode cX7_ofLength 19 = .ok (.iaload, 1) := by decide +kernel
theorem dX7_ofLength_20 : decode cX7_ofLength 20 = .ok (.iadd, 1) := by decide +kernel
theorem dX7_ofLength_21 : decode cX7_ofLength 21 = .ok (.ireturn, 1) := by decide +kernel
theorem dX7_ofDistanceClass_0 : decode cX7_ofDistanceClass 0 = .ok (.aload_n 0, 1) := by decide +kernel
theorem dX7_ofDistanceClass_1 : decode cX7_ofDistanceClass 1 = .ok (.getfield 25, 3) := by decide +kernel
theorem dX7_ofDistanceClass_4 : decode cX7_ofDistanceClass 4 = .ok (.iload_n 1, 1) := by decide +kernel
theorem dX7_ofDistanceClass_5 : decode cX7_ofDistanceClass 5 = .ok (.bipush 8, 2) := by decide +kernel
theorem dX7_ofDistanceClass_7 : decode cX7_ofDistanceClass 7 = .ok (.invokestatic 41, 3) := by decide +kernel
theorem dX7_ofDistanceClass_10 : decode cX7_ofDistanceClass 10 = .ok (.iaload, 1) := by decide +kernel
theorem dX7_ofDistanceClass_11 : decode cX7_ofDistanceClass 11 = .ok (.ireturn, 1) := by decide +kernel
theorem dX7_rowOf_0 : decode cX7_rowOf 0 = .ok (.iload_n 1, 1) := by decide +kernel
theorem dX7_rowOf_1 : decode cX7_rowOf 1 = .ok (.tableswitch 51 0 3 #[31, 36, 41, 46], 31) := by decide +kernel
theorem dX7_rowOf_32 : decode cX7_rowOf 32 = .ok (.aload_n 0, 1) := by decide +kernel
theorem dX7_rowOf_33 : decode cX7_rowOf 33 = .ok (.getfield 15, 3) := by decide +kernel
theorem dX7_rowOf_36 : decode cX7_rowOf 36 = .ok (.areturn, 1) := by decide +kernel
theorem dX7_rowOf_37 : decode cX7_rowOf 37 = .ok (.aload_n 0, 1) := by decide +kernel
theorem dX7_rowOf_38 : decode cX7_rowOf 38 = .ok (.getfield 19, 3) := by decide +kernel
theorem dX7_rowOf_41 : decode cX7_rowOf 41 = .ok (.areturn, 1) := by decide +kernel
theorem dX7_rowOf_42 : decode cX7_rowOf 42 = .ok (.aload_n 0, 1) := by decide +kernel
theorem dX7_rowOf_43 : decode cX7_rowOf 43 = .ok (.getfield 22, 3) := by decide +kernel
theorem dX7_rowOf_46 : decode cX7_rowOf 46 = .ok (.areturn, 1) := by decide +kernel
theorem dX7_rowOf_47 : decode cX7_rowOf 47 = .ok (.aload_n 0, 1) := by decide +kernel
theorem dX7_rowOf_48 : decode cX7_rowOf 48 = .ok (.getfield 25, 3) := by decide +kernel
theorem dX7_rowOf_51 : decode cX7_rowOf 51 = .ok (.areturn, 1) := by decide +kernel
theorem dX7_rowOf_52 : decode cX7_rowOf 52 = .ok (.aconst_null, 1) := by decide +kernel
theorem dX7_rowOf_53 : decode cX7_rowOf 53 = .ok (.areturn, 1) := by decide +kernel
theorem dX7_firstPrices_0 : decode cX7_firstPrices 0 = .ok (.iload_n 0, 1) := by decide +kernel
theorem dX7_firstPrices_1 : decode cX7_firstPrices 1 = .ok (.newarray .int, 2) := by decide +kernel
theorem dX7_firstPrices_3 : decode cX7_firstPrices 3 = .ok (.astore_n 1, 1) := by decide +kernel
theorem dX7_firstPrices_4 : decode cX7_firstPrices 4 = .ok (.iconst 0, 1) := by decide +kernel
theorem dX7_firstPrices_5 : decode cX7_firstPrices 5 = .ok (.istore_n 2, 1) := by decide +kernel
theorem dX7_firstPrices_6 : decode cX7_firstPrices 6 = .ok (.iload_n 2, 1) := by decide +kernel
theorem dX7_firstPrices_7 : decode cX7_firstPrices 7 = .ok (.iload_n 0, 1) := by decide +kernel
theorem dX7_firstPrices_8 : decode cX7_firstPrices 8 = .ok (.if_icmp .ge 14, 3) := by decide +kernel
theorem dX7_firstPrices_11 : decode cX7_firstPrices 11 = .ok (.aload_n 1, 1) := by decide +kernel
theorem dX7_firstPrices_12 : decode cX7_firstPrices 12 = .ok (.iload_n 2, 1) := by decide +kernel
theorem dX7_firstPrices_13 : decode cX7_firstPrices 13 = .ok (.bipush 8, 2) := by decide +kernel
theorem dX7_firstPrices_15 : decode cX7_firstPrices 15 = .ok (.iastore, 1) := by decide +kernel
theorem dX7_firstPrices_16 : decode cX7_firstPrices 16 = .ok (.iinc 2 1, 3) := by decide +kernel
theorem dX7_firstPrices_19 : decode cX7_firstPrices 19 = .ok (.goto (-13), 3) := by decide +kernel
theorem dX7_firstPrices_22 : decode cX7_firstPrices 22 = .ok (.aload_n 1, 1) := by decide +kernel
theorem dX7_firstPrices_23 : decode cX7_firstPrices 23 = .ok (.areturn, 1) := by decide +kernel
set_option maxRecDepth 20000 in
theorem ggX8_init_X1_init : GoodIn wsX8_init wsX1_init := goodIn_r _ [44, 45, 2, 3, 46, 47, 48, 121, 122] (by decide +kernel) (by decide +kernel)
set_option maxRecDepth 20000 in
theorem gX8_init_X1_init : GoodIn wsX8_init (wsX1_init) := ggX8_init_X1_init
set_option maxRecDepth 20000 in
theorem ggX8_init_X5_init : GoodIn wsX8_init wsX5_init := goodIn_r _ [51, 52, 2, 3, 53, 54, 55, 137, 138, 139] (by decide +kernel) (by decide +kernel)
set_option maxRecDepth 20000 in
theorem gX8_init_X5_init : GoodIn wsX8_init (wsX5_init) := ggX8_init_X5_init
set_option maxRecDepth 20000 in
theorem ggX8_init_X7_init : GoodIn wsX8_init wsX7_init := goodIn_r _ [58, 59, 2, 3, 60, 61, 62, 63, 64, 65, 17, 66, 46, 140, 141, 142, 143] (by decide +kernel) (by decide +kernel)
set_option maxRecDepth 20000 in
theorem gX8_init_X7_init : GoodIn wsX8_init (wsX7_init) := ggX8_init_X7_init
set_option maxRecDepth 20000 in
theorem ggX8_init_X3_init : GoodIn wsX8_init wsX3_init := goodIn_r _ [69, 70, 2, 3, 71, 72, 46, 73, 74, 75, 76, 77, 144, 145, 146, 147, 148, 149, 150] (by decide +kernel) (by decide +kernel)
set_option maxRecDepth 20000 in
theorem gX8_init_X3_init : GoodIn wsX8_init (wsX3_init) := ggX8_init_X3_init
set_option maxRecDepth 20000 in
theorem ggX8_init_X2_init : GoodIn wsX8_init wsX2_init := goodIn_r _ [80, 81, 2, 3, 82, 83, 84, 85, 46, 86, 87, 88, 89, 90, 151, 152, 153, 154, 155, 156, 157, 158, 159] (by decide +kernel) (by decide +kernel)
set_option maxRecDepth 20000 in
theorem gX8_init_X2_init : GoodIn wsX8_init (wsX2_init) := ggX8_init_X2_init
set_option maxRecDepth 20000 in
theorem ggX8_init_X6_init : GoodIn wsX8_init wsX6_init := goodIn_r _ [93, 94, 2, 3, 95, 5, 6, 96, 46, 97, 98, 99, 100, 101, 102, 103, 104, 105, 106, 43, 44, 45, 47, 48, 121, 122, 160, 161, 162, 163, 164, 165, 166, 167, 168, 169] (by decide +kernel) (by decide +kernel)
set_option maxRecDepth 20000 in
theorem gX8_init_X6_init : GoodIn wsX8_init (wsX6_init) := ggX8_init_X6_init
set_option maxRecDepth 20000 in
theorem ggX8_init_X0_init : GoodIn wsX8_init wsX0_init := goodIn_r _ [109, 110, 2, 3, 46, 111, 112, 170, 171] (by decide +kernel) (by decide +kernel)
set_option maxRecDepth 20000 in
theorem gX8_init_X0_init : GoodIn wsX8_init (wsX0_init) := ggX8_init_X0_init
set_option maxRecDepth 20000 in
theorem ggX8_init_X4_init : GoodIn wsX8_init wsX4_init := goodIn_r _ [115, 116, 2, 3, 117, 118, 119, 120, 172, 173, 174, 175] (by decide +kernel) (by decide +kernel)
set_option maxRecDepth 20000 in
theorem gX8_init_X4_init : GoodIn wsX8_init (wsX4_init) := ggX8_init_X4_init
theorem dX8_init_0 : decode cX8_init 0 = .ok (.aload_n 0, 1) := by decide +kernel
theorem dX8_init_1 : decode cX8_init 1 = .ok (.invokespecial 3, 3) := by decide +kernel
theorem dX8_init_4 : decode cX8_init 4 = .ok (.aload_n 0, 1) := by decide +kernel
theorem dX8_init_5 : decode cX8_init 5 = .ok (.new 9, 3) := by decide +kernel
theorem dX8_init_8 : decode cX8_init 8 = .ok (.dup, 1) := by decide +kernel
theorem dX8_init_9 : decode cX8_init 9 = .ok (.sipush 500, 3) := by decide +kernel
theorem dX8_init_12 : decode cX8_init 12 = .ok (.invokespecial 11, 3) := by decide +kernel
theorem dX8_init_15 : decode cX8_init 15 = .ok (.putfield 14, 3) := by decide +kernel
theorem dX8_init_18 : decode cX8_init 18 = .ok (.aload_n 0, 1) := by decide +kernel
theorem dX8_init_19 : decode cX8_init 19 = .ok (.new 9, 3) := by decide +kernel
theorem dX8_init_22 : decode cX8_init 22 = .ok (.dup, 1) := by decide +kernel
theorem dX8_init_23 : decode cX8_init 23 = .ok (.sipush 700, 3) := by decide +kernel
theorem dX8_init_26 : decode cX8_init 26 = .ok (.invokespecial 11, 3) := by decide +kernel
theorem dX8_init_29 : decode cX8_init 29 = .ok (.putfield 18, 3) := by decide +kernel
theorem dX8_init_32 : decode cX8_init 32 = .ok (.aload_n 0, 1) := by decide +kernel
theorem dX8_init_33 : decode cX8_init 33 = .ok (.new 9, 3) := by decide +kernel
theorem dX8_init_36 : decode cX8_init 36 = .ok (.dup, 1) := by decide +kernel
theorem dX8_init_37 : decode cX8_init 37 = .ok (.sipush 500, 3) := by decide +kernel
theorem dX8_init_40 : decode cX8_init 40 = .ok (.invokespecial 11, 3) := by decide +kernel
theorem dX8_init_43 : decode cX8_init 43 = .ok (.putfield 21, 3) := by decide +kernel
theorem dX8_init_46 : decode cX8_init 46 = .ok (.aload_n 0, 1) := by decide +kernel
theorem dX8_init_47 : decode cX8_init 47 = .ok (.new 9, 3) := by decide +kernel
theorem dX8_init_50 : decode cX8_init 50 = .ok (.dup, 1) := by decide +kernel
theorem dX8_init_51 : decode cX8_init 51 = .ok (.sipush 500, 3) := by decide +kernel
theorem dX8_init_54 : decode cX8_init 54 = .ok (.invokespecial 11, 3) := by decide +kernel
theorem dX8_init_57 : decode cX8_init 57 = .ok (.putfield 24, 3) := by decide +kernel
theorem dX8_init_60 : decode cX8_init 60 = .ok (.aload_n 0, 1) := by decide +kernel
theorem dX8_init_61 : decode cX8_init 61 = .ok (.new 27, 3) := by decide +kernel
theorem dX8_init_64 : decode cX8_init 64 = .ok (.dup, 1) := by decide +kernel
theorem dX8_init_65 : decode cX8_init 65 = .ok (.invokespecial 29, 3) := by decide +kernel
theorem dX8_init_68 : decode cX8_init 68 = .ok (.putfield 30, 3) := by decide +kernel
theorem dX8_init_71 : decode cX8_init 71 = .ok (.aload_n 0, 1) := by decide +kernel
theorem dX8_init_72 : decode cX8_init 72 = .ok (.new 34, 3) := by decide +kernel
theorem dX8_init_75 : decode cX8_init 75 = .ok (.dup, 1) := by decide +kernel
theorem dX8_init_76 : decode cX8_init 76 = .ok (.invokespecial 36, 3) := by decide +kernel
theorem dX8_init_79 : decode cX8_init 79 = .ok (.putfield 37, 3) := by decide +kernel
theorem dX8_init_82 : decode cX8_init 82 = .ok (.aload_n 0, 1) := by decide +kernel
theorem dX8_init_83 : decode cX8_init 83 = .ok (.new 41, 3) := by decide +kernel
theorem dX8_init_86 : decode cX8_init 86 = .ok (.dup, 1) := by decide +kernel
theorem dX8_init_87 : decode cX8_init 87 = .ok (.aload_n 0, 1) := by decide +kernel
theorem dX8_init_88 : decode cX8_init 88 = .ok (.getfield 14, 3) := by decide +kernel
theorem dX8_init_91 : decode cX8_init 91 = .ok (.aload_n 0, 1) := by decide +kernel
theorem dX8_init_92 : decode cX8_init 92 = .ok (.getfield 30, 3) := by decide +kernel
theorem dX8_init_95 : decode cX8_init 95 = .ok (.invokespecial 43, 3) := by decide +kernel
theorem dX8_init_98 : decode cX8_init 98 = .ok (.putfield 46, 3) := by decide +kernel
theorem dX8_init_101 : decode cX8_init 101 = .ok (.aload_n 0, 1) := by decide +kernel
theorem dX8_init_102 : decode cX8_init 102 = .ok (.new 50, 3) := by decide +kernel
theorem dX8_init_105 : decode cX8_init 105 = .ok (.dup, 1) := by decide +kernel
theorem dX8_init_106 : decode cX8_init 106 = .ok (.aload_n 0, 1) := by decide +kernel
theorem dX8_init_107 : decode cX8_init 107 = .ok (.getfield 14, 3) := by decide +kernel
theorem dX8_init_110 : decode cX8_init 110 = .ok (.aload_n 0, 1) := by decide +kernel
theorem dX8_init_111 : decode cX8_init 111 = .ok (.getfield 30, 3) := by decide +kernel
theorem dX8_init_114 : decode cX8_init 114 = .ok (.aload_n 0, 1) := by decide +kernel
theorem dX8_init_115 : decode cX8_init 115 = .ok (.getfield 37, 3) := by decide +kernel
theorem dX8_init_118 : decode cX8_init 118 = .ok (.aload_n 0, 1) := by decide +kernel
theorem dX8_init_119 : decode cX8_init 119 = .ok (.getfield 46, 3) := by decide +kernel
theorem dX8_init_122 : decode cX8_init 122 = .ok (.invokespecial 52, 3) := by decide +kernel
theorem dX8_init_125 : decode cX8_init 125 = .ok (.putfield 55, 3) := by decide +kernel
theorem dX8_init_128 : decode cX8_init 128 = .ok (.aload_n 0, 1) := by decide +kernel
theorem dX8_init_129 : decode cX8_init 129 = .ok (.new 59, 3) := by decide +kernel
theorem dX8_init_132 : decode cX8_init 132 = .ok (.dup, 1) := by decide +kernel
theorem dX8_init_133 : decode cX8_init 133 = .ok (.invokespecial 61, 3) := by decide +kernel
theorem dX8_init_136 : decode cX8_init 136 = .ok (.putfield 62, 3) := by decide +kernel
theorem dX8_init_139 : decode cX8_init 139 = .ok (.aload_n 0, 1) := by decide +kernel
theorem dX8_init_140 : decode cX8_init 140 = .ok (.new 66, 3) := by decide +kernel
theorem dX8_init_143 : decode cX8_init 143 = .ok (.dup, 1) := by decide +kernel
theorem dX8_init_144 : decode cX8_init 144 = .ok (.invokespecial 68, 3) := by decide +kernel
theorem dX8_init_147 : decode cX8_init 147 = .ok (.putfield 69, 3) := by decide +kernel
theorem dX8_init_150 : decode cX8_init 150 = .ok (.aload_n 0, 1) := by decide +kernel
theorem dX8_init_151 : decode cX8_init 151 = .ok (.new 73, 3) := by decide +kernel
theorem dX8_init_154 : decode cX8_init 154 = .ok (.dup, 1) := by decide +kernel
theorem dX8_init_155 : decode cX8_init 155 = .ok (.aload_n 0, 1) := by decide +kernel
theorem dX8_init_156 : decode cX8_init 156 = .ok (.getfield 18, 3) := by decide +kernel
theorem dX8_init_159 : decode cX8_init 159 = .ok (.aload_n 0, 1) := by decide +kernel
theorem dX8_init_160 : decode cX8_init 160 = .ok (.getfield 30, 3) := by decide +kernel
theorem dX8_init_163 : decode cX8_init 163 = .ok (.aload_n 0, 1) := by decide +kernel
theorem dX8_init_164 : decode cX8_init 164 = .ok (.getfield 24, 3) := by decide +kernel
theorem dX8_init_167 : decode cX8_init 167 = .ok (.invokespecial 75, 3) := by decide +kernel
theorem dX8_init_170 : decode cX8_init 170 = .ok (.putfield 78, 3) := by decide +kernel
theorem dX8_init_173 : decode cX8_init 173 = .ok (.aload_n 0, 1) := by decide +kernel
theorem dX8_init_174 : decode cX8_init 174 = .ok (.iconst 1, 1) := by decide +kernel
theorem dX8_init_175 : decode cX8_init 175 = .ok (.putfield 82, 3) := by decide +kernel
theorem dX8_init_178 : decode cX8_init 178 = .ok (.aload_n 0, 1) := by decide +kernel
theorem dX8_init_179 : decode cX8_init 179 = .ok (.iconst 1, 1) := by decide +kernel
theorem dX8_init_180 : decode cX8_init 180 = .ok (.putfield 86, 3) := by decide +kernel
theorem dX8_init_183 : decode cX8_init 183 = .ok (.aload_n 0, 1) := by decide +kernel
theorem dX8_init_184 : decode cX8_init 184 = .ok (.iconst 0, 1) := by decide +kernel
theorem dX8_init_185 : decode cX8_init 185 = .ok (.putfield 89, 3) := by decide +kernel
theorem dX8_init_188 : decode cX8_init 188 = .ok (.return_, 1) := by decide +kernel
set_option maxRecDepth 20000 in
theorem ggX8_type_X1_addLowest : GoodIn wsX8_type wsX1_addLowest := goodIn_r _ [6, 7, 8, 9, 10, 11, 5, 12, 34, 35] (by decide +kernel) (by decide +kernel)
set_option maxRecDepth 20000 in
theorem gX8_type_X1_addLowest : GoodIn wsX8_type (wsV RX8 92 RX1 yX1_addLowest wsX1_addLowest) := goodIn_app (goodIn_of _ (by decide +kernel)) ggX8_type_X1_addLowest
set_option maxRecDepth 20000 in
theorem ggX8_type_X8_forgetMatches : GoodIn wsX8_type wsX8_forgetMatches := goodIn_r _ [17, 18, 19, 20, 21, 22, 23, 24, 25, 26, 27, 28, 29, 30, 31, 32, 33] (by decide +kernel) (by decide +kernel)
set_option maxRecDepth 20000 in
theorem gX8_type_X8_forgetMatches : GoodIn wsX8_type (wsV RX8 96 RX8 yX8_forgetMatches wsX8_forgetMatches) := goodIn_app (goodIn_of _ (by decide +kernel)) ggX8_type_X8_forgetMatches
theorem dX8_type_0 : decode cX8_type 0 = .ok (.aload_n 0, 1) := by decide +kernel
theorem dX8_type_1 : decode cX8_type 1 = .ok (.getfield 14, 3) := by decide +kernel
theorem dX8_type_4 : decode cX8_type 4 = .ok (.lload_n 1, 1) := by decide +kernel
theorem dX8_type_5 : decode cX8_type 5 = .ok (.iload_n 3, 1) := by decide +kernel
theorem dX8_type_6 : decode cX8_type 6 = .ok (.invokevirtual 92, 3) := by decide +kernel
theorem dX8_type_9 : decode cX8_type 9 = .ok (.istore 4, 2) := by decide +kernel
theorem dX8_type_11 : decode cX8_type 11 = .ok (.iload 4, 2) := by decide +kernel
theorem dX8_type_13 : decode cX8_type 13 = .ok (.iconst (-1), 1) := by decide +kernel
theorem dX8_type_14 : decode cX8_type 14 = .ok (.if_icmp .eq 7, 3) := by decide +kernel
theorem dX8_type_17 : decode cX8_type 17 = .ok (.aload_n 0, 1) := by decide +kernel
theorem dX8_type_18 : decode cX8_type 18 = .ok (.invokevirtual 96, 3) := by decide +kernel
theorem dX8_type_21 : decode cX8_type 21 = .ok (.iload 4, 2) := by decide +kernel
theorem dX8_type_23 : decode cX8_type 23 = .ok (.ireturn, 1) := by decide +kernel
set_option maxRecDepth 20000 in
theorem ggX8_fill_X1_addTimes : GoodIn wsX8_fill wsX1_addTimes := goodIn_r _ [6, 7, 8, 9, 10, 11, 5, 12, 34, 35] (by decide +kernel) (by decide +kernel)
set_option maxRecDepth 20000 in
theorem gX8_fill_X1_addTimes : GoodIn wsX8_fill (wsV RX8 99 RX1 yX1_addTimes wsX1_addTimes) := goodIn_app (goodIn_of _ (by decide +kernel)) ggX8_fill_X1_addTimes
set_option maxRecDepth 20000 in
theorem ggX8_fill_X8_forgetMatches : GoodIn wsX8_fill wsX8_forgetMatches := goodIn_r _ [17, 18, 19, 20, 21, 22, 23, 24, 25, 26, 27, 28, 29, 30, 31, 32, 33] (by decide +kernel) (by decide +kernel)
set_option maxRecDepth 20000 in
theorem gX8_fill_X8_forgetMatches : GoodIn wsX8_fill (wsV RX8 96 RX8 yX8_forgetMatches wsX8_forgetMatches) := goodIn_app (goodIn_of _ (by decide +kernel)) ggX8_fill_X8_forgetMatches
theorem dX8_fill_0 : decode cX8_fill 0 = .ok (.aload_n 0, 1) := by decide +kernel
theorem dX8_fill_1 : decode cX8_fill 1 = .ok (.getfield 14, 3) := by decide +kernel
theorem dX8_fill_4 : decode cX8_fill 4 = .ok (.iload_n 1, 1) := by decide +kernel
theorem dX8_fill_5 : decode cX8_fill 5 = .ok (.iload_n 2, 1) := by decide +kernel
theorem dX8_fill_6 : decode cX8_fill 6 = .ok (.invokevirtual 99, 3) := by decide +kernel
theorem dX8_fill_9 : decode cX8_fill 9 = .ok (.istore_n 3, 1) := by decide +kernel
theorem dX8_fill_10 : decode cX8_fill 10 = .ok (.iload_n 3, 1) := by decide +kernel
theorem dX8_fill_11 : decode cX8_fill 11 = .ok (.iconst (-1), 1) := by decide +kernel
theorem dX8_fill_12 : decode cX8_fill 12 = .ok (.if_icmp .eq 7, 3) := by decide +kernel
theorem dX8_fill_15 : decode cX8_fill 15 = .ok (.aload_n 0, 1) := by decide +kernel
theorem dX8_fill_16 : decode cX8_fill 16 = .ok (.invokevirtual 96, 3) := by decide +kernel
theorem dX8_fill_19 : decode cX8_fill 19 = .ok (.iload_n 3, 1) := by decide +kernel
theorem dX8_fill_20 : decode cX8_fill 20 = .ok (.ireturn, 1) := by decide +kernel
set_option maxRecDepth 20000 in
theorem ggX8_clear_X1_size : GoodIn wsX8_clear wsX1_size := goodIn_r _ [6, 7, 33, 34] (by decide +kernel) (by decide +kernel)
set_option maxRecDepth 20000 in
theorem gX8_clear_X1_size : GoodIn wsX8_clear (wsV RX8 103 RX1 yX1_size wsX1_size) := goodIn_app (goodIn_of _ (by decide +kernel)) ggX8_clear_X1_size
set_option maxRecDepth 20000 in
theorem ggX8_clear_X1_empty : GoodIn wsX8_clear wsX1_empty := goodIn_r _ [11, 7, 33, 34] (by decide +kernel) (by decide +kernel)
set_option maxRecDepth 20000 in
theorem gX8_clear_X1_empty : GoodIn wsX8_clear (wsV RX8 107 RX1 yX1_empty wsX1_empty) := goodIn_app (goodIn_of _ (by decide +kernel)) ggX8_clear_X1_empty
set_option maxRecDepth 20000 in
theorem ggX8_clear_X8_forgetMatches : GoodIn wsX8_clear wsX8_forgetMatches := goodIn_r _ [16, 17, 18, 19, 20, 21, 22, 23, 24, 25, 26, 27, 28, 29, 30, 31, 32] (by decide +kernel) (by decide +kernel)
set_option maxRecDepth 20000 in
theorem gX8_clear_X8_forgetMatches : GoodIn wsX8_clear (wsV RX8 96 RX8 yX8_forgetMatches wsX8_forgetMatches) := goodIn_app (goodIn_of _ (by decide +kernel)) ggX8_clear_X8_forgetMatches
theorem dX8_clear_0 : decode cX8_clear 0 = .ok (.aload_n 0, 1) := by decide +kernel
theorem dX8_clear_1 : decode cX8_clear 1 = .ok (.getfield 14, 3) := by decide +kernel
theorem dX8_clear_4 : decode cX8_clear 4 = .ok (.invokevirtual 103, 3) := by decide +kernel
theorem dX8_clear_7 : decode cX8_clear 7 = .ok (.istore_n 1, 1) := by decide +kernel
theorem dX8_clear_8 : decode cX8_clear 8 = .ok (.aload_n 0, 1) := by decide +kernel
theorem dX8_clear_9 : decode cX8_clear 9 = .ok (.getfield 14, 3) := by decide +kernel
theorem dX8_clear_12 : decode cX8_clear 12 = .ok (.invokevirtual 107, 3) := by decide +kernel
theorem dX8_clear_15 : decode cX8_clear 15 = .ok (.aload_n 0, 1) := by decide +kernel
theorem dX8_clear_16 : decode cX8_clear 16 = .ok (.invokevirtual 96, 3) := by decide +kernel
theorem dX8_clear_19 : decode cX8_clear 19 = .ok (.iload_n 1, 1) := by decide +kernel
theorem dX8_clear_20 : decode cX8_clear 20 = .ok (.ireturn, 1) := by decide +kernel
set_option maxRecDepth 20000 in
theorem ggX8_limits_X5_change : GoodIn wsX8_limits wsX5_change := goodIn_r _ [6, 7, 8, 9, 31, 32, 33] (by decide +kernel) (by decide +kernel)
set_option maxRecDepth 20000 in
theorem gX8_limits_X5_change : GoodIn wsX8_limits (wsV RX8 110 RX5 yX5_change wsX5_change) := goodIn_app (goodIn_of _ (by decide +kernel)) ggX8_limits_X5_change
set_option maxRecDepth 20000 in
theorem ggX8_limits_X8_forgetMatches : GoodIn wsX8_limits wsX8_forgetMatches := goodIn_r _ [14, 15, 16, 17, 18, 19, 20, 21, 22, 23, 24, 25, 26, 27, 28, 29, 30] (by decide +kernel) (by decide +kernel)
set_option maxRecDepth 20000 in
theorem gX8_limits_X8_forgetMatches : GoodIn wsX8_limits (wsV RX8 96 RX8 yX8_forgetMatches wsX8_forgetMatches) := goodIn_app (goodIn_of _ (by decide +kernel)) ggX8_limits_X8_forgetMatches
theorem dX8_limits_0 : decode cX8_limits 0 = .ok (.aload_n 0, 1) := by decide +kernel
theorem dX8_limits_1 : decode cX8_limits 1 = .ok (.getfield 30, 3) := by decide +kernel
theorem dX8_limits_4 : decode cX8_limits 4 = .ok (.iload_n 1, 1) := by decide +kernel
theorem dX8_limits_5 : decode cX8_limits 5 = .ok (.iload_n 2, 1) := by decide +kernel
theorem dX8_limits_6 : decode cX8_limits 6 = .ok (.iload_n 3, 1) := by decide +kernel
theorem dX8_limits_7 : decode cX8_limits 7 = .ok (.invokevirtual 110, 3) := by decide +kernel
theorem dX8_limits_10 : decode cX8_limits 10 = .ok (.ifCond .ne 5, 3) := by decide +kernel
theorem dX8_limits_13 : decode cX8_limits 13 = .ok (.iconst 0, 1) := by decide +kernel
theorem dX8_limits_14 : decode cX8_limits 14 = .ok (.ireturn, 1) := by decide +kernel
theorem dX8_limits_15 : decode cX8_limits 15 = .ok (.aload_n 0, 1) := by decide +kernel
theorem dX8_limits_16 : decode cX8_limits 16 = .ok (.invokevirtual 96, 3) := by decide +kernel
theorem dX8_limits_19 : decode cX8_limits 19 = .ok (.iconst 1, 1) := by decide +kernel
theorem dX8_limits_20 : decode cX8_limits 20 = .ok (.ireturn, 1) := by decide +kernel
set_option maxRecDepth 20000 in
theorem ggX8_price_X7_change : GoodIn wsX8_price wsX7_change := goodIn_r _ [7, 8, 9, 10, 6, 11, 12, 13, 14, 15, 30, 31, 32, 33] (by decide +kernel) (by decide +kernel)
set_option maxRecDepth 20000 in
theorem gX8_price_X7_change : GoodIn wsX8_price (wsV RX8 114 RX7 yX7_change wsX7_change) := goodIn_app (goodIn_of _ (by decide +kernel)) ggX8_price_X7_change
theorem dX8_price_0 : decode cX8_price 0 = .ok (.aload_n 0, 1) := by decide +kernel
theorem dX8_price_1 : decode cX8_price 1 = .ok (.getfield 37, 3) := by decide +kernel
theorem dX8_price_4 : decode cX8_price 4 = .ok (.iload_n 1, 1) := by decide +kernel
theorem dX8_price_5 : decode cX8_price 5 = .ok (.iload_n 2, 1) := by decide +kernel
theorem dX8_price_6 : decode cX8_price 6 = .ok (.iload_n 3, 1) := by decide +kernel
theorem dX8_price_7 : decode cX8_price 7 = .ok (.invokevirtual 114, 3) := by decide +kernel
theorem dX8_price_10 : decode cX8_price 10 = .ok (.ifCond .ne 5, 3) := by decide +kernel
theorem dX8_price_13 : decode cX8_price 13 = .ok (.iconst 0, 1) := by decide +kernel
theorem dX8_price_14 : decode cX8_price 14 = .ok (.ireturn, 1) := by decide +kernel
theorem dX8_price_15 : decode cX8_price 15 = .ok (.aload_n 0, 1) := by decide +kernel
theorem dX8_price_16 : decode cX8_price 16 = .ok (.iconst 1, 1) := by decide +kernel
theorem dX8_price_17 : decode cX8_price 17 = .ok (.putfield 86, 3) := by decide +kernel
theorem dX8_price_20 : decode cX8_price 20 = .ok (.iconst 1, 1) := by decide +kernel
theorem dX8_price_21 : decode cX8_price 21 = .ok (.ireturn, 1) := by decide +kernel
set_option maxRecDepth 20000 in
theorem ggX8_parse_X8_renewCosts : GoodIn wsX8_parse wsX8_renewCosts := goodIn_r _ [8, 9, 10, 11, 12, 13, 7, 14, 15, 16, 17, 18, 19, 20, 21, 22, 23, 24, 25, 26, 27, 28, 29, 30, 31, 32, 33, 34, 35, 36, 37, 38, 39, 40, 41, 42, 43, 44, 45, 46, 47, 48, 49, 50, 51, 52, 53, 54, 55, 56, 57, 58, 59, 60, 61, 62, 63, 64, 65, 66, 67, 68, 69, 70, 71, 72, 73, 74, 75, 76, 77, 78, 79, 80, 81, 82, 83, 84, 85, 86, 87, 88, 89, 90, 91, 92, 93, 94, 95, 96, 97, 98, 99, 100, 101, 102, 103, 104, 105, 106, 107, 108, 109, 110, 111, 112, 113, 114, 115, 116, 117, 118, 119, 120, 121, 122, 123, 124, 125, 126, 127, 128, 129, 219, 220, 221, 222, 223, 224, 225, 226, 227, 228, 229, 230, 231, 232, 233, 234, 235, 236, 237, 238, 239, 240, 241, 242, 243, 244, 245, 246, 247, 248, 249, 250, 251, 252, 253, 254, 255, 256, 257] (by decide +kernel) (by decide +kernel)
set_option maxRecDepth 20000 in
theorem gX8_parse_X8_renewCosts : GoodIn wsX8_parse (wsV RX8 115 RX8 yX8_renewCosts wsX8_renewCosts) := goodIn_app (goodIn_of _ (by decide +kernel)) ggX8_parse_X8_renewCosts
set_option maxRecDepth 20000 in
theorem ggX8_parse_X8_renewMatches : GoodIn wsX8_parse wsX8_renewMatches := goodIn_r _ [14, 15, 16, 17, 18, 19, 20, 21, 22, 23, 24, 25, 26, 27, 28, 29, 30, 31, 32, 33, 34, 35, 36, 37, 38, 39, 40, 41, 42, 43, 44, 45, 46, 47, 48, 49, 50, 51, 52, 53, 54, 55, 56, 57, 58, 59, 60, 61, 62, 63, 64, 65, 66, 67, 68, 69, 219, 220, 221, 222, 223, 224, 225, 226, 227, 228, 229, 230, 231, 232, 233, 234, 235, 236, 237, 238, 239, 240, 241, 242, 243, 244] (by decide +kernel) (by decide +kernel)
set_option maxRecDepth 20000 in
theorem gX8_parse_X8_renewMatches : GoodIn wsX8_parse (wsV RX8 118 RX8 yX8_renewMatches wsX8_renewMatches) := goodIn_app (goodIn_of _ (by decide +kernel)) ggX8_parse_X8_renewMatches
set_option maxRecDepth 20000 in
theorem ggX8_parse_X5_least : GoodIn wsX8_parse wsX5_least := goodIn_r _ [47, 48, 242, 243, 244] (by decide +kernel) (by decide +kernel)
set_option maxRecDepth 20000 in
theorem gX8_parse_X5_least : GoodIn wsX8_parse (wsV RX8 121 RX5 yX5_least wsX5_least) := goodIn_app (goodIn_of _ (by decide +kernel)) ggX8_parse_X5_least
set_option maxRecDepth 20000 in
theorem ggX8_parse_X6_begin : GoodIn wsX8_parse wsX6_begin := goodIn_r _ [135, 136, 137, 138, 139, 140, 141, 142, 143, 144, 145, 30, 146, 32, 124, 147, 54, 40, 55, 148, 149, 150, 151, 258, 259, 260, 261, 262, 263, 264, 265, 266, 267, 240, 241] (by decide +kernel) (by decide +kernel)
set_option maxRecDepth 20000 in
theorem gX8_parse_X6_begin : GoodIn wsX8_parse (wsV RX8 124 RX6 yX6_begin wsX6_begin) := goodIn_app (goodIn_of _ (by decide +kernel)) ggX8_parse_X6_begin
set_option maxRecDepth 20000 in
theorem ggX8_parse_X1_size : GoodIn wsX8_parse wsX1_size := goodIn_r _ [31, 32, 240, 241] (by decide +kernel) (by decide +kernel)
set_option maxRecDepth 20000 in
theorem gX8_parse_X1_size : GoodIn wsX8_parse (wsV RX8 103 RX1 yX1_size wsX1_size) := goodIn_app (goodIn_of _ (by decide +kernel)) ggX8_parse_X1_size
set_option maxRecDepth 20000 in
theorem ggX8_parse_X8_addStep : GoodIn wsX8_parse wsX8_addStep := goodIn_r _ [156, 10, 1, 157, 2, 16, 158, 159, 160, 73, 161, 79, 101, 92, 28, 29, 30, 31, 32, 162, 163, 164, 7, 165, 166, 104, 105, 20, 106, 23, 24, 27, 167, 121, 122, 123, 124, 168, 126, 127, 85, 128, 129, 169, 170, 171, 134, 172, 141, 173, 174, 175, 176, 138, 177, 178, 179, 140, 180, 181, 182, 183, 77, 102, 97, 184, 115, 116, 117, 118, 119, 89, 54, 40, 55, 111, 112, 113, 114, 42, 185, 186, 187, 188, 49, 50, 51, 52, 37, 53, 56, 57, 58, 46, 59, 60, 189, 190, 191, 192, 193, 194, 195, 196, 25, 197, 198, 199, 200, 201, 83, 84, 86, 87, 88, 90, 91, 202, 203, 204, 205, 206, 139, 207, 208, 209, 210, 211, 212, 213, 214, 137, 219, 220, 221, 222, 223, 224, 225, 226, 227, 228, 229, 230, 231, 232, 245, 246, 247, 248, 249, 250, 251, 252, 253, 240, 241, 233, 234, 235, 236, 237, 238, 239, 254, 255, 256, 257, 258, 259, 260, 261, 262, 263, 264, 265, 266, 267, 242, 243, 244] (by decide +kernel) (by decide +kernel)
set_option maxRecDepth 20000 in
theorem gX8_parse_X8_addStep : GoodIn wsX8_parse (wsV RX8 128 RX8 yX8_addStep wsX8_addStep) := goodIn_app (goodIn_of _ (by decide +kernel)) ggX8_parse_X8_addStep
set_option maxRecDepth 20000 in
theorem ggX8_parse_X6_count : GoodIn wsX8_parse wsX6_count := goodIn_r _ [218, 138, 258, 259, 260, 261, 262, 263, 264, 265, 266, 267] (by decide +kernel) (by decide +kernel)
set_option maxRecDepth 20000 in
theorem gX8_parse_X6_count : GoodIn wsX8_parse (wsV RX8 131 RX6 yX6_count wsX6_count) := goodIn_app (goodIn_of _ (by decide +kernel)) ggX8_parse_X6_count
theorem dX8_parse_0 : decode cX8_parse 0 = .ok (.iload_n 1, 1) := by decide +kernel
theorem dX8_parse_1 : decode cX8_parse 1 = .ok (.ifCond .eq 15, 3) := by decide +kernel
theorem dX8_parse_4 : decode cX8_parse 4 = .ok (.iload_n 1, 1) := by decide +kernel
theorem dX8_parse_5 : decode cX8_parse 5 = .ok (.iconst 1, 1) := by decide +kernel
theorem dX8_parse_6 : decode cX8_parse 6 = .ok (.if_icmp .eq 10, 3) := by decide +kernel
theorem dX8_parse_9 : decode cX8_parse 9 = .ok (.iload_n 1, 1) := by decide +kernel
theorem dX8_parse_10 : decode cX8_parse 10 = .ok (.iconst 2, 1) := by decide +kernel
theorem dX8_parse_11 : decode cX8_parse 11 = .ok (.if_icmp .eq 5, 3) := by decide +kernel
theorem dX8_parse_14 : decode cX8_parse 14 = .ok (.iconst (-1), 1) := by decide +kernel
theorem dX8_parse_15 : decode cX8_parse 15 = .ok (.ireturn, 1) := by decide +kernel
theorem dX8_parse_16 : decode cX8_parse 16 = .ok (.iload_n 1, 1) := by decide +kernel
theorem dX8_parse_17 : decode cX8_parse 17 = .ok (.ifCond .ne 10, 3) := by decide +kernel
theorem dX8_parse_20 : decode cX8_parse 20 = .ok (.aload_n 0, 1) := by decide +kernel
theorem dX8_parse_21 : decode cX8_parse 21 = .ok (.invokevirtual 115, 3) := by decide +kernel
theorem dX8_parse_24 : decode cX8_parse 24 = .ok (.goto 7, 3) := by decide +kernel
theorem dX8_parse_27 : decode cX8_parse 27 = .ok (.aload_n 0, 1) := by decide +kernel
theorem dX8_parse_28 : decode cX8_parse 28 = .ok (.invokevirtual 118, 3) := by decide +kernel
theorem dX8_parse_31 : decode cX8_parse 31 = .ok (.aload_n 0, 1) := by decide +kernel
theorem dX8_parse_32 : decode cX8_parse 32 = .ok (.getfield 62, 3) := by decide +kernel
theorem dX8_parse_35 : decode cX8_parse 35 = .ok (.aload_n 0, 1) := by decide +kernel
theorem dX8_parse_36 : decode cX8_parse 36 = .ok (.getfield 14, 3) := by decide +kernel
theorem dX8_parse_39 : decode cX8_parse 39 = .ok (.aload_n 0, 1) := by decide +kernel
theorem dX8_parse_40 : decode cX8_parse 40 = .ok (.getfield 30, 3) := by decide +kernel
theorem dX8_parse_43 : decode cX8_parse 43 = .ok (.invokevirtual 121, 3) := by decide +kernel
theorem dX8_parse_46 : decode cX8_parse 46 = .ok (.invokevirtual 124, 3) := by decide +kernel
theorem dX8_parse_49 : decode cX8_parse 49 = .ok (.iconst 0, 1) := by decide +kernel
theorem dX8_parse_50 : decode cX8_parse 50 = .ok (.istore_n 2, 1) := by decide +kernel
theorem dX8_parse_51 : decode cX8_parse 51 = .ok (.iconst 0, 1) := by decide +kernel
theorem dX8_parse_52 : decode cX8_parse 52 = .ok (.istore_n 3, 1) := by decide +kernel
theorem dX8_parse_53 : decode cX8_parse 53 = .ok (.iload_n 3, 1) := by decide +kernel
theorem dX8_parse_54 : decode cX8_parse 54 = .ok (.sipush 500, 3) := by decide +kernel
theorem dX8_parse_57 : decode cX8_parse 57 = .ok (.if_icmp .ge 29, 3) := by decide +kernel
theorem dX8_parse_60 : decode cX8_parse 60 = .ok (.iload_n 2, 1) := by decide +kernel
theorem dX8_parse_61 : decode cX8_parse 61 = .ok (.aload_n 0, 1) := by decide +kernel
theorem dX8_parse_62 : decode cX8_parse 62 = .ok (.getfield 14, 3) := by decide +kernel
theorem dX8_parse_65 : decode cX8_parse 65 = .ok (.invokevirtual 103, 3) := by decide +kernel
theorem dX8_parse_68 : decode cX8_parse 68 = .ok (.if_icmp .ge 18, 3) := by decide +kernel
theorem dX8_parse_71 : decode cX8_parse 71 = .ok (.iload_n 2, 1) := by decide +kernel
theorem dX8_parse_72 : decode cX8_parse 72 = .ok (.aload_n 0, 1) := by decide +kernel
theorem dX8_parse_73 : decode cX8_parse 73 = .ok (.iload_n 1, 1) := by decide +kernel
theorem dX8_parse_74 : decode cX8_parse 74 = .ok (.iload_n 2, 1) := by decide +kernel
theorem dX8_parse_75 : decode cX8_parse 75 = .ok (.invokevirtual 128, 3) := by decide +kernel
theorem dX8_parse_78 : decode cX8_parse 78 = .ok (.iadd, 1) := by decide +kernel
theorem dX8_parse_79 : decode cX8_parse 79 = .ok (.istore_n 2, 1) := by decide +kernel
theorem dX8_parse_80 : decode cX8_parse 80 = .ok (.iinc 3 1, 3) := by decide +kernel
theorem dX8_parse_83 : decode cX8_parse 83 = .ok (.goto (-30), 3) := by decide +kernel
theorem dX8_parse_86 : decode cX8_parse 86 = .ok (.aload_n 0, 1) := by decide +kernel
theorem dX8_parse_87 : decode cX8_parse 87 = .ok (.getfield 62, 3) := by decide +kernel
theorem dX8_parse_90 : decode cX8_parse 90 = .ok (.invokevirtual 131, 3) := by decide +kernel
theorem dX8_parse_93 : decode cX8_parse 93 = .ok (.ireturn, 1) := by decide +kernel
set_option maxRecDepth 20000 in
theorem ggX8_step_X6_has : GoodIn wsX8_step wsX6_has := goodIn_r _ [6, 7, 50, 51, 52, 53, 54, 55, 56, 57, 58, 59] (by decide +kernel) (by decide +kernel)
set_option maxRecDepth 20000 in
theorem gX8_step_X6_has : GoodIn wsX8_step (wsV RX8 134 RX6 yX6_has wsX6_has) := goodIn_app (goodIn_of _ (by decide +kernel)) ggX8_step_X6_has
set_option maxRecDepth 20000 in
theorem ggX8_step_X6_placeOf : GoodIn wsX8_step wsX6_placeOf := goodIn_r _ [11, 12, 13, 3, 4, 5, 6, 7, 50, 51, 52, 53, 54, 55, 56, 57, 58, 59] (by decide +kernel) (by decide +kernel)
set_option maxRecDepth 20000 in
theorem gX8_step_X6_placeOf : GoodIn wsX8_step (wsV RX8 138 RX6 yX6_placeOf wsX6_placeOf) := goodIn_app (goodIn_of _ (by decide +kernel)) ggX8_step_X6_placeOf
set_option maxRecDepth 20000 in
theorem ggX8_step_X6_lengthOf : GoodIn wsX8_step wsX6_lengthOf := goodIn_r _ [17, 18, 13, 3, 4, 5, 6, 7, 50, 51, 52, 53, 54, 55, 56, 57, 58, 59] (by decide +kernel) (by decide +kernel)
set_option maxRecDepth 20000 in
theorem gX8_step_X6_lengthOf : GoodIn wsX8_step (wsV RX8 142 RX6 yX6_lengthOf wsX6_lengthOf) := goodIn_app (goodIn_of _ (by decide +kernel)) ggX8_step_X6_lengthOf
set_option maxRecDepth 20000 in
theorem ggX8_step_X6_distanceOf : GoodIn wsX8_step wsX6_distanceOf := goodIn_r _ [22, 23, 13, 3, 4, 5, 6, 7, 50, 51, 52, 53, 54, 55, 56, 57, 58, 59] (by decide +kernel) (by decide +kernel)
set_option maxRecDepth 20000 in
theorem gX8_step_X6_distanceOf : GoodIn wsX8_step (wsV RX8 145 RX6 yX6_distanceOf wsX6_distanceOf) := goodIn_app (goodIn_of _ (by decide +kernel)) ggX8_step_X6_distanceOf
set_option maxRecDepth 20000 in
theorem ggX8_step_X6_byteOf : GoodIn wsX8_step wsX6_byteOf := goodIn_r _ [27, 23, 28, 12, 13, 3, 4, 5, 6, 7, 29, 30, 31, 32, 33, 34, 35, 50, 51, 52, 53, 54, 55, 56, 57, 58, 59, 60, 61] (by decide +kernel) (by decide +kernel)
set_option maxRecDepth 20000 in
theorem gX8_step_X6_byteOf : GoodIn wsX8_step (wsV RX8 148 RX6 yX6_byteOf wsX6_byteOf) := goodIn_app (goodIn_of _ (by decide +kernel)) ggX8_step_X6_byteOf
theorem dX8_step_0 : decode cX8_step 0 = .ok (.aload_n 0, 1) := by decide +kernel
theorem dX8_step_1 : decode cX8_step 1 = .ok (.getfield 62, 3) := by decide +kernel
theorem dX8_step_4 : decode cX8_step 4 = .ok (.iload_n 1, 1) := by decide +kernel
theorem dX8_step_5 : decode cX8_step 5 = .ok (.invokevirtual 134, 3) := by decide +kernel
theorem dX8_step_8 : decode cX8_step 8 = .ok (.ifCond .ne 5, 3) := by decide +kernel
theorem dX8_step_11 : decode cX8_step 11 = .ok (.iconst (-1), 1) := by decide +kernel
theorem dX8_step_12 : decode cX8_step 12 = .ok (.ireturn, 1) := by decide +kernel
theorem dX8_step_13 : decode cX8_step 13 = .ok (.iload_n 2, 1) := by decide +kernel
theorem dX8_step_14 : decode cX8_step 14 = .ok (.tableswitch 66 0 3 #[30, 39, 48, 57], 30) := by decide +kernel
theorem dX8_step_44 : decode cX8_step 44 = .ok (.aload_n 0, 1) := by decide +kernel
theorem dX8_step_45 : decode cX8_step 45 = .ok (.getfield 62, 3) := by decide +kernel
theorem dX8_step_48 : decode cX8_step 48 = .ok (.iload_n 1, 1) := by decide +kernel
theorem dX8_step_49 : decode cX8_step 49 = .ok (.invokevirtual 138, 3) := by decide +kernel
theorem dX8_step_52 : decode cX8_step 52 = .ok (.ireturn, 1) := by decide +kernel
theorem dX8_step_53 : decode cX8_step 53 = .ok (.aload_n 0, 1) := by decide +kernel
theorem dX8_step_54 : decode cX8_step 54 = .ok (.getfield 62, 3) := by decide +kernel
theorem dX8_step_57 : decode cX8_step 57 = .ok (.iload_n 1, 1) := by decide +kernel
theorem dX8_step_58 : decode cX8_step 58 = .ok (.invokevirtual 142, 3) := by decide +kernel
theorem dX8_step_61 : decode cX8_step 61 = .ok (.ireturn, 1) := by decide +kernel
theorem dX8_step_62 : decode cX8_step 62 = .ok (.aload_n 0, 1) := by decide +kernel
theorem dX8_step_63 : decode cX8_step 63 = .ok (.getfield 62, 3) := by decide +kernel
theorem dX8_step_66 : decode cX8_step 66 = .ok (.iload_n 1, 1) := by decide +kernel
theorem dX8_step_67 : decode cX8_step 67 = .ok (.invokevirtual 145, 3) := by decide +kernel
theorem dX8_step_70 : decode cX8_step 70 = .ok (.ireturn, 1) := by decide +kernel
theorem dX8_step_71 : decode cX8_step 71 = .ok (.aload_n 0, 1) := by decide +kernel
theorem dX8_step_72 : decode cX8_step 72 = .ok (.getfield 62, 3) := by decide +kernel
theorem dX8_step_75 : decode cX8_step 75 = .ok (.iload_n 1, 1) := by decide +kernel
theorem dX8_step_76 : decode cX8_step 76 = .ok (.invokevirtual 148, 3) := by decide +kernel
theorem dX8_step_79 : decode cX8_step 79 = .ok (.ireturn, 1) := by decide +kernel
theorem dX8_step_80 : decode cX8_step 80 = .ok (.iconst (-1), 1) := by decide +kernel
theorem dX8_step_81 : decode cX8_step 81 = .ok (.ireturn, 1) := by decide +kernel
set_option maxRecDepth 20000 in
theorem ggX8_told_X6_count : GoodIn wsX8_told wsX6_count := goodIn_r _ [6, 7, 48, 49, 50, 51, 52, 53, 54, 55, 56, 57] (by decide +kernel) (by decide +kernel)
set_option maxRecDepth 20000 in
theorem gX8_told_X6_count : GoodIn wsX8_told (wsV RX8 131 RX6 yX6_count wsX6_count) := goodIn_app (goodIn_of _ (by decide +kernel)) ggX8_told_X6_count
set_option maxRecDepth 20000 in
theorem ggX8_told_X6_matchCount : GoodIn wsX8_told wsX6_matchCount := goodIn_r _ [11, 12, 48, 49, 50, 51, 52, 53, 54, 55, 56, 57] (by decide +kernel) (by decide +kernel)
set_option maxRecDepth 20000 in
theorem gX8_told_X6_matchCount : GoodIn wsX8_told (wsV RX8 151 RX6 yX6_matchCount wsX6_matchCount) := goodIn_app (goodIn_of _ (by decide +kernel)) ggX8_told_X6_matchCount
set_option maxRecDepth 20000 in
theorem ggX8_told_X6_wholePrice : GoodIn wsX8_told wsX6_wholePrice := goodIn_r _ [16, 17, 48, 49, 50, 51, 52, 53, 54, 55, 56, 57] (by decide +kernel) (by decide +kernel)
set_option maxRecDepth 20000 in
theorem gX8_told_X6_wholePrice : GoodIn wsX8_told (wsV RX8 154 RX6 yX6_wholePrice wsX6_wholePrice) := goodIn_app (goodIn_of _ (by decide +kernel)) ggX8_told_X6_wholePrice
set_option maxRecDepth 20000 in
theorem ggX8_told_X6_bits : GoodIn wsX8_told wsX6_bits := goodIn_r _ [21, 22, 48, 49, 50, 51, 52, 53, 54, 55, 56, 57] (by decide +kernel) (by decide +kernel)
set_option maxRecDepth 20000 in
theorem gX8_told_X6_bits : GoodIn wsX8_told (wsV RX8 157 RX6 yX6_bits wsX6_bits) := goodIn_app (goodIn_of _ (by decide +kernel)) ggX8_told_X6_bits
set_option maxRecDepth 20000 in
theorem ggX8_told_X6_textSize : GoodIn wsX8_told wsX6_textSize := goodIn_r _ [26, 27, 28, 29, 30, 31, 32, 33, 48, 49, 50, 51, 52, 53, 54, 55, 56, 57, 58, 59] (by decide +kernel) (by decide +kernel)
set_option maxRecDepth 20000 in
theorem gX8_told_X6_textSize : GoodIn wsX8_told (wsV RX8 160 RX6 yX6_textSize wsX6_textSize) := goodIn_app (goodIn_of _ (by decide +kernel)) ggX8_told_X6_textSize
theorem dX8_told_0 : decode cX8_told 0 = .ok (.iload_n 1, 1) := by decide +kernel
theorem dX8_told_1 : decode cX8_told 1 = .ok (.tableswitch 75 0 4 #[35, 43, 51, 59, 67], 35) := by decide +kernel
theorem dX8_told_36 : decode cX8_told 36 = .ok (.aload_n 0, 1) := by decide +kernel
theorem dX8_told_37 : decode cX8_told 37 = .ok (.getfield 62, 3) := by decide +kernel
theorem dX8_told_40 : decode cX8_told 40 = .ok (.invokevirtual 131, 3) := by decide +kernel
theorem dX8_told_43 : decode cX8_told 43 = .ok (.ireturn, 1) := by decide +kernel
theorem dX8_told_44 : decode cX8_told 44 = .ok (.aload_n 0, 1) := by decide +kernel
theorem dX8_told_45 : decode cX8_told 45 = .ok (.getfield 62, 3) := by decide +kernel
theorem dX8_told_48 : decode cX8_told 48 = .ok (.invokevirtual 151, 3) := by decide +kernel
theorem dX8_told_51 : decode cX8_told 51 = .ok (.ireturn, 1) := by decide +kernel
theorem dX8_told_52 : decode cX8_told 52 = .ok (.aload_n 0, 1) := by decide +kernel
theorem dX8_told_53 : decode cX8_told 53 = .ok (.getfield 62, 3) := by decide +kernel
theorem dX8_told_56 : decode cX8_told 56 = .ok (.invokevirtual 154, 3) := by decide +kernel
theorem dX8_told_59 : decode cX8_told 59 = .ok (.ireturn, 1) := by decide +kernel
theorem dX8_told_60 : decode cX8_told 60 = .ok (.aload_n 0, 1) := by decide +kernel
theorem dX8_told_61 : decode cX8_told 61 = .ok (.getfield 62, 3) := by decide +kernel
theorem dX8_told_64 : decode cX8_told 64 = .ok (.invokevirtual 157, 3) := by decide +kernel
theorem dX8_told_67 : decode cX8_told 67 = .ok (.ireturn, 1) := by decide +kernel
theorem dX8_told_68 : decode cX8_told 68 = .ok (.aload_n 0, 1) := by decide +kernel
theorem dX8_told_69 : decode cX8_told 69 = .ok (.getfield 62, 3) := by decide +kernel
theorem dX8_told_72 : decode cX8_told 72 = .ok (.invokevirtual 160, 3) := by decide +kernel
theorem dX8_told_75 : decode cX8_told 75 = .ok (.ireturn, 1) := by decide +kernel
theorem dX8_told_76 : decode cX8_told 76 = .ok (.iconst (-1), 1) := by decide +kernel
theorem dX8_told_77 : decode cX8_told 77 = .ok (.ireturn, 1) := by decide +kernel
set_option maxRecDepth 20000 in
theorem ggX8_at_X1_size : GoodIn wsX8_at wsX1_size := goodIn_r _ [8, 9, 156, 157] (by decide +kernel) (by decide +kernel)
set_option maxRecDepth 20000 in
theorem gX8_at_X1_size : GoodIn wsX8_at (wsV RX8 103 RX1 yX1_size wsX1_size) := goodIn_app (goodIn_of _ (by decide +kernel)) ggX8_at_X1_size
set_option maxRecDepth 20000 in
theorem ggX8_at_X8_renewCosts : GoodIn wsX8_at wsX8_renewCosts := goodIn_r _ [14, 15, 2, 16, 17, 18, 13, 19, 20, 3, 21, 22, 23, 24, 25, 26, 27, 28, 29, 30, 31, 5, 6, 7, 8, 9, 32, 33, 34, 35, 36, 37, 38, 39, 40, 41, 42, 43, 44, 45, 46, 47, 48, 49, 50, 51, 52, 53, 54, 55, 56, 57, 58, 59, 60, 61, 62, 63, 64, 65, 66, 67, 68, 69, 70, 71, 72, 73, 74, 75, 76, 77, 78, 79, 80, 81, 82, 83, 84, 85, 86, 87, 88, 89, 90, 91, 92, 93, 94, 95, 96, 97, 98, 99, 100, 101, 102, 103, 104, 105, 106, 107, 108, 109, 110, 111, 112, 113, 114, 115, 116, 117, 118, 119, 120, 121, 122, 123, 124, 125, 126, 127, 128, 142, 143, 144, 145, 146, 147, 148, 149, 150, 151, 152, 153, 154, 155, 158, 159, 160, 161, 162, 163, 164, 156, 157, 165, 166, 167, 168, 169, 170, 171, 172, 173, 174, 175, 176, 177, 178, 179, 180] (by decide +kernel) (by decide +kernel)
set_option maxRecDepth 20000 in
theorem gX8_at_X8_renewCosts : GoodIn wsX8_at (wsV RX8 115 RX8 yX8_renewCosts wsX8_renewCosts) := goodIn_app (goodIn_of _ (by decide +kernel)) ggX8_at_X8_renewCosts
set_option maxRecDepth 20000 in
theorem ggX8_at_X2_leastFrom : GoodIn wsX8_at wsX2_leastFrom := goodIn_r _ [132, 78, 77, 91, 5, 6, 7, 8, 9, 168, 169, 170, 171, 172, 173, 174, 175, 176, 156, 157] (by decide +kernel) (by decide +kernel)
set_option maxRecDepth 20000 in
theorem gX8_at_X2_leastFrom : GoodIn wsX8_at (wsV RX8 163 RX2 yX2_leastFrom wsX2_leastFrom) := goodIn_app (goodIn_of _ (by decide +kernel)) ggX8_at_X2_leastFrom
set_option maxRecDepth 20000 in
theorem ggX8_at_X8_renewMatches : GoodIn wsX8_at wsX8_renewMatches := goodIn_r _ [19, 20, 3, 21, 22, 23, 24, 25, 26, 27, 28, 29, 30, 31, 5, 6, 7, 8, 9, 32, 33, 34, 35, 36, 37, 38, 39, 40, 41, 42, 43, 44, 45, 46, 47, 48, 49, 50, 51, 52, 53, 54, 55, 56, 57, 58, 59, 60, 61, 62, 63, 64, 65, 66, 67, 68, 142, 143, 144, 145, 146, 147, 148, 149, 150, 151, 152, 153, 154, 155, 158, 159, 160, 161, 162, 163, 164, 156, 157, 165, 166, 167] (by decide +kernel) (by decide +kernel)
set_option maxRecDepth 20000 in
theorem gX8_at_X8_renewMatches : GoodIn wsX8_at (wsV RX8 118 RX8 yX8_renewMatches wsX8_renewMatches) := goodIn_app (goodIn_of _ (by decide +kernel)) ggX8_at_X8_renewMatches
set_option maxRecDepth 20000 in
theorem ggX8_at_X3_longestAt : GoodIn wsX8_at wsX3_longestAt := goodIn_r _ [105, 27, 28, 31, 5, 6, 7, 8, 9, 158, 159, 160, 161, 162, 163, 164, 156, 157] (by decide +kernel) (by decide +kernel)
set_option maxRecDepth 20000 in
theorem gX8_at_X3_longestAt : GoodIn wsX8_at (wsV RX8 166 RX3 yX3_longestAt wsX3_longestAt) := goodIn_app (goodIn_of _ (by decide +kernel)) ggX8_at_X3_longestAt
set_option maxRecDepth 20000 in
theorem ggX8_at_X3_nearestAt : GoodIn wsX8_at wsX3_nearestAt := goodIn_r _ [137, 27, 29, 31, 5, 6, 7, 8, 9, 158, 159, 160, 161, 162, 163, 164, 156, 157] (by decide +kernel) (by decide +kernel)
set_option maxRecDepth 20000 in
theorem gX8_at_X3_nearestAt : GoodIn wsX8_at (wsV RX8 169 RX3 yX3_nearestAt wsX3_nearestAt) := goodIn_app (goodIn_of _ (by decide +kernel)) ggX8_at_X3_nearestAt
set_option maxRecDepth 20000 in
theorem ggX8_at_X3_distancesAt : GoodIn wsX8_at wsX3_distancesAt := goodIn_r _ [141, 27, 30, 31, 5, 6, 7, 8, 9, 158, 159, 160, 161, 162, 163, 164, 156, 157] (by decide +kernel) (by decide +kernel)
set_option maxRecDepth 20000 in
theorem gX8_at_X3_distancesAt : GoodIn wsX8_at (wsV RX8 172 RX3 yX3_distancesAt wsX3_distancesAt) := goodIn_app (goodIn_of _ (by decide +kernel)) ggX8_at_X3_distancesAt
theorem dX8_at_0 : decode cX8_at 0 = .ok (.iload_n 1, 1) := by decide +kernel
theorem dX8_at_1 : decode cX8_at 1 = .ok (.ifCond .lt 14, 3) := by decide +kernel
theorem dX8_at_4 : decode cX8_at 4 = .ok (.iload_n 1, 1) := by decide +kernel
theorem dX8_at_5 : decode cX8_at 5 = .ok (.aload_n 0, 1) := by decide +kernel
theorem dX8_at_6 : decode cX8_at 6 = .ok (.getfield 14, 3) := by decide +kernel
theorem dX8_at_9 : decode cX8_at 9 = .ok (.invokevirtual 103, 3) := by decide +kernel
theorem dX8_at_12 : decode cX8_at 12 = .ok (.if_icmp .le 5, 3) := by decide +kernel
theorem dX8_at_15 : decode cX8_at 15 = .ok (.iconst (-1), 1) := by decide +kernel
theorem dX8_at_16 : decode cX8_at 16 = .ok (.ireturn, 1) := by decide +kernel
theorem dX8_at_17 : decode cX8_at 17 = .ok (.iload_n 2, 1) := by decide +kernel
theorem dX8_at_18 : decode cX8_at 18 = .ok (.iconst 3, 1) := by decide +kernel
theorem dX8_at_19 : decode cX8_at 19 = .ok (.if_icmp .ne 16, 3) := by decide +kernel
theorem dX8_at_22 : decode cX8_at 22 = .ok (.aload_n 0, 1) := by decide +kernel
theorem dX8_at_23 : decode cX8_at 23 = .ok (.invokevirtual 115, 3) := by decide +kernel
theorem dX8_at_26 : decode cX8_at 26 = .ok (.aload_n 0, 1) := by decide +kernel
theorem dX8_at_27 : decode cX8_at 27 = .ok (.getfield 55, 3) := by decide +kernel
theorem dX8_at_30 : decode cX8_at 30 = .ok (.iload_n 1, 1) := by decide +kernel
theorem dX8_at_31 : decode cX8_at 31 = .ok (.invokevirtual 163, 3) := by decide +kernel
theorem dX8_at_34 : decode cX8_at 34 = .ok (.ireturn, 1) := by decide +kernel
theorem dX8_at_35 : decode cX8_at 35 = .ok (.iload_n 1, 1) := by decide +kernel
theorem dX8_at_36 : decode cX8_at 36 = .ok (.aload_n 0, 1) := by decide +kernel
theorem dX8_at_37 : decode cX8_at 37 = .ok (.getfield 14, 3) := by decide +kernel
theorem dX8_at_40 : decode cX8_at 40 = .ok (.invokevirtual 103, 3) := by decide +kernel
theorem dX8_at_43 : decode cX8_at 43 = .ok (.if_icmp .ne 5, 3) := by decide +kernel
theorem dX8_at_46 : decode cX8_at 46 = .ok (.iconst (-1), 1) := by decide +kernel
theorem dX8_at_47 : decode cX8_at 47 = .ok (.ireturn, 1) := by decide +kernel
theorem dX8_at_48 : decode cX8_at 48 = .ok (.aload_n 0, 1) := by decide +kernel
theorem dX8_at_49 : decode cX8_at 49 = .ok (.invokevirtual 118, 3) := by decide +kernel
theorem dX8_at_52 : decode cX8_at 52 = .ok (.iload_n 2, 1) := by decide +kernel
theorem dX8_at_53 : decode cX8_at 53 = .ok (.tableswitch 54 0 2 #[27, 36, 45], 27) := by decide +kernel
theorem dX8_at_80 : decode cX8_at 80 = .ok (.aload_n 0, 1) := by decide +kernel
theorem dX8_at_81 : decode cX8_at 81 = .ok (.getfield 46, 3) := by decide +kernel
theorem dX8_at_84 : decode cX8_at 84 = .ok (.iload_n 1, 1) := by decide +kernel
theorem dX8_at_85 : decode cX8_at 85 = .ok (.invokevirtual 166, 3) := by decide +kernel
theorem dX8_at_88 : decode cX8_at 88 = .ok (.ireturn, 1) := by decide +kernel
theorem dX8_at_89 : decode cX8_at 89 = .ok (.aload_n 0, 1) := by decide +kernel
theorem dX8_at_90 : decode cX8_at 90 = .ok (.getfield 46, 3) := by decide +kernel
theorem dX8_at_93 : decode cX8_at 93 = .ok (.iload_n 1, 1) := by decide +kernel
theorem dX8_at_94 : decode cX8_at 94 = .ok (.invokevirtual 169, 3) := by decide +kernel
theorem dX8_at_97 : decode cX8_at 97 = .ok (.ireturn, 1) := by decide +kernel
theorem dX8_at_98 : decode cX8_at 98 = .ok (.aload_n 0, 1) := by decide +kernel
theorem dX8_at_99 : decode cX8_at 99 = .ok (.getfield 46, 3) := by decide +kernel
theorem dX8_at_102 : decode cX8_at 102 = .ok (.iload_n 1, 1) := by decide +kernel
theorem dX8_at_103 : decode cX8_at 103 = .ok (.invokevirtual 172, 3) := by decide +kernel
theorem dX8_at_106 : decode cX8_at 106 = .ok (.ireturn, 1) := by decide +kernel
theorem dX8_at_107 : decode cX8_at 107 = .ok (.iconst (-1), 1) := by decide +kernel
theorem dX8_at_108 : decode cX8_at 108 = .ok (.ireturn, 1) := by decide +kernel
set_option maxRecDepth 20000 in
theorem ggX8_write_X6_made : GoodIn wsX8_write wsX6_made := goodIn_r _ [7, 8, 86, 87, 88, 89, 90, 91, 92, 93, 94, 95] (by decide +kernel) (by decide +kernel)
set_option maxRecDepth 20000 in
theorem gX8_write_X6_made : GoodIn wsX8_write (wsV RX8 175 RX6 yX6_made wsX6_made) := goodIn_app (goodIn_of _ (by decide +kernel)) ggX8_write_X6_made
set_option maxRecDepth 20000 in
theorem ggX8_write_X6_putInto : GoodIn wsX8_write wsX6_putInto := goodIn_r _ [12, 13, 14, 15, 16, 17, 18, 19, 20, 21, 22, 23, 24, 25, 26, 27, 28, 29, 30, 31, 32, 33, 34, 35, 36, 37, 38, 39, 40, 6, 41, 42, 43, 44, 45, 46, 47, 48, 49, 50, 51, 52, 53, 54, 55, 56, 57, 58, 59, 60, 61, 62, 63, 64, 65, 66, 67, 86, 87, 88, 89, 90, 91, 92, 93, 94, 95, 96, 97, 98, 99] (by decide +kernel) (by decide +kernel)
set_option maxRecDepth 20000 in
theorem gX8_write_X6_putInto : GoodIn wsX8_write (wsV RX8 179 RX6 yX6_putInto wsX6_putInto) := goodIn_app (goodIn_of _ (by decide +kernel)) ggX8_write_X6_putInto
set_option maxRecDepth 20000 in
theorem ggX8_write_X0_size : GoodIn wsX8_write wsX0_size := goodIn_r _ [71, 22, 96, 97] (by decide +kernel) (by decide +kernel)
set_option maxRecDepth 20000 in
theorem gX8_write_X0_size : GoodIn wsX8_write (wsV RX8 183 RX0 yX0_size wsX0_size) := goodIn_app (goodIn_of _ (by decide +kernel)) ggX8_write_X0_size
theorem dX8_write_0 : decode cX8_write 0 = .ok (.aload_n 0, 1) := by decide +kernel
theorem dX8_write_1 : decode cX8_write 1 = .ok (.getfield 62, 3) := by decide +kernel
theorem dX8_write_4 : decode cX8_write 4 = .ok (.invokevirtual 175, 3) := by decide +kernel
theorem dX8_write_7 : decode cX8_write 7 = .ok (.ifCond .ne 5, 3) := by decide +kernel
theorem dX8_write_10 : decode cX8_write 10 = .ok (.iconst 0, 1) := by decide +kernel
theorem dX8_write_11 : decode cX8_write 11 = .ok (.ireturn, 1) := by decide +kernel
theorem dX8_write_12 : decode cX8_write 12 = .ok (.aload_n 0, 1) := by decide +kernel
theorem dX8_write_13 : decode cX8_write 13 = .ok (.getfield 62, 3) := by decide +kernel
theorem dX8_write_16 : decode cX8_write 16 = .ok (.aload_n 0, 1) := by decide +kernel
theorem dX8_write_17 : decode cX8_write 17 = .ok (.getfield 69, 3) := by decide +kernel
theorem dX8_write_20 : decode cX8_write 20 = .ok (.invokevirtual 179, 3) := by decide +kernel
theorem dX8_write_23 : decode cX8_write 23 = .ok (.aload_n 0, 1) := by decide +kernel
theorem dX8_write_24 : decode cX8_write 24 = .ok (.getfield 69, 3) := by decide +kernel
theorem dX8_write_27 : decode cX8_write 27 = .ok (.invokevirtual 183, 3) := by decide +kernel
theorem dX8_write_30 : decode cX8_write 30 = .ok (.ireturn, 1) := by decide +kernel
set_option maxRecDepth 20000 in
theorem ggX8_written_X0_get : GoodIn wsX8_written wsX0_get := goodIn_r _ [6, 7, 8, 9, 10, 5, 11, 12, 27, 28] (by decide +kernel) (by decide +kernel)
set_option maxRecDepth 20000 in
theorem gX8_written_X0_get : GoodIn wsX8_written (wsV RX8 184 RX0 yX0_get wsX0_get) := goodIn_app (goodIn_of _ (by decide +kernel)) ggX8_written_X0_get
theorem dX8_written_0 : decode cX8_written 0 = .ok (.aload_n 0, 1) := by decide +kernel
theorem dX8_written_1 : decode cX8_written 1 = .ok (.getfield 69, 3) := by decide +kernel
theorem dX8_written_4 : decode cX8_written 4 = .ok (.iload_n 1, 1) := by decide +kernel
theorem dX8_written_5 : decode cX8_written 5 = .ok (.invokevirtual 184, 3) := by decide +kernel
theorem dX8_written_8 : decode cX8_written 8 = .ok (.ireturn, 1) := by decide +kernel
set_option maxRecDepth 20000 in
theorem ggX8_load_X1_addLowest : GoodIn wsX8_load wsX1_addLowest := goodIn_r _ [6, 7, 8, 9, 10, 11, 5, 12, 27, 28] (by decide +kernel) (by decide +kernel)
set_option maxRecDepth 20000 in
theorem gX8_load_X1_addLowest : GoodIn wsX8_load (wsV RX8 92 RX1 yX1_addLowest wsX1_addLowest) := goodIn_app (goodIn_of _ (by decide +kernel)) ggX8_load_X1_addLowest
theorem dX8_load_0 : decode cX8_load 0 = .ok (.aload_n 0, 1) := by decide +kernel
theorem dX8_load_1 : decode cX8_load 1 = .ok (.getfield 18, 3) := by decide +kernel
theorem dX8_load_4 : decode cX8_load 4 = .ok (.lload_n 1, 1) := by decide +kernel
theorem dX8_load_5 : decode cX8_load 5 = .ok (.iload_n 3, 1) := by decide +kernel
theorem dX8_load_6 : decode cX8_load 6 = .ok (.invokevirtual 92, 3) := by decide +kernel
theorem dX8_load_9 : decode cX8_load 9 = .ok (.ireturn, 1) := by decide +kernel
set_option maxRecDepth 20000 in
theorem ggX8_read_X4_readText : GoodIn wsX8_read wsX4_readText := goodIn_r _ [10, 11, 12, 13, 14, 15, 16, 17, 18, 19, 20, 21, 9, 22, 23, 24, 25, 26, 27, 28, 29, 30, 31, 32, 33, 34, 35, 36, 37, 38, 39, 40, 41, 42, 43, 44, 45, 46, 47, 48, 49, 50, 51, 52, 53, 54, 55, 56, 57, 58, 59, 60, 61, 62, 63, 64, 65, 66, 67, 68, 69, 70, 71, 72, 73, 74, 75, 76, 77, 78, 79, 80, 81, 82, 83, 111, 112, 113, 114, 115, 116, 117, 118, 119] (by decide +kernel) (by decide +kernel)
set_option maxRecDepth 20000 in
theorem gX8_read_X4_readText : GoodIn wsX8_read (wsV RX8 187 RX4 yX4_readText wsX4_readText) := goodIn_app (goodIn_of _ (by decide +kernel)) ggX8_read_X4_readText
set_option maxRecDepth 20000 in
theorem ggX8_read_X1_empty : GoodIn wsX8_read wsX1_empty := goodIn_r _ [17, 18, 115, 116] (by decide +kernel) (by decide +kernel)
set_option maxRecDepth 20000 in
theorem gX8_read_X1_empty : GoodIn wsX8_read (wsV RX8 107 RX1 yX1_empty wsX1_empty) := goodIn_app (goodIn_of _ (by decide +kernel)) ggX8_read_X1_empty
set_option maxRecDepth 20000 in
theorem ggX8_read_X1_copyOf : GoodIn wsX8_read wsX1_copyOf := goodIn_r _ [88, 18, 28, 89, 90, 91, 92, 93, 94, 95, 96, 115, 116] (by decide +kernel) (by decide +kernel)
set_option maxRecDepth 20000 in
theorem gX8_read_X1_copyOf : GoodIn wsX8_read (wsV RX8 190 RX1 yX1_copyOf wsX1_copyOf) := goodIn_app (goodIn_of _ (by decide +kernel)) ggX8_read_X1_copyOf
theorem dX8_read_0 : decode cX8_read 0 = .ok (.aload_n 0, 1) := by decide +kernel
theorem dX8_read_1 : decode cX8_read 1 = .ok (.getfield 78, 3) := by decide +kernel
theorem dX8_read_4 : decode cX8_read 4 = .ok (.invokevirtual 187, 3) := by decide +kernel
theorem dX8_read_7 : decode cX8_read 7 = .ok (.istore_n 1, 1) := by decide +kernel
theorem dX8_read_8 : decode cX8_read 8 = .ok (.aload_n 0, 1) := by decide +kernel
theorem dX8_read_9 : decode cX8_read 9 = .ok (.getfield 18, 3) := by decide +kernel
theorem dX8_read_12 : decode cX8_read 12 = .ok (.invokevirtual 107, 3) := by decide +kernel
theorem dX8_read_15 : decode cX8_read 15 = .ok (.iload_n 1, 1) := by decide +kernel
theorem dX8_read_16 : decode cX8_read 16 = .ok (.ifCond .ne 19, 3) := by decide +kernel
theorem dX8_read_19 : decode cX8_read 19 = .ok (.aload_n 0, 1) := by decide +kernel
theorem dX8_read_20 : decode cX8_read 20 = .ok (.getfield 21, 3) := by decide +kernel
theorem dX8_read_23 : decode cX8_read 23 = .ok (.aload_n 0, 1) := by decide +kernel
theorem dX8_read_24 : decode cX8_read 24 = .ok (.getfield 24, 3) := by decide +kernel
theorem dX8_read_27 : decode cX8_read 27 = .ok (.invokevirtual 190, 3) := by decide +kernel
theorem dX8_read_30 : decode cX8_read 30 = .ok (.aload_n 0, 1) := by decide +kernel
theorem dX8_read_31 : decode cX8_read 31 = .ok (.iconst 1, 1) := by decide +kernel
theorem dX8_read_32 : decode cX8_read 32 = .ok (.putfield 89, 3) := by decide +kernel
theorem dX8_read_35 : decode cX8_read 35 = .ok (.iload_n 1, 1) := by decide +kernel
theorem dX8_read_36 : decode cX8_read 36 = .ok (.ireturn, 1) := by decide +kernel
set_option maxRecDepth 20000 in
theorem ggX8_taken_X1_size : GoodIn wsX8_taken wsX1_size := goodIn_r _ [7, 8, 28, 29] (by decide +kernel) (by decide +kernel)
set_option maxRecDepth 20000 in
theorem gX8_taken_X1_size : GoodIn wsX8_taken (wsV RX8 103 RX1 yX1_size wsX1_size) := goodIn_app (goodIn_of _ (by decide +kernel)) ggX8_taken_X1_size
set_option maxRecDepth 20000 in
theorem ggX8_taken_X1_get : GoodIn wsX8_taken wsX1_get := goodIn_r _ [12, 8, 13, 28, 29] (by decide +kernel) (by decide +kernel)
set_option maxRecDepth 20000 in
theorem gX8_taken_X1_get : GoodIn wsX8_taken (wsV RX8 194 RX1 yX1_get wsX1_get) := goodIn_app (goodIn_of _ (by decide +kernel)) ggX8_taken_X1_get
theorem dX8_taken_0 : decode cX8_taken 0 = .ok (.aload_n 0, 1) := by decide +kernel
theorem dX8_taken_1 : decode cX8_taken 1 = .ok (.getfield 89, 3) := by decide +kernel
theorem dX8_taken_4 : decode cX8_taken 4 = .ok (.ifCond .ne 5, 3) := by decide +kernel
theorem dX8_taken_7 : decode cX8_taken 7 = .ok (.iconst (-1), 1) := by decide +kernel
theorem dX8_taken_8 : decode cX8_taken 8 = .ok (.ireturn, 1) := by decide +kernel
theorem dX8_taken_9 : decode cX8_taken 9 = .ok (.iload_n 1, 1) := by decide +kernel
theorem dX8_taken_10 : decode cX8_taken 10 = .ok (.iconst (-1), 1) := by decide +kernel
theorem dX8_taken_11 : decode cX8_taken 11 = .ok (.if_icmp .ne 13, 3) := by decide +kernel
theorem dX8_taken_14 : decode cX8_taken 14 = .ok (.aload_n 0, 1) := by decide +kernel
theorem dX8_taken_15 : decode cX8_taken 15 = .ok (.getfield 21, 3) := by decide +kernel
theorem dX8_taken_18 : decode cX8_taken 18 = .ok (.invokevirtual 103, 3) := by decide +kernel
theorem dX8_taken_21 : decode cX8_taken 21 = .ok (.goto 11, 3) := by decide +kernel
theorem dX8_taken_24 : decode cX8_taken 24 = .ok (.aload_n 0, 1) := by decide +kernel
theorem dX8_taken_25 : decode cX8_taken 25 = .ok (.getfield 21, 3) := by decide +kernel
theorem dX8_taken_28 : decode cX8_taken 28 = .ok (.iload_n 1, 1) := by decide +kernel
theorem dX8_taken_29 : decode cX8_taken 29 = .ok (.invokevirtual 194, 3) := by decide +kernel
theorem dX8_taken_32 : decode cX8_taken 32 = .ok (.ireturn, 1) := by decide +kernel
set_option maxRecDepth 20000 in
theorem ggX8_check_X6_makeTheirText : GoodIn wsX8_check wsX6_makeTheirText := goodIn_r _ [7, 8, 9, 10, 11, 12, 13, 14, 15, 16, 17, 18, 19, 20, 21, 22, 23, 24, 25, 6, 26, 27, 28, 29, 30, 31, 32, 33, 34, 35, 36, 37, 38, 39, 40, 41, 42, 43, 44, 45, 46, 47, 48, 49, 64, 65, 66, 67, 68, 69, 70, 71, 72, 73, 74, 75] (by decide +kernel) (by decide +kernel)
set_option maxRecDepth 20000 in
theorem gX8_check_X6_makeTheirText : GoodIn wsX8_check (wsV RX8 195 RX6 yX6_makeTheirText wsX6_makeTheirText) := goodIn_app (goodIn_of _ (by decide +kernel)) ggX8_check_X6_makeTheirText
theorem dX8_check_0 : decode cX8_check 0 = .ok (.aload_n 0, 1) := by decide +kernel
theorem dX8_check_1 : decode cX8_check 1 = .ok (.getfield 62, 3) := by decide +kernel
theorem dX8_check_4 : decode cX8_check 4 = .ok (.aload_n 0, 1) := by decide +kernel
theorem dX8_check_5 : decode cX8_check 5 = .ok (.getfield 24, 3) := by decide +kernel
theorem dX8_check_8 : decode cX8_check 8 = .ok (.invokevirtual 195, 3) := by decide +kernel
theorem dX8_check_11 : decode cX8_check 11 = .ok (.ifCond .eq 7, 3) := by decide +kernel
theorem dX8_check_14 : decode cX8_check 14 = .ok (.iconst 1, 1) := by decide +kernel
theorem dX8_check_15 : decode cX8_check 15 = .ok (.goto 4, 3) := by decide +kernel
theorem dX8_check_18 : decode cX8_check 18 = .ok (.iconst 0, 1) := by decide +kernel
theorem dX8_check_19 : decode cX8_check 19 = .ok (.ireturn, 1) := by decide +kernel
theorem dX8_forgetMatches_0 : decode cX8_forgetMatches 0 = .ok (.aload_n 0, 1) := by decide +kernel
theorem dX8_forgetMatches_1 : decode cX8_forgetMatches 1 = .ok (.iconst 1, 1) := by decide +kernel
theorem dX8_forgetMatches_2 : decode cX8_forgetMatches 2 = .ok (.putfield 82, 3) := by decide +kernel
theorem dX8_forgetMatches_5 : decode cX8_forgetMatches 5 = .ok (.aload_n 0, 1) := by decide +kernel
theorem dX8_forgetMatches_6 : decode cX8_forgetMatches 6 = .ok (.iconst 1, 1) := by decide +kernel
theorem dX8_forgetMatches_7 : decode cX8_forgetMatches 7 = .ok (.putfield 86, 3) := by decide +kernel
theorem dX8_forgetMatches_10 : decode cX8_forgetMatches 10 = .ok (.return_, 1) := by decide +kernel
set_option maxRecDepth 20000 in
theorem ggX8_renewMatches_X3_build : GoodIn wsX8_renewMatches wsX3_build := goodIn_r _ [7, 8, 9, 10, 11, 12, 13, 14, 15, 16, 17, 18, 19, 20, 21, 6, 22, 23, 24, 25, 26, 27, 28, 29, 30, 31, 32, 33, 34, 35, 36, 37, 38, 39, 40, 41, 42, 43, 44, 45, 46, 47, 48, 49, 50, 51, 52, 53, 54, 55, 70, 71, 72, 73, 74, 75, 76, 77, 78, 79, 80, 81] (by decide +kernel) (by decide +kernel)
set_option maxRecDepth 20000 in
theorem gX8_renewMatches_X3_build : GoodIn wsX8_renewMatches (wsV RX8 199 RX3 yX3_build wsX3_build) := goodIn_app (goodIn_of _ (by decide +kernel)) ggX8_renewMatches_X3_build
theorem dX8_renewMatches_0 : decode cX8_renewMatches 0 = .ok (.aload_n 0, 1) := by decide +kernel
theorem dX8_renewMatches_1 : decode cX8_renewMatches 1 = .ok (.getfield 82, 3) := by decide +kernel
theorem dX8_renewMatches_4 : decode cX8_renewMatches 4 = .ok (.ifCond .eq 15, 3) := by decide +kernel
theorem dX8_renewMatches_7 : decode cX8_renewMatches 7 = .ok (.aload_n 0, 1) := by decide +kernel
theorem dX8_renewMatches_8 : decode cX8_renewMatches 8 = .ok (.getfield 46, 3) := by decide +kernel
theorem dX8_renewMatches_11 : decode cX8_renewMatches 11 = .ok (.invokevirtual 199, 3) := by decide +kernel
theorem dX8_renewMatches_14 : decode cX8_renewMatches 14 = .ok (.aload_n 0, 1) := by decide +kernel
theorem dX8_renewMatches_15 : decode cX8_renewMatches 15 = .ok (.iconst 0, 1) := by decide +kernel
theorem dX8_renewMatches_16 : decode cX8_renewMatches 16 = .ok (.putfield 82, 3) := by decide +kernel
theorem dX8_renewMatches_19 : decode cX8_renewMatches 19 = .ok (.return_, 1) := by decide +kernel
set_option maxRecDepth 20000 in
theorem ggX8_renewCosts_X8_renewMatches : GoodIn wsX8_renewCosts wsX8_renewMatches := goodIn_r _ [7, 8, 9, 10, 11, 12, 13, 14, 15, 16, 17, 18, 19, 20, 21, 22, 23, 24, 25, 26, 27, 28, 29, 30, 31, 32, 33, 34, 35, 36, 37, 38, 39, 40, 41, 42, 43, 44, 45, 46, 47, 48, 49, 50, 51, 52, 53, 54, 55, 56, 57, 58, 59, 60, 61, 62, 123, 124, 125, 126, 127, 128, 129, 130, 131, 132, 133, 134, 135, 136, 137, 138, 139, 140, 141, 142, 143, 144, 145, 146, 147, 148] (by decide +kernel) (by decide +kernel)
set_option maxRecDepth 20000 in
theorem gX8_renewCosts_X8_renewMatches : GoodIn wsX8_renewCosts (wsV RX8 118 RX8 yX8_renewMatches wsX8_renewMatches) := goodIn_app (goodIn_of _ (by decide +kernel)) ggX8_renewCosts_X8_renewMatches
set_option maxRecDepth 20000 in
theorem ggX8_renewCosts_X2_build : GoodIn wsX8_renewCosts wsX2_build := goodIn_r _ [67, 68, 69, 70, 71, 72, 73, 37, 38, 39, 40, 41, 74, 59, 60, 61, 62, 75, 76, 77, 78, 79, 80, 81, 82, 47, 33, 48, 83, 6, 84, 85, 21, 22, 23, 24, 25, 86, 87, 88, 66, 89, 90, 91, 92, 93, 94, 95, 96, 97, 98, 13, 99, 16, 17, 20, 100, 101, 102, 103, 104, 105, 106, 107, 35, 108, 109, 110, 111, 112, 113, 114, 115, 116, 117, 118, 119, 120, 121, 122, 149, 150, 151, 152, 153, 154, 155, 156, 157, 146, 147, 148, 158, 159, 160, 161, 144, 145, 137, 138, 139, 140, 141, 142, 143] (by decide +kernel) (by decide +kernel)
set_option maxRecDepth 20000 in
theorem gX8_renewCosts_X2_build : GoodIn wsX8_renewCosts (wsV RX8 202 RX2 yX2_build wsX2_build) := goodIn_app (goodIn_of _ (by decide +kernel)) ggX8_renewCosts_X2_build
theorem dX8_renewCosts_0 : decode cX8_renewCosts 0 = .ok (.aload_n 0, 1) := by decide +kernel
theorem dX8_renewCosts_1 : decode cX8_renewCosts 1 = .ok (.invokevirtual 118, 3) := by decide +kernel
theorem dX8_renewCosts_4 : decode cX8_renewCosts 4 = .ok (.aload_n 0, 1) := by decide +kernel
theorem dX8_renewCosts_5 : decode cX8_renewCosts 5 = .ok (.getfield 86, 3) := by decide +kernel
theorem dX8_renewCosts_8 : decode cX8_renewCosts 8 = .ok (.ifCond .eq 15, 3) := by decide +kernel
theorem dX8_renewCosts_11 : decode cX8_renewCosts 11 = .ok (.aload_n 0, 1) := by decide +kernel
theorem dX8_renewCosts_12 : decode cX8_renewCosts 12 = .ok (.getfield 55, 3) := by decide +kernel
theorem dX8_renewCosts_15 : decode cX8_renewCosts 15 = .ok (.invokevirtual 202, 3) := by decide +kernel
theorem dX8_renewCosts_18 : decode cX8_renewCosts 18 = .ok (.aload_n 0, 1) := by decide +kernel
theorem dX8_renewCosts_19 : decode cX8_renewCosts 19 = .ok (.iconst 0, 1) := by decide +kernel
theorem dX8_renewCosts_20 : decode cX8_renewCosts 20 = .ok (.putfield 86, 3) := by decide +kernel
theorem dX8_renewCosts_23 : decode cX8_renewCosts 23 = .ok (.return_, 1) := by decide +kernel
set_option maxRecDepth 20000 in
theorem ggX8_addStep_X2_lengthAt : GoodIn wsX8_addStep wsX2_lengthAt := goodIn_r _ [10, 11, 12, 13, 14, 15, 16, 17, 18, 146, 147, 148, 149, 150, 151, 152, 153, 154, 155, 156] (by decide +kernel) (by decide +kernel)
set_option maxRecDepth 20000 in
theorem gX8_addStep_X2_lengthAt : GoodIn wsX8_addStep (wsV RX8 203 RX2 yX2_lengthAt wsX2_lengthAt) := goodIn_app (goodIn_of _ (by decide +kernel)) ggX8_addStep_X2_lengthAt
set_option maxRecDepth 20000 in
theorem ggX8_addStep_X8_longestStep : GoodIn wsX8_addStep wsX8_longestStep := goodIn_r _ [23, 5, 24, 25, 26, 27, 28, 29, 30, 31, 14, 15, 16, 17, 18, 132, 133, 134, 135, 136, 137, 138, 139, 140, 141, 142, 143, 144, 145, 157, 158, 159, 160, 161, 162, 163, 155, 156] (by decide +kernel) (by decide +kernel)
set_option maxRecDepth 20000 in
theorem gX8_addStep_X8_longestStep : GoodIn wsX8_addStep (wsV RX8 206 RX8 yX8_longestStep wsX8_longestStep) := goodIn_app (goodIn_of _ (by decide +kernel)) ggX8_addStep_X8_longestStep
set_option maxRecDepth 20000 in
theorem ggX8_addStep_X1_get : GoodIn wsX8_addStep wsX1_get := goodIn_r _ [35, 18, 36, 155, 156] (by decide +kernel) (by decide +kernel)
set_option maxRecDepth 20000 in
theorem gX8_addStep_X1_get : GoodIn wsX8_addStep (wsV RX8 194 RX1 yX1_get wsX1_get) := goodIn_app (goodIn_of _ (by decide +kernel)) ggX8_addStep_X1_get
set_option maxRecDepth 20000 in
theorem ggX8_addStep_X7_ofByte : GoodIn wsX8_addStep wsX7_ofByte := goodIn_r _ [41, 42, 164, 165, 166, 167] (by decide +kernel) (by decide +kernel)
set_option maxRecDepth 20000 in
theorem gX8_addStep_X7_ofByte : GoodIn wsX8_addStep (wsV RX8 209 RX7 yX7_ofByte wsX7_ofByte) := goodIn_app (goodIn_of _ (by decide +kernel)) ggX8_addStep_X7_ofByte
set_option maxRecDepth 20000 in
theorem ggX8_addStep_X6_addByte : GoodIn wsX8_addStep wsX6_addByte := goodIn_r _ [47, 48, 49, 50, 51, 46, 52, 53, 54, 55, 56, 57, 168, 169, 170, 171, 172, 173, 174, 175, 176, 177] (by decide +kernel) (by decide +kernel)
set_option maxRecDepth 20000 in
theorem gX8_addStep_X6_addByte : GoodIn wsX8_addStep (wsV RX8 212 RX6 yX6_addByte wsX6_addByte) := goodIn_app (goodIn_of _ (by decide +kernel)) ggX8_addStep_X6_addByte
set_option maxRecDepth 20000 in
theorem ggX8_addStep_X2_distanceAt : GoodIn wsX8_addStep wsX2_distanceAt := goodIn_r _ [61, 62, 63, 64, 65, 7, 8, 9, 10, 11, 12, 13, 14, 15, 16, 17, 18, 66, 67, 68, 40, 69, 70, 71, 72, 73, 74, 75, 76, 77, 27, 78, 79, 80, 81, 82, 83, 29, 84, 85, 86, 87, 88, 89, 90, 91, 92, 93, 94, 95, 96, 97, 98, 99, 36, 146, 147, 148, 149, 150, 151, 152, 153, 154, 155, 156, 164, 165, 166, 167, 157, 158, 159, 160, 161, 162, 163, 178, 179, 180] (by decide +kernel) (by decide +kernel)
set_option maxRecDepth 20000 in
theorem gX8_addStep_X2_distanceAt : GoodIn wsX8_addStep (wsV RX8 216 RX2 yX2_distanceAt wsX2_distanceAt) := goodIn_app (goodIn_of _ (by decide +kernel)) ggX8_addStep_X2_distanceAt
set_option maxRecDepth 20000 in
theorem ggX8_addStep_X3_nearestAt : GoodIn wsX8_addStep wsX3_nearestAt := goodIn_r _ [103, 29, 104, 31, 14, 15, 16, 17, 18, 157, 158, 159, 160, 161, 162, 163, 155, 156] (by decide +kernel) (by decide +kernel)
set_option maxRecDepth 20000 in
theorem gX8_addStep_X3_nearestAt : GoodIn wsX8_addStep (wsV RX8 169 RX3 yX3_nearestAt wsX3_nearestAt) := goodIn_app (goodIn_of _ (by decide +kernel)) ggX8_addStep_X3_nearestAt
set_option maxRecDepth 20000 in
theorem ggX8_addStep_X7_ofMatch : GoodIn wsX8_addStep wsX7_ofMatch := goodIn_r _ [108, 109, 110, 111, 40, 112, 113, 114, 71, 72, 73, 74, 115, 22, 116, 117, 67, 68, 69, 70, 164, 165, 166, 167] (by decide +kernel) (by decide +kernel)
set_option maxRecDepth 20000 in
theorem gX8_addStep_X7_ofMatch : GoodIn wsX8_addStep (wsV RX8 219 RX7 yX7_ofMatch wsX7_ofMatch) := goodIn_app (goodIn_of _ (by decide +kernel)) ggX8_addStep_X7_ofMatch
set_option maxRecDepth 20000 in
theorem ggX8_addStep_X6_addMatch : GoodIn wsX8_addStep wsX6_addMatch := goodIn_r _ [121, 122, 48, 49, 50, 51, 46, 52, 53, 54, 55, 56, 57, 123, 124, 125, 126, 127, 128, 129, 130, 131, 115, 22, 116, 168, 169, 170, 171, 172, 173, 174, 175, 176, 177] (by decide +kernel) (by decide +kernel)
set_option maxRecDepth 20000 in
theorem gX8_addStep_X6_addMatch : GoodIn wsX8_addStep (wsV RX8 222 RX6 yX6_addMatch wsX6_addMatch) := goodIn_app (goodIn_of _ (by decide +kernel)) ggX8_addStep_X6_addMatch
theorem dX8_addStep_0 : decode cX8_addStep 0 = .ok (.iload_n 1, 1) := by decide +kernel
theorem dX8_addStep_1 : decode cX8_addStep 1 = .ok (.ifCond .ne 14, 3) := by decide +kernel
theorem dX8_addStep_4 : decode cX8_addStep 4 = .ok (.aload_n 0, 1) := by decide +kernel
theorem dX8_addStep_5 : decode cX8_addStep 5 = .ok (.getfield 55, 3) := by decide +kernel
theorem dX8_addStep_8 : decode cX8_addStep 8 = .ok (.iload_n 2, 1) := by decide +kernel
theorem dX8_addStep_9 : decode cX8_addStep 9 = .ok (.invokevirtual 203, 3) := by decide +kernel
theorem dX8_addStep_12 : decode cX8_addStep 12 = .ok (.goto 9, 3) := by decide +kernel
theorem dX8_addStep_15 : decode cX8_addStep 15 = .ok (.aload_n 0, 1) := by decide +kernel
theorem dX8_addStep_16 : decode cX8_addStep 16 = .ok (.iload_n 1, 1) := by decide +kernel
theorem dX8_addStep_17 : decode cX8_addStep 17 = .ok (.iload_n 2, 1) := by decide +kernel
theorem dX8_addStep_18 : decode cX8_addStep 18 = .ok (.invokevirtual 206, 3) := by decide +kernel
theorem dX8_addStep_21 : decode cX8_addStep 21 = .ok (.istore_n 3, 1) := by decide +kernel
theorem dX8_addStep_22 : decode cX8_addStep 22 = .ok (.iload_n 3, 1) := by decide +kernel
theorem dX8_addStep_23 : decode cX8_addStep 23 = .ok (.iconst 1, 1) := by decide +kernel
theorem dX8_addStep_24 : decode cX8_addStep 24 = .ok (.if_icmp .gt 28, 3) := by decide +kernel
theorem dX8_addStep_27 : decode cX8_addStep 27 = .ok (.aload_n 0, 1) := by decide +kernel
theorem dX8_addStep_28 : decode cX8_addStep 28 = .ok (.getfield 62, 3) := by decide +kernel
theorem dX8_addStep_31 : decode cX8_addStep 31 = .ok (.iload_n 2, 1) := by decide +kernel
theorem dX8_addStep_32 : decode cX8_addStep 32 = .ok (.aload_n 0, 1) := by decide +kernel
theorem dX8_addStep_33 : decode cX8_addStep 33 = .ok (.getfield 37, 3) := by decide +kernel
theorem dX8_addStep_36 : decode cX8_addStep 36 = .ok (.aload_n 0, 1) := by decide +kernel
theorem dX8_addStep_37 : decode cX8_addStep 37 = .ok (.getfield 14, 3) := by decide +kernel
theorem dX8_addStep_40 : decode cX8_addStep 40 = .ok (.iload_n 2, 1) := by decide +kernel
theorem dX8_addStep_41 : decode cX8_addStep 41 = .ok (.invokevirtual 194, 3) := by decide +kernel
theorem dX8_addStep_44 : decode cX8_addStep 44 = .ok (.invokevirtual 209, 3) := by decide +kernel
theorem dX8_addStep_47 : decode cX8_addStep 47 = .ok (.invokevirtual 212, 3) := by decide +kernel
theorem dX8_addStep_50 : decode cX8_addStep 50 = .ok (.iconst 1, 1) := by decide +kernel
theorem dX8_addStep_51 : decode cX8_addStep 51 = .ok (.ireturn, 1) := by decide +kernel
theorem dX8_addStep_52 : decode cX8_addStep 52 = .ok (.iload_n 1, 1) := by decide +kernel
theorem dX8_addStep_53 : decode cX8_addStep 53 = .ok (.ifCond .ne 14, 3) := by decide +kernel
theorem dX8_addStep_56 : decode cX8_addStep 56 = .ok (.aload_n 0, 1) := by decide +kernel
theorem dX8_addStep_57 : decode cX8_addStep 57 = .ok (.getfield 55, 3) := by decide +kernel
theorem dX8_addStep_60 : decode cX8_addStep 60 = .ok (.iload_n 2, 1) := by decide +kernel
theorem dX8_addStep_61 : decode cX8_addStep 61 = .ok (.invokevirtual 216, 3) := by decide +kernel
theorem dX8_addStep_64 : decode cX8_addStep 64 = .ok (.goto 11, 3) := by decide +kernel
theorem dX8_addStep_67 : decode cX8_addStep 67 = .ok (.aload_n 0, 1) := by decide +kernel
theorem dX8_addStep_68 : decode cX8_addStep 68 = .ok (.getfield 46, 3) := by decide +kernel
theorem dX8_addStep_71 : decode cX8_addStep 71 = .ok (.iload_n 2, 1) := by decide +kernel
theorem dX8_addStep_72 : decode cX8_addStep 72 = .ok (.invokevirtual 169, 3) := by decide +kernel
theorem dX8_addStep_75 : decode cX8_addStep 75 = .ok (.istore 4, 2) := by decide +kernel
theorem dX8_addStep_77 : decode cX8_addStep 77 = .ok (.aload_n 0, 1) := by decide +kernel
theorem dX8_addStep_78 : decode cX8_addStep 78 = .ok (.getfield 62, 3) := by decide +kernel
theorem dX8_addStep_81 : decode cX8_addStep 81 = .ok (.iload_n 2, 1) := by decide +kernel
theorem dX8_addStep_82 : decode cX8_addStep 82 = .ok (.iload_n 3, 1) := by decide +kernel
theorem dX8_addStep_83 : decode cX8_addStep 83 = .ok (.iload 4, 2) := by decide +kernel
theorem dX8_addStep_85 : decode cX8_addStep 85 = .ok (.aload_n 0, 1) := by decide +kernel
theorem dX8_addStep_86 : decode cX8_addStep 86 = .ok (.getfield 37, 3) := by decide +kernel
theorem dX8_addStep_89 : decode cX8_addStep 89 = .ok (.iload_n 3, 1) := by decide +kernel
theorem dX8_addStep_90 : decode cX8_addStep 90 = .ok (.iload 4, 2) := by decide +kernel
theorem dX8_addStep_92 : decode cX8_addStep 92 = .ok (.invokevirtual 219, 3) := by decide +kernel
theorem dX8_addStep_95 : decode cX8_addStep 95 = .ok (.invokevirtual 222, 3) := by decide +kernel
theorem dX8_addStep_98 : decode cX8_addStep 98 = .ok (.iload_n 3, 1) := by decide +kernel
theorem dX8_addStep_99 : decode cX8_addStep 99 = .ok (.ireturn, 1) := by decide +kernel
set_option maxRecDepth 20000 in
theorem ggX8_longestStep_X3_longestAt : GoodIn wsX8_longestStep wsX3_longestAt := goodIn_r _ [6, 7, 8, 9, 10, 11, 12, 13, 14, 29, 30, 31, 32, 33, 34, 35, 36, 37] (by decide +kernel) (by decide +kernel)
set_option maxRecDepth 20000 in
theorem gX8_longestStep_X3_longestAt : GoodIn wsX8_longestStep (wsV RX8 166 RX3 yX3_longestAt wsX3_longestAt) := goodIn_app (goodIn_of _ (by decide +kernel)) ggX8_longestStep_X3_longestAt
theorem dX8_longestStep_0 : decode cX8_longestStep 0 = .ok (.aload_n 0, 1) := by decide +kernel
theorem dX8_longestStep_1 : decode cX8_longestStep 1 = .ok (.getfield 46, 3) := by decide +kernel
theorem dX8_longestStep_4 : decode cX8_longestStep 4 = .ok (.iload_n 2, 1) := by decide +kernel
theorem dX8_longestStep_5 : decode cX8_longestStep 5 = .ok (.invokevirtual 166, 3) := by decide +kernel
theorem dX8_longestStep_8 : decode cX8_longestStep 8 = .ok (.istore_n 3, 1) := by decide +kernel
theorem dX8_longestStep_9 : decode cX8_longestStep 9 = .ok (.iload_n 1, 1) := by decide +kernel
theorem dX8_longestStep_10 : decode cX8_longestStep 10 = .ok (.iconst 2, 1) := by decide +kernel
theorem dX8_longestStep_11 : decode cX8_longestStep 11 = .ok (.if_icmp .ne 21, 3) := by decide +kernel
theorem dX8_longestStep_14 : decode cX8_longestStep 14 = .ok (.iload_n 3, 1) := by decide +kernel
theorem dX8_longestStep_15 : decode cX8_longestStep 15 = .ok (.aload_n 0, 1) := by decide +kernel
theorem dX8_longestStep_16 : decode cX8_longestStep 16 = .ok (.getfield 46, 3) := by decide +kernel
theorem dX8_longestStep_19 : decode cX8_longestStep 19 = .ok (.iload_n 2, 1) := by decide +kernel
theorem dX8_longestStep_20 : decode cX8_longestStep 20 = .ok (.iconst 1, 1) := by decide +kernel
theorem dX8_longestStep_21 : decode cX8_longestStep 21 = .ok (.iadd, 1) := by decide +kernel
theorem dX8_longestStep_22 : decode cX8_longestStep 22 = .ok (.invokevirtual 166, 3) := by decide +kernel
theorem dX8_longestStep_25 : decode cX8_longestStep 25 = .ok (.if_icmp .ge 7, 3) := by decide +kernel
theorem dX8_longestStep_28 : decode cX8_longestStep 28 = .ok (.iconst 1, 1) := by decide +kernel
theorem dX8_longestStep_29 : decode cX8_longestStep 29 = .ok (.goto 4, 3) := by decide +kernel
theorem dX8_longestStep_32 : decode cX8_longestStep 32 = .ok (.iconst 0, 1) := by decide +kernel
theorem dX8_longestStep_33 : decode cX8_longestStep 33 = .ok (.istore 4, 2) := by decide +kernel
theorem dX8_longestStep_35 : decode cX8_longestStep 35 = .ok (.iload 4, 2) := by decide +kernel
theorem dX8_longestStep_37 : decode cX8_longestStep 37 = .ok (.ifCond .eq 7, 3) := by decide +kernel
theorem dX8_longestStep_40 : decode cX8_longestStep 40 = .ok (.iconst 1, 1) := by decide +kernel
theorem dX8_longestStep_41 : decode cX8_longestStep 41 = .ok (.goto 4, 3) := by decide +kernel
theorem dX8_longestStep_44 : decode cX8_longestStep 44 = .ok (.iload_n 3, 1) := by decide +kernel
theorem dX8_longestStep_45 : decode cX8_longestStep 45 = .ok (.ireturn, 1) := by decide +kernel
theorem dX8_classOf_0 : decode cX8_classOf 0 = .ok (.iconst 0, 1) := by decide +kernel
theorem dX8_classOf_1 : decode cX8_classOf 1 = .ok (.istore_n 1, 1) := by decide +kernel
theorem dX8_classOf_2 : decode cX8_classOf 2 = .ok (.iconst 1, 1) := by decide +kernel
theorem dX8_classOf_3 : decode cX8_classOf 3 = .ok (.istore_n 2, 1) := by decide +kernel
theorem dX8_classOf_4 : decode cX8_classOf 4 = .ok (.iload_n 2, 1) := by decide +kernel
theorem dX8_classOf_5 : decode cX8_classOf 5 = .ok (.bipush 31, 2) := by decide +kernel
theorem dX8_classOf_7 : decode cX8_classOf 7 = .ok (.if_icmp .ge 17, 3) := by decide +kernel
theorem dX8_classOf_10 : decode cX8_classOf 10 = .ok (.iload_n 0, 1) := by decide +kernel
theorem dX8_classOf_11 : decode cX8_classOf 11 = .ok (.iload_n 2, 1) := by decide +kernel
theorem dX8_classOf_12 : decode cX8_classOf 12 = .ok (.ishr, 1) := by decide +kernel
theorem dX8_classOf_13 : decode cX8_classOf 13 = .ok (.ifCond .le 11, 3) := by decide +kernel
theorem dX8_classOf_16 : decode cX8_classOf 16 = .ok (.iload_n 2, 1) := by decide +kernel
theorem dX8_classOf_17 : decode cX8_classOf 17 = .ok (.istore_n 1, 1) := by decide +kernel
theorem dX8_classOf_18 : decode cX8_classOf 18 = .ok (.iinc 2 1, 3) := by decide +kernel
theorem dX8_classOf_21 : decode cX8_classOf 21 = .ok (.goto (-17), 3) := by decide +kernel
theorem dX8_classOf_24 : decode cX8_classOf 24 = .ok (.iload_n 1, 1) := by decide +kernel
theorem dX8_classOf_25 : decode cX8_classOf 25 = .ok (.ireturn, 1) := by decide +kernel
