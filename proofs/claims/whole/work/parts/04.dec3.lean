theorem dX3_init_0 : decode cX3_init 0 = .ok (.aload_n 0, 1) := by decide +kernel
theorem dX3_init_1 : decode cX3_init 1 = .ok (.invokespecial 1, 3) := by decide +kernel
theorem dX3_init_4 : decode cX3_init 4 = .ok (.aload_n 0, 1) := by decide +kernel
theorem dX3_init_5 : decode cX3_init 5 = .ok (.sipush 4096, 3) := by decide +kernel
theorem dX3_init_8 : decode cX3_init 8 = .ok (.newarray .int, 2) := by decide +kernel
theorem dX3_init_10 : decode cX3_init 10 = .ok (.putfield 7, 3) := by decide +kernel
theorem dX3_init_13 : decode cX3_init 13 = .ok (.aload_n 0, 1) := by decide +kernel
theorem dX3_init_14 : decode cX3_init 14 = .ok (.bipush 11, 2) := by decide +kernel
theorem dX3_init_16 : decode cX3_init 16 = .ok (.newarray .int, 2) := by decide +kernel
theorem dX3_init_18 : decode cX3_init 18 = .ok (.putfield 13, 3) := by decide +kernel
theorem dX3_init_21 : decode cX3_init 21 = .ok (.aload_n 0, 1) := by decide +kernel
theorem dX3_init_22 : decode cX3_init 22 = .ok (.sipush 400, 3) := by decide +kernel
theorem dX3_init_25 : decode cX3_init 25 = .ok (.newarray .int, 2) := by decide +kernel
theorem dX3_init_27 : decode cX3_init 27 = .ok (.putfield 16, 3) := by decide +kernel
theorem dX3_init_30 : decode cX3_init 30 = .ok (.aload_n 0, 1) := by decide +kernel
theorem dX3_init_31 : decode cX3_init 31 = .ok (.bipush 64, 2) := by decide +kernel
theorem dX3_init_33 : decode cX3_init 33 = .ok (.newarray .int, 2) := by decide +kernel
theorem dX3_init_35 : decode cX3_init 35 = .ok (.putfield 19, 3) := by decide +kernel
theorem dX3_init_38 : decode cX3_init 38 = .ok (.aload_n 0, 1) := by decide +kernel
theorem dX3_init_39 : decode cX3_init 39 = .ok (.bipush 64, 2) := by decide +kernel
theorem dX3_init_41 : decode cX3_init 41 = .ok (.newarray .int, 2) := by decide +kernel
theorem dX3_init_43 : decode cX3_init 43 = .ok (.putfield 22, 3) := by decide +kernel
theorem dX3_init_46 : decode cX3_init 46 = .ok (.aload_n 0, 1) := by decide +kernel
theorem dX3_init_47 : decode cX3_init 47 = .ok (.iconst 0, 1) := by decide +kernel
theorem dX3_init_48 : decode cX3_init 48 = .ok (.putfield 25, 3) := by decide +kernel
theorem dX3_init_51 : decode cX3_init 51 = .ok (.return_, 1) := by decide +kernel
theorem dX3_feed_0 : decode cX3_feed 0 = .ok (.iload_n 1, 1) := by decide +kernel
theorem dX3_feed_1 : decode cX3_feed 1 = .ok (.ifCond .lt 20, 3) := by decide +kernel
theorem dX3_feed_4 : decode cX3_feed 4 = .ok (.iload_n 1, 1) := by decide +kernel
theorem dX3_feed_5 : decode cX3_feed 5 = .ok (.sipush 255, 3) := by decide +kernel
theorem dX3_feed_8 : decode cX3_feed 8 = .ok (.if_icmp .gt 13, 3) := by decide +kernel
theorem dX3_feed_11 : decode cX3_feed 11 = .ok (.aload_n 0, 1) := by decide +kernel
theorem dX3_feed_12 : decode cX3_feed 12 = .ok (.getfield 25, 3) := by decide +kernel
theorem dX3_feed_15 : decode cX3_feed 15 = .ok (.sipush 400, 3) := by decide +kernel
theorem dX3_feed_18 : decode cX3_feed 18 = .ok (.if_icmp .ne 5, 3) := by decide +kernel
theorem dX3_feed_21 : decode cX3_feed 21 = .ok (.iconst 0, 1) := by decide +kernel
theorem dX3_feed_22 : decode cX3_feed 22 = .ok (.ireturn, 1) := by decide +kernel
theorem dX3_feed_23 : decode cX3_feed 23 = .ok (.aload_n 0, 1) := by decide +kernel
theorem dX3_feed_24 : decode cX3_feed 24 = .ok (.getfield 16, 3) := by decide +kernel
theorem dX3_feed_27 : decode cX3_feed 27 = .ok (.aload_n 0, 1) := by decide +kernel
theorem dX3_feed_28 : decode cX3_feed 28 = .ok (.getfield 25, 3) := by decide +kernel
theorem dX3_feed_31 : decode cX3_feed 31 = .ok (.iload_n 1, 1) := by decide +kernel
theorem dX3_feed_32 : decode cX3_feed 32 = .ok (.iastore, 1) := by decide +kernel
theorem dX3_feed_33 : decode cX3_feed 33 = .ok (.aload_n 0, 1) := by decide +kernel
theorem dX3_feed_34 : decode cX3_feed 34 = .ok (.dup, 1) := by decide +kernel
theorem dX3_feed_35 : decode cX3_feed 35 = .ok (.getfield 25, 3) := by decide +kernel
theorem dX3_feed_38 : decode cX3_feed 38 = .ok (.iconst 1, 1) := by decide +kernel
theorem dX3_feed_39 : decode cX3_feed 39 = .ok (.iadd, 1) := by decide +kernel
theorem dX3_feed_40 : decode cX3_feed 40 = .ok (.putfield 25, 3) := by decide +kernel
theorem dX3_feed_43 : decode cX3_feed 43 = .ok (.iconst 1, 1) := by decide +kernel
theorem dX3_feed_44 : decode cX3_feed 44 = .ok (.ireturn, 1) := by decide +kernel
theorem dX3_waiting_0 : decode cX3_waiting 0 = .ok (.aload_n 0, 1) := by decide +kernel
theorem dX3_waiting_1 : decode cX3_waiting 1 = .ok (.getfield 25, 3) := by decide +kernel
theorem dX3_waiting_4 : decode cX3_waiting 4 = .ok (.aload_n 0, 1) := by decide +kernel
theorem dX3_waiting_5 : decode cX3_waiting 5 = .ok (.getfield 29, 3) := by decide +kernel
theorem dX3_waiting_8 : decode cX3_waiting 8 = .ok (.isub, 1) := by decide +kernel
theorem dX3_waiting_9 : decode cX3_waiting 9 = .ok (.ireturn, 1) := by decide +kernel
theorem dX3_poke_0 : decode cX3_poke 0 = .ok (.iload_n 1, 1) := by decide +kernel
theorem dX3_poke_1 : decode cX3_poke 1 = .ok (.ifCond .lt 10, 3) := by decide +kernel
theorem dX3_poke_4 : decode cX3_poke 4 = .ok (.iload_n 1, 1) := by decide +kernel
theorem dX3_poke_5 : decode cX3_poke 5 = .ok (.sipush 4095, 3) := by decide +kernel
theorem dX3_poke_8 : decode cX3_poke 8 = .ok (.if_icmp .le 5, 3) := by decide +kernel
theorem dX3_poke_11 : decode cX3_poke 11 = .ok (.iconst (-1), 1) := by decide +kernel
theorem dX3_poke_12 : decode cX3_poke 12 = .ok (.ireturn, 1) := by decide +kernel
theorem dX3_poke_13 : decode cX3_poke 13 = .ok (.aload_n 0, 1) := by decide +kernel
theorem dX3_poke_14 : decode cX3_poke 14 = .ok (.getfield 7, 3) := by decide +kernel
theorem dX3_poke_17 : decode cX3_poke 17 = .ok (.iload_n 1, 1) := by decide +kernel
theorem dX3_poke_18 : decode cX3_poke 18 = .ok (.iaload, 1) := by decide +kernel
theorem dX3_poke_19 : decode cX3_poke 19 = .ok (.istore_n 3, 1) := by decide +kernel
theorem dX3_poke_20 : decode cX3_poke 20 = .ok (.aload_n 0, 1) := by decide +kernel
theorem dX3_poke_21 : decode cX3_poke 21 = .ok (.getfield 7, 3) := by decide +kernel
theorem dX3_poke_24 : decode cX3_poke 24 = .ok (.iload_n 1, 1) := by decide +kernel
theorem dX3_poke_25 : decode cX3_poke 25 = .ok (.iload_n 2, 1) := by decide +kernel
theorem dX3_poke_26 : decode cX3_poke 26 = .ok (.sipush 4095, 3) := by decide +kernel
theorem dX3_poke_29 : decode cX3_poke 29 = .ok (.iand, 1) := by decide +kernel
theorem dX3_poke_30 : decode cX3_poke 30 = .ok (.iastore, 1) := by decide +kernel
theorem dX3_poke_31 : decode cX3_poke 31 = .ok (.iload_n 3, 1) := by decide +kernel
theorem dX3_poke_32 : decode cX3_poke 32 = .ok (.ireturn, 1) := by decide +kernel
theorem dX3_peek_0 : decode cX3_peek 0 = .ok (.iload_n 1, 1) := by decide +kernel
theorem dX3_peek_1 : decode cX3_peek 1 = .ok (.ifCond .lt 10, 3) := by decide +kernel
theorem dX3_peek_4 : decode cX3_peek 4 = .ok (.iload_n 1, 1) := by decide +kernel
theorem dX3_peek_5 : decode cX3_peek 5 = .ok (.sipush 4095, 3) := by decide +kernel
theorem dX3_peek_8 : decode cX3_peek 8 = .ok (.if_icmp .le 7, 3) := by decide +kernel
theorem dX3_peek_11 : decode cX3_peek 11 = .ok (.iconst (-1), 1) := by decide +kernel
theorem dX3_peek_12 : decode cX3_peek 12 = .ok (.goto 9, 3) := by decide +kernel
theorem dX3_peek_15 : decode cX3_peek 15 = .ok (.aload_n 0, 1) := by decide +kernel
theorem dX3_peek_16 : decode cX3_peek 16 = .ok (.getfield 7, 3) := by decide +kernel
theorem dX3_peek_19 : decode cX3_peek 19 = .ok (.iload_n 1, 1) := by decide +kernel
theorem dX3_peek_20 : decode cX3_peek 20 = .ok (.iaload, 1) := by decide +kernel
theorem dX3_peek_21 : decode cX3_peek 21 = .ok (.ireturn, 1) := by decide +kernel
theorem dX3_set_0 : decode cX3_set 0 = .ok (.iload_n 1, 1) := by decide +kernel
theorem dX3_set_1 : decode cX3_set 1 = .ok (.ifCond .lt 8, 3) := by decide +kernel
theorem dX3_set_4 : decode cX3_set 4 = .ok (.iload_n 1, 1) := by decide +kernel
theorem dX3_set_5 : decode cX3_set 5 = .ok (.iconst 4, 1) := by decide +kernel
theorem dX3_set_6 : decode cX3_set 6 = .ok (.if_icmp .le 5, 3) := by decide +kernel
theorem dX3_set_9 : decode cX3_set 9 = .ok (.iconst 0, 1) := by decide +kernel
theorem dX3_set_10 : decode cX3_set 10 = .ok (.ireturn, 1) := by decide +kernel
theorem dX3_set_11 : decode cX3_set 11 = .ok (.aload_n 0, 1) := by decide +kernel
theorem dX3_set_12 : decode cX3_set 12 = .ok (.getfield 13, 3) := by decide +kernel
theorem dX3_set_15 : decode cX3_set 15 = .ok (.iload_n 1, 1) := by decide +kernel
theorem dX3_set_16 : decode cX3_set 16 = .ok (.iload_n 1, 1) := by decide +kernel
theorem dX3_set_17 : decode cX3_set 17 = .ok (.iconst 1, 1) := by decide +kernel
theorem dX3_set_18 : decode cX3_set 18 = .ok (.if_icmp .ne 9, 3) := by decide +kernel
theorem dX3_set_21 : decode cX3_set 21 = .ok (.iload_n 2, 1) := by decide +kernel
theorem dX3_set_22 : decode cX3_set 22 = .ok (.iconst 1, 1) := by decide +kernel
theorem dX3_set_23 : decode cX3_set 23 = .ok (.iand, 1) := by decide +kernel
theorem dX3_set_24 : decode cX3_set 24 = .ok (.goto 8, 3) := by decide +kernel
theorem dX3_set_27 : decode cX3_set 27 = .ok (.iload_n 2, 1) := by decide +kernel
theorem dX3_set_28 : decode cX3_set 28 = .ok (.sipush 4095, 3) := by decide +kernel
theorem dX3_set_31 : decode cX3_set 31 = .ok (.iand, 1) := by decide +kernel
theorem dX3_set_32 : decode cX3_set 32 = .ok (.iastore, 1) := by decide +kernel
theorem dX3_set_33 : decode cX3_set 33 = .ok (.iconst 1, 1) := by decide +kernel
theorem dX3_set_34 : decode cX3_set 34 = .ok (.ireturn, 1) := by decide +kernel
theorem dX3_register_0 : decode cX3_register 0 = .ok (.iload_n 1, 1) := by decide +kernel
theorem dX3_register_1 : decode cX3_register 1 = .ok (.ifCond .lt 9, 3) := by decide +kernel
theorem dX3_register_4 : decode cX3_register 4 = .ok (.iload_n 1, 1) := by decide +kernel
theorem dX3_register_5 : decode cX3_register 5 = .ok (.bipush 10, 2) := by decide +kernel
theorem dX3_register_7 : decode cX3_register 7 = .ok (.if_icmp .le 7, 3) := by decide +kernel
theorem dX3_register_10 : decode cX3_register 10 = .ok (.iconst (-1), 1) := by decide +kernel
theorem dX3_register_11 : decode cX3_register 11 = .ok (.goto 9, 3) := by decide +kernel
theorem dX3_register_14 : decode cX3_register 14 = .ok (.aload_n 0, 1) := by decide +kernel
theorem dX3_register_15 : decode cX3_register 15 = .ok (.getfield 13, 3) := by decide +kernel
theorem dX3_register_18 : decode cX3_register 18 = .ok (.iload_n 1, 1) := by decide +kernel
theorem dX3_register_19 : decode cX3_register 19 = .ok (.iaload, 1) := by decide +kernel
theorem dX3_register_20 : decode cX3_register 20 = .ok (.ireturn, 1) := by decide +kernel
theorem dX3_go_0 : decode cX3_go 0 = .ok (.aload_n 0, 1) := by decide +kernel
theorem dX3_go_1 : decode cX3_go 1 = .ok (.getfield 13, 3) := by decide +kernel
theorem dX3_go_4 : decode cX3_go 4 = .ok (.bipush 10, 2) := by decide +kernel
theorem dX3_go_6 : decode cX3_go 6 = .ok (.iaload, 1) := by decide +kernel
theorem dX3_go_7 : decode cX3_go 7 = .ok (.iconst 1, 1) := by decide +kernel
theorem dX3_go_8 : decode cX3_go 8 = .ok (.if_icmp .ne 7, 3) := by decide +kernel
theorem dX3_go_11 : decode cX3_go 11 = .ok (.iconst 1, 1) := by decide +kernel
theorem dX3_go_12 : decode cX3_go 12 = .ok (.goto 4, 3) := by decide +kernel
theorem dX3_go_15 : decode cX3_go 15 = .ok (.iconst 0, 1) := by decide +kernel
theorem dX3_go_16 : decode cX3_go 16 = .ok (.istore_n 1, 1) := by decide +kernel
theorem dX3_go_17 : decode cX3_go 17 = .ok (.aload_n 0, 1) := by decide +kernel
theorem dX3_go_18 : decode cX3_go 18 = .ok (.getfield 13, 3) := by decide +kernel
theorem dX3_go_21 : decode cX3_go 21 = .ok (.bipush 10, 2) := by decide +kernel
theorem dX3_go_23 : decode cX3_go 23 = .ok (.iconst 0, 1) := by decide +kernel
theorem dX3_go_24 : decode cX3_go 24 = .ok (.iastore, 1) := by decide +kernel
theorem dX3_go_25 : decode cX3_go 25 = .ok (.iload_n 1, 1) := by decide +kernel
theorem dX3_go_26 : decode cX3_go 26 = .ok (.ireturn, 1) := by decide +kernel
theorem dX3_has_0 : decode cX3_has 0 = .ok (.iload_n 0, 1) := by decide +kernel
theorem dX3_has_1 : decode cX3_has 1 = .ok (.iload_n 1, 1) := by decide +kernel
theorem dX3_has_2 : decode cX3_has 2 = .ok (.idiv, 1) := by decide +kernel
theorem dX3_has_3 : decode cX3_has 3 = .ok (.iconst 2, 1) := by decide +kernel
theorem dX3_has_4 : decode cX3_has 4 = .ok (.irem, 1) := by decide +kernel
theorem dX3_has_5 : decode cX3_has 5 = .ok (.iconst 1, 1) := by decide +kernel
theorem dX3_has_6 : decode cX3_has 6 = .ok (.if_icmp .ne 7, 3) := by decide +kernel
theorem dX3_has_9 : decode cX3_has 9 = .ok (.iconst 1, 1) := by decide +kernel
theorem dX3_has_10 : decode cX3_has 10 = .ok (.goto 4, 3) := by decide +kernel
theorem dX3_has_13 : decode cX3_has 13 = .ok (.iconst 0, 1) := by decide +kernel
theorem dX3_has_14 : decode cX3_has 14 = .ok (.ireturn, 1) := by decide +kernel
theorem dX3_after_0 : decode cX3_after 0 = .ok (.iload_n 0, 1) := by decide +kernel
theorem dX3_after_1 : decode cX3_after 1 = .ok (.sipush 4095, 3) := by decide +kernel
theorem dX3_after_4 : decode cX3_after 4 = .ok (.if_icmp .ne 7, 3) := by decide +kernel
theorem dX3_after_7 : decode cX3_after 7 = .ok (.iconst 0, 1) := by decide +kernel
theorem dX3_after_8 : decode cX3_after 8 = .ok (.goto 6, 3) := by decide +kernel
theorem dX3_after_11 : decode cX3_after 11 = .ok (.iload_n 0, 1) := by decide +kernel
theorem dX3_after_12 : decode cX3_after 12 = .ok (.iconst 1, 1) := by decide +kernel
theorem dX3_after_13 : decode cX3_after 13 = .ok (.iadd, 1) := by decide +kernel
theorem dX3_after_14 : decode cX3_after 14 = .ok (.ireturn, 1) := by decide +kernel
theorem dX3_skip_0 : decode cX3_skip 0 = .ok (.aload_n 0, 1) := by decide +kernel
theorem dX3_skip_1 : decode cX3_skip 1 = .ok (.getfield 13, 3) := by decide +kernel
theorem dX3_skip_4 : decode cX3_skip 4 = .ok (.iconst 2, 1) := by decide +kernel
theorem dX3_skip_5 : decode cX3_skip 5 = .ok (.aload_n 0, 1) := by decide +kernel
theorem dX3_skip_6 : decode cX3_skip 6 = .ok (.getfield 13, 3) := by decide +kernel
theorem dX3_skip_9 : decode cX3_skip 9 = .ok (.iconst 2, 1) := by decide +kernel
theorem dX3_skip_10 : decode cX3_skip 10 = .ok (.iaload, 1) := by decide +kernel
theorem dX3_skip_11 : decode cX3_skip 11 = .ok (.invokestatic 32, 3) := by decide +kernel
theorem dX3_skip_14 : decode cX3_skip 14 = .ok (.iastore, 1) := by decide +kernel
theorem dX3_skip_15 : decode cX3_skip 15 = .ok (.aload_n 0, 1) := by decide +kernel
theorem dX3_skip_16 : decode cX3_skip 16 = .ok (.dup, 1) := by decide +kernel
theorem dX3_skip_17 : decode cX3_skip 17 = .ok (.getfield 36, 3) := by decide +kernel
theorem dX3_skip_20 : decode cX3_skip 20 = .ok (.iconst 1, 1) := by decide +kernel
theorem dX3_skip_21 : decode cX3_skip 21 = .ok (.iadd, 1) := by decide +kernel
theorem dX3_skip_22 : decode cX3_skip 22 = .ok (.putfield 36, 3) := by decide +kernel
theorem dX3_skip_25 : decode cX3_skip 25 = .ok (.return_, 1) := by decide +kernel
theorem dX3_advance_0 : decode cX3_advance 0 = .ok (.aload_n 0, 1) := by decide +kernel
theorem dX3_advance_1 : decode cX3_advance 1 = .ok (.getfield 13, 3) := by decide +kernel
theorem dX3_advance_4 : decode cX3_advance 4 = .ok (.bipush 7, 2) := by decide +kernel
theorem dX3_advance_6 : decode cX3_advance 6 = .ok (.iconst 0, 1) := by decide +kernel
theorem dX3_advance_7 : decode cX3_advance 7 = .ok (.iastore, 1) := by decide +kernel
theorem dX3_advance_8 : decode cX3_advance 8 = .ok (.aload_n 0, 1) := by decide +kernel
theorem dX3_advance_9 : decode cX3_advance 9 = .ok (.getfield 29, 3) := by decide +kernel
theorem dX3_advance_12 : decode cX3_advance 12 = .ok (.aload_n 0, 1) := by decide +kernel
theorem dX3_advance_13 : decode cX3_advance 13 = .ok (.getfield 25, 3) := by decide +kernel
theorem dX3_advance_16 : decode cX3_advance 16 = .ok (.if_icmp .ne 4, 3) := by decide +kernel
theorem dX3_advance_19 : decode cX3_advance 19 = .ok (.return_, 1) := by decide +kernel
theorem dX3_advance_20 : decode cX3_advance 20 = .ok (.aload_n 0, 1) := by decide +kernel
theorem dX3_advance_21 : decode cX3_advance 21 = .ok (.getfield 13, 3) := by decide +kernel
theorem dX3_advance_24 : decode cX3_advance 24 = .ok (.bipush 8, 2) := by decide +kernel
theorem dX3_advance_26 : decode cX3_advance 26 = .ok (.aload_n 0, 1) := by decide +kernel
theorem dX3_advance_27 : decode cX3_advance 27 = .ok (.getfield 16, 3) := by decide +kernel
theorem dX3_advance_30 : decode cX3_advance 30 = .ok (.aload_n 0, 1) := by decide +kernel
theorem dX3_advance_31 : decode cX3_advance 31 = .ok (.getfield 29, 3) := by decide +kernel
theorem dX3_advance_34 : decode cX3_advance 34 = .ok (.iaload, 1) := by decide +kernel
theorem dX3_advance_35 : decode cX3_advance 35 = .ok (.iastore, 1) := by decide +kernel
theorem dX3_advance_36 : decode cX3_advance 36 = .ok (.aload_n 0, 1) := by decide +kernel
theorem dX3_advance_37 : decode cX3_advance 37 = .ok (.dup, 1) := by decide +kernel
theorem dX3_advance_38 : decode cX3_advance 38 = .ok (.getfield 29, 3) := by decide +kernel
theorem dX3_advance_41 : decode cX3_advance 41 = .ok (.iconst 1, 1) := by decide +kernel
theorem dX3_advance_42 : decode cX3_advance 42 = .ok (.iadd, 1) := by decide +kernel
theorem dX3_advance_43 : decode cX3_advance 43 = .ok (.putfield 29, 3) := by decide +kernel
theorem dX3_advance_46 : decode cX3_advance 46 = .ok (.aload_n 0, 1) := by decide +kernel
theorem dX3_advance_47 : decode cX3_advance 47 = .ok (.getfield 13, 3) := by decide +kernel
theorem dX3_advance_50 : decode cX3_advance 50 = .ok (.bipush 7, 2) := by decide +kernel
theorem dX3_advance_52 : decode cX3_advance 52 = .ok (.iconst 1, 1) := by decide +kernel
theorem dX3_advance_53 : decode cX3_advance 53 = .ok (.iastore, 1) := by decide +kernel
theorem dX3_advance_54 : decode cX3_advance 54 = .ok (.return_, 1) := by decide +kernel
theorem dX3_add_0 : decode cX3_add 0 = .ok (.aload_n 0, 1) := by decide +kernel
theorem dX3_add_1 : decode cX3_add 1 = .ok (.getfield 13, 3) := by decide +kernel
theorem dX3_add_4 : decode cX3_add 4 = .ok (.iconst 0, 1) := by decide +kernel
theorem dX3_add_5 : decode cX3_add 5 = .ok (.iaload, 1) := by decide +kernel
theorem dX3_add_6 : decode cX3_add 6 = .ok (.iload_n 1, 1) := by decide +kernel
theorem dX3_add_7 : decode cX3_add 7 = .ok (.iadd, 1) := by decide +kernel
theorem dX3_add_8 : decode cX3_add 8 = .ok (.istore_n 2, 1) := by decide +kernel
theorem dX3_add_9 : decode cX3_add 9 = .ok (.iload_n 2, 1) := by decide +kernel
theorem dX3_add_10 : decode cX3_add 10 = .ok (.sipush 4095, 3) := by decide +kernel
theorem dX3_add_13 : decode cX3_add 13 = .ok (.if_icmp .le 23, 3) := by decide +kernel
theorem dX3_add_16 : decode cX3_add 16 = .ok (.iinc 2 (-4096), 6) := by decide +kernel
theorem dX3_add_22 : decode cX3_add 22 = .ok (.aload_n 0, 1) := by decide +kernel
theorem dX3_add_23 : decode cX3_add 23 = .ok (.getfield 13, 3) := by decide +kernel
theorem dX3_add_26 : decode cX3_add 26 = .ok (.iconst 1, 1) := by decide +kernel
theorem dX3_add_27 : decode cX3_add 27 = .ok (.iconst 1, 1) := by decide +kernel
theorem dX3_add_28 : decode cX3_add 28 = .ok (.aload_n 0, 1) := by decide +kernel
theorem dX3_add_29 : decode cX3_add 29 = .ok (.getfield 13, 3) := by decide +kernel
theorem dX3_add_32 : decode cX3_add 32 = .ok (.iconst 1, 1) := by decide +kernel
theorem dX3_add_33 : decode cX3_add 33 = .ok (.iaload, 1) := by decide +kernel
theorem dX3_add_34 : decode cX3_add 34 = .ok (.isub, 1) := by decide +kernel
theorem dX3_add_35 : decode cX3_add 35 = .ok (.iastore, 1) := by decide +kernel
theorem dX3_add_36 : decode cX3_add 36 = .ok (.aload_n 0, 1) := by decide +kernel
theorem dX3_add_37 : decode cX3_add 37 = .ok (.getfield 13, 3) := by decide +kernel
theorem dX3_add_40 : decode cX3_add 40 = .ok (.iconst 0, 1) := by decide +kernel
theorem dX3_add_41 : decode cX3_add 41 = .ok (.iload_n 2, 1) := by decide +kernel
theorem dX3_add_42 : decode cX3_add 42 = .ok (.iastore, 1) := by decide +kernel
theorem dX3_add_43 : decode cX3_add 43 = .ok (.return_, 1) := by decide +kernel
theorem dX3_step_0 : decode cX3_step 0 = .ok (.aload_n 0, 1) := by decide +kernel
theorem dX3_step_1 : decode cX3_step 1 = .ok (.getfield 13, 3) := by decide +kernel
theorem dX3_step_4 : decode cX3_step 4 = .ok (.iconst 5, 1) := by decide +kernel
theorem dX3_step_5 : decode cX3_step 5 = .ok (.iaload, 1) := by decide +kernel
theorem dX3_step_6 : decode cX3_step 6 = .ok (.iconst 1, 1) := by decide +kernel
theorem dX3_step_7 : decode cX3_step 7 = .ok (.if_icmp .ne 57, 3) := by decide +kernel
theorem dX3_step_10 : decode cX3_step 10 = .ok (.aload_n 0, 1) := by decide +kernel
theorem dX3_step_11 : decode cX3_step 11 = .ok (.getfield 13, 3) := by decide +kernel
theorem dX3_step_14 : decode cX3_step 14 = .ok (.bipush 7, 2) := by decide +kernel
theorem dX3_step_16 : decode cX3_step 16 = .ok (.iaload, 1) := by decide +kernel
theorem dX3_step_17 : decode cX3_step 17 = .ok (.aload_n 0, 1) := by decide +kernel
theorem dX3_step_18 : decode cX3_step 18 = .ok (.getfield 13, 3) := by decide +kernel
theorem dX3_step_21 : decode cX3_step 21 = .ok (.bipush 9, 2) := by decide +kernel
theorem dX3_step_23 : decode cX3_step 23 = .ok (.iaload, 1) := by decide +kernel
theorem dX3_step_24 : decode cX3_step 24 = .ok (.iadd, 1) := by decide +kernel
theorem dX3_step_25 : decode cX3_step 25 = .ok (.ifCond .le 39, 3) := by decide +kernel
theorem dX3_step_28 : decode cX3_step 28 = .ok (.aload_n 0, 1) := by decide +kernel
theorem dX3_step_29 : decode cX3_step 29 = .ok (.getfield 7, 3) := by decide +kernel
theorem dX3_step_32 : decode cX3_step 32 = .ok (.iconst 0, 1) := by decide +kernel
theorem dX3_step_33 : decode cX3_step 33 = .ok (.aload_n 0, 1) := by decide +kernel
theorem dX3_step_34 : decode cX3_step 34 = .ok (.getfield 13, 3) := by decide +kernel
theorem dX3_step_37 : decode cX3_step 37 = .ok (.iconst 2, 1) := by decide +kernel
theorem dX3_step_38 : decode cX3_step 38 = .ok (.iaload, 1) := by decide +kernel
theorem dX3_step_39 : decode cX3_step 39 = .ok (.iastore, 1) := by decide +kernel
theorem dX3_step_40 : decode cX3_step 40 = .ok (.aload_n 0, 1) := by decide +kernel
theorem dX3_step_41 : decode cX3_step 41 = .ok (.getfield 13, 3) := by decide +kernel
theorem dX3_step_44 : decode cX3_step 44 = .ok (.iconst 2, 1) := by decide +kernel
theorem dX3_step_45 : decode cX3_step 45 = .ok (.iconst 1, 1) := by decide +kernel
theorem dX3_step_46 : decode cX3_step 46 = .ok (.iastore, 1) := by decide +kernel
theorem dX3_step_47 : decode cX3_step 47 = .ok (.aload_n 0, 1) := by decide +kernel
theorem dX3_step_48 : decode cX3_step 48 = .ok (.getfield 13, 3) := by decide +kernel
theorem dX3_step_51 : decode cX3_step 51 = .ok (.iconst 5, 1) := by decide +kernel
theorem dX3_step_52 : decode cX3_step 52 = .ok (.iconst 0, 1) := by decide +kernel
theorem dX3_step_53 : decode cX3_step 53 = .ok (.iastore, 1) := by decide +kernel
theorem dX3_step_54 : decode cX3_step 54 = .ok (.aload_n 0, 1) := by decide +kernel
theorem dX3_step_55 : decode cX3_step 55 = .ok (.dup, 1) := by decide +kernel
theorem dX3_step_56 : decode cX3_step 56 = .ok (.getfield 39, 3) := by decide +kernel
theorem dX3_step_59 : decode cX3_step 59 = .ok (.iconst 1, 1) := by decide +kernel
theorem dX3_step_60 : decode cX3_step 60 = .ok (.iadd, 1) := by decide +kernel
theorem dX3_step_61 : decode cX3_step 61 = .ok (.putfield 39, 3) := by decide +kernel
theorem dX3_step_64 : decode cX3_step 64 = .ok (.aload_n 0, 1) := by decide +kernel
theorem dX3_step_65 : decode cX3_step 65 = .ok (.getfield 13, 3) := by decide +kernel
theorem dX3_step_68 : decode cX3_step 68 = .ok (.bipush 6, 2) := by decide +kernel
theorem dX3_step_70 : decode cX3_step 70 = .ok (.iaload, 1) := by decide +kernel
theorem dX3_step_71 : decode cX3_step 71 = .ok (.iconst 1, 1) := by decide +kernel
theorem dX3_step_72 : decode cX3_step 72 = .ok (.if_icmp .ne 18, 3) := by decide +kernel
theorem dX3_step_75 : decode cX3_step 75 = .ok (.aload_n 0, 1) := by decide +kernel
theorem dX3_step_76 : decode cX3_step 76 = .ok (.getfield 13, 3) := by decide +kernel
theorem dX3_step_79 : decode cX3_step 79 = .ok (.bipush 6, 2) := by decide +kernel
theorem dX3_step_81 : decode cX3_step 81 = .ok (.iconst 0, 1) := by decide +kernel
theorem dX3_step_82 : decode cX3_step 82 = .ok (.iastore, 1) := by decide +kernel
theorem dX3_step_83 : decode cX3_step 83 = .ok (.aload_n 0, 1) := by decide +kernel
theorem dX3_step_84 : decode cX3_step 84 = .ok (.getfield 13, 3) := by decide +kernel
theorem dX3_step_87 : decode cX3_step 87 = .ok (.iconst 5, 1) := by decide +kernel
theorem dX3_step_88 : decode cX3_step 88 = .ok (.iconst 1, 1) := by decide +kernel
theorem dX3_step_89 : decode cX3_step 89 = .ok (.iastore, 1) := by decide +kernel
theorem dX3_step_90 : decode cX3_step 90 = .ok (.aload_n 0, 1) := by decide +kernel
theorem dX3_step_91 : decode cX3_step 91 = .ok (.getfield 13, 3) := by decide +kernel
theorem dX3_step_94 : decode cX3_step 94 = .ok (.iconst 2, 1) := by decide +kernel
theorem dX3_step_95 : decode cX3_step 95 = .ok (.iaload, 1) := by decide +kernel
theorem dX3_step_96 : decode cX3_step 96 = .ok (.istore_n 1, 1) := by decide +kernel
theorem dX3_step_97 : decode cX3_step 97 = .ok (.aload_n 0, 1) := by decide +kernel
theorem dX3_step_98 : decode cX3_step 98 = .ok (.getfield 7, 3) := by decide +kernel
theorem dX3_step_101 : decode cX3_step 101 = .ok (.iload_n 1, 1) := by decide +kernel
theorem dX3_step_102 : decode cX3_step 102 = .ok (.iaload, 1) := by decide +kernel
theorem dX3_step_103 : decode cX3_step 103 = .ok (.istore_n 2, 1) := by decide +kernel
theorem dX3_step_104 : decode cX3_step 104 = .ok (.aload_n 0, 1) := by decide +kernel
theorem dX3_step_105 : decode cX3_step 105 = .ok (.getfield 13, 3) := by decide +kernel
theorem dX3_step_108 : decode cX3_step 108 = .ok (.iconst 2, 1) := by decide +kernel
theorem dX3_step_109 : decode cX3_step 109 = .ok (.iload_n 1, 1) := by decide +kernel
theorem dX3_step_110 : decode cX3_step 110 = .ok (.invokestatic 32, 3) := by decide +kernel
theorem dX3_step_113 : decode cX3_step 113 = .ok (.iastore, 1) := by decide +kernel
theorem dX3_step_114 : decode cX3_step 114 = .ok (.bipush 63, 2) := by decide +kernel
theorem dX3_step_116 : decode cX3_step 116 = .ok (.istore_n 3, 1) := by decide +kernel
theorem dX3_step_117 : decode cX3_step 117 = .ok (.iload_n 3, 1) := by decide +kernel
theorem dX3_step_118 : decode cX3_step 118 = .ok (.ifCond .le 23, 3) := by decide +kernel
theorem dX3_step_121 : decode cX3_step 121 = .ok (.aload_n 0, 1) := by decide +kernel
theorem dX3_step_122 : decode cX3_step 122 = .ok (.getfield 22, 3) := by decide +kernel
theorem dX3_step_125 : decode cX3_step 125 = .ok (.iload_n 3, 1) := by decide +kernel
theorem dX3_step_126 : decode cX3_step 126 = .ok (.aload_n 0, 1) := by decide +kernel
theorem dX3_step_127 : decode cX3_step 127 = .ok (.getfield 22, 3) := by decide +kernel
theorem dX3_step_130 : decode cX3_step 130 = .ok (.iload_n 3, 1) := by decide +kernel
theorem dX3_step_131 : decode cX3_step 131 = .ok (.iconst 1, 1) := by decide +kernel
theorem dX3_step_132 : decode cX3_step 132 = .ok (.isub, 1) := by decide +kernel
theorem dX3_step_133 : decode cX3_step 133 = .ok (.iaload, 1) := by decide +kernel
theorem dX3_step_134 : decode cX3_step 134 = .ok (.iastore, 1) := by decide +kernel
theorem dX3_step_135 : decode cX3_step 135 = .ok (.iinc 3 (-1), 3) := by decide +kernel
theorem dX3_step_138 : decode cX3_step 138 = .ok (.goto (-21), 3) := by decide +kernel
theorem dX3_step_141 : decode cX3_step 141 = .ok (.aload_n 0, 1) := by decide +kernel
theorem dX3_step_142 : decode cX3_step 142 = .ok (.getfield 22, 3) := by decide +kernel
theorem dX3_step_145 : decode cX3_step 145 = .ok (.iconst 0, 1) := by decide +kernel
theorem dX3_step_146 : decode cX3_step 146 = .ok (.iload_n 1, 1) := by decide +kernel
theorem dX3_step_147 : decode cX3_step 147 = .ok (.iastore, 1) := by decide +kernel
theorem dX3_step_148 : decode cX3_step 148 = .ok (.aload_n 0, 1) := by decide +kernel
theorem dX3_step_149 : decode cX3_step 149 = .ok (.dup, 1) := by decide +kernel
theorem dX3_step_150 : decode cX3_step 150 = .ok (.getfield 42, 3) := by decide +kernel
theorem dX3_step_153 : decode cX3_step 153 = .ok (.iconst 1, 1) := by decide +kernel
theorem dX3_step_154 : decode cX3_step 154 = .ok (.iadd, 1) := by decide +kernel
theorem dX3_step_155 : decode cX3_step 155 = .ok (.putfield 42, 3) := by decide +kernel
theorem dX3_step_158 : decode cX3_step 158 = .ok (.iload_n 2, 1) := by decide +kernel
theorem dX3_step_159 : decode cX3_step 159 = .ok (.sipush 512, 3) := by decide +kernel
theorem dX3_step_162 : decode cX3_step 162 = .ok (.idiv, 1) := by decide +kernel
theorem dX3_step_163 : decode cX3_step 163 = .ok (.istore_n 3, 1) := by decide +kernel
theorem dX3_step_164 : decode cX3_step 164 = .ok (.iload_n 3, 1) := by decide +kernel
theorem dX3_step_165 : decode cX3_step 165 = .ok (.bipush 6, 2) := by decide +kernel
theorem dX3_step_167 : decode cX3_step 167 = .ok (.if_icmp .ge 21, 3) := by decide +kernel
theorem dX3_step_170 : decode cX3_step 170 = .ok (.aload_n 0, 1) := by decide +kernel
theorem dX3_step_171 : decode cX3_step 171 = .ok (.iload_n 2, 1) := by decide +kernel
theorem dX3_step_172 : decode cX3_step 172 = .ok (.iload_n 1, 1) := by decide +kernel
theorem dX3_step_173 : decode cX3_step 173 = .ok (.invokevirtual 45, 3) := by decide +kernel
theorem dX3_step_176 : decode cX3_step 176 = .ok (.istore 4, 2) := by decide +kernel
theorem dX3_step_178 : decode cX3_step 178 = .ok (.aload_n 0, 1) := by decide +kernel
theorem dX3_step_179 : decode cX3_step 179 = .ok (.iload_n 3, 1) := by decide +kernel
theorem dX3_step_180 : decode cX3_step 180 = .ok (.iload 4, 2) := by decide +kernel
theorem dX3_step_182 : decode cX3_step 182 = .ok (.invokevirtual 49, 3) := by decide +kernel
theorem dX3_step_185 : decode cX3_step 185 = .ok (.goto 56, 3) := by decide +kernel
theorem dX3_step_188 : decode cX3_step 188 = .ok (.iload_n 3, 1) := by decide +kernel
theorem dX3_step_189 : decode cX3_step 189 = .ok (.bipush 6, 2) := by decide +kernel
theorem dX3_step_191 : decode cX3_step 191 = .ok (.if_icmp .ne 11, 3) := by decide +kernel
theorem dX3_step_194 : decode cX3_step 194 = .ok (.aload_n 0, 1) := by decide +kernel
theorem dX3_step_195 : decode cX3_step 195 = .ok (.iload_n 2, 1) := by decide +kernel
theorem dX3_step_196 : decode cX3_step 196 = .ok (.invokevirtual 53, 3) := by decide +kernel
theorem dX3_step_199 : decode cX3_step 199 = .ok (.goto 42, 3) := by decide +kernel
theorem dX3_step_202 : decode cX3_step 202 = .ok (.iload_n 2, 1) := by decide +kernel
theorem dX3_step_203 : decode cX3_step 203 = .ok (.sipush 256, 3) := by decide +kernel
theorem dX3_step_206 : decode cX3_step 206 = .ok (.invokestatic 57, 3) := by decide +kernel
theorem dX3_step_209 : decode cX3_step 209 = .ok (.ifCond .ne 11, 3) := by decide +kernel
theorem dX3_step_212 : decode cX3_step 212 = .ok (.aload_n 0, 1) := by decide +kernel
theorem dX3_step_213 : decode cX3_step 213 = .ok (.iload_n 2, 1) := by decide +kernel
theorem dX3_step_214 : decode cX3_step 214 = .ok (.invokevirtual 61, 3) := by decide +kernel
theorem dX3_step_217 : decode cX3_step 217 = .ok (.goto 24, 3) := by decide +kernel
theorem dX3_step_220 : decode cX3_step 220 = .ok (.iload_n 2, 1) := by decide +kernel
theorem dX3_step_221 : decode cX3_step 221 = .ok (.iconst 1, 1) := by decide +kernel
theorem dX3_step_222 : decode cX3_step 222 = .ok (.invokestatic 57, 3) := by decide +kernel
theorem dX3_step_225 : decode cX3_step 225 = .ok (.ifCond .ne 11, 3) := by decide +kernel
theorem dX3_step_228 : decode cX3_step 228 = .ok (.aload_n 0, 1) := by decide +kernel
theorem dX3_step_229 : decode cX3_step 229 = .ok (.iload_n 2, 1) := by decide +kernel
theorem dX3_step_230 : decode cX3_step 230 = .ok (.invokevirtual 64, 3) := by decide +kernel
theorem dX3_step_233 : decode cX3_step 233 = .ok (.goto 8, 3) := by decide +kernel
theorem dX3_step_236 : decode cX3_step 236 = .ok (.aload_n 0, 1) := by decide +kernel
theorem dX3_step_237 : decode cX3_step 237 = .ok (.iload_n 2, 1) := by decide +kernel
theorem dX3_step_238 : decode cX3_step 238 = .ok (.invokevirtual 67, 3) := by decide +kernel
theorem dX3_step_241 : decode cX3_step 241 = .ok (.return_, 1) := by decide +kernel
theorem dX3_place_0 : decode cX3_place 0 = .ok (.iload_n 1, 1) := by decide +kernel
theorem dX3_place_1 : decode cX3_place 1 = .ok (.sipush 128, 3) := by decide +kernel
theorem dX3_place_4 : decode cX3_place 4 = .ok (.irem, 1) := by decide +kernel
theorem dX3_place_5 : decode cX3_place 5 = .ok (.istore_n 3, 1) := by decide +kernel
theorem dX3_place_6 : decode cX3_place 6 = .ok (.iload_n 1, 1) := by decide +kernel
theorem dX3_place_7 : decode cX3_place 7 = .ok (.sipush 128, 3) := by decide +kernel
theorem dX3_place_10 : decode cX3_place 10 = .ok (.invokestatic 57, 3) := by decide +kernel
theorem dX3_place_13 : decode cX3_place 13 = .ok (.ifCond .eq 13, 3) := by decide +kernel
theorem dX3_place_16 : decode cX3_place 16 = .ok (.iload_n 3, 1) := by decide +kernel
theorem dX3_place_17 : decode cX3_place 17 = .ok (.iload_n 2, 1) := by decide +kernel
theorem dX3_place_18 : decode cX3_place 18 = .ok (.iload_n 2, 1) := by decide +kernel
theorem dX3_place_19 : decode cX3_place 19 = .ok (.sipush 128, 3) := by decide +kernel
theorem dX3_place_22 : decode cX3_place 22 = .ok (.irem, 1) := by decide +kernel
theorem dX3_place_23 : decode cX3_place 23 = .ok (.isub, 1) := by decide +kernel
theorem dX3_place_24 : decode cX3_place 24 = .ok (.iadd, 1) := by decide +kernel
theorem dX3_place_25 : decode cX3_place 25 = .ok (.istore_n 3, 1) := by decide +kernel
theorem dX3_place_26 : decode cX3_place 26 = .ok (.iload_n 1, 1) := by decide +kernel
theorem dX3_place_27 : decode cX3_place 27 = .ok (.sipush 256, 3) := by decide +kernel
theorem dX3_place_30 : decode cX3_place 30 = .ok (.invokestatic 57, 3) := by decide +kernel
theorem dX3_place_33 : decode cX3_place 33 = .ok (.ifCond .ne 5, 3) := by decide +kernel
theorem dX3_place_36 : decode cX3_place 36 = .ok (.iload_n 3, 1) := by decide +kernel
theorem dX3_place_37 : decode cX3_place 37 = .ok (.ireturn, 1) := by decide +kernel
theorem dX3_place_38 : decode cX3_place 38 = .ok (.iload_n 3, 1) := by decide +kernel
theorem dX3_place_39 : decode cX3_place 39 = .ok (.bipush 8, 2) := by decide +kernel
theorem dX3_place_41 : decode cX3_place 41 = .ok (.if_icmp .lt 24, 3) := by decide +kernel
theorem dX3_place_44 : decode cX3_place 44 = .ok (.iload_n 3, 1) := by decide +kernel
theorem dX3_place_45 : decode cX3_place 45 = .ok (.bipush 15, 2) := by decide +kernel
theorem dX3_place_47 : decode cX3_place 47 = .ok (.if_icmp .gt 18, 3) := by decide +kernel
theorem dX3_place_50 : decode cX3_place 50 = .ok (.aload_n 0, 1) := by decide +kernel
theorem dX3_place_51 : decode cX3_place 51 = .ok (.getfield 7, 3) := by decide +kernel
theorem dX3_place_54 : decode cX3_place 54 = .ok (.iload_n 3, 1) := by decide +kernel
theorem dX3_place_55 : decode cX3_place 55 = .ok (.aload_n 0, 1) := by decide +kernel
theorem dX3_place_56 : decode cX3_place 56 = .ok (.getfield 7, 3) := by decide +kernel
theorem dX3_place_59 : decode cX3_place 59 = .ok (.iload_n 3, 1) := by decide +kernel
theorem dX3_place_60 : decode cX3_place 60 = .ok (.iaload, 1) := by decide +kernel
theorem dX3_place_61 : decode cX3_place 61 = .ok (.invokestatic 32, 3) := by decide +kernel
theorem dX3_place_64 : decode cX3_place 64 = .ok (.iastore, 1) := by decide +kernel
theorem dX3_place_65 : decode cX3_place 65 = .ok (.aload_n 0, 1) := by decide +kernel
theorem dX3_place_66 : decode cX3_place 66 = .ok (.getfield 7, 3) := by decide +kernel
theorem dX3_place_69 : decode cX3_place 69 = .ok (.iload_n 3, 1) := by decide +kernel
theorem dX3_place_70 : decode cX3_place 70 = .ok (.iaload, 1) := by decide +kernel
theorem dX3_place_71 : decode cX3_place 71 = .ok (.ireturn, 1) := by decide +kernel
theorem dX3_reference_0 : decode cX3_reference 0 = .ok (.iload_n 1, 1) := by decide +kernel
theorem dX3_reference_1 : decode cX3_reference 1 = .ok (.ifCond .ne 22, 3) := by decide +kernel
theorem dX3_reference_4 : decode cX3_reference 4 = .ok (.aload_n 0, 1) := by decide +kernel
theorem dX3_reference_5 : decode cX3_reference 5 = .ok (.getfield 13, 3) := by decide +kernel
theorem dX3_reference_8 : decode cX3_reference 8 = .ok (.iconst 0, 1) := by decide +kernel
theorem dX3_reference_9 : decode cX3_reference 9 = .ok (.aload_n 0, 1) := by decide +kernel
theorem dX3_reference_10 : decode cX3_reference 10 = .ok (.getfield 13, 3) := by decide +kernel
theorem dX3_reference_13 : decode cX3_reference 13 = .ok (.iconst 0, 1) := by decide +kernel
theorem dX3_reference_14 : decode cX3_reference 14 = .ok (.iaload, 1) := by decide +kernel
theorem dX3_reference_15 : decode cX3_reference 15 = .ok (.aload_n 0, 1) := by decide +kernel
theorem dX3_reference_16 : decode cX3_reference 16 = .ok (.getfield 7, 3) := by decide +kernel
theorem dX3_reference_19 : decode cX3_reference 19 = .ok (.iload_n 2, 1) := by decide +kernel
theorem dX3_reference_20 : decode cX3_reference 20 = .ok (.iaload, 1) := by decide +kernel
theorem dX3_reference_21 : decode cX3_reference 21 = .ok (.iand, 1) := by decide +kernel
theorem dX3_reference_22 : decode cX3_reference 22 = .ok (.iastore, 1) := by decide +kernel
theorem dX3_reference_23 : decode cX3_reference 23 = .ok (.iload_n 1, 1) := by decide +kernel
theorem dX3_reference_24 : decode cX3_reference 24 = .ok (.iconst 1, 1) := by decide +kernel
theorem dX3_reference_25 : decode cX3_reference 25 = .ok (.if_icmp .ne 13, 3) := by decide +kernel
theorem dX3_reference_28 : decode cX3_reference 28 = .ok (.aload_n 0, 1) := by decide +kernel
theorem dX3_reference_29 : decode cX3_reference 29 = .ok (.aload_n 0, 1) := by decide +kernel
theorem dX3_reference_30 : decode cX3_reference 30 = .ok (.getfield 7, 3) := by decide +kernel
theorem dX3_reference_33 : decode cX3_reference 33 = .ok (.iload_n 2, 1) := by decide +kernel
theorem dX3_reference_34 : decode cX3_reference 34 = .ok (.iaload, 1) := by decide +kernel
theorem dX3_reference_35 : decode cX3_reference 35 = .ok (.invokevirtual 70, 3) := by decide +kernel
theorem dX3_reference_38 : decode cX3_reference 38 = .ok (.iload_n 1, 1) := by decide +kernel
theorem dX3_reference_39 : decode cX3_reference 39 = .ok (.iconst 2, 1) := by decide +kernel
theorem dX3_reference_40 : decode cX3_reference 40 = .ok (.if_icmp .ne 31, 3) := by decide +kernel
theorem dX3_reference_43 : decode cX3_reference 43 = .ok (.aload_n 0, 1) := by decide +kernel
theorem dX3_reference_44 : decode cX3_reference 44 = .ok (.getfield 7, 3) := by decide +kernel
theorem dX3_reference_47 : decode cX3_reference 47 = .ok (.iload_n 2, 1) := by decide +kernel
theorem dX3_reference_48 : decode cX3_reference 48 = .ok (.aload_n 0, 1) := by decide +kernel
theorem dX3_reference_49 : decode cX3_reference 49 = .ok (.getfield 7, 3) := by decide +kernel
theorem dX3_reference_52 : decode cX3_reference 52 = .ok (.iload_n 2, 1) := by decide +kernel
theorem dX3_reference_53 : decode cX3_reference 53 = .ok (.iaload, 1) := by decide +kernel
theorem dX3_reference_54 : decode cX3_reference 54 = .ok (.invokestatic 32, 3) := by decide +kernel
theorem dX3_reference_57 : decode cX3_reference 57 = .ok (.iastore, 1) := by decide +kernel
theorem dX3_reference_58 : decode cX3_reference 58 = .ok (.aload_n 0, 1) := by decide +kernel
theorem dX3_reference_59 : decode cX3_reference 59 = .ok (.getfield 7, 3) := by decide +kernel
theorem dX3_reference_62 : decode cX3_reference 62 = .ok (.iload_n 2, 1) := by decide +kernel
theorem dX3_reference_63 : decode cX3_reference 63 = .ok (.iaload, 1) := by decide +kernel
theorem dX3_reference_64 : decode cX3_reference 64 = .ok (.ifCond .ne 7, 3) := by decide +kernel
theorem dX3_reference_67 : decode cX3_reference 67 = .ok (.aload_n 0, 1) := by decide +kernel
theorem dX3_reference_68 : decode cX3_reference 68 = .ok (.invokevirtual 73, 3) := by decide +kernel
theorem dX3_reference_71 : decode cX3_reference 71 = .ok (.iload_n 1, 1) := by decide +kernel
theorem dX3_reference_72 : decode cX3_reference 72 = .ok (.iconst 3, 1) := by decide +kernel
theorem dX3_reference_73 : decode cX3_reference 73 = .ok (.if_icmp .ne 22, 3) := by decide +kernel
theorem dX3_reference_76 : decode cX3_reference 76 = .ok (.aload_n 0, 1) := by decide +kernel
theorem dX3_reference_77 : decode cX3_reference 77 = .ok (.getfield 7, 3) := by decide +kernel
theorem dX3_reference_80 : decode cX3_reference 80 = .ok (.iload_n 2, 1) := by decide +kernel
theorem dX3_reference_81 : decode cX3_reference 81 = .ok (.aload_n 0, 1) := by decide +kernel
theorem dX3_reference_82 : decode cX3_reference 82 = .ok (.getfield 13, 3) := by decide +kernel
theorem dX3_reference_85 : decode cX3_reference 85 = .ok (.iconst 0, 1) := by decide +kernel
theorem dX3_reference_86 : decode cX3_reference 86 = .ok (.iaload, 1) := by decide +kernel
theorem dX3_reference_87 : decode cX3_reference 87 = .ok (.iastore, 1) := by decide +kernel
theorem dX3_reference_88 : decode cX3_reference 88 = .ok (.aload_n 0, 1) := by decide +kernel
theorem dX3_reference_89 : decode cX3_reference 89 = .ok (.getfield 13, 3) := by decide +kernel
theorem dX3_reference_92 : decode cX3_reference 92 = .ok (.iconst 0, 1) := by decide +kernel
theorem dX3_reference_93 : decode cX3_reference 93 = .ok (.iconst 0, 1) := by decide +kernel
theorem dX3_reference_94 : decode cX3_reference 94 = .ok (.iastore, 1) := by decide +kernel
theorem dX3_reference_95 : decode cX3_reference 95 = .ok (.iload_n 1, 1) := by decide +kernel
theorem dX3_reference_96 : decode cX3_reference 96 = .ok (.iconst 4, 1) := by decide +kernel
theorem dX3_reference_97 : decode cX3_reference 97 = .ok (.if_icmp .ne 25, 3) := by decide +kernel
theorem dX3_reference_100 : decode cX3_reference 100 = .ok (.aload_n 0, 1) := by decide +kernel
theorem dX3_reference_101 : decode cX3_reference 101 = .ok (.getfield 7, 3) := by decide +kernel
theorem dX3_reference_104 : decode cX3_reference 104 = .ok (.iload_n 2, 1) := by decide +kernel
theorem dX3_reference_105 : decode cX3_reference 105 = .ok (.aload_n 0, 1) := by decide +kernel
theorem dX3_reference_106 : decode cX3_reference 106 = .ok (.getfield 13, 3) := by decide +kernel
theorem dX3_reference_109 : decode cX3_reference 109 = .ok (.iconst 2, 1) := by decide +kernel
theorem dX3_reference_110 : decode cX3_reference 110 = .ok (.iaload, 1) := by decide +kernel
theorem dX3_reference_111 : decode cX3_reference 111 = .ok (.iastore, 1) := by decide +kernel
theorem dX3_reference_112 : decode cX3_reference 112 = .ok (.aload_n 0, 1) := by decide +kernel
theorem dX3_reference_113 : decode cX3_reference 113 = .ok (.getfield 13, 3) := by decide +kernel
theorem dX3_reference_116 : decode cX3_reference 116 = .ok (.iconst 2, 1) := by decide +kernel
theorem dX3_reference_117 : decode cX3_reference 117 = .ok (.iload_n 2, 1) := by decide +kernel
theorem dX3_reference_118 : decode cX3_reference 118 = .ok (.invokestatic 32, 3) := by decide +kernel
theorem dX3_reference_121 : decode cX3_reference 121 = .ok (.iastore, 1) := by decide +kernel
theorem dX3_reference_122 : decode cX3_reference 122 = .ok (.iload_n 1, 1) := by decide +kernel
theorem dX3_reference_123 : decode cX3_reference 123 = .ok (.iconst 5, 1) := by decide +kernel
theorem dX3_reference_124 : decode cX3_reference 124 = .ok (.if_icmp .ne 10, 3) := by decide +kernel
theorem dX3_reference_127 : decode cX3_reference 127 = .ok (.aload_n 0, 1) := by decide +kernel
theorem dX3_reference_128 : decode cX3_reference 128 = .ok (.getfield 13, 3) := by decide +kernel
theorem dX3_reference_131 : decode cX3_reference 131 = .ok (.iconst 2, 1) := by decide +kernel
theorem dX3_reference_132 : decode cX3_reference 132 = .ok (.iload_n 2, 1) := by decide +kernel
theorem dX3_reference_133 : decode cX3_reference 133 = .ok (.iastore, 1) := by decide +kernel
theorem dX3_reference_134 : decode cX3_reference 134 = .ok (.return_, 1) := by decide +kernel
theorem dX3_device_0 : decode cX3_device 0 = .ok (.iload_n 1, 1) := by decide +kernel
theorem dX3_device_1 : decode cX3_device 1 = .ok (.sipush 3072, 3) := by decide +kernel
theorem dX3_device_4 : decode cX3_device 4 = .ok (.isub, 1) := by decide +kernel
theorem dX3_device_5 : decode cX3_device 5 = .ok (.istore_n 2, 1) := by decide +kernel
theorem dX3_device_6 : decode cX3_device 6 = .ok (.iload_n 2, 1) := by decide +kernel
theorem dX3_device_7 : decode cX3_device 7 = .ok (.iconst 1, 1) := by decide +kernel
theorem dX3_device_8 : decode cX3_device 8 = .ok (.if_icmp .ne 11, 3) := by decide +kernel
theorem dX3_device_11 : decode cX3_device 11 = .ok (.aload_n 0, 1) := by decide +kernel
theorem dX3_device_12 : decode cX3_device 12 = .ok (.getfield 13, 3) := by decide +kernel
theorem dX3_device_15 : decode cX3_device 15 = .ok (.bipush 6, 2) := by decide +kernel
theorem dX3_device_17 : decode cX3_device 17 = .ok (.iconst 1, 1) := by decide +kernel
theorem dX3_device_18 : decode cX3_device 18 = .ok (.iastore, 1) := by decide +kernel
theorem dX3_device_19 : decode cX3_device 19 = .ok (.iload_n 2, 1) := by decide +kernel
theorem dX3_device_20 : decode cX3_device 20 = .ok (.iconst 2, 1) := by decide +kernel
theorem dX3_device_21 : decode cX3_device 21 = .ok (.if_icmp .ne 18, 3) := by decide +kernel
theorem dX3_device_24 : decode cX3_device 24 = .ok (.aload_n 0, 1) := by decide +kernel
theorem dX3_device_25 : decode cX3_device 25 = .ok (.getfield 13, 3) := by decide +kernel
theorem dX3_device_28 : decode cX3_device 28 = .ok (.iconst 5, 1) := by decide +kernel
theorem dX3_device_29 : decode cX3_device 29 = .ok (.iconst 0, 1) := by decide +kernel
theorem dX3_device_30 : decode cX3_device 30 = .ok (.iastore, 1) := by decide +kernel
theorem dX3_device_31 : decode cX3_device 31 = .ok (.aload_n 0, 1) := by decide +kernel
theorem dX3_device_32 : decode cX3_device 32 = .ok (.getfield 13, 3) := by decide +kernel
theorem dX3_device_35 : decode cX3_device 35 = .ok (.bipush 6, 2) := by decide +kernel
theorem dX3_device_37 : decode cX3_device 37 = .ok (.iconst 0, 1) := by decide +kernel
theorem dX3_device_38 : decode cX3_device 38 = .ok (.iastore, 1) := by decide +kernel
theorem dX3_device_39 : decode cX3_device 39 = .ok (.iload_n 2, 1) := by decide +kernel
theorem dX3_device_40 : decode cX3_device 40 = .ok (.bipush 24, 2) := by decide +kernel
theorem dX3_device_42 : decode cX3_device 42 = .ok (.if_icmp .ne 11, 3) := by decide +kernel
theorem dX3_device_45 : decode cX3_device 45 = .ok (.aload_n 0, 1) := by decide +kernel
theorem dX3_device_46 : decode cX3_device 46 = .ok (.getfield 13, 3) := by decide +kernel
theorem dX3_device_49 : decode cX3_device 49 = .ok (.bipush 7, 2) := by decide +kernel
theorem dX3_device_51 : decode cX3_device 51 = .ok (.iconst 0, 1) := by decide +kernel
theorem dX3_device_52 : decode cX3_device 52 = .ok (.iastore, 1) := by decide +kernel
theorem dX3_device_53 : decode cX3_device 53 = .ok (.iload_n 2, 1) := by decide +kernel
theorem dX3_device_54 : decode cX3_device 54 = .ok (.bipush 25, 2) := by decide +kernel
theorem dX3_device_56 : decode cX3_device 56 = .ok (.if_icmp .ne 18, 3) := by decide +kernel
theorem dX3_device_59 : decode cX3_device 59 = .ok (.aload_n 0, 1) := by decide +kernel
theorem dX3_device_60 : decode cX3_device 60 = .ok (.getfield 13, 3) := by decide +kernel
theorem dX3_device_63 : decode cX3_device 63 = .ok (.bipush 7, 2) := by decide +kernel
theorem dX3_device_65 : decode cX3_device 65 = .ok (.iaload, 1) := by decide +kernel
theorem dX3_device_66 : decode cX3_device 66 = .ok (.iconst 1, 1) := by decide +kernel
theorem dX3_device_67 : decode cX3_device 67 = .ok (.if_icmp .ne 7, 3) := by decide +kernel
theorem dX3_device_70 : decode cX3_device 70 = .ok (.aload_n 0, 1) := by decide +kernel
theorem dX3_device_71 : decode cX3_device 71 = .ok (.invokevirtual 73, 3) := by decide +kernel
theorem dX3_device_74 : decode cX3_device 74 = .ok (.iload_n 2, 1) := by decide +kernel
theorem dX3_device_75 : decode cX3_device 75 = .ok (.bipush 26, 2) := by decide +kernel
theorem dX3_device_77 : decode cX3_device 77 = .ok (.if_icmp .ne 10, 3) := by decide +kernel
theorem dX3_device_80 : decode cX3_device 80 = .ok (.aload_n 0, 1) := by decide +kernel
theorem dX3_device_81 : decode cX3_device 81 = .ok (.getfield 13, 3) := by decide +kernel
theorem dX3_device_84 : decode cX3_device 84 = .ok (.iconst 0, 1) := by decide +kernel
theorem dX3_device_85 : decode cX3_device 85 = .ok (.iconst 0, 1) := by decide +kernel
theorem dX3_device_86 : decode cX3_device 86 = .ok (.iastore, 1) := by decide +kernel
theorem dX3_device_87 : decode cX3_device 87 = .ok (.iload_n 2, 1) := by decide +kernel
theorem dX3_device_88 : decode cX3_device 88 = .ok (.bipush 28, 2) := by decide +kernel
theorem dX3_device_90 : decode cX3_device 90 = .ok (.if_icmp .ne 23, 3) := by decide +kernel
theorem dX3_device_93 : decode cX3_device 93 = .ok (.aload_n 0, 1) := by decide +kernel
theorem dX3_device_94 : decode cX3_device 94 = .ok (.getfield 13, 3) := by decide +kernel
theorem dX3_device_97 : decode cX3_device 97 = .ok (.iconst 0, 1) := by decide +kernel
theorem dX3_device_98 : decode cX3_device 98 = .ok (.aload_n 0, 1) := by decide +kernel
theorem dX3_device_99 : decode cX3_device 99 = .ok (.getfield 13, 3) := by decide +kernel
theorem dX3_device_102 : decode cX3_device 102 = .ok (.iconst 0, 1) := by decide +kernel
theorem dX3_device_103 : decode cX3_device 103 = .ok (.iaload, 1) := by decide +kernel
theorem dX3_device_104 : decode cX3_device 104 = .ok (.aload_n 0, 1) := by decide +kernel
theorem dX3_device_105 : decode cX3_device 105 = .ok (.getfield 13, 3) := by decide +kernel
theorem dX3_device_108 : decode cX3_device 108 = .ok (.bipush 8, 2) := by decide +kernel
theorem dX3_device_110 : decode cX3_device 110 = .ok (.iaload, 1) := by decide +kernel
theorem dX3_device_111 : decode cX3_device 111 = .ok (.ior, 1) := by decide +kernel
theorem dX3_device_112 : decode cX3_device 112 = .ok (.iastore, 1) := by decide +kernel
theorem dX3_device_113 : decode cX3_device 113 = .ok (.iload_n 2, 1) := by decide +kernel
theorem dX3_device_114 : decode cX3_device 114 = .ok (.bipush 30, 2) := by decide +kernel
theorem dX3_device_116 : decode cX3_device 116 = .ok (.if_icmp .ne 16, 3) := by decide +kernel
theorem dX3_device_119 : decode cX3_device 119 = .ok (.aload_n 0, 1) := by decide +kernel
theorem dX3_device_120 : decode cX3_device 120 = .ok (.getfield 13, 3) := by decide +kernel
theorem dX3_device_123 : decode cX3_device 123 = .ok (.iconst 0, 1) := by decide +kernel
theorem dX3_device_124 : decode cX3_device 124 = .ok (.aload_n 0, 1) := by decide +kernel
theorem dX3_device_125 : decode cX3_device 125 = .ok (.getfield 13, 3) := by decide +kernel
theorem dX3_device_128 : decode cX3_device 128 = .ok (.bipush 8, 2) := by decide +kernel
theorem dX3_device_130 : decode cX3_device 130 = .ok (.iaload, 1) := by decide +kernel
theorem dX3_device_131 : decode cX3_device 131 = .ok (.iastore, 1) := by decide +kernel
theorem dX3_device_132 : decode cX3_device 132 = .ok (.iload_n 2, 1) := by decide +kernel
theorem dX3_device_133 : decode cX3_device 133 = .ok (.bipush 26, 2) := by decide +kernel
theorem dX3_device_135 : decode cX3_device 135 = .ok (.if_icmp .eq 9, 3) := by decide +kernel
theorem dX3_device_138 : decode cX3_device 138 = .ok (.iload_n 2, 1) := by decide +kernel
theorem dX3_device_139 : decode cX3_device 139 = .ok (.bipush 30, 2) := by decide +kernel
theorem dX3_device_141 : decode cX3_device 141 = .ok (.if_icmp .ne 7, 3) := by decide +kernel
theorem dX3_device_144 : decode cX3_device 144 = .ok (.aload_n 0, 1) := by decide +kernel
theorem dX3_device_145 : decode cX3_device 145 = .ok (.invokevirtual 76, 3) := by decide +kernel
theorem dX3_device_148 : decode cX3_device 148 = .ok (.iload_n 2, 1) := by decide +kernel
theorem dX3_device_149 : decode cX3_device 149 = .ok (.bipush 33, 2) := by decide +kernel
theorem dX3_device_151 : decode cX3_device 151 = .ok (.if_icmp .ne 18, 3) := by decide +kernel
theorem dX3_device_154 : decode cX3_device 154 = .ok (.aload_n 0, 1) := by decide +kernel
theorem dX3_device_155 : decode cX3_device 155 = .ok (.getfield 13, 3) := by decide +kernel
theorem dX3_device_158 : decode cX3_device 158 = .ok (.bipush 9, 2) := by decide +kernel
theorem dX3_device_160 : decode cX3_device 160 = .ok (.iaload, 1) := by decide +kernel
theorem dX3_device_161 : decode cX3_device 161 = .ok (.iconst 1, 1) := by decide +kernel
theorem dX3_device_162 : decode cX3_device 162 = .ok (.if_icmp .ne 7, 3) := by decide +kernel
theorem dX3_device_165 : decode cX3_device 165 = .ok (.aload_n 0, 1) := by decide +kernel
theorem dX3_device_166 : decode cX3_device 166 = .ok (.invokevirtual 73, 3) := by decide +kernel
theorem dX3_device_169 : decode cX3_device 169 = .ok (.iload_n 2, 1) := by decide +kernel
theorem dX3_device_170 : decode cX3_device 170 = .ok (.bipush 34, 2) := by decide +kernel
theorem dX3_device_172 : decode cX3_device 172 = .ok (.if_icmp .ne 11, 3) := by decide +kernel
theorem dX3_device_175 : decode cX3_device 175 = .ok (.aload_n 0, 1) := by decide +kernel
theorem dX3_device_176 : decode cX3_device 176 = .ok (.getfield 13, 3) := by decide +kernel
theorem dX3_device_179 : decode cX3_device 179 = .ok (.bipush 9, 2) := by decide +kernel
theorem dX3_device_181 : decode cX3_device 181 = .ok (.iconst 0, 1) := by decide +kernel
theorem dX3_device_182 : decode cX3_device 182 = .ok (.iastore, 1) := by decide +kernel
theorem dX3_device_183 : decode cX3_device 183 = .ok (.iload_n 2, 1) := by decide +kernel
theorem dX3_device_184 : decode cX3_device 184 = .ok (.bipush 36, 2) := by decide +kernel
theorem dX3_device_186 : decode cX3_device 186 = .ok (.if_icmp .eq 9, 3) := by decide +kernel
theorem dX3_device_189 : decode cX3_device 189 = .ok (.iload_n 2, 1) := by decide +kernel
theorem dX3_device_190 : decode cX3_device 190 = .ok (.bipush 38, 2) := by decide +kernel
theorem dX3_device_192 : decode cX3_device 192 = .ok (.if_icmp .ne 64, 3) := by decide +kernel
theorem dX3_device_195 : decode cX3_device 195 = .ok (.bipush 63, 2) := by decide +kernel
theorem dX3_device_197 : decode cX3_device 197 = .ok (.istore_n 3, 1) := by decide +kernel
theorem dX3_device_198 : decode cX3_device 198 = .ok (.iload_n 3, 1) := by decide +kernel
theorem dX3_device_199 : decode cX3_device 199 = .ok (.ifCond .le 23, 3) := by decide +kernel
theorem dX3_device_202 : decode cX3_device 202 = .ok (.aload_n 0, 1) := by decide +kernel
theorem dX3_device_203 : decode cX3_device 203 = .ok (.getfield 19, 3) := by decide +kernel
theorem dX3_device_206 : decode cX3_device 206 = .ok (.iload_n 3, 1) := by decide +kernel
theorem dX3_device_207 : decode cX3_device 207 = .ok (.aload_n 0, 1) := by decide +kernel
theorem dX3_device_208 : decode cX3_device 208 = .ok (.getfield 19, 3) := by decide +kernel
theorem dX3_device_211 : decode cX3_device 211 = .ok (.iload_n 3, 1) := by decide +kernel
theorem dX3_device_212 : decode cX3_device 212 = .ok (.iconst 1, 1) := by decide +kernel
theorem dX3_device_213 : decode cX3_device 213 = .ok (.isub, 1) := by decide +kernel
theorem dX3_device_214 : decode cX3_device 214 = .ok (.iaload, 1) := by decide +kernel
theorem dX3_device_215 : decode cX3_device 215 = .ok (.iastore, 1) := by decide +kernel
theorem dX3_device_216 : decode cX3_device 216 = .ok (.iinc 3 (-1), 3) := by decide +kernel
theorem dX3_device_219 : decode cX3_device 219 = .ok (.goto (-21), 3) := by decide +kernel
theorem dX3_device_222 : decode cX3_device 222 = .ok (.aload_n 0, 1) := by decide +kernel
theorem dX3_device_223 : decode cX3_device 223 = .ok (.getfield 19, 3) := by decide +kernel
theorem dX3_device_226 : decode cX3_device 226 = .ok (.iconst 0, 1) := by decide +kernel
theorem dX3_device_227 : decode cX3_device 227 = .ok (.aload_n 0, 1) := by decide +kernel
theorem dX3_device_228 : decode cX3_device 228 = .ok (.getfield 13, 3) := by decide +kernel
theorem dX3_device_231 : decode cX3_device 231 = .ok (.iconst 0, 1) := by decide +kernel
theorem dX3_device_232 : decode cX3_device 232 = .ok (.iaload, 1) := by decide +kernel
theorem dX3_device_233 : decode cX3_device 233 = .ok (.sipush 256, 3) := by decide +kernel
theorem dX3_device_236 : decode cX3_device 236 = .ok (.irem, 1) := by decide +kernel
theorem dX3_device_237 : decode cX3_device 237 = .ok (.iastore, 1) := by decide +kernel
theorem dX3_device_238 : decode cX3_device 238 = .ok (.aload_n 0, 1) := by decide +kernel
theorem dX3_device_239 : decode cX3_device 239 = .ok (.dup, 1) := by decide +kernel
theorem dX3_device_240 : decode cX3_device 240 = .ok (.getfield 79, 3) := by decide +kernel
theorem dX3_device_243 : decode cX3_device 243 = .ok (.iconst 1, 1) := by decide +kernel
theorem dX3_device_244 : decode cX3_device 244 = .ok (.iadd, 1) := by decide +kernel
theorem dX3_device_245 : decode cX3_device 245 = .ok (.putfield 79, 3) := by decide +kernel
theorem dX3_device_248 : decode cX3_device 248 = .ok (.aload_n 0, 1) := by decide +kernel
theorem dX3_device_249 : decode cX3_device 249 = .ok (.getfield 13, 3) := by decide +kernel
theorem dX3_device_252 : decode cX3_device 252 = .ok (.bipush 9, 2) := by decide +kernel
theorem dX3_device_254 : decode cX3_device 254 = .ok (.iconst 1, 1) := by decide +kernel
theorem dX3_device_255 : decode cX3_device 255 = .ok (.iastore, 1) := by decide +kernel
theorem dX3_device_256 : decode cX3_device 256 = .ok (.return_, 1) := by decide +kernel
theorem dX3_first_0 : decode cX3_first 0 = .ok (.iload_n 1, 1) := by decide +kernel
theorem dX3_first_1 : decode cX3_first 1 = .ok (.sipush 128, 3) := by decide +kernel
theorem dX3_first_4 : decode cX3_first 4 = .ok (.invokestatic 57, 3) := by decide +kernel
theorem dX3_first_7 : decode cX3_first 7 = .ok (.ifCond .eq 10, 3) := by decide +kernel
theorem dX3_first_10 : decode cX3_first 10 = .ok (.aload_n 0, 1) := by decide +kernel
theorem dX3_first_11 : decode cX3_first 11 = .ok (.getfield 13, 3) := by decide +kernel
theorem dX3_first_14 : decode cX3_first 14 = .ok (.iconst 0, 1) := by decide +kernel
theorem dX3_first_15 : decode cX3_first 15 = .ok (.iconst 0, 1) := by decide +kernel
theorem dX3_first_16 : decode cX3_first 16 = .ok (.iastore, 1) := by decide +kernel
theorem dX3_first_17 : decode cX3_first 17 = .ok (.iload_n 1, 1) := by decide +kernel
theorem dX3_first_18 : decode cX3_first 18 = .ok (.bipush 64, 2) := by decide +kernel
theorem dX3_first_20 : decode cX3_first 20 = .ok (.invokestatic 57, 3) := by decide +kernel
theorem dX3_first_23 : decode cX3_first 23 = .ok (.ifCond .eq 10, 3) := by decide +kernel
theorem dX3_first_26 : decode cX3_first 26 = .ok (.aload_n 0, 1) := by decide +kernel
theorem dX3_first_27 : decode cX3_first 27 = .ok (.getfield 13, 3) := by decide +kernel
theorem dX3_first_30 : decode cX3_first 30 = .ok (.iconst 1, 1) := by decide +kernel
theorem dX3_first_31 : decode cX3_first 31 = .ok (.iconst 0, 1) := by decide +kernel
theorem dX3_first_32 : decode cX3_first 32 = .ok (.iastore, 1) := by decide +kernel
theorem dX3_first_33 : decode cX3_first 33 = .ok (.iload_n 1, 1) := by decide +kernel
theorem dX3_first_34 : decode cX3_first 34 = .ok (.bipush 32, 2) := by decide +kernel
theorem dX3_first_36 : decode cX3_first 36 = .ok (.invokestatic 57, 3) := by decide +kernel
theorem dX3_first_39 : decode cX3_first 39 = .ok (.ifCond .eq 19, 3) := by decide +kernel
theorem dX3_first_42 : decode cX3_first 42 = .ok (.aload_n 0, 1) := by decide +kernel
theorem dX3_first_43 : decode cX3_first 43 = .ok (.getfield 13, 3) := by decide +kernel
theorem dX3_first_46 : decode cX3_first 46 = .ok (.iconst 0, 1) := by decide +kernel
theorem dX3_first_47 : decode cX3_first 47 = .ok (.sipush 4095, 3) := by decide +kernel
theorem dX3_first_50 : decode cX3_first 50 = .ok (.aload_n 0, 1) := by decide +kernel
theorem dX3_first_51 : decode cX3_first 51 = .ok (.getfield 13, 3) := by decide +kernel
theorem dX3_first_54 : decode cX3_first 54 = .ok (.iconst 0, 1) := by decide +kernel
theorem dX3_first_55 : decode cX3_first 55 = .ok (.iaload, 1) := by decide +kernel
theorem dX3_first_56 : decode cX3_first 56 = .ok (.isub, 1) := by decide +kernel
theorem dX3_first_57 : decode cX3_first 57 = .ok (.iastore, 1) := by decide +kernel
theorem dX3_first_58 : decode cX3_first 58 = .ok (.iload_n 1, 1) := by decide +kernel
theorem dX3_first_59 : decode cX3_first 59 = .ok (.bipush 16, 2) := by decide +kernel
theorem dX3_first_61 : decode cX3_first 61 = .ok (.invokestatic 57, 3) := by decide +kernel
theorem dX3_first_64 : decode cX3_first 64 = .ok (.ifCond .eq 17, 3) := by decide +kernel
theorem dX3_first_67 : decode cX3_first 67 = .ok (.aload_n 0, 1) := by decide +kernel
theorem dX3_first_68 : decode cX3_first 68 = .ok (.getfield 13, 3) := by decide +kernel
theorem dX3_first_71 : decode cX3_first 71 = .ok (.iconst 1, 1) := by decide +kernel
theorem dX3_first_72 : decode cX3_first 72 = .ok (.iconst 1, 1) := by decide +kernel
theorem dX3_first_73 : decode cX3_first 73 = .ok (.aload_n 0, 1) := by decide +kernel
theorem dX3_first_74 : decode cX3_first 74 = .ok (.getfield 13, 3) := by decide +kernel
theorem dX3_first_77 : decode cX3_first 77 = .ok (.iconst 1, 1) := by decide +kernel
theorem dX3_first_78 : decode cX3_first 78 = .ok (.iaload, 1) := by decide +kernel
theorem dX3_first_79 : decode cX3_first 79 = .ok (.isub, 1) := by decide +kernel
theorem dX3_first_80 : decode cX3_first 80 = .ok (.iastore, 1) := by decide +kernel
theorem dX3_first_81 : decode cX3_first 81 = .ok (.iload_n 1, 1) := by decide +kernel
theorem dX3_first_82 : decode cX3_first 82 = .ok (.iconst 1, 1) := by decide +kernel
theorem dX3_first_83 : decode cX3_first 83 = .ok (.invokestatic 57, 3) := by decide +kernel
theorem dX3_first_86 : decode cX3_first 86 = .ok (.ifCond .eq 8, 3) := by decide +kernel
theorem dX3_first_89 : decode cX3_first 89 = .ok (.aload_n 0, 1) := by decide +kernel
theorem dX3_first_90 : decode cX3_first 90 = .ok (.iconst 1, 1) := by decide +kernel
theorem dX3_first_91 : decode cX3_first 91 = .ok (.invokevirtual 70, 3) := by decide +kernel
theorem dX3_first_94 : decode cX3_first 94 = .ok (.iload_n 1, 1) := by decide +kernel
theorem dX3_first_95 : decode cX3_first 95 = .ok (.iconst 4, 1) := by decide +kernel
theorem dX3_first_96 : decode cX3_first 96 = .ok (.invokestatic 57, 3) := by decide +kernel
theorem dX3_first_99 : decode cX3_first 99 = .ok (.istore_n 2, 1) := by decide +kernel
theorem dX3_first_100 : decode cX3_first 100 = .ok (.iload_n 2, 1) := by decide +kernel
theorem dX3_first_101 : decode cX3_first 101 = .ok (.iload_n 1, 1) := by decide +kernel
theorem dX3_first_102 : decode cX3_first 102 = .ok (.bipush 8, 2) := by decide +kernel
theorem dX3_first_104 : decode cX3_first 104 = .ok (.invokestatic 57, 3) := by decide +kernel
theorem dX3_first_107 : decode cX3_first 107 = .ok (.if_icmp .ne 4, 3) := by decide +kernel
theorem dX3_first_110 : decode cX3_first 110 = .ok (.return_, 1) := by decide +kernel
theorem dX3_first_111 : decode cX3_first 111 = .ok (.iload_n 1, 1) := by decide +kernel
theorem dX3_first_112 : decode cX3_first 112 = .ok (.iconst 2, 1) := by decide +kernel
theorem dX3_first_113 : decode cX3_first 113 = .ok (.invokestatic 57, 3) := by decide +kernel
theorem dX3_first_116 : decode cX3_first 116 = .ok (.ifCond .eq 7, 3) := by decide +kernel
theorem dX3_first_119 : decode cX3_first 119 = .ok (.iconst 2, 1) := by decide +kernel
theorem dX3_first_120 : decode cX3_first 120 = .ok (.goto 4, 3) := by decide +kernel
theorem dX3_first_123 : decode cX3_first 123 = .ok (.iconst 1, 1) := by decide +kernel
theorem dX3_first_124 : decode cX3_first 124 = .ok (.istore_n 3, 1) := by decide +kernel
theorem dX3_first_125 : decode cX3_first 125 = .ok (.iconst 0, 1) := by decide +kernel
theorem dX3_first_126 : decode cX3_first 126 = .ok (.istore 4, 2) := by decide +kernel
theorem dX3_first_128 : decode cX3_first 128 = .ok (.iload 4, 2) := by decide +kernel
theorem dX3_first_130 : decode cX3_first 130 = .ok (.iload_n 3, 1) := by decide +kernel
theorem dX3_first_131 : decode cX3_first 131 = .ok (.if_icmp .ge 91, 3) := by decide +kernel
theorem dX3_first_134 : decode cX3_first 134 = .ok (.aload_n 0, 1) := by decide +kernel
theorem dX3_first_135 : decode cX3_first 135 = .ok (.getfield 13, 3) := by decide +kernel
theorem dX3_first_138 : decode cX3_first 138 = .ok (.iconst 1, 1) := by decide +kernel
theorem dX3_first_139 : decode cX3_first 139 = .ok (.iaload, 1) := by decide +kernel
theorem dX3_first_140 : decode cX3_first 140 = .ok (.sipush 4096, 3) := by decide +kernel
theorem dX3_first_143 : decode cX3_first 143 = .ok (.imul, 1) := by decide +kernel
theorem dX3_first_144 : decode cX3_first 144 = .ok (.aload_n 0, 1) := by decide +kernel
theorem dX3_first_145 : decode cX3_first 145 = .ok (.getfield 13, 3) := by decide +kernel
theorem dX3_first_148 : decode cX3_first 148 = .ok (.iconst 0, 1) := by decide +kernel
theorem dX3_first_149 : decode cX3_first 149 = .ok (.iaload, 1) := by decide +kernel
theorem dX3_first_150 : decode cX3_first 150 = .ok (.iadd, 1) := by decide +kernel
theorem dX3_first_151 : decode cX3_first 151 = .ok (.istore 5, 2) := by decide +kernel
theorem dX3_first_153 : decode cX3_first 153 = .ok (.iload_n 2, 1) := by decide +kernel
theorem dX3_first_154 : decode cX3_first 154 = .ok (.ifCond .eq 23, 3) := by decide +kernel
theorem dX3_first_157 : decode cX3_first 157 = .ok (.iload 5, 2) := by decide +kernel
theorem dX3_first_159 : decode cX3_first 159 = .ok (.iconst 2, 1) := by decide +kernel
theorem dX3_first_160 : decode cX3_first 160 = .ok (.imul, 1) := by decide +kernel
theorem dX3_first_161 : decode cX3_first 161 = .ok (.sipush 8192, 3) := by decide +kernel
theorem dX3_first_164 : decode cX3_first 164 = .ok (.irem, 1) := by decide +kernel
theorem dX3_first_165 : decode cX3_first 165 = .ok (.iload 5, 2) := by decide +kernel
theorem dX3_first_167 : decode cX3_first 167 = .ok (.sipush 4096, 3) := by decide +kernel
theorem dX3_first_170 : decode cX3_first 170 = .ok (.idiv, 1) := by decide +kernel
theorem dX3_first_171 : decode cX3_first 171 = .ok (.iadd, 1) := by decide +kernel
theorem dX3_first_172 : decode cX3_first 172 = .ok (.istore 5, 2) := by decide +kernel
theorem dX3_first_174 : decode cX3_first 174 = .ok (.goto 18, 3) := by decide +kernel
theorem dX3_first_177 : decode cX3_first 177 = .ok (.iload 5, 2) := by decide +kernel
theorem dX3_first_179 : decode cX3_first 179 = .ok (.iconst 2, 1) := by decide +kernel
theorem dX3_first_180 : decode cX3_first 180 = .ok (.idiv, 1) := by decide +kernel
theorem dX3_first_181 : decode cX3_first 181 = .ok (.iload 5, 2) := by decide +kernel
theorem dX3_first_183 : decode cX3_first 183 = .ok (.iconst 2, 1) := by decide +kernel
theorem dX3_first_184 : decode cX3_first 184 = .ok (.irem, 1) := by decide +kernel
theorem dX3_first_185 : decode cX3_first 185 = .ok (.sipush 4096, 3) := by decide +kernel
theorem dX3_first_188 : decode cX3_first 188 = .ok (.imul, 1) := by decide +kernel
theorem dX3_first_189 : decode cX3_first 189 = .ok (.iadd, 1) := by decide +kernel
theorem dX3_first_190 : decode cX3_first 190 = .ok (.istore 5, 2) := by decide +kernel
theorem dX3_first_192 : decode cX3_first 192 = .ok (.aload_n 0, 1) := by decide +kernel
theorem dX3_first_193 : decode cX3_first 193 = .ok (.getfield 13, 3) := by decide +kernel
theorem dX3_first_196 : decode cX3_first 196 = .ok (.iconst 1, 1) := by decide +kernel
theorem dX3_first_197 : decode cX3_first 197 = .ok (.iload 5, 2) := by decide +kernel
theorem dX3_first_199 : decode cX3_first 199 = .ok (.sipush 4096, 3) := by decide +kernel
theorem dX3_first_202 : decode cX3_first 202 = .ok (.idiv, 1) := by decide +kernel
theorem dX3_first_203 : decode cX3_first 203 = .ok (.iastore, 1) := by decide +kernel
theorem dX3_first_204 : decode cX3_first 204 = .ok (.aload_n 0, 1) := by decide +kernel
theorem dX3_first_205 : decode cX3_first 205 = .ok (.getfield 13, 3) := by decide +kernel
theorem dX3_first_208 : decode cX3_first 208 = .ok (.iconst 0, 1) := by decide +kernel
theorem dX3_first_209 : decode cX3_first 209 = .ok (.iload 5, 2) := by decide +kernel
theorem dX3_first_211 : decode cX3_first 211 = .ok (.sipush 4096, 3) := by decide +kernel
theorem dX3_first_214 : decode cX3_first 214 = .ok (.irem, 1) := by decide +kernel
theorem dX3_first_215 : decode cX3_first 215 = .ok (.iastore, 1) := by decide +kernel
theorem dX3_first_216 : decode cX3_first 216 = .ok (.iinc 4 1, 3) := by decide +kernel
theorem dX3_first_219 : decode cX3_first 219 = .ok (.goto (-91), 3) := by decide +kernel
theorem dX3_first_222 : decode cX3_first 222 = .ok (.return_, 1) := by decide +kernel
theorem dX3_second_0 : decode cX3_second 0 = .ok (.iload_n 1, 1) := by decide +kernel
theorem dX3_second_1 : decode cX3_second 1 = .ok (.bipush 64, 2) := by decide +kernel
theorem dX3_second_3 : decode cX3_second 3 = .ok (.invokestatic 57, 3) := by decide +kernel
theorem dX3_second_6 : decode cX3_second 6 = .ok (.ifCond .eq 15, 3) := by decide +kernel
theorem dX3_second_9 : decode cX3_second 9 = .ok (.aload_n 0, 1) := by decide +kernel
theorem dX3_second_10 : decode cX3_second 10 = .ok (.getfield 13, 3) := by decide +kernel
theorem dX3_second_13 : decode cX3_second 13 = .ok (.iconst 0, 1) := by decide +kernel
theorem dX3_second_14 : decode cX3_second 14 = .ok (.iaload, 1) := by decide +kernel
theorem dX3_second_15 : decode cX3_second 15 = .ok (.sipush 2048, 3) := by decide +kernel
theorem dX3_second_18 : decode cX3_second 18 = .ok (.if_icmp .ge 40, 3) := by decide +kernel
theorem dX3_second_21 : decode cX3_second 21 = .ok (.iload_n 1, 1) := by decide +kernel
theorem dX3_second_22 : decode cX3_second 22 = .ok (.bipush 32, 2) := by decide +kernel
theorem dX3_second_24 : decode cX3_second 24 = .ok (.invokestatic 57, 3) := by decide +kernel
theorem dX3_second_27 : decode cX3_second 27 = .ok (.ifCond .eq 12, 3) := by decide +kernel
theorem dX3_second_30 : decode cX3_second 30 = .ok (.aload_n 0, 1) := by decide +kernel
theorem dX3_second_31 : decode cX3_second 31 = .ok (.getfield 13, 3) := by decide +kernel
theorem dX3_second_34 : decode cX3_second 34 = .ok (.iconst 0, 1) := by decide +kernel
theorem dX3_second_35 : decode cX3_second 35 = .ok (.iaload, 1) := by decide +kernel
theorem dX3_second_36 : decode cX3_second 36 = .ok (.ifCond .eq 22, 3) := by decide +kernel
theorem dX3_second_39 : decode cX3_second 39 = .ok (.iload_n 1, 1) := by decide +kernel
theorem dX3_second_40 : decode cX3_second 40 = .ok (.bipush 16, 2) := by decide +kernel
theorem dX3_second_42 : decode cX3_second 42 = .ok (.invokestatic 57, 3) := by decide +kernel
theorem dX3_second_45 : decode cX3_second 45 = .ok (.ifCond .eq 17, 3) := by decide +kernel
theorem dX3_second_48 : decode cX3_second 48 = .ok (.aload_n 0, 1) := by decide +kernel
theorem dX3_second_49 : decode cX3_second 49 = .ok (.getfield 13, 3) := by decide +kernel
theorem dX3_second_52 : decode cX3_second 52 = .ok (.iconst 1, 1) := by decide +kernel
theorem dX3_second_53 : decode cX3_second 53 = .ok (.iaload, 1) := by decide +kernel
theorem dX3_second_54 : decode cX3_second 54 = .ok (.iconst 1, 1) := by decide +kernel
theorem dX3_second_55 : decode cX3_second 55 = .ok (.if_icmp .ne 7, 3) := by decide +kernel
theorem dX3_second_58 : decode cX3_second 58 = .ok (.iconst 1, 1) := by decide +kernel
theorem dX3_second_59 : decode cX3_second 59 = .ok (.goto 4, 3) := by decide +kernel
theorem dX3_second_62 : decode cX3_second 62 = .ok (.iconst 0, 1) := by decide +kernel
theorem dX3_second_63 : decode cX3_second 63 = .ok (.istore_n 2, 1) := by decide +kernel
theorem dX3_second_64 : decode cX3_second 64 = .ok (.iload_n 2, 1) := by decide +kernel
theorem dX3_second_65 : decode cX3_second 65 = .ok (.iload_n 1, 1) := by decide +kernel
theorem dX3_second_66 : decode cX3_second 66 = .ok (.bipush 8, 2) := by decide +kernel
theorem dX3_second_68 : decode cX3_second 68 = .ok (.invokestatic 57, 3) := by decide +kernel
theorem dX3_second_71 : decode cX3_second 71 = .ok (.if_icmp .eq 7, 3) := by decide +kernel
theorem dX3_second_74 : decode cX3_second 74 = .ok (.aload_n 0, 1) := by decide +kernel
theorem dX3_second_75 : decode cX3_second 75 = .ok (.invokevirtual 73, 3) := by decide +kernel
theorem dX3_second_78 : decode cX3_second 78 = .ok (.iload_n 1, 1) := by decide +kernel
theorem dX3_second_79 : decode cX3_second 79 = .ok (.sipush 128, 3) := by decide +kernel
theorem dX3_second_82 : decode cX3_second 82 = .ok (.invokestatic 57, 3) := by decide +kernel
theorem dX3_second_85 : decode cX3_second 85 = .ok (.ifCond .eq 10, 3) := by decide +kernel
theorem dX3_second_88 : decode cX3_second 88 = .ok (.aload_n 0, 1) := by decide +kernel
theorem dX3_second_89 : decode cX3_second 89 = .ok (.getfield 13, 3) := by decide +kernel
theorem dX3_second_92 : decode cX3_second 92 = .ok (.iconst 0, 1) := by decide +kernel
theorem dX3_second_93 : decode cX3_second 93 = .ok (.iconst 0, 1) := by decide +kernel
theorem dX3_second_94 : decode cX3_second 94 = .ok (.iastore, 1) := by decide +kernel
theorem dX3_second_95 : decode cX3_second 95 = .ok (.iload_n 1, 1) := by decide +kernel
theorem dX3_second_96 : decode cX3_second 96 = .ok (.iconst 4, 1) := by decide +kernel
theorem dX3_second_97 : decode cX3_second 97 = .ok (.invokestatic 57, 3) := by decide +kernel
theorem dX3_second_100 : decode cX3_second 100 = .ok (.ifCond .eq 22, 3) := by decide +kernel
theorem dX3_second_103 : decode cX3_second 103 = .ok (.aload_n 0, 1) := by decide +kernel
theorem dX3_second_104 : decode cX3_second 104 = .ok (.getfield 13, 3) := by decide +kernel
theorem dX3_second_107 : decode cX3_second 107 = .ok (.iconst 0, 1) := by decide +kernel
theorem dX3_second_108 : decode cX3_second 108 = .ok (.aload_n 0, 1) := by decide +kernel
theorem dX3_second_109 : decode cX3_second 109 = .ok (.getfield 13, 3) := by decide +kernel
theorem dX3_second_112 : decode cX3_second 112 = .ok (.iconst 0, 1) := by decide +kernel
theorem dX3_second_113 : decode cX3_second 113 = .ok (.iaload, 1) := by decide +kernel
theorem dX3_second_114 : decode cX3_second 114 = .ok (.aload_n 0, 1) := by decide +kernel
theorem dX3_second_115 : decode cX3_second 115 = .ok (.getfield 13, 3) := by decide +kernel
theorem dX3_second_118 : decode cX3_second 118 = .ok (.iconst 4, 1) := by decide +kernel
theorem dX3_second_119 : decode cX3_second 119 = .ok (.iaload, 1) := by decide +kernel
theorem dX3_second_120 : decode cX3_second 120 = .ok (.ior, 1) := by decide +kernel
theorem dX3_second_121 : decode cX3_second 121 = .ok (.iastore, 1) := by decide +kernel
theorem dX3_second_122 : decode cX3_second 122 = .ok (.iload_n 1, 1) := by decide +kernel
theorem dX3_second_123 : decode cX3_second 123 = .ok (.iconst 2, 1) := by decide +kernel
theorem dX3_second_124 : decode cX3_second 124 = .ok (.invokestatic 57, 3) := by decide +kernel
theorem dX3_second_127 : decode cX3_second 127 = .ok (.ifCond .eq 11, 3) := by decide +kernel
theorem dX3_second_130 : decode cX3_second 130 = .ok (.aload_n 0, 1) := by decide +kernel
theorem dX3_second_131 : decode cX3_second 131 = .ok (.getfield 13, 3) := by decide +kernel
theorem dX3_second_134 : decode cX3_second 134 = .ok (.bipush 10, 2) := by decide +kernel
theorem dX3_second_136 : decode cX3_second 136 = .ok (.iconst 1, 1) := by decide +kernel
theorem dX3_second_137 : decode cX3_second 137 = .ok (.iastore, 1) := by decide +kernel
theorem dX3_second_138 : decode cX3_second 138 = .ok (.return_, 1) := by decide +kernel
theorem dX3_third_0 : decode cX3_third 0 = .ok (.iload_n 1, 1) := by decide +kernel
theorem dX3_third_1 : decode cX3_third 1 = .ok (.sipush 128, 3) := by decide +kernel
theorem dX3_third_4 : decode cX3_third 4 = .ok (.invokestatic 57, 3) := by decide +kernel
theorem dX3_third_7 : decode cX3_third 7 = .ok (.ifCond .eq 7, 3) := by decide +kernel
theorem dX3_third_10 : decode cX3_third 10 = .ok (.iconst 0, 1) := by decide +kernel
theorem dX3_third_11 : decode cX3_third 11 = .ok (.goto 9, 3) := by decide +kernel
theorem dX3_third_14 : decode cX3_third 14 = .ok (.aload_n 0, 1) := by decide +kernel
theorem dX3_third_15 : decode cX3_third 15 = .ok (.getfield 13, 3) := by decide +kernel
theorem dX3_third_18 : decode cX3_third 18 = .ok (.iconst 0, 1) := by decide +kernel
theorem dX3_third_19 : decode cX3_third 19 = .ok (.iaload, 1) := by decide +kernel
theorem dX3_third_20 : decode cX3_third 20 = .ok (.istore_n 2, 1) := by decide +kernel
theorem dX3_third_21 : decode cX3_third 21 = .ok (.aload_n 0, 1) := by decide +kernel
theorem dX3_third_22 : decode cX3_third 22 = .ok (.getfield 13, 3) := by decide +kernel
theorem dX3_third_25 : decode cX3_third 25 = .ok (.iconst 3, 1) := by decide +kernel
theorem dX3_third_26 : decode cX3_third 26 = .ok (.iaload, 1) := by decide +kernel
theorem dX3_third_27 : decode cX3_third 27 = .ok (.istore_n 3, 1) := by decide +kernel
theorem dX3_third_28 : decode cX3_third 28 = .ok (.iload_n 1, 1) := by decide +kernel
theorem dX3_third_29 : decode cX3_third 29 = .ok (.bipush 16, 2) := by decide +kernel
theorem dX3_third_31 : decode cX3_third 31 = .ok (.invokestatic 57, 3) := by decide +kernel
theorem dX3_third_34 : decode cX3_third 34 = .ok (.istore 4, 2) := by decide +kernel
theorem dX3_third_36 : decode cX3_third 36 = .ok (.iload_n 1, 1) := by decide +kernel
theorem dX3_third_37 : decode cX3_third 37 = .ok (.bipush 64, 2) := by decide +kernel
theorem dX3_third_39 : decode cX3_third 39 = .ok (.invokestatic 57, 3) := by decide +kernel
theorem dX3_third_42 : decode cX3_third 42 = .ok (.istore 5, 2) := by decide +kernel
theorem dX3_third_44 : decode cX3_third 44 = .ok (.aload_n 0, 1) := by decide +kernel
theorem dX3_third_45 : decode cX3_third 45 = .ok (.getfield 13, 3) := by decide +kernel
theorem dX3_third_48 : decode cX3_third 48 = .ok (.iconst 0, 1) := by decide +kernel
theorem dX3_third_49 : decode cX3_third 49 = .ok (.iload 4, 2) := by decide +kernel
theorem dX3_third_51 : decode cX3_third 51 = .ok (.ifCond .eq 12, 3) := by decide +kernel
theorem dX3_third_54 : decode cX3_third 54 = .ok (.iload 5, 2) := by decide +kernel
theorem dX3_third_56 : decode cX3_third 56 = .ok (.ifCond .eq 7, 3) := by decide +kernel
theorem dX3_third_59 : decode cX3_third 59 = .ok (.iload_n 3, 1) := by decide +kernel
theorem dX3_third_60 : decode cX3_third 60 = .ok (.goto 24, 3) := by decide +kernel
theorem dX3_third_63 : decode cX3_third 63 = .ok (.iload 4, 2) := by decide +kernel
theorem dX3_third_65 : decode cX3_third 65 = .ok (.ifCond .eq 7, 3) := by decide +kernel
theorem dX3_third_68 : decode cX3_third 68 = .ok (.iconst 0, 1) := by decide +kernel
theorem dX3_third_69 : decode cX3_third 69 = .ok (.goto 15, 3) := by decide +kernel
theorem dX3_third_72 : decode cX3_third 72 = .ok (.iload 5, 2) := by decide +kernel
theorem dX3_third_74 : decode cX3_third 74 = .ok (.ifCond .eq 9, 3) := by decide +kernel
theorem dX3_third_77 : decode cX3_third 77 = .ok (.iload_n 2, 1) := by decide +kernel
theorem dX3_third_78 : decode cX3_third 78 = .ok (.iload_n 3, 1) := by decide +kernel
theorem dX3_third_79 : decode cX3_third 79 = .ok (.ior, 1) := by decide +kernel
theorem dX3_third_80 : decode cX3_third 80 = .ok (.goto 4, 3) := by decide +kernel
theorem dX3_third_83 : decode cX3_third 83 = .ok (.iload_n 2, 1) := by decide +kernel
theorem dX3_third_84 : decode cX3_third 84 = .ok (.iastore, 1) := by decide +kernel
theorem dX3_third_85 : decode cX3_third 85 = .ok (.aload_n 0, 1) := by decide +kernel
theorem dX3_third_86 : decode cX3_third 86 = .ok (.getfield 13, 3) := by decide +kernel
theorem dX3_third_89 : decode cX3_third 89 = .ok (.iconst 3, 1) := by decide +kernel
theorem dX3_third_90 : decode cX3_third 90 = .ok (.iload 4, 2) := by decide +kernel
theorem dX3_third_92 : decode cX3_third 92 = .ok (.ifCond .eq 7, 3) := by decide +kernel
theorem dX3_third_95 : decode cX3_third 95 = .ok (.iload_n 2, 1) := by decide +kernel
theorem dX3_third_96 : decode cX3_third 96 = .ok (.goto 4, 3) := by decide +kernel
theorem dX3_third_99 : decode cX3_third 99 = .ok (.iload_n 3, 1) := by decide +kernel
theorem dX3_third_100 : decode cX3_third 100 = .ok (.iastore, 1) := by decide +kernel
theorem dX3_third_101 : decode cX3_third 101 = .ok (.return_, 1) := by decide +kernel
theorem dX3_run_0 : decode cX3_run 0 = .ok (.iconst 0, 1) := by decide +kernel
theorem dX3_run_1 : decode cX3_run 1 = .ok (.istore_n 2, 1) := by decide +kernel
theorem dX3_run_2 : decode cX3_run 2 = .ok (.iconst 0, 1) := by decide +kernel
theorem dX3_run_3 : decode cX3_run 3 = .ok (.istore_n 3, 1) := by decide +kernel
theorem dX3_run_4 : decode cX3_run 4 = .ok (.iload_n 3, 1) := by decide +kernel
theorem dX3_run_5 : decode cX3_run 5 = .ok (.iload_n 1, 1) := by decide +kernel
theorem dX3_run_6 : decode cX3_run 6 = .ok (.if_icmp .ge 33, 3) := by decide +kernel
theorem dX3_run_9 : decode cX3_run 9 = .ok (.iload_n 1, 1) := by decide +kernel
theorem dX3_run_10 : decode cX3_run 10 = .ok (.sipush 2000, 3) := by decide +kernel
theorem dX3_run_13 : decode cX3_run 13 = .ok (.if_icmp .gt 26, 3) := by decide +kernel
theorem dX3_run_16 : decode cX3_run 16 = .ok (.aload_n 0, 1) := by decide +kernel
theorem dX3_run_17 : decode cX3_run 17 = .ok (.getfield 13, 3) := by decide +kernel
theorem dX3_run_20 : decode cX3_run 20 = .ok (.bipush 10, 2) := by decide +kernel
theorem dX3_run_22 : decode cX3_run 22 = .ok (.iaload, 1) := by decide +kernel
theorem dX3_run_23 : decode cX3_run 23 = .ok (.ifCond .ne 16, 3) := by decide +kernel
theorem dX3_run_26 : decode cX3_run 26 = .ok (.aload_n 0, 1) := by decide +kernel
theorem dX3_run_27 : decode cX3_run 27 = .ok (.invokevirtual 82, 3) := by decide +kernel
theorem dX3_run_30 : decode cX3_run 30 = .ok (.iinc 2 1, 3) := by decide +kernel
theorem dX3_run_33 : decode cX3_run 33 = .ok (.iinc 3 1, 3) := by decide +kernel
theorem dX3_run_36 : decode cX3_run 36 = .ok (.goto (-32), 3) := by decide +kernel
theorem dX3_run_39 : decode cX3_run 39 = .ok (.iload_n 2, 1) := by decide +kernel
theorem dX3_run_40 : decode cX3_run 40 = .ok (.ireturn, 1) := by decide +kernel
theorem dX3_printed_0 : decode cX3_printed 0 = .ok (.iload_n 1, 1) := by decide +kernel
theorem dX3_printed_1 : decode cX3_printed 1 = .ok (.iconst (-1), 1) := by decide +kernel
theorem dX3_printed_2 : decode cX3_printed 2 = .ok (.if_icmp .ne 8, 3) := by decide +kernel
theorem dX3_printed_5 : decode cX3_printed 5 = .ok (.aload_n 0, 1) := by decide +kernel
theorem dX3_printed_6 : decode cX3_printed 6 = .ok (.getfield 79, 3) := by decide +kernel
theorem dX3_printed_9 : decode cX3_printed 9 = .ok (.ireturn, 1) := by decide +kernel
theorem dX3_printed_10 : decode cX3_printed 10 = .ok (.iload_n 1, 1) := by decide +kernel
theorem dX3_printed_11 : decode cX3_printed 11 = .ok (.ifCond .lt 17, 3) := by decide +kernel
theorem dX3_printed_14 : decode cX3_printed 14 = .ok (.iload_n 1, 1) := by decide +kernel
theorem dX3_printed_15 : decode cX3_printed 15 = .ok (.bipush 63, 2) := by decide +kernel
theorem dX3_printed_17 : decode cX3_printed 17 = .ok (.if_icmp .gt 11, 3) := by decide +kernel
theorem dX3_printed_20 : decode cX3_printed 20 = .ok (.iload_n 1, 1) := by decide +kernel
theorem dX3_printed_21 : decode cX3_printed 21 = .ok (.aload_n 0, 1) := by decide +kernel
theorem dX3_printed_22 : decode cX3_printed 22 = .ok (.getfield 79, 3) := by decide +kernel
theorem dX3_printed_25 : decode cX3_printed 25 = .ok (.if_icmp .lt 7, 3) := by decide +kernel
theorem dX3_printed_28 : decode cX3_printed 28 = .ok (.iconst (-1), 1) := by decide +kernel
theorem dX3_printed_29 : decode cX3_printed 29 = .ok (.goto 9, 3) := by decide +kernel
theorem dX3_printed_32 : decode cX3_printed 32 = .ok (.aload_n 0, 1) := by decide +kernel
theorem dX3_printed_33 : decode cX3_printed 33 = .ok (.getfield 19, 3) := by decide +kernel
theorem dX3_printed_36 : decode cX3_printed 36 = .ok (.iload_n 1, 1) := by decide +kernel
theorem dX3_printed_37 : decode cX3_printed 37 = .ok (.iaload, 1) := by decide +kernel
theorem dX3_printed_38 : decode cX3_printed 38 = .ok (.ireturn, 1) := by decide +kernel
theorem dX3_trace_0 : decode cX3_trace 0 = .ok (.iload_n 1, 1) := by decide +kernel
theorem dX3_trace_1 : decode cX3_trace 1 = .ok (.ifCond .lt 17, 3) := by decide +kernel
theorem dX3_trace_4 : decode cX3_trace 4 = .ok (.iload_n 1, 1) := by decide +kernel
theorem dX3_trace_5 : decode cX3_trace 5 = .ok (.bipush 63, 2) := by decide +kernel
theorem dX3_trace_7 : decode cX3_trace 7 = .ok (.if_icmp .gt 11, 3) := by decide +kernel
theorem dX3_trace_10 : decode cX3_trace 10 = .ok (.iload_n 1, 1) := by decide +kernel
theorem dX3_trace_11 : decode cX3_trace 11 = .ok (.aload_n 0, 1) := by decide +kernel
theorem dX3_trace_12 : decode cX3_trace 12 = .ok (.getfield 42, 3) := by decide +kernel
theorem dX3_trace_15 : decode cX3_trace 15 = .ok (.if_icmp .lt 7, 3) := by decide +kernel
theorem dX3_trace_18 : decode cX3_trace 18 = .ok (.iconst (-1), 1) := by decide +kernel
theorem dX3_trace_19 : decode cX3_trace 19 = .ok (.goto 9, 3) := by decide +kernel
theorem dX3_trace_22 : decode cX3_trace 22 = .ok (.aload_n 0, 1) := by decide +kernel
theorem dX3_trace_23 : decode cX3_trace 23 = .ok (.getfield 22, 3) := by decide +kernel
theorem dX3_trace_26 : decode cX3_trace 26 = .ok (.iload_n 1, 1) := by decide +kernel
theorem dX3_trace_27 : decode cX3_trace 27 = .ok (.iaload, 1) := by decide +kernel
theorem dX3_trace_28 : decode cX3_trace 28 = .ok (.ireturn, 1) := by decide +kernel
theorem dX3_interrupts_0 : decode cX3_interrupts 0 = .ok (.aload_n 0, 1) := by decide +kernel
theorem dX3_interrupts_1 : decode cX3_interrupts 1 = .ok (.getfield 39, 3) := by decide +kernel
theorem dX3_interrupts_4 : decode cX3_interrupts 4 = .ok (.ireturn, 1) := by decide +kernel
theorem dX3_skips_0 : decode cX3_skips 0 = .ok (.aload_n 0, 1) := by decide +kernel
theorem dX3_skips_1 : decode cX3_skips 1 = .ok (.getfield 36, 3) := by decide +kernel
theorem dX3_skips_4 : decode cX3_skips 4 = .ok (.ireturn, 1) := by decide +kernel
