theorem dX0_init_0 : decode cX0_init 0 = .ok (.aload_n 0, 1) := by decide +kernel
theorem dX0_init_1 : decode cX0_init 1 = .ok (.invokespecial 3, 3) := by decide +kernel
theorem dX0_init_4 : decode cX0_init 4 = .ok (.aload_n 0, 1) := by decide +kernel
theorem dX0_init_5 : decode cX0_init 5 = .ok (.sipush 400, 3) := by decide +kernel
theorem dX0_init_8 : decode cX0_init 8 = .ok (.newarray .int, 2) := by decide +kernel
theorem dX0_init_10 : decode cX0_init 10 = .ok (.putfield 9, 3) := by decide +kernel
theorem dX0_init_13 : decode cX0_init 13 = .ok (.return_, 1) := by decide +kernel
theorem dX0_append_0 : decode cX0_append 0 = .ok (.iload_n 1, 1) := by decide +kernel
theorem dX0_append_1 : decode cX0_append 1 = .ok (.ifCond .lt 20, 3) := by decide +kernel
theorem dX0_append_4 : decode cX0_append 4 = .ok (.iload_n 1, 1) := by decide +kernel
theorem dX0_append_5 : decode cX0_append 5 = .ok (.sipush 255, 3) := by decide +kernel
theorem dX0_append_8 : decode cX0_append 8 = .ok (.if_icmp .gt 13, 3) := by decide +kernel
theorem dX0_append_11 : decode cX0_append 11 = .ok (.aload_n 0, 1) := by decide +kernel
theorem dX0_append_12 : decode cX0_append 12 = .ok (.getfield 15, 3) := by decide +kernel
theorem dX0_append_15 : decode cX0_append 15 = .ok (.sipush 400, 3) := by decide +kernel
theorem dX0_append_18 : decode cX0_append 18 = .ok (.if_icmp .lt 5, 3) := by decide +kernel
theorem dX0_append_21 : decode cX0_append 21 = .ok (.iconst 0, 1) := by decide +kernel
theorem dX0_append_22 : decode cX0_append 22 = .ok (.ireturn, 1) := by decide +kernel
theorem dX0_append_23 : decode cX0_append 23 = .ok (.aload_n 0, 1) := by decide +kernel
theorem dX0_append_24 : decode cX0_append 24 = .ok (.getfield 9, 3) := by decide +kernel
theorem dX0_append_27 : decode cX0_append 27 = .ok (.aload_n 0, 1) := by decide +kernel
theorem dX0_append_28 : decode cX0_append 28 = .ok (.getfield 15, 3) := by decide +kernel
theorem dX0_append_31 : decode cX0_append 31 = .ok (.iload_n 1, 1) := by decide +kernel
theorem dX0_append_32 : decode cX0_append 32 = .ok (.iastore, 1) := by decide +kernel
theorem dX0_append_33 : decode cX0_append 33 = .ok (.aload_n 0, 1) := by decide +kernel
theorem dX0_append_34 : decode cX0_append 34 = .ok (.dup, 1) := by decide +kernel
theorem dX0_append_35 : decode cX0_append 35 = .ok (.getfield 15, 3) := by decide +kernel
theorem dX0_append_38 : decode cX0_append 38 = .ok (.iconst 1, 1) := by decide +kernel
theorem dX0_append_39 : decode cX0_append 39 = .ok (.iadd, 1) := by decide +kernel
theorem dX0_append_40 : decode cX0_append 40 = .ok (.putfield 15, 3) := by decide +kernel
theorem dX0_append_43 : decode cX0_append 43 = .ok (.iconst 1, 1) := by decide +kernel
theorem dX0_append_44 : decode cX0_append 44 = .ok (.ireturn, 1) := by decide +kernel
theorem dX0_unread_0 : decode cX0_unread 0 = .ok (.aload_n 0, 1) := by decide +kernel
theorem dX0_unread_1 : decode cX0_unread 1 = .ok (.getfield 15, 3) := by decide +kernel
theorem dX0_unread_4 : decode cX0_unread 4 = .ok (.aload_n 0, 1) := by decide +kernel
theorem dX0_unread_5 : decode cX0_unread 5 = .ok (.getfield 19, 3) := by decide +kernel
theorem dX0_unread_8 : decode cX0_unread 8 = .ok (.isub, 1) := by decide +kernel
theorem dX0_unread_9 : decode cX0_unread 9 = .ok (.ireturn, 1) := by decide +kernel
theorem dX0_restart_0 : decode cX0_restart 0 = .ok (.aload_n 0, 1) := by decide +kernel
theorem dX0_restart_1 : decode cX0_restart 1 = .ok (.iconst 0, 1) := by decide +kernel
theorem dX0_restart_2 : decode cX0_restart 2 = .ok (.putfield 22, 3) := by decide +kernel
theorem dX0_restart_5 : decode cX0_restart 5 = .ok (.aload_n 0, 1) := by decide +kernel
theorem dX0_restart_6 : decode cX0_restart 6 = .ok (.getfield 19, 3) := by decide +kernel
theorem dX0_restart_9 : decode cX0_restart 9 = .ok (.aload_n 0, 1) := by decide +kernel
theorem dX0_restart_10 : decode cX0_restart 10 = .ok (.getfield 15, 3) := by decide +kernel
theorem dX0_restart_13 : decode cX0_restart 13 = .ok (.if_icmp .ge 31, 3) := by decide +kernel
theorem dX0_restart_16 : decode cX0_restart 16 = .ok (.aload_n 0, 1) := by decide +kernel
theorem dX0_restart_17 : decode cX0_restart 17 = .ok (.aload_n 0, 1) := by decide +kernel
theorem dX0_restart_18 : decode cX0_restart 18 = .ok (.getfield 9, 3) := by decide +kernel
theorem dX0_restart_21 : decode cX0_restart 21 = .ok (.aload_n 0, 1) := by decide +kernel
theorem dX0_restart_22 : decode cX0_restart 22 = .ok (.getfield 19, 3) := by decide +kernel
theorem dX0_restart_25 : decode cX0_restart 25 = .ok (.iaload, 1) := by decide +kernel
theorem dX0_restart_26 : decode cX0_restart 26 = .ok (.putfield 26, 3) := by decide +kernel
theorem dX0_restart_29 : decode cX0_restart 29 = .ok (.aload_n 0, 1) := by decide +kernel
theorem dX0_restart_30 : decode cX0_restart 30 = .ok (.dup, 1) := by decide +kernel
theorem dX0_restart_31 : decode cX0_restart 31 = .ok (.getfield 19, 3) := by decide +kernel
theorem dX0_restart_34 : decode cX0_restart 34 = .ok (.iconst 1, 1) := by decide +kernel
theorem dX0_restart_35 : decode cX0_restart 35 = .ok (.iadd, 1) := by decide +kernel
theorem dX0_restart_36 : decode cX0_restart 36 = .ok (.putfield 19, 3) := by decide +kernel
theorem dX0_restart_39 : decode cX0_restart 39 = .ok (.aload_n 0, 1) := by decide +kernel
theorem dX0_restart_40 : decode cX0_restart 40 = .ok (.iconst 1, 1) := by decide +kernel
theorem dX0_restart_41 : decode cX0_restart 41 = .ok (.putfield 22, 3) := by decide +kernel
theorem dX0_restart_44 : decode cX0_restart 44 = .ok (.return_, 1) := by decide +kernel
theorem dX1_init_0 : decode cX1_init 0 = .ok (.aload_n 0, 1) := by decide +kernel
theorem dX1_init_1 : decode cX1_init 1 = .ok (.invokespecial 3, 3) := by decide +kernel
theorem dX1_init_4 : decode cX1_init 4 = .ok (.aload_n 0, 1) := by decide +kernel
theorem dX1_init_5 : decode cX1_init 5 = .ok (.bipush 64, 2) := by decide +kernel
theorem dX1_init_7 : decode cX1_init 7 = .ok (.newarray .int, 2) := by decide +kernel
theorem dX1_init_9 : decode cX1_init 9 = .ok (.putfield 9, 3) := by decide +kernel
theorem dX1_init_12 : decode cX1_init 12 = .ok (.return_, 1) := by decide +kernel
theorem dX1_add_0 : decode cX1_add 0 = .ok (.aload_n 0, 1) := by decide +kernel
theorem dX1_add_1 : decode cX1_add 1 = .ok (.getfield 9, 3) := by decide +kernel
theorem dX1_add_4 : decode cX1_add 4 = .ok (.aload_n 0, 1) := by decide +kernel
theorem dX1_add_5 : decode cX1_add 5 = .ok (.getfield 15, 3) := by decide +kernel
theorem dX1_add_8 : decode cX1_add 8 = .ok (.bipush 63, 2) := by decide +kernel
theorem dX1_add_10 : decode cX1_add 10 = .ok (.iand, 1) := by decide +kernel
theorem dX1_add_11 : decode cX1_add 11 = .ok (.iload_n 1, 1) := by decide +kernel
theorem dX1_add_12 : decode cX1_add 12 = .ok (.iastore, 1) := by decide +kernel
theorem dX1_add_13 : decode cX1_add 13 = .ok (.aload_n 0, 1) := by decide +kernel
theorem dX1_add_14 : decode cX1_add 14 = .ok (.dup, 1) := by decide +kernel
theorem dX1_add_15 : decode cX1_add 15 = .ok (.getfield 15, 3) := by decide +kernel
theorem dX1_add_18 : decode cX1_add 18 = .ok (.iconst 1, 1) := by decide +kernel
theorem dX1_add_19 : decode cX1_add 19 = .ok (.iadd, 1) := by decide +kernel
theorem dX1_add_20 : decode cX1_add 20 = .ok (.putfield 15, 3) := by decide +kernel
theorem dX1_add_23 : decode cX1_add 23 = .ok (.return_, 1) := by decide +kernel
theorem dX1_fromLatest_0 : decode cX1_fromLatest 0 = .ok (.iload_n 1, 1) := by decide +kernel
theorem dX1_fromLatest_1 : decode cX1_fromLatest 1 = .ok (.ifCond .lt 17, 3) := by decide +kernel
theorem dX1_fromLatest_4 : decode cX1_fromLatest 4 = .ok (.iload_n 1, 1) := by decide +kernel
theorem dX1_fromLatest_5 : decode cX1_fromLatest 5 = .ok (.bipush 64, 2) := by decide +kernel
theorem dX1_fromLatest_7 : decode cX1_fromLatest 7 = .ok (.if_icmp .ge 11, 3) := by decide +kernel
theorem dX1_fromLatest_10 : decode cX1_fromLatest 10 = .ok (.iload_n 1, 1) := by decide +kernel
theorem dX1_fromLatest_11 : decode cX1_fromLatest 11 = .ok (.aload_n 0, 1) := by decide +kernel
theorem dX1_fromLatest_12 : decode cX1_fromLatest 12 = .ok (.getfield 15, 3) := by decide +kernel
theorem dX1_fromLatest_15 : decode cX1_fromLatest 15 = .ok (.if_icmp .lt 5, 3) := by decide +kernel
theorem dX1_fromLatest_18 : decode cX1_fromLatest 18 = .ok (.iconst (-1), 1) := by decide +kernel
theorem dX1_fromLatest_19 : decode cX1_fromLatest 19 = .ok (.ireturn, 1) := by decide +kernel
theorem dX1_fromLatest_20 : decode cX1_fromLatest 20 = .ok (.aload_n 0, 1) := by decide +kernel
theorem dX1_fromLatest_21 : decode cX1_fromLatest 21 = .ok (.getfield 9, 3) := by decide +kernel
theorem dX1_fromLatest_24 : decode cX1_fromLatest 24 = .ok (.aload_n 0, 1) := by decide +kernel
theorem dX1_fromLatest_25 : decode cX1_fromLatest 25 = .ok (.getfield 15, 3) := by decide +kernel
theorem dX1_fromLatest_28 : decode cX1_fromLatest 28 = .ok (.iconst 1, 1) := by decide +kernel
theorem dX1_fromLatest_29 : decode cX1_fromLatest 29 = .ok (.isub, 1) := by decide +kernel
theorem dX1_fromLatest_30 : decode cX1_fromLatest 30 = .ok (.iload_n 1, 1) := by decide +kernel
theorem dX1_fromLatest_31 : decode cX1_fromLatest 31 = .ok (.isub, 1) := by decide +kernel
theorem dX1_fromLatest_32 : decode cX1_fromLatest 32 = .ok (.bipush 63, 2) := by decide +kernel
theorem dX1_fromLatest_34 : decode cX1_fromLatest 34 = .ok (.iand, 1) := by decide +kernel
theorem dX1_fromLatest_35 : decode cX1_fromLatest 35 = .ok (.iaload, 1) := by decide +kernel
theorem dX1_fromLatest_36 : decode cX1_fromLatest 36 = .ok (.ireturn, 1) := by decide +kernel
theorem dX2_init_0 : decode cX2_init 0 = .ok (.aload_n 0, 1) := by decide +kernel
theorem dX2_init_1 : decode cX2_init 1 = .ok (.invokespecial 1, 3) := by decide +kernel
theorem dX2_init_4 : decode cX2_init 4 = .ok (.aload_n 0, 1) := by decide +kernel
theorem dX2_init_5 : decode cX2_init 5 = .ok (.sipush 4096, 3) := by decide +kernel
theorem dX2_init_8 : decode cX2_init 8 = .ok (.newarray .int, 2) := by decide +kernel
theorem dX2_init_10 : decode cX2_init 10 = .ok (.putfield 9, 3) := by decide +kernel
theorem dX2_init_13 : decode cX2_init 13 = .ok (.aload_n 0, 1) := by decide +kernel
theorem dX2_init_14 : decode cX2_init 14 = .ok (.new 13, 3) := by decide +kernel
theorem dX2_init_17 : decode cX2_init 17 = .ok (.dup, 1) := by decide +kernel
theorem dX2_init_18 : decode cX2_init 18 = .ok (.invokespecial 15, 3) := by decide +kernel
theorem dX2_init_21 : decode cX2_init 21 = .ok (.putfield 16, 3) := by decide +kernel
theorem dX2_init_24 : decode cX2_init 24 = .ok (.aload_n 0, 1) := by decide +kernel
theorem dX2_init_25 : decode cX2_init 25 = .ok (.new 20, 3) := by decide +kernel
theorem dX2_init_28 : decode cX2_init 28 = .ok (.dup, 1) := by decide +kernel
theorem dX2_init_29 : decode cX2_init 29 = .ok (.invokespecial 22, 3) := by decide +kernel
theorem dX2_init_32 : decode cX2_init 32 = .ok (.putfield 23, 3) := by decide +kernel
theorem dX2_init_35 : decode cX2_init 35 = .ok (.aload_n 0, 1) := by decide +kernel
theorem dX2_init_36 : decode cX2_init 36 = .ok (.new 20, 3) := by decide +kernel
theorem dX2_init_39 : decode cX2_init 39 = .ok (.dup, 1) := by decide +kernel
theorem dX2_init_40 : decode cX2_init 40 = .ok (.invokespecial 22, 3) := by decide +kernel
theorem dX2_init_43 : decode cX2_init 43 = .ok (.putfield 27, 3) := by decide +kernel
theorem dX2_init_46 : decode cX2_init 46 = .ok (.return_, 1) := by decide +kernel
theorem dX2_feed_0 : decode cX2_feed 0 = .ok (.aload_n 0, 1) := by decide +kernel
theorem dX2_feed_1 : decode cX2_feed 1 = .ok (.getfield 16, 3) := by decide +kernel
theorem dX2_feed_4 : decode cX2_feed 4 = .ok (.iload_n 1, 1) := by decide +kernel
theorem dX2_feed_5 : decode cX2_feed 5 = .ok (.invokevirtual 30, 3) := by decide +kernel
theorem dX2_feed_8 : decode cX2_feed 8 = .ok (.ireturn, 1) := by decide +kernel
theorem dX2_waiting_0 : decode cX2_waiting 0 = .ok (.aload_n 0, 1) := by decide +kernel
theorem dX2_waiting_1 : decode cX2_waiting 1 = .ok (.getfield 16, 3) := by decide +kernel
theorem dX2_waiting_4 : decode cX2_waiting 4 = .ok (.invokevirtual 34, 3) := by decide +kernel
theorem dX2_waiting_7 : decode cX2_waiting 7 = .ok (.ireturn, 1) := by decide +kernel
theorem dX2_poke_0 : decode cX2_poke 0 = .ok (.iload_n 1, 1) := by decide +kernel
theorem dX2_poke_1 : decode cX2_poke 1 = .ok (.invokestatic 38, 3) := by decide +kernel
theorem dX2_poke_4 : decode cX2_poke 4 = .ok (.ifCond .ne 5, 3) := by decide +kernel
theorem dX2_poke_7 : decode cX2_poke 7 = .ok (.iconst (-1), 1) := by decide +kernel
theorem dX2_poke_8 : decode cX2_poke 8 = .ok (.ireturn, 1) := by decide +kernel
theorem dX2_poke_9 : decode cX2_poke 9 = .ok (.aload_n 0, 1) := by decide +kernel
theorem dX2_poke_10 : decode cX2_poke 10 = .ok (.iload_n 1, 1) := by decide +kernel
theorem dX2_poke_11 : decode cX2_poke 11 = .ok (.invokevirtual 41, 3) := by decide +kernel
theorem dX2_poke_14 : decode cX2_poke 14 = .ok (.istore_n 3, 1) := by decide +kernel
theorem dX2_poke_15 : decode cX2_poke 15 = .ok (.aload_n 0, 1) := by decide +kernel
theorem dX2_poke_16 : decode cX2_poke 16 = .ok (.iload_n 1, 1) := by decide +kernel
theorem dX2_poke_17 : decode cX2_poke 17 = .ok (.iload_n 2, 1) := by decide +kernel
theorem dX2_poke_18 : decode cX2_poke 18 = .ok (.invokevirtual 45, 3) := by decide +kernel
theorem dX2_poke_21 : decode cX2_poke 21 = .ok (.iload_n 3, 1) := by decide +kernel
theorem dX2_poke_22 : decode cX2_poke 22 = .ok (.ireturn, 1) := by decide +kernel
theorem dX2_peek_0 : decode cX2_peek 0 = .ok (.iload_n 1, 1) := by decide +kernel
theorem dX2_peek_1 : decode cX2_peek 1 = .ok (.invokestatic 38, 3) := by decide +kernel
theorem dX2_peek_4 : decode cX2_peek 4 = .ok (.ifCond .eq 11, 3) := by decide +kernel
theorem dX2_peek_7 : decode cX2_peek 7 = .ok (.aload_n 0, 1) := by decide +kernel
theorem dX2_peek_8 : decode cX2_peek 8 = .ok (.iload_n 1, 1) := by decide +kernel
theorem dX2_peek_9 : decode cX2_peek 9 = .ok (.invokevirtual 41, 3) := by decide +kernel
theorem dX2_peek_12 : decode cX2_peek 12 = .ok (.goto 4, 3) := by decide +kernel
theorem dX2_peek_15 : decode cX2_peek 15 = .ok (.iconst (-1), 1) := by decide +kernel
theorem dX2_peek_16 : decode cX2_peek 16 = .ok (.ireturn, 1) := by decide +kernel
theorem dX2_set_0 : decode cX2_set 0 = .ok (.iload_n 1, 1) := by decide +kernel
theorem dX2_set_1 : decode cX2_set 1 = .ok (.tableswitch 88 0 4 #[35, 46, 55, 66, 77], 35) := by decide +kernel
theorem dX2_set_36 : decode cX2_set 36 = .ok (.aload_n 0, 1) := by decide +kernel
theorem dX2_set_37 : decode cX2_set 37 = .ok (.iload_n 2, 1) := by decide +kernel
theorem dX2_set_38 : decode cX2_set 38 = .ok (.sipush 4095, 3) := by decide +kernel
theorem dX2_set_41 : decode cX2_set 41 = .ok (.iand, 1) := by decide +kernel
theorem dX2_set_42 : decode cX2_set 42 = .ok (.putfield 49, 3) := by decide +kernel
theorem dX2_set_45 : decode cX2_set 45 = .ok (.iconst 1, 1) := by decide +kernel
theorem dX2_set_46 : decode cX2_set 46 = .ok (.ireturn, 1) := by decide +kernel
theorem dX2_set_47 : decode cX2_set 47 = .ok (.aload_n 0, 1) := by decide +kernel
theorem dX2_set_48 : decode cX2_set 48 = .ok (.iload_n 2, 1) := by decide +kernel
theorem dX2_set_49 : decode cX2_set 49 = .ok (.iconst 1, 1) := by decide +kernel
theorem dX2_set_50 : decode cX2_set 50 = .ok (.iand, 1) := by decide +kernel
theorem dX2_set_51 : decode cX2_set 51 = .ok (.putfield 53, 3) := by decide +kernel
theorem dX2_set_54 : decode cX2_set 54 = .ok (.iconst 1, 1) := by decide +kernel
theorem dX2_set_55 : decode cX2_set 55 = .ok (.ireturn, 1) := by decide +kernel
theorem dX2_set_56 : decode cX2_set 56 = .ok (.aload_n 0, 1) := by decide +kernel
theorem dX2_set_57 : decode cX2_set 57 = .ok (.iload_n 2, 1) := by decide +kernel
theorem dX2_set_58 : decode cX2_set 58 = .ok (.sipush 4095, 3) := by decide +kernel
theorem dX2_set_61 : decode cX2_set 61 = .ok (.iand, 1) := by decide +kernel
theorem dX2_set_62 : decode cX2_set 62 = .ok (.putfield 56, 3) := by decide +kernel
theorem dX2_set_65 : decode cX2_set 65 = .ok (.iconst 1, 1) := by decide +kernel
theorem dX2_set_66 : decode cX2_set 66 = .ok (.ireturn, 1) := by decide +kernel
theorem dX2_set_67 : decode cX2_set 67 = .ok (.aload_n 0, 1) := by decide +kernel
theorem dX2_set_68 : decode cX2_set 68 = .ok (.iload_n 2, 1) := by decide +kernel
theorem dX2_set_69 : decode cX2_set 69 = .ok (.sipush 4095, 3) := by decide +kernel
theorem dX2_set_72 : decode cX2_set 72 = .ok (.iand, 1) := by decide +kernel
theorem dX2_set_73 : decode cX2_set 73 = .ok (.putfield 59, 3) := by decide +kernel
theorem dX2_set_76 : decode cX2_set 76 = .ok (.iconst 1, 1) := by decide +kernel
theorem dX2_set_77 : decode cX2_set 77 = .ok (.ireturn, 1) := by decide +kernel
theorem dX2_set_78 : decode cX2_set 78 = .ok (.aload_n 0, 1) := by decide +kernel
theorem dX2_set_79 : decode cX2_set 79 = .ok (.iload_n 2, 1) := by decide +kernel
theorem dX2_set_80 : decode cX2_set 80 = .ok (.sipush 4095, 3) := by decide +kernel
theorem dX2_set_83 : decode cX2_set 83 = .ok (.iand, 1) := by decide +kernel
theorem dX2_set_84 : decode cX2_set 84 = .ok (.putfield 62, 3) := by decide +kernel
theorem dX2_set_87 : decode cX2_set 87 = .ok (.iconst 1, 1) := by decide +kernel
theorem dX2_set_88 : decode cX2_set 88 = .ok (.ireturn, 1) := by decide +kernel
theorem dX2_set_89 : decode cX2_set 89 = .ok (.iconst 0, 1) := by decide +kernel
theorem dX2_set_90 : decode cX2_set 90 = .ok (.ireturn, 1) := by decide +kernel
theorem dX2_register_0 : decode cX2_register 0 = .ok (.iload_n 1, 1) := by decide +kernel
theorem dX2_register_1 : decode cX2_register 1 = .ok (.tableswitch 135 0 10 #[59, 64, 69, 74, 79, 84, 92, 100, 111, 119, 127], 59) := by decide +kernel
theorem dX2_register_60 : decode cX2_register 60 = .ok (.aload_n 0, 1) := by decide +kernel
theorem dX2_register_61 : decode cX2_register 61 = .ok (.getfield 49, 3) := by decide +kernel
theorem dX2_register_64 : decode cX2_register 64 = .ok (.ireturn, 1) := by decide +kernel
theorem dX2_register_65 : decode cX2_register 65 = .ok (.aload_n 0, 1) := by decide +kernel
theorem dX2_register_66 : decode cX2_register 66 = .ok (.getfield 53, 3) := by decide +kernel
theorem dX2_register_69 : decode cX2_register 69 = .ok (.ireturn, 1) := by decide +kernel
theorem dX2_register_70 : decode cX2_register 70 = .ok (.aload_n 0, 1) := by decide +kernel
theorem dX2_register_71 : decode cX2_register 71 = .ok (.getfield 56, 3) := by decide +kernel
theorem dX2_register_74 : decode cX2_register 74 = .ok (.ireturn, 1) := by decide +kernel
theorem dX2_register_75 : decode cX2_register 75 = .ok (.aload_n 0, 1) := by decide +kernel
theorem dX2_register_76 : decode cX2_register 76 = .ok (.getfield 59, 3) := by decide +kernel
theorem dX2_register_79 : decode cX2_register 79 = .ok (.ireturn, 1) := by decide +kernel
theorem dX2_register_80 : decode cX2_register 80 = .ok (.aload_n 0, 1) := by decide +kernel
theorem dX2_register_81 : decode cX2_register 81 = .ok (.getfield 62, 3) := by decide +kernel
theorem dX2_register_84 : decode cX2_register 84 = .ok (.ireturn, 1) := by decide +kernel
theorem dX2_register_85 : decode cX2_register 85 = .ok (.aload_n 0, 1) := by decide +kernel
theorem dX2_register_86 : decode cX2_register 86 = .ok (.getfield 65, 3) := by decide +kernel
theorem dX2_register_89 : decode cX2_register 89 = .ok (.invokestatic 69, 3) := by decide +kernel
theorem dX2_register_92 : decode cX2_register 92 = .ok (.ireturn, 1) := by decide +kernel
theorem dX2_register_93 : decode cX2_register 93 = .ok (.aload_n 0, 1) := by decide +kernel
theorem dX2_register_94 : decode cX2_register 94 = .ok (.getfield 73, 3) := by decide +kernel
theorem dX2_register_97 : decode cX2_register 97 = .ok (.invokestatic 69, 3) := by decide +kernel
theorem dX2_register_100 : decode cX2_register 100 = .ok (.ireturn, 1) := by decide +kernel
theorem dX2_register_101 : decode cX2_register 101 = .ok (.aload_n 0, 1) := by decide +kernel
theorem dX2_register_102 : decode cX2_register 102 = .ok (.getfield 16, 3) := by decide +kernel
theorem dX2_register_105 : decode cX2_register 105 = .ok (.getfield 76, 3) := by decide +kernel
theorem dX2_register_108 : decode cX2_register 108 = .ok (.invokestatic 69, 3) := by decide +kernel
theorem dX2_register_111 : decode cX2_register 111 = .ok (.ireturn, 1) := by decide +kernel
theorem dX2_register_112 : decode cX2_register 112 = .ok (.aload_n 0, 1) := by decide +kernel
theorem dX2_register_113 : decode cX2_register 113 = .ok (.getfield 16, 3) := by decide +kernel
theorem dX2_register_116 : decode cX2_register 116 = .ok (.getfield 79, 3) := by decide +kernel
theorem dX2_register_119 : decode cX2_register 119 = .ok (.ireturn, 1) := by decide +kernel
theorem dX2_register_120 : decode cX2_register 120 = .ok (.aload_n 0, 1) := by decide +kernel
theorem dX2_register_121 : decode cX2_register 121 = .ok (.getfield 82, 3) := by decide +kernel
theorem dX2_register_124 : decode cX2_register 124 = .ok (.invokestatic 69, 3) := by decide +kernel
theorem dX2_register_127 : decode cX2_register 127 = .ok (.ireturn, 1) := by decide +kernel
theorem dX2_register_128 : decode cX2_register 128 = .ok (.aload_n 0, 1) := by decide +kernel
theorem dX2_register_129 : decode cX2_register 129 = .ok (.getfield 85, 3) := by decide +kernel
theorem dX2_register_132 : decode cX2_register 132 = .ok (.invokestatic 69, 3) := by decide +kernel
theorem dX2_register_135 : decode cX2_register 135 = .ok (.ireturn, 1) := by decide +kernel
theorem dX2_register_136 : decode cX2_register 136 = .ok (.iconst (-1), 1) := by decide +kernel
theorem dX2_register_137 : decode cX2_register 137 = .ok (.ireturn, 1) := by decide +kernel
theorem dX2_go_0 : decode cX2_go 0 = .ok (.aload_n 0, 1) := by decide +kernel
theorem dX2_go_1 : decode cX2_go 1 = .ok (.getfield 85, 3) := by decide +kernel
theorem dX2_go_4 : decode cX2_go 4 = .ok (.istore_n 1, 1) := by decide +kernel
theorem dX2_go_5 : decode cX2_go 5 = .ok (.aload_n 0, 1) := by decide +kernel
theorem dX2_go_6 : decode cX2_go 6 = .ok (.iconst 0, 1) := by decide +kernel
theorem dX2_go_7 : decode cX2_go 7 = .ok (.putfield 85, 3) := by decide +kernel
theorem dX2_go_10 : decode cX2_go 10 = .ok (.iload_n 1, 1) := by decide +kernel
theorem dX2_go_11 : decode cX2_go 11 = .ok (.ireturn, 1) := by decide +kernel
theorem dX2_run_0 : decode cX2_run 0 = .ok (.iload_n 1, 1) := by decide +kernel
theorem dX2_run_1 : decode cX2_run 1 = .ok (.ifCond .lt 10, 3) := by decide +kernel
theorem dX2_run_4 : decode cX2_run 4 = .ok (.iload_n 1, 1) := by decide +kernel
theorem dX2_run_5 : decode cX2_run 5 = .ok (.sipush 2000, 3) := by decide +kernel
theorem dX2_run_8 : decode cX2_run 8 = .ok (.if_icmp .le 5, 3) := by decide +kernel
theorem dX2_run_11 : decode cX2_run 11 = .ok (.iconst 0, 1) := by decide +kernel
theorem dX2_run_12 : decode cX2_run 12 = .ok (.ireturn, 1) := by decide +kernel
theorem dX2_run_13 : decode cX2_run 13 = .ok (.iconst 0, 1) := by decide +kernel
theorem dX2_run_14 : decode cX2_run 14 = .ok (.istore_n 2, 1) := by decide +kernel
theorem dX2_run_15 : decode cX2_run 15 = .ok (.iload_n 2, 1) := by decide +kernel
theorem dX2_run_16 : decode cX2_run 16 = .ok (.iload_n 1, 1) := by decide +kernel
theorem dX2_run_17 : decode cX2_run 17 = .ok (.if_icmp .ge 20, 3) := by decide +kernel
theorem dX2_run_20 : decode cX2_run 20 = .ok (.aload_n 0, 1) := by decide +kernel
theorem dX2_run_21 : decode cX2_run 21 = .ok (.getfield 85, 3) := by decide +kernel
theorem dX2_run_24 : decode cX2_run 24 = .ok (.ifCond .ne 13, 3) := by decide +kernel
theorem dX2_run_27 : decode cX2_run 27 = .ok (.aload_n 0, 1) := by decide +kernel
theorem dX2_run_28 : decode cX2_run 28 = .ok (.invokevirtual 88, 3) := by decide +kernel
theorem dX2_run_31 : decode cX2_run 31 = .ok (.iinc 2 1, 3) := by decide +kernel
theorem dX2_run_34 : decode cX2_run 34 = .ok (.goto (-19), 3) := by decide +kernel
theorem dX2_run_37 : decode cX2_run 37 = .ok (.iload_n 2, 1) := by decide +kernel
theorem dX2_run_38 : decode cX2_run 38 = .ok (.ireturn, 1) := by decide +kernel
theorem dX2_printed_0 : decode cX2_printed 0 = .ok (.iload_n 1, 1) := by decide +kernel
theorem dX2_printed_1 : decode cX2_printed 1 = .ok (.iconst (-1), 1) := by decide +kernel
theorem dX2_printed_2 : decode cX2_printed 2 = .ok (.if_icmp .ne 13, 3) := by decide +kernel
theorem dX2_printed_5 : decode cX2_printed 5 = .ok (.aload_n 0, 1) := by decide +kernel
theorem dX2_printed_6 : decode cX2_printed 6 = .ok (.getfield 23, 3) := by decide +kernel
theorem dX2_printed_9 : decode cX2_printed 9 = .ok (.getfield 91, 3) := by decide +kernel
theorem dX2_printed_12 : decode cX2_printed 12 = .ok (.goto 11, 3) := by decide +kernel
theorem dX2_printed_15 : decode cX2_printed 15 = .ok (.aload_n 0, 1) := by decide +kernel
theorem dX2_printed_16 : decode cX2_printed 16 = .ok (.getfield 23, 3) := by decide +kernel
theorem dX2_printed_19 : decode cX2_printed 19 = .ok (.iload_n 1, 1) := by decide +kernel
theorem dX2_printed_20 : decode cX2_printed 20 = .ok (.invokevirtual 94, 3) := by decide +kernel
theorem dX2_printed_23 : decode cX2_printed 23 = .ok (.ireturn, 1) := by decide +kernel
theorem dX2_trace_0 : decode cX2_trace 0 = .ok (.aload_n 0, 1) := by decide +kernel
theorem dX2_trace_1 : decode cX2_trace 1 = .ok (.getfield 27, 3) := by decide +kernel
theorem dX2_trace_4 : decode cX2_trace 4 = .ok (.iload_n 1, 1) := by decide +kernel
theorem dX2_trace_5 : decode cX2_trace 5 = .ok (.invokevirtual 94, 3) := by decide +kernel
theorem dX2_trace_8 : decode cX2_trace 8 = .ok (.ireturn, 1) := by decide +kernel
theorem dX2_interrupts_0 : decode cX2_interrupts 0 = .ok (.aload_n 0, 1) := by decide +kernel
theorem dX2_interrupts_1 : decode cX2_interrupts 1 = .ok (.getfield 97, 3) := by decide +kernel
theorem dX2_interrupts_4 : decode cX2_interrupts 4 = .ok (.ireturn, 1) := by decide +kernel
theorem dX2_skips_0 : decode cX2_skips 0 = .ok (.aload_n 0, 1) := by decide +kernel
theorem dX2_skips_1 : decode cX2_skips 1 = .ok (.getfield 100, 3) := by decide +kernel
theorem dX2_skips_4 : decode cX2_skips 4 = .ok (.ireturn, 1) := by decide +kernel
theorem dX2_isAddress_0 : decode cX2_isAddress 0 = .ok (.iload_n 0, 1) := by decide +kernel
theorem dX2_isAddress_1 : decode cX2_isAddress 1 = .ok (.ifCond .lt 14, 3) := by decide +kernel
theorem dX2_isAddress_4 : decode cX2_isAddress 4 = .ok (.iload_n 0, 1) := by decide +kernel
theorem dX2_isAddress_5 : decode cX2_isAddress 5 = .ok (.sipush 4096, 3) := by decide +kernel
theorem dX2_isAddress_8 : decode cX2_isAddress 8 = .ok (.if_icmp .ge 7, 3) := by decide +kernel
theorem dX2_isAddress_11 : decode cX2_isAddress 11 = .ok (.iconst 1, 1) := by decide +kernel
theorem dX2_isAddress_12 : decode cX2_isAddress 12 = .ok (.goto 4, 3) := by decide +kernel
theorem dX2_isAddress_15 : decode cX2_isAddress 15 = .ok (.iconst 0, 1) := by decide +kernel
theorem dX2_isAddress_16 : decode cX2_isAddress 16 = .ok (.ireturn, 1) := by decide +kernel
theorem dX2_bit_0 : decode cX2_bit 0 = .ok (.iload_n 0, 1) := by decide +kernel
theorem dX2_bit_1 : decode cX2_bit 1 = .ok (.ifCond .eq 7, 3) := by decide +kernel
theorem dX2_bit_4 : decode cX2_bit 4 = .ok (.iconst 1, 1) := by decide +kernel
theorem dX2_bit_5 : decode cX2_bit 5 = .ok (.goto 4, 3) := by decide +kernel
theorem dX2_bit_8 : decode cX2_bit 8 = .ok (.iconst 0, 1) := by decide +kernel
theorem dX2_bit_9 : decode cX2_bit 9 = .ok (.ireturn, 1) := by decide +kernel
theorem dX2_has_0 : decode cX2_has 0 = .ok (.iload_n 0, 1) := by decide +kernel
theorem dX2_has_1 : decode cX2_has 1 = .ok (.iload_n 1, 1) := by decide +kernel
theorem dX2_has_2 : decode cX2_has 2 = .ok (.iand, 1) := by decide +kernel
theorem dX2_has_3 : decode cX2_has 3 = .ok (.ifCond .eq 7, 3) := by decide +kernel
theorem dX2_has_6 : decode cX2_has 6 = .ok (.iconst 1, 1) := by decide +kernel
theorem dX2_has_7 : decode cX2_has 7 = .ok (.goto 4, 3) := by decide +kernel
theorem dX2_has_10 : decode cX2_has 10 = .ok (.iconst 0, 1) := by decide +kernel
theorem dX2_has_11 : decode cX2_has 11 = .ok (.ireturn, 1) := by decide +kernel
theorem dX2_next_0 : decode cX2_next 0 = .ok (.iload_n 0, 1) := by decide +kernel
theorem dX2_next_1 : decode cX2_next 1 = .ok (.iconst 1, 1) := by decide +kernel
theorem dX2_next_2 : decode cX2_next 2 = .ok (.iadd, 1) := by decide +kernel
theorem dX2_next_3 : decode cX2_next 3 = .ok (.sipush 4095, 3) := by decide +kernel
theorem dX2_next_6 : decode cX2_next 6 = .ok (.iand, 1) := by decide +kernel
theorem dX2_next_7 : decode cX2_next 7 = .ok (.ireturn, 1) := by decide +kernel
theorem dX2_wordAt_0 : decode cX2_wordAt 0 = .ok (.aload_n 0, 1) := by decide +kernel
theorem dX2_wordAt_1 : decode cX2_wordAt 1 = .ok (.getfield 9, 3) := by decide +kernel
theorem dX2_wordAt_4 : decode cX2_wordAt 4 = .ok (.iload_n 1, 1) := by decide +kernel
theorem dX2_wordAt_5 : decode cX2_wordAt 5 = .ok (.sipush 4095, 3) := by decide +kernel
theorem dX2_wordAt_8 : decode cX2_wordAt 8 = .ok (.iand, 1) := by decide +kernel
theorem dX2_wordAt_9 : decode cX2_wordAt 9 = .ok (.iaload, 1) := by decide +kernel
theorem dX2_wordAt_10 : decode cX2_wordAt 10 = .ok (.ireturn, 1) := by decide +kernel
theorem dX2_putWord_0 : decode cX2_putWord 0 = .ok (.aload_n 0, 1) := by decide +kernel
theorem dX2_putWord_1 : decode cX2_putWord 1 = .ok (.getfield 9, 3) := by decide +kernel
theorem dX2_putWord_4 : decode cX2_putWord 4 = .ok (.iload_n 1, 1) := by decide +kernel
theorem dX2_putWord_5 : decode cX2_putWord 5 = .ok (.sipush 4095, 3) := by decide +kernel
theorem dX2_putWord_8 : decode cX2_putWord 8 = .ok (.iand, 1) := by decide +kernel
theorem dX2_putWord_9 : decode cX2_putWord 9 = .ok (.iload_n 2, 1) := by decide +kernel
theorem dX2_putWord_10 : decode cX2_putWord 10 = .ok (.sipush 4095, 3) := by decide +kernel
theorem dX2_putWord_13 : decode cX2_putWord 13 = .ok (.iand, 1) := by decide +kernel
theorem dX2_putWord_14 : decode cX2_putWord 14 = .ok (.iastore, 1) := by decide +kernel
theorem dX2_putWord_15 : decode cX2_putWord 15 = .ok (.return_, 1) := by decide +kernel
theorem dX2_skipIf_0 : decode cX2_skipIf 0 = .ok (.iload_n 1, 1) := by decide +kernel
theorem dX2_skipIf_1 : decode cX2_skipIf 1 = .ok (.ifCond .eq 24, 3) := by decide +kernel
theorem dX2_skipIf_4 : decode cX2_skipIf 4 = .ok (.aload_n 0, 1) := by decide +kernel
theorem dX2_skipIf_5 : decode cX2_skipIf 5 = .ok (.aload_n 0, 1) := by decide +kernel
theorem dX2_skipIf_6 : decode cX2_skipIf 6 = .ok (.getfield 56, 3) := by decide +kernel
theorem dX2_skipIf_9 : decode cX2_skipIf 9 = .ok (.invokestatic 103, 3) := by decide +kernel
theorem dX2_skipIf_12 : decode cX2_skipIf 12 = .ok (.putfield 56, 3) := by decide +kernel
theorem dX2_skipIf_15 : decode cX2_skipIf 15 = .ok (.aload_n 0, 1) := by decide +kernel
theorem dX2_skipIf_16 : decode cX2_skipIf 16 = .ok (.dup, 1) := by decide +kernel
theorem dX2_skipIf_17 : decode cX2_skipIf 17 = .ok (.getfield 100, 3) := by decide +kernel
theorem dX2_skipIf_20 : decode cX2_skipIf 20 = .ok (.iconst 1, 1) := by decide +kernel
theorem dX2_skipIf_21 : decode cX2_skipIf 21 = .ok (.iadd, 1) := by decide +kernel
theorem dX2_skipIf_22 : decode cX2_skipIf 22 = .ok (.putfield 100, 3) := by decide +kernel
theorem dX2_skipIf_25 : decode cX2_skipIf 25 = .ok (.return_, 1) := by decide +kernel
theorem dX2_step_0 : decode cX2_step 0 = .ok (.aload_n 0, 1) := by decide +kernel
theorem dX2_step_1 : decode cX2_step 1 = .ok (.getfield 65, 3) := by decide +kernel
theorem dX2_step_4 : decode cX2_step 4 = .ok (.ifCond .eq 24, 3) := by decide +kernel
theorem dX2_step_7 : decode cX2_step 7 = .ok (.aload_n 0, 1) := by decide +kernel
theorem dX2_step_8 : decode cX2_step 8 = .ok (.getfield 16, 3) := by decide +kernel
theorem dX2_step_11 : decode cX2_step 11 = .ok (.getfield 76, 3) := by decide +kernel
theorem dX2_step_14 : decode cX2_step 14 = .ok (.ifCond .ne 10, 3) := by decide +kernel
theorem dX2_step_17 : decode cX2_step 17 = .ok (.aload_n 0, 1) := by decide +kernel
theorem dX2_step_18 : decode cX2_step 18 = .ok (.getfield 82, 3) := by decide +kernel
theorem dX2_step_21 : decode cX2_step 21 = .ok (.ifCond .eq 7, 3) := by decide +kernel
theorem dX2_step_24 : decode cX2_step 24 = .ok (.aload_n 0, 1) := by decide +kernel
theorem dX2_step_25 : decode cX2_step 25 = .ok (.invokevirtual 106, 3) := by decide +kernel
theorem dX2_step_28 : decode cX2_step 28 = .ok (.aload_n 0, 1) := by decide +kernel
theorem dX2_step_29 : decode cX2_step 29 = .ok (.getfield 73, 3) := by decide +kernel
theorem dX2_step_32 : decode cX2_step 32 = .ok (.ifCond .eq 13, 3) := by decide +kernel
theorem dX2_step_35 : decode cX2_step 35 = .ok (.aload_n 0, 1) := by decide +kernel
theorem dX2_step_36 : decode cX2_step 36 = .ok (.iconst 0, 1) := by decide +kernel
theorem dX2_step_37 : decode cX2_step 37 = .ok (.putfield 73, 3) := by decide +kernel
theorem dX2_step_40 : decode cX2_step 40 = .ok (.aload_n 0, 1) := by decide +kernel
theorem dX2_step_41 : decode cX2_step 41 = .ok (.iconst 1, 1) := by decide +kernel
theorem dX2_step_42 : decode cX2_step 42 = .ok (.putfield 65, 3) := by decide +kernel
theorem dX2_step_45 : decode cX2_step 45 = .ok (.aload_n 0, 1) := by decide +kernel
theorem dX2_step_46 : decode cX2_step 46 = .ok (.getfield 56, 3) := by decide +kernel
theorem dX2_step_49 : decode cX2_step 49 = .ok (.istore_n 1, 1) := by decide +kernel
theorem dX2_step_50 : decode cX2_step 50 = .ok (.aload_n 0, 1) := by decide +kernel
theorem dX2_step_51 : decode cX2_step 51 = .ok (.iload_n 1, 1) := by decide +kernel
theorem dX2_step_52 : decode cX2_step 52 = .ok (.invokevirtual 41, 3) := by decide +kernel
theorem dX2_step_55 : decode cX2_step 55 = .ok (.istore_n 2, 1) := by decide +kernel
theorem dX2_step_56 : decode cX2_step 56 = .ok (.aload_n 0, 1) := by decide +kernel
theorem dX2_step_57 : decode cX2_step 57 = .ok (.getfield 27, 3) := by decide +kernel
theorem dX2_step_60 : decode cX2_step 60 = .ok (.iload_n 1, 1) := by decide +kernel
theorem dX2_step_61 : decode cX2_step 61 = .ok (.invokevirtual 109, 3) := by decide +kernel
theorem dX2_step_64 : decode cX2_step 64 = .ok (.aload_n 0, 1) := by decide +kernel
theorem dX2_step_65 : decode cX2_step 65 = .ok (.iload_n 1, 1) := by decide +kernel
theorem dX2_step_66 : decode cX2_step 66 = .ok (.invokestatic 103, 3) := by decide +kernel
theorem dX2_step_69 : decode cX2_step 69 = .ok (.putfield 56, 3) := by decide +kernel
theorem dX2_step_72 : decode cX2_step 72 = .ok (.aload_n 0, 1) := by decide +kernel
theorem dX2_step_73 : decode cX2_step 73 = .ok (.iload_n 2, 1) := by decide +kernel
theorem dX2_step_74 : decode cX2_step 74 = .ok (.iload_n 1, 1) := by decide +kernel
theorem dX2_step_75 : decode cX2_step 75 = .ok (.invokevirtual 113, 3) := by decide +kernel
theorem dX2_step_78 : decode cX2_step 78 = .ok (.return_, 1) := by decide +kernel
theorem dX2_interrupt_0 : decode cX2_interrupt 0 = .ok (.aload_n 0, 1) := by decide +kernel
theorem dX2_interrupt_1 : decode cX2_interrupt 1 = .ok (.iconst 0, 1) := by decide +kernel
theorem dX2_interrupt_2 : decode cX2_interrupt 2 = .ok (.aload_n 0, 1) := by decide +kernel
theorem dX2_interrupt_3 : decode cX2_interrupt 3 = .ok (.getfield 56, 3) := by decide +kernel
theorem dX2_interrupt_6 : decode cX2_interrupt 6 = .ok (.invokevirtual 45, 3) := by decide +kernel
theorem dX2_interrupt_9 : decode cX2_interrupt 9 = .ok (.aload_n 0, 1) := by decide +kernel
theorem dX2_interrupt_10 : decode cX2_interrupt 10 = .ok (.iconst 1, 1) := by decide +kernel
theorem dX2_interrupt_11 : decode cX2_interrupt 11 = .ok (.putfield 56, 3) := by decide +kernel
theorem dX2_interrupt_14 : decode cX2_interrupt 14 = .ok (.aload_n 0, 1) := by decide +kernel
theorem dX2_interrupt_15 : decode cX2_interrupt 15 = .ok (.iconst 0, 1) := by decide +kernel
theorem dX2_interrupt_16 : decode cX2_interrupt 16 = .ok (.putfield 65, 3) := by decide +kernel
theorem dX2_interrupt_19 : decode cX2_interrupt 19 = .ok (.aload_n 0, 1) := by decide +kernel
theorem dX2_interrupt_20 : decode cX2_interrupt 20 = .ok (.dup, 1) := by decide +kernel
theorem dX2_interrupt_21 : decode cX2_interrupt 21 = .ok (.getfield 97, 3) := by decide +kernel
theorem dX2_interrupt_24 : decode cX2_interrupt 24 = .ok (.iconst 1, 1) := by decide +kernel
theorem dX2_interrupt_25 : decode cX2_interrupt 25 = .ok (.iadd, 1) := by decide +kernel
theorem dX2_interrupt_26 : decode cX2_interrupt 26 = .ok (.putfield 97, 3) := by decide +kernel
theorem dX2_interrupt_29 : decode cX2_interrupt 29 = .ok (.return_, 1) := by decide +kernel
theorem dX2_perform_0 : decode cX2_perform 0 = .ok (.iload_n 1, 1) := by decide +kernel
theorem dX2_perform_1 : decode cX2_perform 1 = .ok (.bipush 9, 2) := by decide +kernel
theorem dX2_perform_3 : decode cX2_perform 3 = .ok (.ishr, 1) := by decide +kernel
theorem dX2_perform_4 : decode cX2_perform 4 = .ok (.istore_n 3, 1) := by decide +kernel
theorem dX2_perform_5 : decode cX2_perform 5 = .ok (.iload_n 3, 1) := by decide +kernel
theorem dX2_perform_6 : decode cX2_perform 6 = .ok (.bipush 6, 2) := by decide +kernel
theorem dX2_perform_8 : decode cX2_perform 8 = .ok (.if_icmp .ge 17, 3) := by decide +kernel
theorem dX2_perform_11 : decode cX2_perform 11 = .ok (.aload_n 0, 1) := by decide +kernel
theorem dX2_perform_12 : decode cX2_perform 12 = .ok (.iload_n 3, 1) := by decide +kernel
theorem dX2_perform_13 : decode cX2_perform 13 = .ok (.aload_n 0, 1) := by decide +kernel
theorem dX2_perform_14 : decode cX2_perform 14 = .ok (.iload_n 1, 1) := by decide +kernel
theorem dX2_perform_15 : decode cX2_perform 15 = .ok (.iload_n 2, 1) := by decide +kernel
theorem dX2_perform_16 : decode cX2_perform 16 = .ok (.invokevirtual 116, 3) := by decide +kernel
theorem dX2_perform_19 : decode cX2_perform 19 = .ok (.invokevirtual 120, 3) := by decide +kernel
theorem dX2_perform_22 : decode cX2_perform 22 = .ok (.goto 56, 3) := by decide +kernel
theorem dX2_perform_25 : decode cX2_perform 25 = .ok (.iload_n 3, 1) := by decide +kernel
theorem dX2_perform_26 : decode cX2_perform 26 = .ok (.bipush 6, 2) := by decide +kernel
theorem dX2_perform_28 : decode cX2_perform 28 = .ok (.if_icmp .ne 11, 3) := by decide +kernel
theorem dX2_perform_31 : decode cX2_perform 31 = .ok (.aload_n 0, 1) := by decide +kernel
theorem dX2_perform_32 : decode cX2_perform 32 = .ok (.iload_n 1, 1) := by decide +kernel
theorem dX2_perform_33 : decode cX2_perform 33 = .ok (.invokevirtual 123, 3) := by decide +kernel
theorem dX2_perform_36 : decode cX2_perform 36 = .ok (.goto 42, 3) := by decide +kernel
theorem dX2_perform_39 : decode cX2_perform 39 = .ok (.iload_n 1, 1) := by decide +kernel
theorem dX2_perform_40 : decode cX2_perform 40 = .ok (.sipush 256, 3) := by decide +kernel
theorem dX2_perform_43 : decode cX2_perform 43 = .ok (.invokestatic 126, 3) := by decide +kernel
theorem dX2_perform_46 : decode cX2_perform 46 = .ok (.ifCond .ne 11, 3) := by decide +kernel
theorem dX2_perform_49 : decode cX2_perform 49 = .ok (.aload_n 0, 1) := by decide +kernel
theorem dX2_perform_50 : decode cX2_perform 50 = .ok (.iload_n 1, 1) := by decide +kernel
theorem dX2_perform_51 : decode cX2_perform 51 = .ok (.invokevirtual 130, 3) := by decide +kernel
theorem dX2_perform_54 : decode cX2_perform 54 = .ok (.goto 24, 3) := by decide +kernel
theorem dX2_perform_57 : decode cX2_perform 57 = .ok (.iload_n 1, 1) := by decide +kernel
theorem dX2_perform_58 : decode cX2_perform 58 = .ok (.iconst 1, 1) := by decide +kernel
theorem dX2_perform_59 : decode cX2_perform 59 = .ok (.invokestatic 126, 3) := by decide +kernel
theorem dX2_perform_62 : decode cX2_perform 62 = .ok (.ifCond .ne 11, 3) := by decide +kernel
theorem dX2_perform_65 : decode cX2_perform 65 = .ok (.aload_n 0, 1) := by decide +kernel
theorem dX2_perform_66 : decode cX2_perform 66 = .ok (.iload_n 1, 1) := by decide +kernel
theorem dX2_perform_67 : decode cX2_perform 67 = .ok (.invokevirtual 133, 3) := by decide +kernel
theorem dX2_perform_70 : decode cX2_perform 70 = .ok (.goto 8, 3) := by decide +kernel
theorem dX2_perform_73 : decode cX2_perform 73 = .ok (.aload_n 0, 1) := by decide +kernel
theorem dX2_perform_74 : decode cX2_perform 74 = .ok (.iload_n 1, 1) := by decide +kernel
theorem dX2_perform_75 : decode cX2_perform 75 = .ok (.invokevirtual 136, 3) := by decide +kernel
theorem dX2_perform_78 : decode cX2_perform 78 = .ok (.return_, 1) := by decide +kernel
theorem dX2_effectiveAddress_0 : decode cX2_effectiveAddress 0 = .ok (.iload_n 1, 1) := by decide +kernel
theorem dX2_effectiveAddress_1 : decode cX2_effectiveAddress 1 = .ok (.bipush 127, 2) := by decide +kernel
theorem dX2_effectiveAddress_3 : decode cX2_effectiveAddress 3 = .ok (.iand, 1) := by decide +kernel
theorem dX2_effectiveAddress_4 : decode cX2_effectiveAddress 4 = .ok (.istore_n 3, 1) := by decide +kernel
theorem dX2_effectiveAddress_5 : decode cX2_effectiveAddress 5 = .ok (.iload_n 1, 1) := by decide +kernel
theorem dX2_effectiveAddress_6 : decode cX2_effectiveAddress 6 = .ok (.sipush 128, 3) := by decide +kernel
theorem dX2_effectiveAddress_9 : decode cX2_effectiveAddress 9 = .ok (.invokestatic 126, 3) := by decide +kernel
theorem dX2_effectiveAddress_12 : decode cX2_effectiveAddress 12 = .ok (.ifCond .eq 11, 3) := by decide +kernel
theorem dX2_effectiveAddress_15 : decode cX2_effectiveAddress 15 = .ok (.iload_n 3, 1) := by decide +kernel
theorem dX2_effectiveAddress_16 : decode cX2_effectiveAddress 16 = .ok (.iload_n 2, 1) := by decide +kernel
theorem dX2_effectiveAddress_17 : decode cX2_effectiveAddress 17 = .ok (.sipush 3968, 3) := by decide +kernel
theorem dX2_effectiveAddress_20 : decode cX2_effectiveAddress 20 = .ok (.iand, 1) := by decide +kernel
theorem dX2_effectiveAddress_21 : decode cX2_effectiveAddress 21 = .ok (.iadd, 1) := by decide +kernel
theorem dX2_effectiveAddress_22 : decode cX2_effectiveAddress 22 = .ok (.istore_n 3, 1) := by decide +kernel
theorem dX2_effectiveAddress_23 : decode cX2_effectiveAddress 23 = .ok (.iload_n 1, 1) := by decide +kernel
theorem dX2_effectiveAddress_24 : decode cX2_effectiveAddress 24 = .ok (.sipush 256, 3) := by decide +kernel
theorem dX2_effectiveAddress_27 : decode cX2_effectiveAddress 27 = .ok (.invokestatic 126, 3) := by decide +kernel
theorem dX2_effectiveAddress_30 : decode cX2_effectiveAddress 30 = .ok (.ifCond .ne 5, 3) := by decide +kernel
theorem dX2_effectiveAddress_33 : decode cX2_effectiveAddress 33 = .ok (.iload_n 3, 1) := by decide +kernel
theorem dX2_effectiveAddress_34 : decode cX2_effectiveAddress 34 = .ok (.ireturn, 1) := by decide +kernel
theorem dX2_effectiveAddress_35 : decode cX2_effectiveAddress 35 = .ok (.iload_n 3, 1) := by decide +kernel
theorem dX2_effectiveAddress_36 : decode cX2_effectiveAddress 36 = .ok (.bipush 8, 2) := by decide +kernel
theorem dX2_effectiveAddress_38 : decode cX2_effectiveAddress 38 = .ok (.if_icmp .lt 22, 3) := by decide +kernel
theorem dX2_effectiveAddress_41 : decode cX2_effectiveAddress 41 = .ok (.iload_n 3, 1) := by decide +kernel
theorem dX2_effectiveAddress_42 : decode cX2_effectiveAddress 42 = .ok (.bipush 15, 2) := by decide +kernel
theorem dX2_effectiveAddress_44 : decode cX2_effectiveAddress 44 = .ok (.if_icmp .gt 16, 3) := by decide +kernel
theorem dX2_effectiveAddress_47 : decode cX2_effectiveAddress 47 = .ok (.aload_n 0, 1) := by decide +kernel
theorem dX2_effectiveAddress_48 : decode cX2_effectiveAddress 48 = .ok (.iload_n 3, 1) := by decide +kernel
theorem dX2_effectiveAddress_49 : decode cX2_effectiveAddress 49 = .ok (.aload_n 0, 1) := by decide +kernel
theorem dX2_effectiveAddress_50 : decode cX2_effectiveAddress 50 = .ok (.iload_n 3, 1) := by decide +kernel
theorem dX2_effectiveAddress_51 : decode cX2_effectiveAddress 51 = .ok (.invokevirtual 41, 3) := by decide +kernel
theorem dX2_effectiveAddress_54 : decode cX2_effectiveAddress 54 = .ok (.invokestatic 103, 3) := by decide +kernel
theorem dX2_effectiveAddress_57 : decode cX2_effectiveAddress 57 = .ok (.invokevirtual 45, 3) := by decide +kernel
theorem dX2_effectiveAddress_60 : decode cX2_effectiveAddress 60 = .ok (.aload_n 0, 1) := by decide +kernel
theorem dX2_effectiveAddress_61 : decode cX2_effectiveAddress 61 = .ok (.iload_n 3, 1) := by decide +kernel
theorem dX2_effectiveAddress_62 : decode cX2_effectiveAddress 62 = .ok (.invokevirtual 41, 3) := by decide +kernel
theorem dX2_effectiveAddress_65 : decode cX2_effectiveAddress 65 = .ok (.ireturn, 1) := by decide +kernel
theorem dX2_performAddressed_0 : decode cX2_performAddressed 0 = .ok (.iload_n 1, 1) := by decide +kernel
theorem dX2_performAddressed_1 : decode cX2_performAddressed 1 = .ok (.tableswitch 134 0 4 #[35, 52, 64, 97, 114], 35) := by decide +kernel
theorem dX2_performAddressed_36 : decode cX2_performAddressed 36 = .ok (.aload_n 0, 1) := by decide +kernel
theorem dX2_performAddressed_37 : decode cX2_performAddressed 37 = .ok (.dup, 1) := by decide +kernel
theorem dX2_performAddressed_38 : decode cX2_performAddressed 38 = .ok (.getfield 49, 3) := by decide +kernel
theorem dX2_performAddressed_41 : decode cX2_performAddressed 41 = .ok (.aload_n 0, 1) := by decide +kernel
theorem dX2_performAddressed_42 : decode cX2_performAddressed 42 = .ok (.iload_n 2, 1) := by decide +kernel
theorem dX2_performAddressed_43 : decode cX2_performAddressed 43 = .ok (.invokevirtual 41, 3) := by decide +kernel
theorem dX2_performAddressed_46 : decode cX2_performAddressed 46 = .ok (.iand, 1) := by decide +kernel
theorem dX2_performAddressed_47 : decode cX2_performAddressed 47 = .ok (.putfield 49, 3) := by decide +kernel
theorem dX2_performAddressed_50 : decode cX2_performAddressed 50 = .ok (.goto 90, 3) := by decide +kernel
theorem dX2_performAddressed_53 : decode cX2_performAddressed 53 = .ok (.aload_n 0, 1) := by decide +kernel
theorem dX2_performAddressed_54 : decode cX2_performAddressed 54 = .ok (.aload_n 0, 1) := by decide +kernel
theorem dX2_performAddressed_55 : decode cX2_performAddressed 55 = .ok (.iload_n 2, 1) := by decide +kernel
theorem dX2_performAddressed_56 : decode cX2_performAddressed 56 = .ok (.invokevirtual 41, 3) := by decide +kernel
theorem dX2_performAddressed_59 : decode cX2_performAddressed 59 = .ok (.invokevirtual 139, 3) := by decide +kernel
theorem dX2_performAddressed_62 : decode cX2_performAddressed 62 = .ok (.goto 78, 3) := by decide +kernel
theorem dX2_performAddressed_65 : decode cX2_performAddressed 65 = .ok (.aload_n 0, 1) := by decide +kernel
theorem dX2_performAddressed_66 : decode cX2_performAddressed 66 = .ok (.iload_n 2, 1) := by decide +kernel
theorem dX2_performAddressed_67 : decode cX2_performAddressed 67 = .ok (.aload_n 0, 1) := by decide +kernel
theorem dX2_performAddressed_68 : decode cX2_performAddressed 68 = .ok (.iload_n 2, 1) := by decide +kernel
theorem dX2_performAddressed_69 : decode cX2_performAddressed 69 = .ok (.invokevirtual 41, 3) := by decide +kernel
theorem dX2_performAddressed_72 : decode cX2_performAddressed 72 = .ok (.invokestatic 103, 3) := by decide +kernel
theorem dX2_performAddressed_75 : decode cX2_performAddressed 75 = .ok (.invokevirtual 45, 3) := by decide +kernel
theorem dX2_performAddressed_78 : decode cX2_performAddressed 78 = .ok (.aload_n 0, 1) := by decide +kernel
theorem dX2_performAddressed_79 : decode cX2_performAddressed 79 = .ok (.aload_n 0, 1) := by decide +kernel
theorem dX2_performAddressed_80 : decode cX2_performAddressed 80 = .ok (.iload_n 2, 1) := by decide +kernel
theorem dX2_performAddressed_81 : decode cX2_performAddressed 81 = .ok (.invokevirtual 41, 3) := by decide +kernel
theorem dX2_performAddressed_84 : decode cX2_performAddressed 84 = .ok (.ifCond .ne 7, 3) := by decide +kernel
theorem dX2_performAddressed_87 : decode cX2_performAddressed 87 = .ok (.iconst 1, 1) := by decide +kernel
theorem dX2_performAddressed_88 : decode cX2_performAddressed 88 = .ok (.goto 4, 3) := by decide +kernel
theorem dX2_performAddressed_91 : decode cX2_performAddressed 91 = .ok (.iconst 0, 1) := by decide +kernel
theorem dX2_performAddressed_92 : decode cX2_performAddressed 92 = .ok (.invokevirtual 140, 3) := by decide +kernel
theorem dX2_performAddressed_95 : decode cX2_performAddressed 95 = .ok (.goto 45, 3) := by decide +kernel
theorem dX2_performAddressed_98 : decode cX2_performAddressed 98 = .ok (.aload_n 0, 1) := by decide +kernel
theorem dX2_performAddressed_99 : decode cX2_performAddressed 99 = .ok (.iload_n 2, 1) := by decide +kernel
theorem dX2_performAddressed_100 : decode cX2_performAddressed 100 = .ok (.aload_n 0, 1) := by decide +kernel
theorem dX2_performAddressed_101 : decode cX2_performAddressed 101 = .ok (.getfield 49, 3) := by decide +kernel
theorem dX2_performAddressed_104 : decode cX2_performAddressed 104 = .ok (.invokevirtual 45, 3) := by decide +kernel
theorem dX2_performAddressed_107 : decode cX2_performAddressed 107 = .ok (.aload_n 0, 1) := by decide +kernel
theorem dX2_performAddressed_108 : decode cX2_performAddressed 108 = .ok (.iconst 0, 1) := by decide +kernel
theorem dX2_performAddressed_109 : decode cX2_performAddressed 109 = .ok (.putfield 49, 3) := by decide +kernel
theorem dX2_performAddressed_112 : decode cX2_performAddressed 112 = .ok (.goto 28, 3) := by decide +kernel
theorem dX2_performAddressed_115 : decode cX2_performAddressed 115 = .ok (.aload_n 0, 1) := by decide +kernel
theorem dX2_performAddressed_116 : decode cX2_performAddressed 116 = .ok (.iload_n 2, 1) := by decide +kernel
theorem dX2_performAddressed_117 : decode cX2_performAddressed 117 = .ok (.aload_n 0, 1) := by decide +kernel
theorem dX2_performAddressed_118 : decode cX2_performAddressed 118 = .ok (.getfield 56, 3) := by decide +kernel
theorem dX2_performAddressed_121 : decode cX2_performAddressed 121 = .ok (.invokevirtual 45, 3) := by decide +kernel
theorem dX2_performAddressed_124 : decode cX2_performAddressed 124 = .ok (.aload_n 0, 1) := by decide +kernel
theorem dX2_performAddressed_125 : decode cX2_performAddressed 125 = .ok (.iload_n 2, 1) := by decide +kernel
theorem dX2_performAddressed_126 : decode cX2_performAddressed 126 = .ok (.invokestatic 103, 3) := by decide +kernel
theorem dX2_performAddressed_129 : decode cX2_performAddressed 129 = .ok (.putfield 56, 3) := by decide +kernel
theorem dX2_performAddressed_132 : decode cX2_performAddressed 132 = .ok (.goto 8, 3) := by decide +kernel
theorem dX2_performAddressed_135 : decode cX2_performAddressed 135 = .ok (.aload_n 0, 1) := by decide +kernel
theorem dX2_performAddressed_136 : decode cX2_performAddressed 136 = .ok (.iload_n 2, 1) := by decide +kernel
theorem dX2_performAddressed_137 : decode cX2_performAddressed 137 = .ok (.putfield 56, 3) := by decide +kernel
theorem dX2_performAddressed_140 : decode cX2_performAddressed 140 = .ok (.return_, 1) := by decide +kernel
theorem dX2_add_0 : decode cX2_add 0 = .ok (.aload_n 0, 1) := by decide +kernel
theorem dX2_add_1 : decode cX2_add 1 = .ok (.getfield 49, 3) := by decide +kernel
theorem dX2_add_4 : decode cX2_add 4 = .ok (.iload_n 1, 1) := by decide +kernel
theorem dX2_add_5 : decode cX2_add 5 = .ok (.iadd, 1) := by decide +kernel
theorem dX2_add_6 : decode cX2_add 6 = .ok (.istore_n 2, 1) := by decide +kernel
theorem dX2_add_7 : decode cX2_add 7 = .ok (.iload_n 2, 1) := by decide +kernel
theorem dX2_add_8 : decode cX2_add 8 = .ok (.sipush 4095, 3) := by decide +kernel
theorem dX2_add_11 : decode cX2_add 11 = .ok (.if_icmp .le 13, 3) := by decide +kernel
theorem dX2_add_14 : decode cX2_add 14 = .ok (.aload_n 0, 1) := by decide +kernel
theorem dX2_add_15 : decode cX2_add 15 = .ok (.dup, 1) := by decide +kernel
theorem dX2_add_16 : decode cX2_add 16 = .ok (.getfield 53, 3) := by decide +kernel
theorem dX2_add_19 : decode cX2_add 19 = .ok (.iconst 1, 1) := by decide +kernel
theorem dX2_add_20 : decode cX2_add 20 = .ok (.ixor, 1) := by decide +kernel
theorem dX2_add_21 : decode cX2_add 21 = .ok (.putfield 53, 3) := by decide +kernel
theorem dX2_add_24 : decode cX2_add 24 = .ok (.aload_n 0, 1) := by decide +kernel
theorem dX2_add_25 : decode cX2_add 25 = .ok (.iload_n 2, 1) := by decide +kernel
theorem dX2_add_26 : decode cX2_add 26 = .ok (.sipush 4095, 3) := by decide +kernel
theorem dX2_add_29 : decode cX2_add 29 = .ok (.iand, 1) := by decide +kernel
theorem dX2_add_30 : decode cX2_add 30 = .ok (.putfield 49, 3) := by decide +kernel
theorem dX2_add_33 : decode cX2_add 33 = .ok (.return_, 1) := by decide +kernel
theorem dX2_performDevice_0 : decode cX2_performDevice 0 = .ok (.iload_n 1, 1) := by decide +kernel
theorem dX2_performDevice_1 : decode cX2_performDevice 1 = .ok (.tableswitch 310 3073 3110 #[167, 175, 310, 310, 310, 310, 310, 310, 310, 310, 310, 310, 310, 310, 310, 310, 310, 310, 310, 310, 310, 310, 310, 188, 199, 213, 310, 228, 310, 247, 310, 310, 268, 279, 310, 287, 310, 287], 167) := by decide +kernel
theorem dX2_performDevice_168 : decode cX2_performDevice 168 = .ok (.aload_n 0, 1) := by decide +kernel
theorem dX2_performDevice_169 : decode cX2_performDevice 169 = .ok (.iconst 1, 1) := by decide +kernel
theorem dX2_performDevice_170 : decode cX2_performDevice 170 = .ok (.putfield 73, 3) := by decide +kernel
theorem dX2_performDevice_173 : decode cX2_performDevice 173 = .ok (.goto 138, 3) := by decide +kernel
theorem dX2_performDevice_176 : decode cX2_performDevice 176 = .ok (.aload_n 0, 1) := by decide +kernel
theorem dX2_performDevice_177 : decode cX2_performDevice 177 = .ok (.iconst 0, 1) := by decide +kernel
theorem dX2_performDevice_178 : decode cX2_performDevice 178 = .ok (.putfield 65, 3) := by decide +kernel
theorem dX2_performDevice_181 : decode cX2_performDevice 181 = .ok (.aload_n 0, 1) := by decide +kernel
theorem dX2_performDevice_182 : decode cX2_performDevice 182 = .ok (.iconst 0, 1) := by decide +kernel
theorem dX2_performDevice_183 : decode cX2_performDevice 183 = .ok (.putfield 73, 3) := by decide +kernel
theorem dX2_performDevice_186 : decode cX2_performDevice 186 = .ok (.goto 125, 3) := by decide +kernel
theorem dX2_performDevice_189 : decode cX2_performDevice 189 = .ok (.aload_n 0, 1) := by decide +kernel
theorem dX2_performDevice_190 : decode cX2_performDevice 190 = .ok (.getfield 16, 3) := by decide +kernel
theorem dX2_performDevice_193 : decode cX2_performDevice 193 = .ok (.iconst 0, 1) := by decide +kernel
theorem dX2_performDevice_194 : decode cX2_performDevice 194 = .ok (.putfield 76, 3) := by decide +kernel
theorem dX2_performDevice_197 : decode cX2_performDevice 197 = .ok (.goto 114, 3) := by decide +kernel
theorem dX2_performDevice_200 : decode cX2_performDevice 200 = .ok (.aload_n 0, 1) := by decide +kernel
theorem dX2_performDevice_201 : decode cX2_performDevice 201 = .ok (.aload_n 0, 1) := by decide +kernel
theorem dX2_performDevice_202 : decode cX2_performDevice 202 = .ok (.getfield 16, 3) := by decide +kernel
theorem dX2_performDevice_205 : decode cX2_performDevice 205 = .ok (.getfield 76, 3) := by decide +kernel
theorem dX2_performDevice_208 : decode cX2_performDevice 208 = .ok (.invokevirtual 140, 3) := by decide +kernel
theorem dX2_performDevice_211 : decode cX2_performDevice 211 = .ok (.goto 100, 3) := by decide +kernel
theorem dX2_performDevice_214 : decode cX2_performDevice 214 = .ok (.aload_n 0, 1) := by decide +kernel
theorem dX2_performDevice_215 : decode cX2_performDevice 215 = .ok (.iconst 0, 1) := by decide +kernel
theorem dX2_performDevice_216 : decode cX2_performDevice 216 = .ok (.putfield 49, 3) := by decide +kernel
theorem dX2_performDevice_219 : decode cX2_performDevice 219 = .ok (.aload_n 0, 1) := by decide +kernel
theorem dX2_performDevice_220 : decode cX2_performDevice 220 = .ok (.getfield 16, 3) := by decide +kernel
theorem dX2_performDevice_223 : decode cX2_performDevice 223 = .ok (.invokevirtual 144, 3) := by decide +kernel
theorem dX2_performDevice_226 : decode cX2_performDevice 226 = .ok (.goto 85, 3) := by decide +kernel
theorem dX2_performDevice_229 : decode cX2_performDevice 229 = .ok (.aload_n 0, 1) := by decide +kernel
theorem dX2_performDevice_230 : decode cX2_performDevice 230 = .ok (.dup, 1) := by decide +kernel
theorem dX2_performDevice_231 : decode cX2_performDevice 231 = .ok (.getfield 49, 3) := by decide +kernel
theorem dX2_performDevice_234 : decode cX2_performDevice 234 = .ok (.aload_n 0, 1) := by decide +kernel
theorem dX2_performDevice_235 : decode cX2_performDevice 235 = .ok (.getfield 16, 3) := by decide +kernel
theorem dX2_performDevice_238 : decode cX2_performDevice 238 = .ok (.getfield 79, 3) := by decide +kernel
theorem dX2_performDevice_241 : decode cX2_performDevice 241 = .ok (.ior, 1) := by decide +kernel
theorem dX2_performDevice_242 : decode cX2_performDevice 242 = .ok (.putfield 49, 3) := by decide +kernel
theorem dX2_performDevice_245 : decode cX2_performDevice 245 = .ok (.goto 66, 3) := by decide +kernel
theorem dX2_performDevice_248 : decode cX2_performDevice 248 = .ok (.aload_n 0, 1) := by decide +kernel
theorem dX2_performDevice_249 : decode cX2_performDevice 249 = .ok (.aload_n 0, 1) := by decide +kernel
theorem dX2_performDevice_250 : decode cX2_performDevice 250 = .ok (.getfield 16, 3) := by decide +kernel
theorem dX2_performDevice_253 : decode cX2_performDevice 253 = .ok (.getfield 79, 3) := by decide +kernel
theorem dX2_performDevice_256 : decode cX2_performDevice 256 = .ok (.putfield 49, 3) := by decide +kernel
theorem dX2_performDevice_259 : decode cX2_performDevice 259 = .ok (.aload_n 0, 1) := by decide +kernel
theorem dX2_performDevice_260 : decode cX2_performDevice 260 = .ok (.getfield 16, 3) := by decide +kernel
theorem dX2_performDevice_263 : decode cX2_performDevice 263 = .ok (.invokevirtual 144, 3) := by decide +kernel
theorem dX2_performDevice_266 : decode cX2_performDevice 266 = .ok (.goto 45, 3) := by decide +kernel
theorem dX2_performDevice_269 : decode cX2_performDevice 269 = .ok (.aload_n 0, 1) := by decide +kernel
theorem dX2_performDevice_270 : decode cX2_performDevice 270 = .ok (.aload_n 0, 1) := by decide +kernel
theorem dX2_performDevice_271 : decode cX2_performDevice 271 = .ok (.getfield 82, 3) := by decide +kernel
theorem dX2_performDevice_274 : decode cX2_performDevice 274 = .ok (.invokevirtual 140, 3) := by decide +kernel
theorem dX2_performDevice_277 : decode cX2_performDevice 277 = .ok (.goto 34, 3) := by decide +kernel
theorem dX2_performDevice_280 : decode cX2_performDevice 280 = .ok (.aload_n 0, 1) := by decide +kernel
theorem dX2_performDevice_281 : decode cX2_performDevice 281 = .ok (.iconst 0, 1) := by decide +kernel
theorem dX2_performDevice_282 : decode cX2_performDevice 282 = .ok (.putfield 82, 3) := by decide +kernel
theorem dX2_performDevice_285 : decode cX2_performDevice 285 = .ok (.goto 26, 3) := by decide +kernel
theorem dX2_performDevice_288 : decode cX2_performDevice 288 = .ok (.aload_n 0, 1) := by decide +kernel
theorem dX2_performDevice_289 : decode cX2_performDevice 289 = .ok (.getfield 23, 3) := by decide +kernel
theorem dX2_performDevice_292 : decode cX2_performDevice 292 = .ok (.aload_n 0, 1) := by decide +kernel
theorem dX2_performDevice_293 : decode cX2_performDevice 293 = .ok (.getfield 49, 3) := by decide +kernel
theorem dX2_performDevice_296 : decode cX2_performDevice 296 = .ok (.sipush 255, 3) := by decide +kernel
theorem dX2_performDevice_299 : decode cX2_performDevice 299 = .ok (.iand, 1) := by decide +kernel
theorem dX2_performDevice_300 : decode cX2_performDevice 300 = .ok (.invokevirtual 109, 3) := by decide +kernel
theorem dX2_performDevice_303 : decode cX2_performDevice 303 = .ok (.aload_n 0, 1) := by decide +kernel
theorem dX2_performDevice_304 : decode cX2_performDevice 304 = .ok (.iconst 1, 1) := by decide +kernel
theorem dX2_performDevice_305 : decode cX2_performDevice 305 = .ok (.putfield 82, 3) := by decide +kernel
theorem dX2_performDevice_308 : decode cX2_performDevice 308 = .ok (.goto 3, 3) := by decide +kernel
theorem dX2_performDevice_311 : decode cX2_performDevice 311 = .ok (.return_, 1) := by decide +kernel
theorem dX2_changeAccumulator_0 : decode cX2_changeAccumulator 0 = .ok (.iload_n 1, 1) := by decide +kernel
theorem dX2_changeAccumulator_1 : decode cX2_changeAccumulator 1 = .ok (.sipush 128, 3) := by decide +kernel
theorem dX2_changeAccumulator_4 : decode cX2_changeAccumulator 4 = .ok (.invokestatic 126, 3) := by decide +kernel
theorem dX2_changeAccumulator_7 : decode cX2_changeAccumulator 7 = .ok (.ifCond .eq 8, 3) := by decide +kernel
theorem dX2_changeAccumulator_10 : decode cX2_changeAccumulator 10 = .ok (.aload_n 0, 1) := by decide +kernel
theorem dX2_changeAccumulator_11 : decode cX2_changeAccumulator 11 = .ok (.iconst 0, 1) := by decide +kernel
theorem dX2_changeAccumulator_12 : decode cX2_changeAccumulator 12 = .ok (.putfield 49, 3) := by decide +kernel
theorem dX2_changeAccumulator_15 : decode cX2_changeAccumulator 15 = .ok (.iload_n 1, 1) := by decide +kernel
theorem dX2_changeAccumulator_16 : decode cX2_changeAccumulator 16 = .ok (.bipush 64, 2) := by decide +kernel
theorem dX2_changeAccumulator_18 : decode cX2_changeAccumulator 18 = .ok (.invokestatic 126, 3) := by decide +kernel
theorem dX2_changeAccumulator_21 : decode cX2_changeAccumulator 21 = .ok (.ifCond .eq 8, 3) := by decide +kernel
theorem dX2_changeAccumulator_24 : decode cX2_changeAccumulator 24 = .ok (.aload_n 0, 1) := by decide +kernel
theorem dX2_changeAccumulator_25 : decode cX2_changeAccumulator 25 = .ok (.iconst 0, 1) := by decide +kernel
theorem dX2_changeAccumulator_26 : decode cX2_changeAccumulator 26 = .ok (.putfield 53, 3) := by decide +kernel
theorem dX2_changeAccumulator_29 : decode cX2_changeAccumulator 29 = .ok (.iload_n 1, 1) := by decide +kernel
theorem dX2_changeAccumulator_30 : decode cX2_changeAccumulator 30 = .ok (.bipush 32, 2) := by decide +kernel
theorem dX2_changeAccumulator_32 : decode cX2_changeAccumulator 32 = .ok (.invokestatic 126, 3) := by decide +kernel
theorem dX2_changeAccumulator_35 : decode cX2_changeAccumulator 35 = .ok (.ifCond .eq 15, 3) := by decide +kernel
theorem dX2_changeAccumulator_38 : decode cX2_changeAccumulator 38 = .ok (.aload_n 0, 1) := by decide +kernel
theorem dX2_changeAccumulator_39 : decode cX2_changeAccumulator 39 = .ok (.dup, 1) := by decide +kernel
theorem dX2_changeAccumulator_40 : decode cX2_changeAccumulator 40 = .ok (.getfield 49, 3) := by decide +kernel
theorem dX2_changeAccumulator_43 : decode cX2_changeAccumulator 43 = .ok (.sipush 4095, 3) := by decide +kernel
theorem dX2_changeAccumulator_46 : decode cX2_changeAccumulator 46 = .ok (.ixor, 1) := by decide +kernel
theorem dX2_changeAccumulator_47 : decode cX2_changeAccumulator 47 = .ok (.putfield 49, 3) := by decide +kernel
theorem dX2_changeAccumulator_50 : decode cX2_changeAccumulator 50 = .ok (.iload_n 1, 1) := by decide +kernel
theorem dX2_changeAccumulator_51 : decode cX2_changeAccumulator 51 = .ok (.bipush 16, 2) := by decide +kernel
theorem dX2_changeAccumulator_53 : decode cX2_changeAccumulator 53 = .ok (.invokestatic 126, 3) := by decide +kernel
theorem dX2_changeAccumulator_56 : decode cX2_changeAccumulator 56 = .ok (.ifCond .eq 13, 3) := by decide +kernel
theorem dX2_changeAccumulator_59 : decode cX2_changeAccumulator 59 = .ok (.aload_n 0, 1) := by decide +kernel
theorem dX2_changeAccumulator_60 : decode cX2_changeAccumulator 60 = .ok (.dup, 1) := by decide +kernel
theorem dX2_changeAccumulator_61 : decode cX2_changeAccumulator 61 = .ok (.getfield 53, 3) := by decide +kernel
theorem dX2_changeAccumulator_64 : decode cX2_changeAccumulator 64 = .ok (.iconst 1, 1) := by decide +kernel
theorem dX2_changeAccumulator_65 : decode cX2_changeAccumulator 65 = .ok (.ixor, 1) := by decide +kernel
theorem dX2_changeAccumulator_66 : decode cX2_changeAccumulator 66 = .ok (.putfield 53, 3) := by decide +kernel
theorem dX2_changeAccumulator_69 : decode cX2_changeAccumulator 69 = .ok (.iload_n 1, 1) := by decide +kernel
theorem dX2_changeAccumulator_70 : decode cX2_changeAccumulator 70 = .ok (.iconst 1, 1) := by decide +kernel
theorem dX2_changeAccumulator_71 : decode cX2_changeAccumulator 71 = .ok (.invokestatic 126, 3) := by decide +kernel
theorem dX2_changeAccumulator_74 : decode cX2_changeAccumulator 74 = .ok (.ifCond .eq 8, 3) := by decide +kernel
theorem dX2_changeAccumulator_77 : decode cX2_changeAccumulator 77 = .ok (.aload_n 0, 1) := by decide +kernel
theorem dX2_changeAccumulator_78 : decode cX2_changeAccumulator 78 = .ok (.iconst 1, 1) := by decide +kernel
theorem dX2_changeAccumulator_79 : decode cX2_changeAccumulator 79 = .ok (.invokevirtual 139, 3) := by decide +kernel
theorem dX2_changeAccumulator_82 : decode cX2_changeAccumulator 82 = .ok (.iload_n 1, 1) := by decide +kernel
theorem dX2_changeAccumulator_83 : decode cX2_changeAccumulator 83 = .ok (.iconst 2, 1) := by decide +kernel
theorem dX2_changeAccumulator_84 : decode cX2_changeAccumulator 84 = .ok (.invokestatic 126, 3) := by decide +kernel
theorem dX2_changeAccumulator_87 : decode cX2_changeAccumulator 87 = .ok (.ifCond .eq 7, 3) := by decide +kernel
theorem dX2_changeAccumulator_90 : decode cX2_changeAccumulator 90 = .ok (.iconst 2, 1) := by decide +kernel
theorem dX2_changeAccumulator_91 : decode cX2_changeAccumulator 91 = .ok (.goto 4, 3) := by decide +kernel
theorem dX2_changeAccumulator_94 : decode cX2_changeAccumulator 94 = .ok (.iconst 1, 1) := by decide +kernel
theorem dX2_changeAccumulator_95 : decode cX2_changeAccumulator 95 = .ok (.istore_n 2, 1) := by decide +kernel
theorem dX2_changeAccumulator_96 : decode cX2_changeAccumulator 96 = .ok (.iload_n 1, 1) := by decide +kernel
theorem dX2_changeAccumulator_97 : decode cX2_changeAccumulator 97 = .ok (.iconst 4, 1) := by decide +kernel
theorem dX2_changeAccumulator_98 : decode cX2_changeAccumulator 98 = .ok (.invokestatic 126, 3) := by decide +kernel
theorem dX2_changeAccumulator_101 : decode cX2_changeAccumulator 101 = .ok (.istore_n 3, 1) := by decide +kernel
theorem dX2_changeAccumulator_102 : decode cX2_changeAccumulator 102 = .ok (.iload_n 1, 1) := by decide +kernel
theorem dX2_changeAccumulator_103 : decode cX2_changeAccumulator 103 = .ok (.bipush 8, 2) := by decide +kernel
theorem dX2_changeAccumulator_105 : decode cX2_changeAccumulator 105 = .ok (.invokestatic 126, 3) := by decide +kernel
theorem dX2_changeAccumulator_108 : decode cX2_changeAccumulator 108 = .ok (.istore 4, 2) := by decide +kernel
theorem dX2_changeAccumulator_110 : decode cX2_changeAccumulator 110 = .ok (.iload_n 3, 1) := by decide +kernel
theorem dX2_changeAccumulator_111 : decode cX2_changeAccumulator 111 = .ok (.ifCond .eq 16, 3) := by decide +kernel
theorem dX2_changeAccumulator_114 : decode cX2_changeAccumulator 114 = .ok (.iload 4, 2) := by decide +kernel
theorem dX2_changeAccumulator_116 : decode cX2_changeAccumulator 116 = .ok (.ifCond .ne 11, 3) := by decide +kernel
theorem dX2_changeAccumulator_119 : decode cX2_changeAccumulator 119 = .ok (.aload_n 0, 1) := by decide +kernel
theorem dX2_changeAccumulator_120 : decode cX2_changeAccumulator 120 = .ok (.iload_n 2, 1) := by decide +kernel
theorem dX2_changeAccumulator_121 : decode cX2_changeAccumulator 121 = .ok (.invokevirtual 147, 3) := by decide +kernel
theorem dX2_changeAccumulator_124 : decode cX2_changeAccumulator 124 = .ok (.goto 20, 3) := by decide +kernel
theorem dX2_changeAccumulator_127 : decode cX2_changeAccumulator 127 = .ok (.iload 4, 2) := by decide +kernel
theorem dX2_changeAccumulator_129 : decode cX2_changeAccumulator 129 = .ok (.ifCond .eq 15, 3) := by decide +kernel
theorem dX2_changeAccumulator_132 : decode cX2_changeAccumulator 132 = .ok (.iload_n 3, 1) := by decide +kernel
theorem dX2_changeAccumulator_133 : decode cX2_changeAccumulator 133 = .ok (.ifCond .ne 11, 3) := by decide +kernel
theorem dX2_changeAccumulator_136 : decode cX2_changeAccumulator 136 = .ok (.aload_n 0, 1) := by decide +kernel
theorem dX2_changeAccumulator_137 : decode cX2_changeAccumulator 137 = .ok (.bipush 13, 2) := by decide +kernel
theorem dX2_changeAccumulator_139 : decode cX2_changeAccumulator 139 = .ok (.iload_n 2, 1) := by decide +kernel
theorem dX2_changeAccumulator_140 : decode cX2_changeAccumulator 140 = .ok (.isub, 1) := by decide +kernel
theorem dX2_changeAccumulator_141 : decode cX2_changeAccumulator 141 = .ok (.invokevirtual 147, 3) := by decide +kernel
theorem dX2_changeAccumulator_144 : decode cX2_changeAccumulator 144 = .ok (.return_, 1) := by decide +kernel
theorem dX2_turnLeft_0 : decode cX2_turnLeft 0 = .ok (.aload_n 0, 1) := by decide +kernel
theorem dX2_turnLeft_1 : decode cX2_turnLeft 1 = .ok (.getfield 53, 3) := by decide +kernel
theorem dX2_turnLeft_4 : decode cX2_turnLeft 4 = .ok (.bipush 12, 2) := by decide +kernel
theorem dX2_turnLeft_6 : decode cX2_turnLeft 6 = .ok (.ishl, 1) := by decide +kernel
theorem dX2_turnLeft_7 : decode cX2_turnLeft 7 = .ok (.aload_n 0, 1) := by decide +kernel
theorem dX2_turnLeft_8 : decode cX2_turnLeft 8 = .ok (.getfield 49, 3) := by decide +kernel
theorem dX2_turnLeft_11 : decode cX2_turnLeft 11 = .ok (.ior, 1) := by decide +kernel
theorem dX2_turnLeft_12 : decode cX2_turnLeft 12 = .ok (.istore_n 2, 1) := by decide +kernel
theorem dX2_turnLeft_13 : decode cX2_turnLeft 13 = .ok (.iload_n 2, 1) := by decide +kernel
theorem dX2_turnLeft_14 : decode cX2_turnLeft 14 = .ok (.iload_n 1, 1) := by decide +kernel
theorem dX2_turnLeft_15 : decode cX2_turnLeft 15 = .ok (.ishl, 1) := by decide +kernel
theorem dX2_turnLeft_16 : decode cX2_turnLeft 16 = .ok (.iload_n 2, 1) := by decide +kernel
theorem dX2_turnLeft_17 : decode cX2_turnLeft 17 = .ok (.bipush 13, 2) := by decide +kernel
theorem dX2_turnLeft_19 : decode cX2_turnLeft 19 = .ok (.iload_n 1, 1) := by decide +kernel
theorem dX2_turnLeft_20 : decode cX2_turnLeft 20 = .ok (.isub, 1) := by decide +kernel
theorem dX2_turnLeft_21 : decode cX2_turnLeft 21 = .ok (.ishr, 1) := by decide +kernel
theorem dX2_turnLeft_22 : decode cX2_turnLeft 22 = .ok (.ior, 1) := by decide +kernel
theorem dX2_turnLeft_23 : decode cX2_turnLeft 23 = .ok (.sipush 8191, 3) := by decide +kernel
theorem dX2_turnLeft_26 : decode cX2_turnLeft 26 = .ok (.iand, 1) := by decide +kernel
theorem dX2_turnLeft_27 : decode cX2_turnLeft 27 = .ok (.istore_n 3, 1) := by decide +kernel
theorem dX2_turnLeft_28 : decode cX2_turnLeft 28 = .ok (.aload_n 0, 1) := by decide +kernel
theorem dX2_turnLeft_29 : decode cX2_turnLeft 29 = .ok (.iload_n 3, 1) := by decide +kernel
theorem dX2_turnLeft_30 : decode cX2_turnLeft 30 = .ok (.bipush 12, 2) := by decide +kernel
theorem dX2_turnLeft_32 : decode cX2_turnLeft 32 = .ok (.ishr, 1) := by decide +kernel
theorem dX2_turnLeft_33 : decode cX2_turnLeft 33 = .ok (.putfield 53, 3) := by decide +kernel
theorem dX2_turnLeft_36 : decode cX2_turnLeft 36 = .ok (.aload_n 0, 1) := by decide +kernel
theorem dX2_turnLeft_37 : decode cX2_turnLeft 37 = .ok (.iload_n 3, 1) := by decide +kernel
theorem dX2_turnLeft_38 : decode cX2_turnLeft 38 = .ok (.sipush 4095, 3) := by decide +kernel
theorem dX2_turnLeft_41 : decode cX2_turnLeft 41 = .ok (.iand, 1) := by decide +kernel
theorem dX2_turnLeft_42 : decode cX2_turnLeft 42 = .ok (.putfield 49, 3) := by decide +kernel
theorem dX2_turnLeft_45 : decode cX2_turnLeft 45 = .ok (.return_, 1) := by decide +kernel
theorem dX2_testAccumulator_0 : decode cX2_testAccumulator 0 = .ok (.iload_n 1, 1) := by decide +kernel
theorem dX2_testAccumulator_1 : decode cX2_testAccumulator 1 = .ok (.bipush 64, 2) := by decide +kernel
theorem dX2_testAccumulator_3 : decode cX2_testAccumulator 3 = .ok (.invokestatic 126, 3) := by decide +kernel
theorem dX2_testAccumulator_6 : decode cX2_testAccumulator 6 = .ok (.ifCond .eq 13, 3) := by decide +kernel
theorem dX2_testAccumulator_9 : decode cX2_testAccumulator 9 = .ok (.aload_n 0, 1) := by decide +kernel
theorem dX2_testAccumulator_10 : decode cX2_testAccumulator 10 = .ok (.getfield 49, 3) := by decide +kernel
theorem dX2_testAccumulator_13 : decode cX2_testAccumulator 13 = .ok (.sipush 2048, 3) := by decide +kernel
theorem dX2_testAccumulator_16 : decode cX2_testAccumulator 16 = .ok (.if_icmp .ge 36, 3) := by decide +kernel
theorem dX2_testAccumulator_19 : decode cX2_testAccumulator 19 = .ok (.iload_n 1, 1) := by decide +kernel
theorem dX2_testAccumulator_20 : decode cX2_testAccumulator 20 = .ok (.bipush 32, 2) := by decide +kernel
theorem dX2_testAccumulator_22 : decode cX2_testAccumulator 22 = .ok (.invokestatic 126, 3) := by decide +kernel
theorem dX2_testAccumulator_25 : decode cX2_testAccumulator 25 = .ok (.ifCond .eq 10, 3) := by decide +kernel
theorem dX2_testAccumulator_28 : decode cX2_testAccumulator 28 = .ok (.aload_n 0, 1) := by decide +kernel
theorem dX2_testAccumulator_29 : decode cX2_testAccumulator 29 = .ok (.getfield 49, 3) := by decide +kernel
theorem dX2_testAccumulator_32 : decode cX2_testAccumulator 32 = .ok (.ifCond .eq 20, 3) := by decide +kernel
theorem dX2_testAccumulator_35 : decode cX2_testAccumulator 35 = .ok (.iload_n 1, 1) := by decide +kernel
theorem dX2_testAccumulator_36 : decode cX2_testAccumulator 36 = .ok (.bipush 16, 2) := by decide +kernel
theorem dX2_testAccumulator_38 : decode cX2_testAccumulator 38 = .ok (.invokestatic 126, 3) := by decide +kernel
theorem dX2_testAccumulator_41 : decode cX2_testAccumulator 41 = .ok (.ifCond .eq 15, 3) := by decide +kernel
theorem dX2_testAccumulator_44 : decode cX2_testAccumulator 44 = .ok (.aload_n 0, 1) := by decide +kernel
theorem dX2_testAccumulator_45 : decode cX2_testAccumulator 45 = .ok (.getfield 53, 3) := by decide +kernel
theorem dX2_testAccumulator_48 : decode cX2_testAccumulator 48 = .ok (.iconst 1, 1) := by decide +kernel
theorem dX2_testAccumulator_49 : decode cX2_testAccumulator 49 = .ok (.if_icmp .ne 7, 3) := by decide +kernel
theorem dX2_testAccumulator_52 : decode cX2_testAccumulator 52 = .ok (.iconst 1, 1) := by decide +kernel
theorem dX2_testAccumulator_53 : decode cX2_testAccumulator 53 = .ok (.goto 4, 3) := by decide +kernel
theorem dX2_testAccumulator_56 : decode cX2_testAccumulator 56 = .ok (.iconst 0, 1) := by decide +kernel
theorem dX2_testAccumulator_57 : decode cX2_testAccumulator 57 = .ok (.istore_n 2, 1) := by decide +kernel
theorem dX2_testAccumulator_58 : decode cX2_testAccumulator 58 = .ok (.aload_n 0, 1) := by decide +kernel
theorem dX2_testAccumulator_59 : decode cX2_testAccumulator 59 = .ok (.iload_n 2, 1) := by decide +kernel
theorem dX2_testAccumulator_60 : decode cX2_testAccumulator 60 = .ok (.iload_n 1, 1) := by decide +kernel
theorem dX2_testAccumulator_61 : decode cX2_testAccumulator 61 = .ok (.bipush 8, 2) := by decide +kernel
theorem dX2_testAccumulator_63 : decode cX2_testAccumulator 63 = .ok (.invokestatic 126, 3) := by decide +kernel
theorem dX2_testAccumulator_66 : decode cX2_testAccumulator 66 = .ok (.if_icmp .eq 7, 3) := by decide +kernel
theorem dX2_testAccumulator_69 : decode cX2_testAccumulator 69 = .ok (.iconst 1, 1) := by decide +kernel
theorem dX2_testAccumulator_70 : decode cX2_testAccumulator 70 = .ok (.goto 4, 3) := by decide +kernel
theorem dX2_testAccumulator_73 : decode cX2_testAccumulator 73 = .ok (.iconst 0, 1) := by decide +kernel
theorem dX2_testAccumulator_74 : decode cX2_testAccumulator 74 = .ok (.invokevirtual 140, 3) := by decide +kernel
theorem dX2_testAccumulator_77 : decode cX2_testAccumulator 77 = .ok (.iload_n 1, 1) := by decide +kernel
theorem dX2_testAccumulator_78 : decode cX2_testAccumulator 78 = .ok (.sipush 128, 3) := by decide +kernel
theorem dX2_testAccumulator_81 : decode cX2_testAccumulator 81 = .ok (.invokestatic 126, 3) := by decide +kernel
theorem dX2_testAccumulator_84 : decode cX2_testAccumulator 84 = .ok (.ifCond .eq 8, 3) := by decide +kernel
theorem dX2_testAccumulator_87 : decode cX2_testAccumulator 87 = .ok (.aload_n 0, 1) := by decide +kernel
theorem dX2_testAccumulator_88 : decode cX2_testAccumulator 88 = .ok (.iconst 0, 1) := by decide +kernel
theorem dX2_testAccumulator_89 : decode cX2_testAccumulator 89 = .ok (.putfield 49, 3) := by decide +kernel
theorem dX2_testAccumulator_92 : decode cX2_testAccumulator 92 = .ok (.iload_n 1, 1) := by decide +kernel
theorem dX2_testAccumulator_93 : decode cX2_testAccumulator 93 = .ok (.iconst 4, 1) := by decide +kernel
theorem dX2_testAccumulator_94 : decode cX2_testAccumulator 94 = .ok (.invokestatic 126, 3) := by decide +kernel
theorem dX2_testAccumulator_97 : decode cX2_testAccumulator 97 = .ok (.ifCond .eq 16, 3) := by decide +kernel
theorem dX2_testAccumulator_100 : decode cX2_testAccumulator 100 = .ok (.aload_n 0, 1) := by decide +kernel
theorem dX2_testAccumulator_101 : decode cX2_testAccumulator 101 = .ok (.dup, 1) := by decide +kernel
theorem dX2_testAccumulator_102 : decode cX2_testAccumulator 102 = .ok (.getfield 49, 3) := by decide +kernel
theorem dX2_testAccumulator_105 : decode cX2_testAccumulator 105 = .ok (.aload_n 0, 1) := by decide +kernel
theorem dX2_testAccumulator_106 : decode cX2_testAccumulator 106 = .ok (.getfield 62, 3) := by decide +kernel
theorem dX2_testAccumulator_109 : decode cX2_testAccumulator 109 = .ok (.ior, 1) := by decide +kernel
theorem dX2_testAccumulator_110 : decode cX2_testAccumulator 110 = .ok (.putfield 49, 3) := by decide +kernel
theorem dX2_testAccumulator_113 : decode cX2_testAccumulator 113 = .ok (.iload_n 1, 1) := by decide +kernel
theorem dX2_testAccumulator_114 : decode cX2_testAccumulator 114 = .ok (.iconst 2, 1) := by decide +kernel
theorem dX2_testAccumulator_115 : decode cX2_testAccumulator 115 = .ok (.invokestatic 126, 3) := by decide +kernel
theorem dX2_testAccumulator_118 : decode cX2_testAccumulator 118 = .ok (.ifCond .eq 8, 3) := by decide +kernel
theorem dX2_testAccumulator_121 : decode cX2_testAccumulator 121 = .ok (.aload_n 0, 1) := by decide +kernel
theorem dX2_testAccumulator_122 : decode cX2_testAccumulator 122 = .ok (.iconst 1, 1) := by decide +kernel
theorem dX2_testAccumulator_123 : decode cX2_testAccumulator 123 = .ok (.putfield 85, 3) := by decide +kernel
theorem dX2_testAccumulator_126 : decode cX2_testAccumulator 126 = .ok (.return_, 1) := by decide +kernel
theorem dX2_exchangeWithMq_0 : decode cX2_exchangeWithMq 0 = .ok (.iload_n 1, 1) := by decide +kernel
theorem dX2_exchangeWithMq_1 : decode cX2_exchangeWithMq 1 = .ok (.sipush 128, 3) := by decide +kernel
theorem dX2_exchangeWithMq_4 : decode cX2_exchangeWithMq 4 = .ok (.invokestatic 126, 3) := by decide +kernel
theorem dX2_exchangeWithMq_7 : decode cX2_exchangeWithMq 7 = .ok (.ifCond .eq 8, 3) := by decide +kernel
theorem dX2_exchangeWithMq_10 : decode cX2_exchangeWithMq 10 = .ok (.aload_n 0, 1) := by decide +kernel
theorem dX2_exchangeWithMq_11 : decode cX2_exchangeWithMq 11 = .ok (.iconst 0, 1) := by decide +kernel
theorem dX2_exchangeWithMq_12 : decode cX2_exchangeWithMq 12 = .ok (.putfield 49, 3) := by decide +kernel
theorem dX2_exchangeWithMq_15 : decode cX2_exchangeWithMq 15 = .ok (.iload_n 1, 1) := by decide +kernel
theorem dX2_exchangeWithMq_16 : decode cX2_exchangeWithMq 16 = .ok (.bipush 64, 2) := by decide +kernel
theorem dX2_exchangeWithMq_18 : decode cX2_exchangeWithMq 18 = .ok (.invokestatic 126, 3) := by decide +kernel
theorem dX2_exchangeWithMq_21 : decode cX2_exchangeWithMq 21 = .ok (.istore_n 2, 1) := by decide +kernel
theorem dX2_exchangeWithMq_22 : decode cX2_exchangeWithMq 22 = .ok (.iload_n 1, 1) := by decide +kernel
theorem dX2_exchangeWithMq_23 : decode cX2_exchangeWithMq 23 = .ok (.bipush 16, 2) := by decide +kernel
theorem dX2_exchangeWithMq_25 : decode cX2_exchangeWithMq 25 = .ok (.invokestatic 126, 3) := by decide +kernel
theorem dX2_exchangeWithMq_28 : decode cX2_exchangeWithMq 28 = .ok (.istore_n 3, 1) := by decide +kernel
theorem dX2_exchangeWithMq_29 : decode cX2_exchangeWithMq 29 = .ok (.aload_n 0, 1) := by decide +kernel
theorem dX2_exchangeWithMq_30 : decode cX2_exchangeWithMq 30 = .ok (.getfield 59, 3) := by decide +kernel
theorem dX2_exchangeWithMq_33 : decode cX2_exchangeWithMq 33 = .ok (.istore 4, 2) := by decide +kernel
theorem dX2_exchangeWithMq_35 : decode cX2_exchangeWithMq 35 = .ok (.iload_n 3, 1) := by decide +kernel
theorem dX2_exchangeWithMq_36 : decode cX2_exchangeWithMq 36 = .ok (.ifCond .eq 16, 3) := by decide +kernel
theorem dX2_exchangeWithMq_39 : decode cX2_exchangeWithMq 39 = .ok (.aload_n 0, 1) := by decide +kernel
theorem dX2_exchangeWithMq_40 : decode cX2_exchangeWithMq 40 = .ok (.aload_n 0, 1) := by decide +kernel
theorem dX2_exchangeWithMq_41 : decode cX2_exchangeWithMq 41 = .ok (.getfield 49, 3) := by decide +kernel
theorem dX2_exchangeWithMq_44 : decode cX2_exchangeWithMq 44 = .ok (.putfield 59, 3) := by decide +kernel
theorem dX2_exchangeWithMq_47 : decode cX2_exchangeWithMq 47 = .ok (.aload_n 0, 1) := by decide +kernel
theorem dX2_exchangeWithMq_48 : decode cX2_exchangeWithMq 48 = .ok (.iconst 0, 1) := by decide +kernel
theorem dX2_exchangeWithMq_49 : decode cX2_exchangeWithMq 49 = .ok (.putfield 49, 3) := by decide +kernel
theorem dX2_exchangeWithMq_52 : decode cX2_exchangeWithMq 52 = .ok (.iload_n 2, 1) := by decide +kernel
theorem dX2_exchangeWithMq_53 : decode cX2_exchangeWithMq 53 = .ok (.ifCond .eq 14, 3) := by decide +kernel
theorem dX2_exchangeWithMq_56 : decode cX2_exchangeWithMq 56 = .ok (.aload_n 0, 1) := by decide +kernel
theorem dX2_exchangeWithMq_57 : decode cX2_exchangeWithMq 57 = .ok (.dup, 1) := by decide +kernel
theorem dX2_exchangeWithMq_58 : decode cX2_exchangeWithMq 58 = .ok (.getfield 49, 3) := by decide +kernel
theorem dX2_exchangeWithMq_61 : decode cX2_exchangeWithMq 61 = .ok (.iload 4, 2) := by decide +kernel
theorem dX2_exchangeWithMq_63 : decode cX2_exchangeWithMq 63 = .ok (.ior, 1) := by decide +kernel
theorem dX2_exchangeWithMq_64 : decode cX2_exchangeWithMq 64 = .ok (.putfield 49, 3) := by decide +kernel
theorem dX2_exchangeWithMq_67 : decode cX2_exchangeWithMq 67 = .ok (.return_, 1) := by decide +kernel
