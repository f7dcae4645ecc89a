theorem d_T_init_0 : decode b_T_init 0 = .ok (.aload_n 0, 1) := by decide +kernel
theorem d_T_init_1 : decode b_T_init 1 = .ok (.invokespecial 1, 3) := by decide +kernel
theorem d_T_init_4 : decode b_T_init 4 = .ok (.aload_n 0, 1) := by decide +kernel
theorem d_T_init_5 : decode b_T_init 5 = .ok (.new 7, 3) := by decide +kernel
theorem d_T_init_8 : decode b_T_init 8 = .ok (.dup, 1) := by decide +kernel
theorem d_T_init_9 : decode b_T_init 9 = .ok (.invokespecial 9, 3) := by decide +kernel
theorem d_T_init_12 : decode b_T_init 12 = .ok (.putfield 10, 3) := by decide +kernel
theorem d_T_init_15 : decode b_T_init 15 = .ok (.aload_n 0, 1) := by decide +kernel
theorem d_T_init_16 : decode b_T_init 16 = .ok (.new 16, 3) := by decide +kernel
theorem d_T_init_19 : decode b_T_init 19 = .ok (.dup, 1) := by decide +kernel
theorem d_T_init_20 : decode b_T_init 20 = .ok (.invokespecial 18, 3) := by decide +kernel
theorem d_T_init_23 : decode b_T_init 23 = .ok (.putfield 19, 3) := by decide +kernel
theorem d_T_init_26 : decode b_T_init 26 = .ok (.aload_n 0, 1) := by decide +kernel
theorem d_T_init_27 : decode b_T_init 27 = .ok (.new 23, 3) := by decide +kernel
theorem d_T_init_30 : decode b_T_init 30 = .ok (.dup, 1) := by decide +kernel
theorem d_T_init_31 : decode b_T_init 31 = .ok (.invokespecial 25, 3) := by decide +kernel
theorem d_T_init_34 : decode b_T_init 34 = .ok (.putfield 26, 3) := by decide +kernel
theorem d_T_init_37 : decode b_T_init 37 = .ok (.aload_n 0, 1) := by decide +kernel
theorem d_T_init_38 : decode b_T_init 38 = .ok (.aload_n 0, 1) := by decide +kernel
theorem d_T_init_39 : decode b_T_init 39 = .ok (.getfield 26, 3) := by decide +kernel
theorem d_T_init_42 : decode b_T_init 42 = .ok (.getfield 30, 3) := by decide +kernel
theorem d_T_init_45 : decode b_T_init 45 = .ok (.putfield 34, 3) := by decide +kernel
theorem d_T_init_48 : decode b_T_init 48 = .ok (.aload_n 0, 1) := by decide +kernel
theorem d_T_init_49 : decode b_T_init 49 = .ok (.new 35, 3) := by decide +kernel
theorem d_T_init_52 : decode b_T_init 52 = .ok (.dup, 1) := by decide +kernel
theorem d_T_init_53 : decode b_T_init 53 = .ok (.invokespecial 37, 3) := by decide +kernel
theorem d_T_init_56 : decode b_T_init 56 = .ok (.putfield 38, 3) := by decide +kernel
theorem d_T_init_59 : decode b_T_init 59 = .ok (.aload_n 0, 1) := by decide +kernel
theorem d_T_init_60 : decode b_T_init 60 = .ok (.new 42, 3) := by decide +kernel
theorem d_T_init_63 : decode b_T_init 63 = .ok (.dup, 1) := by decide +kernel
theorem d_T_init_64 : decode b_T_init 64 = .ok (.invokespecial 44, 3) := by decide +kernel
theorem d_T_init_67 : decode b_T_init 67 = .ok (.putfield 45, 3) := by decide +kernel
theorem d_T_init_70 : decode b_T_init 70 = .ok (.aload_n 0, 1) := by decide +kernel
theorem d_T_init_71 : decode b_T_init 71 = .ok (.iconst 3, 1) := by decide +kernel
theorem d_T_init_72 : decode b_T_init 72 = .ok (.newarray .int, 2) := by decide +kernel
theorem d_T_init_74 : decode b_T_init 74 = .ok (.putfield 49, 3) := by decide +kernel
theorem d_T_init_77 : decode b_T_init 77 = .ok (.aload_n 0, 1) := by decide +kernel
theorem d_T_init_78 : decode b_T_init 78 = .ok (.invokevirtual 53, 3) := by decide +kernel
theorem d_T_init_81 : decode b_T_init 81 = .ok (.return_, 1) := by decide +kernel
theorem d_T_frame_0 : decode b_T_frame 0 = .ok (.iload_n 1, 1) := by decide +kernel
theorem d_T_frame_1 : decode b_T_frame 1 = .ok (.iload_n 2, 1) := by decide +kernel
theorem d_T_frame_2 : decode b_T_frame 2 = .ok (.iconst 0, 1) := by decide +kernel
theorem d_T_frame_3 : decode b_T_frame 3 = .ok (.invokestatic 56, 3) := by decide +kernel
theorem d_T_frame_6 : decode b_T_frame 6 = .ok (.istore_n 3, 1) := by decide +kernel
theorem d_T_frame_7 : decode b_T_frame 7 = .ok (.iload_n 3, 1) := by decide +kernel
theorem d_T_frame_8 : decode b_T_frame 8 = .ok (.bipush 48, 2) := by decide +kernel
theorem d_T_frame_10 : decode b_T_frame 10 = .ok (.if_icmp .lt 23, 3) := by decide +kernel
theorem d_T_frame_13 : decode b_T_frame 13 = .ok (.iload_n 3, 1) := by decide +kernel
theorem d_T_frame_14 : decode b_T_frame 14 = .ok (.bipush 50, 2) := by decide +kernel
theorem d_T_frame_16 : decode b_T_frame 16 = .ok (.if_icmp .gt 17, 3) := by decide +kernel
theorem d_T_frame_19 : decode b_T_frame 19 = .ok (.aload_n 0, 1) := by decide +kernel
theorem d_T_frame_20 : decode b_T_frame 20 = .ok (.iload_n 3, 1) := by decide +kernel
theorem d_T_frame_21 : decode b_T_frame 21 = .ok (.iload_n 1, 1) := by decide +kernel
theorem d_T_frame_22 : decode b_T_frame 22 = .ok (.iload_n 2, 1) := by decide +kernel
theorem d_T_frame_23 : decode b_T_frame 23 = .ok (.iconst 1, 1) := by decide +kernel
theorem d_T_frame_24 : decode b_T_frame 24 = .ok (.invokestatic 56, 3) := by decide +kernel
theorem d_T_frame_27 : decode b_T_frame 27 = .ok (.invokevirtual 60, 3) := by decide +kernel
theorem d_T_frame_30 : decode b_T_frame 30 = .ok (.goto 50, 3) := by decide +kernel
theorem d_T_frame_33 : decode b_T_frame 33 = .ok (.aload_n 0, 1) := by decide +kernel
theorem d_T_frame_34 : decode b_T_frame 34 = .ok (.getfield 26, 3) := by decide +kernel
theorem d_T_frame_37 : decode b_T_frame 37 = .ok (.getfield 64, 3) := by decide +kernel
theorem d_T_frame_40 : decode b_T_frame 40 = .ok (.ifCond .ne 40, 3) := by decide +kernel
theorem d_T_frame_43 : decode b_T_frame 43 = .ok (.aload_n 0, 1) := by decide +kernel
theorem d_T_frame_44 : decode b_T_frame 44 = .ok (.getfield 19, 3) := by decide +kernel
theorem d_T_frame_47 : decode b_T_frame 47 = .ok (.iload_n 1, 1) := by decide +kernel
theorem d_T_frame_48 : decode b_T_frame 48 = .ok (.iload_n 2, 1) := by decide +kernel
theorem d_T_frame_49 : decode b_T_frame 49 = .ok (.invokevirtual 68, 3) := by decide +kernel
theorem d_T_frame_52 : decode b_T_frame 52 = .ok (.istore 4, 2) := by decide +kernel
theorem d_T_frame_54 : decode b_T_frame 54 = .ok (.iload 4, 2) := by decide +kernel
theorem d_T_frame_56 : decode b_T_frame 56 = .ok (.iconst 1, 1) := by decide +kernel
theorem d_T_frame_57 : decode b_T_frame 57 = .ok (.if_icmp .ne 13, 3) := by decide +kernel
theorem d_T_frame_60 : decode b_T_frame 60 = .ok (.aload_n 0, 1) := by decide +kernel
theorem d_T_frame_61 : decode b_T_frame 61 = .ok (.getfield 26, 3) := by decide +kernel
theorem d_T_frame_64 : decode b_T_frame 64 = .ok (.invokevirtual 72, 3) := by decide +kernel
theorem d_T_frame_67 : decode b_T_frame 67 = .ok (.goto 13, 3) := by decide +kernel
theorem d_T_frame_70 : decode b_T_frame 70 = .ok (.iload 4, 2) := by decide +kernel
theorem d_T_frame_72 : decode b_T_frame 72 = .ok (.iconst 2, 1) := by decide +kernel
theorem d_T_frame_73 : decode b_T_frame 73 = .ok (.if_icmp .ne 7, 3) := by decide +kernel
theorem d_T_frame_76 : decode b_T_frame 76 = .ok (.aload_n 0, 1) := by decide +kernel
theorem d_T_frame_77 : decode b_T_frame 77 = .ok (.invokevirtual 75, 3) := by decide +kernel
theorem d_T_frame_80 : decode b_T_frame 80 = .ok (.aload_n 0, 1) := by decide +kernel
theorem d_T_frame_81 : decode b_T_frame 81 = .ok (.getfield 34, 3) := by decide +kernel
theorem d_T_frame_84 : decode b_T_frame 84 = .ok (.getfield 78, 3) := by decide +kernel
theorem d_T_frame_87 : decode b_T_frame 87 = .ok (.ireturn, 1) := by decide +kernel
theorem d_T_peek_0 : decode b_T_peek 0 = .ok (.iload_n 1, 1) := by decide +kernel
theorem d_T_peek_1 : decode b_T_peek 1 = .ok (.ifCond .lt 19, 3) := by decide +kernel
theorem d_T_peek_4 : decode b_T_peek 4 = .ok (.iload_n 1, 1) := by decide +kernel
theorem d_T_peek_5 : decode b_T_peek 5 = .ok (.bipush 8, 2) := by decide +kernel
theorem d_T_peek_7 : decode b_T_peek 7 = .ok (.if_icmp .ge 13, 3) := by decide +kernel
theorem d_T_peek_10 : decode b_T_peek 10 = .ok (.aload_n 0, 1) := by decide +kernel
theorem d_T_peek_11 : decode b_T_peek 11 = .ok (.getfield 34, 3) := by decide +kernel
theorem d_T_peek_14 : decode b_T_peek 14 = .ok (.getfield 78, 3) := by decide +kernel
theorem d_T_peek_17 : decode b_T_peek 17 = .ok (.ifCond .ne 5, 3) := by decide +kernel
theorem d_T_peek_20 : decode b_T_peek 20 = .ok (.iconst (-1), 1) := by decide +kernel
theorem d_T_peek_21 : decode b_T_peek 21 = .ok (.ireturn, 1) := by decide +kernel
theorem d_T_peek_22 : decode b_T_peek 22 = .ok (.aload_n 0, 1) := by decide +kernel
theorem d_T_peek_23 : decode b_T_peek 23 = .ok (.getfield 34, 3) := by decide +kernel
theorem d_T_peek_26 : decode b_T_peek 26 = .ok (.iload_n 1, 1) := by decide +kernel
theorem d_T_peek_27 : decode b_T_peek 27 = .ok (.invokevirtual 84, 3) := by decide +kernel
theorem d_T_peek_30 : decode b_T_peek 30 = .ok (.ireturn, 1) := by decide +kernel
theorem d_T_take_0 : decode b_T_take 0 = .ok (.aload_n 0, 1) := by decide +kernel
theorem d_T_take_1 : decode b_T_take 1 = .ok (.getfield 34, 3) := by decide +kernel
theorem d_T_take_4 : decode b_T_take 4 = .ok (.getfield 78, 3) := by decide +kernel
theorem d_T_take_7 : decode b_T_take 7 = .ok (.ifCond .ne 5, 3) := by decide +kernel
theorem d_T_take_10 : decode b_T_take 10 = .ok (.iconst 0, 1) := by decide +kernel
theorem d_T_take_11 : decode b_T_take 11 = .ok (.ireturn, 1) := by decide +kernel
theorem d_T_take_12 : decode b_T_take 12 = .ok (.aload_n 0, 1) := by decide +kernel
theorem d_T_take_13 : decode b_T_take 13 = .ok (.getfield 34, 3) := by decide +kernel
theorem d_T_take_16 : decode b_T_take 16 = .ok (.invokevirtual 88, 3) := by decide +kernel
theorem d_T_take_19 : decode b_T_take 19 = .ok (.iconst 1, 1) := by decide +kernel
theorem d_T_take_20 : decode b_T_take 20 = .ok (.ireturn, 1) := by decide +kernel
theorem d_T_tick_0 : decode b_T_tick 0 = .ok (.aload_n 0, 1) := by decide +kernel
theorem d_T_tick_1 : decode b_T_tick 1 = .ok (.getfield 19, 3) := by decide +kernel
theorem d_T_tick_4 : decode b_T_tick 4 = .ok (.invokevirtual 91, 3) := by decide +kernel
theorem d_T_tick_7 : decode b_T_tick 7 = .ok (.aload_n 0, 1) := by decide +kernel
theorem d_T_tick_8 : decode b_T_tick 8 = .ok (.getfield 26, 3) := by decide +kernel
theorem d_T_tick_11 : decode b_T_tick 11 = .ok (.invokevirtual 94, 3) := by decide +kernel
theorem d_T_tick_14 : decode b_T_tick 14 = .ok (.aload_n 0, 1) := by decide +kernel
theorem d_T_tick_15 : decode b_T_tick 15 = .ok (.dup, 1) := by decide +kernel
theorem d_T_tick_16 : decode b_T_tick 16 = .ok (.getfield 95, 3) := by decide +kernel
theorem d_T_tick_19 : decode b_T_tick 19 = .ok (.iconst 1, 1) := by decide +kernel
theorem d_T_tick_20 : decode b_T_tick 20 = .ok (.iadd, 1) := by decide +kernel
theorem d_T_tick_21 : decode b_T_tick 21 = .ok (.putfield 95, 3) := by decide +kernel
theorem d_T_tick_24 : decode b_T_tick 24 = .ok (.aload_n 0, 1) := by decide +kernel
theorem d_T_tick_25 : decode b_T_tick 25 = .ok (.getfield 98, 3) := by decide +kernel
theorem d_T_tick_28 : decode b_T_tick 28 = .ok (.iconst 2, 1) := by decide +kernel
theorem d_T_tick_29 : decode b_T_tick 29 = .ok (.if_icmp .ne 37, 3) := by decide +kernel
theorem d_T_tick_32 : decode b_T_tick 32 = .ok (.aload_n 0, 1) := by decide +kernel
theorem d_T_tick_33 : decode b_T_tick 33 = .ok (.getfield 95, 3) := by decide +kernel
theorem d_T_tick_36 : decode b_T_tick 36 = .ok (.bipush 10, 2) := by decide +kernel
theorem d_T_tick_38 : decode b_T_tick 38 = .ok (.if_icmp .lt 28, 3) := by decide +kernel
theorem d_T_tick_41 : decode b_T_tick 41 = .ok (.aload_n 0, 1) := by decide +kernel
theorem d_T_tick_42 : decode b_T_tick 42 = .ok (.getfield 19, 3) := by decide +kernel
theorem d_T_tick_45 : decode b_T_tick 45 = .ok (.getfield 101, 3) := by decide +kernel
theorem d_T_tick_48 : decode b_T_tick 48 = .ok (.ifCond .ne 18, 3) := by decide +kernel
theorem d_T_tick_51 : decode b_T_tick 51 = .ok (.aload_n 0, 1) := by decide +kernel
theorem d_T_tick_52 : decode b_T_tick 52 = .ok (.getfield 26, 3) := by decide +kernel
theorem d_T_tick_55 : decode b_T_tick 55 = .ok (.getfield 64, 3) := by decide +kernel
theorem d_T_tick_58 : decode b_T_tick 58 = .ok (.ifCond .ne 8, 3) := by decide +kernel
theorem d_T_tick_61 : decode b_T_tick 61 = .ok (.aload_n 0, 1) := by decide +kernel
theorem d_T_tick_62 : decode b_T_tick 62 = .ok (.iconst 1, 1) := by decide +kernel
theorem d_T_tick_63 : decode b_T_tick 63 = .ok (.invokevirtual 104, 3) := by decide +kernel
theorem d_T_tick_66 : decode b_T_tick 66 = .ok (.aload_n 0, 1) := by decide +kernel
theorem d_T_tick_67 : decode b_T_tick 67 = .ok (.getfield 38, 3) := by decide +kernel
theorem d_T_tick_70 : decode b_T_tick 70 = .ok (.invokevirtual 108, 3) := by decide +kernel
theorem d_T_tick_73 : decode b_T_tick 73 = .ok (.return_, 1) := by decide +kernel
theorem d_T_cut_0 : decode b_T_cut 0 = .ok (.aload_n 0, 1) := by decide +kernel
theorem d_T_cut_1 : decode b_T_cut 1 = .ok (.getfield 10, 3) := by decide +kernel
theorem d_T_cut_4 : decode b_T_cut 4 = .ok (.iload_n 1, 1) := by decide +kernel
theorem d_T_cut_5 : decode b_T_cut 5 = .ok (.invokevirtual 111, 3) := by decide +kernel
theorem d_T_cut_8 : decode b_T_cut 8 = .ok (.return_, 1) := by decide +kernel
theorem d_T_restart_0 : decode b_T_restart 0 = .ok (.aload_n 0, 1) := by decide +kernel
theorem d_T_restart_1 : decode b_T_restart 1 = .ok (.invokevirtual 114, 3) := by decide +kernel
theorem d_T_restart_4 : decode b_T_restart 4 = .ok (.return_, 1) := by decide +kernel
theorem d_T_flash_0 : decode b_T_flash 0 = .ok (.aload_n 0, 1) := by decide +kernel
theorem d_T_flash_1 : decode b_T_flash 1 = .ok (.getfield 10, 3) := by decide +kernel
theorem d_T_flash_4 : decode b_T_flash 4 = .ok (.iload_n 1, 1) := by decide +kernel
theorem d_T_flash_5 : decode b_T_flash 5 = .ok (.iconst 1, 1) := by decide +kernel
theorem d_T_flash_6 : decode b_T_flash 6 = .ok (.invokevirtual 117, 3) := by decide +kernel
theorem d_T_flash_9 : decode b_T_flash 9 = .ok (.ifCond .eq 15, 3) := by decide +kernel
theorem d_T_flash_12 : decode b_T_flash 12 = .ok (.aload_n 0, 1) := by decide +kernel
theorem d_T_flash_13 : decode b_T_flash 13 = .ok (.getfield 10, 3) := by decide +kernel
theorem d_T_flash_16 : decode b_T_flash 16 = .ok (.getfield 121, 3) := by decide +kernel
theorem d_T_flash_19 : decode b_T_flash 19 = .ok (.iload_n 1, 1) := by decide +kernel
theorem d_T_flash_20 : decode b_T_flash 20 = .ok (.iaload, 1) := by decide +kernel
theorem d_T_flash_21 : decode b_T_flash 21 = .ok (.goto 4, 3) := by decide +kernel
theorem d_T_flash_24 : decode b_T_flash 24 = .ok (.iconst (-1), 1) := by decide +kernel
theorem d_T_flash_25 : decode b_T_flash 25 = .ok (.ireturn, 1) := by decide +kernel
theorem d_T_word_0 : decode b_T_word 0 = .ok (.aload_n 0, 1) := by decide +kernel
theorem d_T_word_1 : decode b_T_word 1 = .ok (.getfield 10, 3) := by decide +kernel
theorem d_T_word_4 : decode b_T_word 4 = .ok (.iload_n 1, 1) := by decide +kernel
theorem d_T_word_5 : decode b_T_word 5 = .ok (.iconst 4, 1) := by decide +kernel
theorem d_T_word_6 : decode b_T_word 6 = .ok (.invokevirtual 117, 3) := by decide +kernel
theorem d_T_word_9 : decode b_T_word 9 = .ok (.ifCond .ne 5, 3) := by decide +kernel
theorem d_T_word_12 : decode b_T_word 12 = .ok (.iconst 0, 1) := by decide +kernel
theorem d_T_word_13 : decode b_T_word 13 = .ok (.ireturn, 1) := by decide +kernel
theorem d_T_word_14 : decode b_T_word 14 = .ok (.iconst 0, 1) := by decide +kernel
theorem d_T_word_15 : decode b_T_word 15 = .ok (.istore_n 2, 1) := by decide +kernel
theorem d_T_word_16 : decode b_T_word 16 = .ok (.iconst 0, 1) := by decide +kernel
theorem d_T_word_17 : decode b_T_word 17 = .ok (.istore_n 3, 1) := by decide +kernel
theorem d_T_word_18 : decode b_T_word 18 = .ok (.iload_n 3, 1) := by decide +kernel
theorem d_T_word_19 : decode b_T_word 19 = .ok (.iconst 4, 1) := by decide +kernel
theorem d_T_word_20 : decode b_T_word 20 = .ok (.if_icmp .ge 26, 3) := by decide +kernel
theorem d_T_word_23 : decode b_T_word 23 = .ok (.iload_n 2, 1) := by decide +kernel
theorem d_T_word_24 : decode b_T_word 24 = .ok (.bipush 8, 2) := by decide +kernel
theorem d_T_word_26 : decode b_T_word 26 = .ok (.ishl, 1) := by decide +kernel
theorem d_T_word_27 : decode b_T_word 27 = .ok (.aload_n 0, 1) := by decide +kernel
theorem d_T_word_28 : decode b_T_word 28 = .ok (.getfield 10, 3) := by decide +kernel
theorem d_T_word_31 : decode b_T_word 31 = .ok (.getfield 121, 3) := by decide +kernel
theorem d_T_word_34 : decode b_T_word 34 = .ok (.iload_n 1, 1) := by decide +kernel
theorem d_T_word_35 : decode b_T_word 35 = .ok (.iload_n 3, 1) := by decide +kernel
theorem d_T_word_36 : decode b_T_word 36 = .ok (.iadd, 1) := by decide +kernel
theorem d_T_word_37 : decode b_T_word 37 = .ok (.iaload, 1) := by decide +kernel
theorem d_T_word_38 : decode b_T_word 38 = .ok (.ior, 1) := by decide +kernel
theorem d_T_word_39 : decode b_T_word 39 = .ok (.istore_n 2, 1) := by decide +kernel
theorem d_T_word_40 : decode b_T_word 40 = .ok (.iinc 3 1, 3) := by decide +kernel
theorem d_T_word_43 : decode b_T_word 43 = .ok (.goto (-25), 3) := by decide +kernel
theorem d_T_word_46 : decode b_T_word 46 = .ok (.iload_n 2, 1) := by decide +kernel
theorem d_T_word_47 : decode b_T_word 47 = .ok (.ireturn, 1) := by decide +kernel
theorem d_T_state_0 : decode b_T_state 0 = .ok (.iload_n 1, 1) := by decide +kernel
theorem d_T_state_1 : decode b_T_state 1 = .ok (.tableswitch 130 0 8 #[51, 56, 61, 77, 85, 101, 106, 114, 122], 51) := by decide +kernel
theorem d_T_state_52 : decode b_T_state 52 = .ok (.aload_n 0, 1) := by decide +kernel
theorem d_T_state_53 : decode b_T_state 53 = .ok (.getfield 124, 3) := by decide +kernel
theorem d_T_state_56 : decode b_T_state 56 = .ok (.ireturn, 1) := by decide +kernel
theorem d_T_state_57 : decode b_T_state 57 = .ok (.aload_n 0, 1) := by decide +kernel
theorem d_T_state_58 : decode b_T_state 58 = .ok (.getfield 98, 3) := by decide +kernel
theorem d_T_state_61 : decode b_T_state 61 = .ok (.ireturn, 1) := by decide +kernel
theorem d_T_state_62 : decode b_T_state 62 = .ok (.aload_n 0, 1) := by decide +kernel
theorem d_T_state_63 : decode b_T_state 63 = .ok (.getfield 38, 3) := by decide +kernel
theorem d_T_state_66 : decode b_T_state 66 = .ok (.getfield 127, 3) := by decide +kernel
theorem d_T_state_69 : decode b_T_state 69 = .ok (.ifCond .eq 7, 3) := by decide +kernel
theorem d_T_state_72 : decode b_T_state 72 = .ok (.iconst 1, 1) := by decide +kernel
theorem d_T_state_73 : decode b_T_state 73 = .ok (.goto 4, 3) := by decide +kernel
theorem d_T_state_76 : decode b_T_state 76 = .ok (.iconst 0, 1) := by decide +kernel
theorem d_T_state_77 : decode b_T_state 77 = .ok (.ireturn, 1) := by decide +kernel
theorem d_T_state_78 : decode b_T_state 78 = .ok (.aload_n 0, 1) := by decide +kernel
theorem d_T_state_79 : decode b_T_state 79 = .ok (.getfield 45, 3) := by decide +kernel
theorem d_T_state_82 : decode b_T_state 82 = .ok (.invokevirtual 130, 3) := by decide +kernel
theorem d_T_state_85 : decode b_T_state 85 = .ok (.ireturn, 1) := by decide +kernel
theorem d_T_state_86 : decode b_T_state 86 = .ok (.aload_n 0, 1) := by decide +kernel
theorem d_T_state_87 : decode b_T_state 87 = .ok (.getfield 10, 3) := by decide +kernel
theorem d_T_state_90 : decode b_T_state 90 = .ok (.getfield 134, 3) := by decide +kernel
theorem d_T_state_93 : decode b_T_state 93 = .ok (.ifCond .eq 7, 3) := by decide +kernel
theorem d_T_state_96 : decode b_T_state 96 = .ok (.iconst 1, 1) := by decide +kernel
theorem d_T_state_97 : decode b_T_state 97 = .ok (.goto 4, 3) := by decide +kernel
theorem d_T_state_100 : decode b_T_state 100 = .ok (.iconst 0, 1) := by decide +kernel
theorem d_T_state_101 : decode b_T_state 101 = .ok (.ireturn, 1) := by decide +kernel
theorem d_T_state_102 : decode b_T_state 102 = .ok (.aload_n 0, 1) := by decide +kernel
theorem d_T_state_103 : decode b_T_state 103 = .ok (.getfield 137, 3) := by decide +kernel
theorem d_T_state_106 : decode b_T_state 106 = .ok (.ireturn, 1) := by decide +kernel
theorem d_T_state_107 : decode b_T_state 107 = .ok (.aload_n 0, 1) := by decide +kernel
theorem d_T_state_108 : decode b_T_state 108 = .ok (.getfield 19, 3) := by decide +kernel
theorem d_T_state_111 : decode b_T_state 111 = .ok (.getfield 101, 3) := by decide +kernel
theorem d_T_state_114 : decode b_T_state 114 = .ok (.ireturn, 1) := by decide +kernel
theorem d_T_state_115 : decode b_T_state 115 = .ok (.aload_n 0, 1) := by decide +kernel
theorem d_T_state_116 : decode b_T_state 116 = .ok (.getfield 26, 3) := by decide +kernel
theorem d_T_state_119 : decode b_T_state 119 = .ok (.invokevirtual 140, 3) := by decide +kernel
theorem d_T_state_122 : decode b_T_state 122 = .ok (.ireturn, 1) := by decide +kernel
theorem d_T_state_123 : decode b_T_state 123 = .ok (.aload_n 0, 1) := by decide +kernel
theorem d_T_state_124 : decode b_T_state 124 = .ok (.getfield 38, 3) := by decide +kernel
theorem d_T_state_127 : decode b_T_state 127 = .ok (.getfield 143, 3) := by decide +kernel
theorem d_T_state_130 : decode b_T_state 130 = .ok (.ireturn, 1) := by decide +kernel
theorem d_T_state_131 : decode b_T_state 131 = .ok (.iconst (-1), 1) := by decide +kernel
theorem d_T_state_132 : decode b_T_state 132 = .ok (.ireturn, 1) := by decide +kernel
theorem d_T_byteOf_0 : decode b_T_byteOf 0 = .ok (.iload_n 2, 1) := by decide +kernel
theorem d_T_byteOf_1 : decode b_T_byteOf 1 = .ok (.iconst 4, 1) := by decide +kernel
theorem d_T_byteOf_2 : decode b_T_byteOf 2 = .ok (.if_icmp .ge 7, 3) := by decide +kernel
theorem d_T_byteOf_5 : decode b_T_byteOf 5 = .ok (.iload_n 0, 1) := by decide +kernel
theorem d_T_byteOf_6 : decode b_T_byteOf 6 = .ok (.goto 4, 3) := by decide +kernel
theorem d_T_byteOf_9 : decode b_T_byteOf 9 = .ok (.iload_n 1, 1) := by decide +kernel
theorem d_T_byteOf_10 : decode b_T_byteOf 10 = .ok (.istore_n 3, 1) := by decide +kernel
theorem d_T_byteOf_11 : decode b_T_byteOf 11 = .ok (.iload_n 3, 1) := by decide +kernel
theorem d_T_byteOf_12 : decode b_T_byteOf 12 = .ok (.bipush 24, 2) := by decide +kernel
theorem d_T_byteOf_14 : decode b_T_byteOf 14 = .ok (.bipush 8, 2) := by decide +kernel
theorem d_T_byteOf_16 : decode b_T_byteOf 16 = .ok (.iload_n 2, 1) := by decide +kernel
theorem d_T_byteOf_17 : decode b_T_byteOf 17 = .ok (.iconst 3, 1) := by decide +kernel
theorem d_T_byteOf_18 : decode b_T_byteOf 18 = .ok (.iand, 1) := by decide +kernel
theorem d_T_byteOf_19 : decode b_T_byteOf 19 = .ok (.imul, 1) := by decide +kernel
theorem d_T_byteOf_20 : decode b_T_byteOf 20 = .ok (.isub, 1) := by decide +kernel
theorem d_T_byteOf_21 : decode b_T_byteOf 21 = .ok (.iushr, 1) := by decide +kernel
theorem d_T_byteOf_22 : decode b_T_byteOf 22 = .ok (.sipush 255, 3) := by decide +kernel
theorem d_T_byteOf_25 : decode b_T_byteOf 25 = .ok (.iand, 1) := by decide +kernel
theorem d_T_byteOf_26 : decode b_T_byteOf 26 = .ok (.ireturn, 1) := by decide +kernel
theorem d_T_boot_0 : decode b_T_boot 0 = .ok (.aload_n 0, 1) := by decide +kernel
theorem d_T_boot_1 : decode b_T_boot 1 = .ok (.aload_n 0, 1) := by decide +kernel
theorem d_T_boot_2 : decode b_T_boot 2 = .ok (.getfield 10, 3) := by decide +kernel
theorem d_T_boot_5 : decode b_T_boot 5 = .ok (.invokevirtual 146, 3) := by decide +kernel
theorem d_T_boot_8 : decode b_T_boot 8 = .ok (.putfield 124, 3) := by decide +kernel
theorem d_T_boot_11 : decode b_T_boot 11 = .ok (.aload_n 0, 1) := by decide +kernel
theorem d_T_boot_12 : decode b_T_boot 12 = .ok (.iconst 1, 1) := by decide +kernel
theorem d_T_boot_13 : decode b_T_boot 13 = .ok (.putfield 98, 3) := by decide +kernel
theorem d_T_boot_16 : decode b_T_boot 16 = .ok (.aload_n 0, 1) := by decide +kernel
theorem d_T_boot_17 : decode b_T_boot 17 = .ok (.iconst (-1), 1) := by decide +kernel
theorem d_T_boot_18 : decode b_T_boot 18 = .ok (.putfield 137, 3) := by decide +kernel
theorem d_T_boot_21 : decode b_T_boot 21 = .ok (.aload_n 0, 1) := by decide +kernel
theorem d_T_boot_22 : decode b_T_boot 22 = .ok (.iconst 0, 1) := by decide +kernel
theorem d_T_boot_23 : decode b_T_boot 23 = .ok (.putfield 149, 3) := by decide +kernel
theorem d_T_boot_26 : decode b_T_boot 26 = .ok (.aload_n 0, 1) := by decide +kernel
theorem d_T_boot_27 : decode b_T_boot 27 = .ok (.iconst 0, 1) := by decide +kernel
theorem d_T_boot_28 : decode b_T_boot 28 = .ok (.putfield 95, 3) := by decide +kernel
theorem d_T_boot_31 : decode b_T_boot 31 = .ok (.aload_n 0, 1) := by decide +kernel
theorem d_T_boot_32 : decode b_T_boot 32 = .ok (.getfield 38, 3) := by decide +kernel
theorem d_T_boot_35 : decode b_T_boot 35 = .ok (.invokevirtual 152, 3) := by decide +kernel
theorem d_T_boot_38 : decode b_T_boot 38 = .ok (.aload_n 0, 1) := by decide +kernel
theorem d_T_boot_39 : decode b_T_boot 39 = .ok (.getfield 45, 3) := by decide +kernel
theorem d_T_boot_42 : decode b_T_boot 42 = .ok (.invokevirtual 155, 3) := by decide +kernel
theorem d_T_boot_45 : decode b_T_boot 45 = .ok (.aload_n 0, 1) := by decide +kernel
theorem d_T_boot_46 : decode b_T_boot 46 = .ok (.getfield 19, 3) := by decide +kernel
theorem d_T_boot_49 : decode b_T_boot 49 = .ok (.invokevirtual 158, 3) := by decide +kernel
theorem d_T_boot_52 : decode b_T_boot 52 = .ok (.aload_n 0, 1) := by decide +kernel
theorem d_T_boot_53 : decode b_T_boot 53 = .ok (.getfield 26, 3) := by decide +kernel
theorem d_T_boot_56 : decode b_T_boot 56 = .ok (.invokevirtual 161, 3) := by decide +kernel
theorem d_T_boot_59 : decode b_T_boot 59 = .ok (.return_, 1) := by decide +kernel
theorem d_T_bootAfresh_0 : decode b_T_bootAfresh 0 = .ok (.aload_n 0, 1) := by decide +kernel
theorem d_T_bootAfresh_1 : decode b_T_bootAfresh 1 = .ok (.invokevirtual 53, 3) := by decide +kernel
theorem d_T_bootAfresh_4 : decode b_T_bootAfresh 4 = .ok (.aload_n 0, 1) := by decide +kernel
theorem d_T_bootAfresh_5 : decode b_T_bootAfresh 5 = .ok (.getfield 34, 3) := by decide +kernel
theorem d_T_bootAfresh_8 : decode b_T_bootAfresh 8 = .ok (.invokevirtual 162, 3) := by decide +kernel
theorem d_T_bootAfresh_11 : decode b_T_bootAfresh 11 = .ok (.return_, 1) := by decide +kernel
theorem d_T_changeSession_0 : decode b_T_changeSession 0 = .ok (.aload_n 0, 1) := by decide +kernel
theorem d_T_changeSession_1 : decode b_T_changeSession 1 = .ok (.iload_n 1, 1) := by decide +kernel
theorem d_T_changeSession_2 : decode b_T_changeSession 2 = .ok (.putfield 98, 3) := by decide +kernel
theorem d_T_changeSession_5 : decode b_T_changeSession 5 = .ok (.aload_n 0, 1) := by decide +kernel
theorem d_T_changeSession_6 : decode b_T_changeSession 6 = .ok (.getfield 38, 3) := by decide +kernel
theorem d_T_changeSession_9 : decode b_T_changeSession 9 = .ok (.invokevirtual 165, 3) := by decide +kernel
theorem d_T_changeSession_12 : decode b_T_changeSession 12 = .ok (.aload_n 0, 1) := by decide +kernel
theorem d_T_changeSession_13 : decode b_T_changeSession 13 = .ok (.getfield 45, 3) := by decide +kernel
theorem d_T_changeSession_16 : decode b_T_changeSession 16 = .ok (.invokevirtual 155, 3) := by decide +kernel
theorem d_T_changeSession_19 : decode b_T_changeSession 19 = .ok (.return_, 1) := by decide +kernel
theorem d_T_steerAnswer_0 : decode b_T_steerAnswer 0 = .ok (.aload_n 0, 1) := by decide +kernel
theorem d_T_steerAnswer_1 : decode b_T_steerAnswer 1 = .ok (.getfield 26, 3) := by decide +kernel
theorem d_T_steerAnswer_4 : decode b_T_steerAnswer 4 = .ok (.getfield 64, 3) := by decide +kernel
theorem d_T_steerAnswer_7 : decode b_T_steerAnswer 7 = .ok (.ifCond .ne 4, 3) := by decide +kernel
theorem d_T_steerAnswer_10 : decode b_T_steerAnswer 10 = .ok (.return_, 1) := by decide +kernel
theorem d_T_steerAnswer_11 : decode b_T_steerAnswer 11 = .ok (.iload_n 1, 1) := by decide +kernel
theorem d_T_steerAnswer_12 : decode b_T_steerAnswer 12 = .ok (.bipush 48, 2) := by decide +kernel
theorem d_T_steerAnswer_14 : decode b_T_steerAnswer 14 = .ok (.if_icmp .ne 14, 3) := by decide +kernel
theorem d_T_steerAnswer_17 : decode b_T_steerAnswer 17 = .ok (.aload_n 0, 1) := by decide +kernel
theorem d_T_steerAnswer_18 : decode b_T_steerAnswer 18 = .ok (.getfield 26, 3) := by decide +kernel
theorem d_T_steerAnswer_21 : decode b_T_steerAnswer 21 = .ok (.iload_n 2, 1) := by decide +kernel
theorem d_T_steerAnswer_22 : decode b_T_steerAnswer 22 = .ok (.invokevirtual 168, 3) := by decide +kernel
theorem d_T_steerAnswer_25 : decode b_T_steerAnswer 25 = .ok (.goto 26, 3) := by decide +kernel
theorem d_T_steerAnswer_28 : decode b_T_steerAnswer 28 = .ok (.iload_n 1, 1) := by decide +kernel
theorem d_T_steerAnswer_29 : decode b_T_steerAnswer 29 = .ok (.bipush 49, 2) := by decide +kernel
theorem d_T_steerAnswer_31 : decode b_T_steerAnswer 31 = .ok (.if_icmp .ne 13, 3) := by decide +kernel
theorem d_T_steerAnswer_34 : decode b_T_steerAnswer 34 = .ok (.aload_n 0, 1) := by decide +kernel
theorem d_T_steerAnswer_35 : decode b_T_steerAnswer 35 = .ok (.getfield 26, 3) := by decide +kernel
theorem d_T_steerAnswer_38 : decode b_T_steerAnswer 38 = .ok (.invokevirtual 171, 3) := by decide +kernel
theorem d_T_steerAnswer_41 : decode b_T_steerAnswer 41 = .ok (.goto 10, 3) := by decide +kernel
theorem d_T_steerAnswer_44 : decode b_T_steerAnswer 44 = .ok (.aload_n 0, 1) := by decide +kernel
theorem d_T_steerAnswer_45 : decode b_T_steerAnswer 45 = .ok (.getfield 26, 3) := by decide +kernel
theorem d_T_steerAnswer_48 : decode b_T_steerAnswer 48 = .ok (.invokevirtual 161, 3) := by decide +kernel
theorem d_T_steerAnswer_51 : decode b_T_steerAnswer 51 = .ok (.return_, 1) := by decide +kernel
theorem d_T_workOnRequest_0 : decode b_T_workOnRequest 0 = .ok (.aload_n 0, 1) := by decide +kernel
theorem d_T_workOnRequest_1 : decode b_T_workOnRequest 1 = .ok (.iconst 0, 1) := by decide +kernel
theorem d_T_workOnRequest_2 : decode b_T_workOnRequest 2 = .ok (.putfield 95, 3) := by decide +kernel
theorem d_T_workOnRequest_5 : decode b_T_workOnRequest 5 = .ok (.aload_n 0, 1) := by decide +kernel
theorem d_T_workOnRequest_6 : decode b_T_workOnRequest 6 = .ok (.getfield 19, 3) := by decide +kernel
theorem d_T_workOnRequest_9 : decode b_T_workOnRequest 9 = .ok (.iconst 0, 1) := by decide +kernel
theorem d_T_workOnRequest_10 : decode b_T_workOnRequest 10 = .ok (.invokevirtual 174, 3) := by decide +kernel
theorem d_T_workOnRequest_13 : decode b_T_workOnRequest 13 = .ok (.istore_n 1, 1) := by decide +kernel
theorem d_T_workOnRequest_14 : decode b_T_workOnRequest 14 = .ok (.aload_n 0, 1) := by decide +kernel
theorem d_T_workOnRequest_15 : decode b_T_workOnRequest 15 = .ok (.getfield 26, 3) := by decide +kernel
theorem d_T_workOnRequest_18 : decode b_T_workOnRequest 18 = .ok (.iload_n 1, 1) := by decide +kernel
theorem d_T_workOnRequest_19 : decode b_T_workOnRequest 19 = .ok (.bipush 64, 2) := by decide +kernel
theorem d_T_workOnRequest_21 : decode b_T_workOnRequest 21 = .ok (.iadd, 1) := by decide +kernel
theorem d_T_workOnRequest_22 : decode b_T_workOnRequest 22 = .ok (.invokevirtual 177, 3) := by decide +kernel
theorem d_T_workOnRequest_25 : decode b_T_workOnRequest 25 = .ok (.aload_n 0, 1) := by decide +kernel
theorem d_T_workOnRequest_26 : decode b_T_workOnRequest 26 = .ok (.iload_n 1, 1) := by decide +kernel
theorem d_T_workOnRequest_27 : decode b_T_workOnRequest 27 = .ok (.invokevirtual 180, 3) := by decide +kernel
theorem d_T_workOnRequest_30 : decode b_T_workOnRequest 30 = .ok (.istore_n 2, 1) := by decide +kernel
theorem d_T_workOnRequest_31 : decode b_T_workOnRequest 31 = .ok (.iload_n 2, 1) := by decide +kernel
theorem d_T_workOnRequest_32 : decode b_T_workOnRequest 32 = .ok (.ifCond .ne 9, 3) := by decide +kernel
theorem d_T_workOnRequest_35 : decode b_T_workOnRequest 35 = .ok (.aload_n 0, 1) := by decide +kernel
theorem d_T_workOnRequest_36 : decode b_T_workOnRequest 36 = .ok (.iload_n 1, 1) := by decide +kernel
theorem d_T_workOnRequest_37 : decode b_T_workOnRequest 37 = .ok (.invokevirtual 183, 3) := by decide +kernel
theorem d_T_workOnRequest_40 : decode b_T_workOnRequest 40 = .ok (.istore_n 2, 1) := by decide +kernel
theorem d_T_workOnRequest_41 : decode b_T_workOnRequest 41 = .ok (.iload_n 2, 1) := by decide +kernel
theorem d_T_workOnRequest_42 : decode b_T_workOnRequest 42 = .ok (.iconst (-1), 1) := by decide +kernel
theorem d_T_workOnRequest_43 : decode b_T_workOnRequest 43 = .ok (.if_icmp .ne 8, 3) := by decide +kernel
theorem d_T_workOnRequest_46 : decode b_T_workOnRequest 46 = .ok (.aload_n 0, 1) := by decide +kernel
theorem d_T_workOnRequest_47 : decode b_T_workOnRequest 47 = .ok (.invokevirtual 114, 3) := by decide +kernel
theorem d_T_workOnRequest_50 : decode b_T_workOnRequest 50 = .ok (.return_, 1) := by decide +kernel
theorem d_T_workOnRequest_51 : decode b_T_workOnRequest 51 = .ok (.iload_n 2, 1) := by decide +kernel
theorem d_T_workOnRequest_52 : decode b_T_workOnRequest 52 = .ok (.ifCond .eq 28, 3) := by decide +kernel
theorem d_T_workOnRequest_55 : decode b_T_workOnRequest 55 = .ok (.aload_n 0, 1) := by decide +kernel
theorem d_T_workOnRequest_56 : decode b_T_workOnRequest 56 = .ok (.getfield 26, 3) := by decide +kernel
theorem d_T_workOnRequest_59 : decode b_T_workOnRequest 59 = .ok (.bipush 127, 2) := by decide +kernel
theorem d_T_workOnRequest_61 : decode b_T_workOnRequest 61 = .ok (.invokevirtual 177, 3) := by decide +kernel
theorem d_T_workOnRequest_64 : decode b_T_workOnRequest 64 = .ok (.aload_n 0, 1) := by decide +kernel
theorem d_T_workOnRequest_65 : decode b_T_workOnRequest 65 = .ok (.getfield 26, 3) := by decide +kernel
theorem d_T_workOnRequest_68 : decode b_T_workOnRequest 68 = .ok (.iload_n 1, 1) := by decide +kernel
theorem d_T_workOnRequest_69 : decode b_T_workOnRequest 69 = .ok (.invokevirtual 186, 3) := by decide +kernel
theorem d_T_workOnRequest_72 : decode b_T_workOnRequest 72 = .ok (.aload_n 0, 1) := by decide +kernel
theorem d_T_workOnRequest_73 : decode b_T_workOnRequest 73 = .ok (.getfield 26, 3) := by decide +kernel
theorem d_T_workOnRequest_76 : decode b_T_workOnRequest 76 = .ok (.iload_n 2, 1) := by decide +kernel
theorem d_T_workOnRequest_77 : decode b_T_workOnRequest 77 = .ok (.invokevirtual 186, 3) := by decide +kernel
theorem d_T_workOnRequest_80 : decode b_T_workOnRequest 80 = .ok (.aload_n 0, 1) := by decide +kernel
theorem d_T_workOnRequest_81 : decode b_T_workOnRequest 81 = .ok (.getfield 26, 3) := by decide +kernel
theorem d_T_workOnRequest_84 : decode b_T_workOnRequest 84 = .ok (.invokevirtual 189, 3) := by decide +kernel
theorem d_T_workOnRequest_87 : decode b_T_workOnRequest 87 = .ok (.iload_n 1, 1) := by decide +kernel
theorem d_T_workOnRequest_88 : decode b_T_workOnRequest 88 = .ok (.bipush 17, 2) := by decide +kernel
theorem d_T_workOnRequest_90 : decode b_T_workOnRequest 90 = .ok (.if_icmp .ne 11, 3) := by decide +kernel
theorem d_T_workOnRequest_93 : decode b_T_workOnRequest 93 = .ok (.iload_n 2, 1) := by decide +kernel
theorem d_T_workOnRequest_94 : decode b_T_workOnRequest 94 = .ok (.ifCond .ne 7, 3) := by decide +kernel
theorem d_T_workOnRequest_97 : decode b_T_workOnRequest 97 = .ok (.aload_n 0, 1) := by decide +kernel
theorem d_T_workOnRequest_98 : decode b_T_workOnRequest 98 = .ok (.invokevirtual 53, 3) := by decide +kernel
theorem d_T_workOnRequest_101 : decode b_T_workOnRequest 101 = .ok (.return_, 1) := by decide +kernel
theorem d_T_refusal_0 : decode b_T_refusal 0 = .ok (.iload_n 1, 1) := by decide +kernel
theorem d_T_refusal_1 : decode b_T_refusal 1 = .ok (.invokestatic 192, 3) := by decide +kernel
theorem d_T_refusal_4 : decode b_T_refusal 4 = .ok (.ifCond .ne 6, 3) := by decide +kernel
theorem d_T_refusal_7 : decode b_T_refusal 7 = .ok (.bipush 17, 2) := by decide +kernel
theorem d_T_refusal_9 : decode b_T_refusal 9 = .ok (.ireturn, 1) := by decide +kernel
theorem d_T_refusal_10 : decode b_T_refusal 10 = .ok (.aload_n 0, 1) := by decide +kernel
theorem d_T_refusal_11 : decode b_T_refusal 11 = .ok (.iload_n 1, 1) := by decide +kernel
theorem d_T_refusal_12 : decode b_T_refusal 12 = .ok (.invokevirtual 196, 3) := by decide +kernel
theorem d_T_refusal_15 : decode b_T_refusal 15 = .ok (.ifCond .ne 6, 3) := by decide +kernel
theorem d_T_refusal_18 : decode b_T_refusal 18 = .ok (.bipush 19, 2) := by decide +kernel
theorem d_T_refusal_20 : decode b_T_refusal 20 = .ok (.ireturn, 1) := by decide +kernel
theorem d_T_refusal_21 : decode b_T_refusal 21 = .ok (.aload_n 0, 1) := by decide +kernel
theorem d_T_refusal_22 : decode b_T_refusal 22 = .ok (.iload_n 1, 1) := by decide +kernel
theorem d_T_refusal_23 : decode b_T_refusal 23 = .ok (.invokevirtual 199, 3) := by decide +kernel
theorem d_T_refusal_26 : decode b_T_refusal 26 = .ok (.ifCond .ne 6, 3) := by decide +kernel
theorem d_T_refusal_29 : decode b_T_refusal 29 = .ok (.bipush 18, 2) := by decide +kernel
theorem d_T_refusal_31 : decode b_T_refusal 31 = .ok (.ireturn, 1) := by decide +kernel
theorem d_T_refusal_32 : decode b_T_refusal 32 = .ok (.iload_n 1, 1) := by decide +kernel
theorem d_T_refusal_33 : decode b_T_refusal 33 = .ok (.invokestatic 202, 3) := by decide +kernel
theorem d_T_refusal_36 : decode b_T_refusal 36 = .ok (.istore_n 2, 1) := by decide +kernel
theorem d_T_refusal_37 : decode b_T_refusal 37 = .ok (.aload_n 0, 1) := by decide +kernel
theorem d_T_refusal_38 : decode b_T_refusal 38 = .ok (.getfield 98, 3) := by decide +kernel
theorem d_T_refusal_41 : decode b_T_refusal 41 = .ok (.iconst 1, 1) := by decide +kernel
theorem d_T_refusal_42 : decode b_T_refusal 42 = .ok (.if_icmp .ne 16, 3) := by decide +kernel
theorem d_T_refusal_45 : decode b_T_refusal 45 = .ok (.iload_n 2, 1) := by decide +kernel
theorem d_T_refusal_46 : decode b_T_refusal 46 = .ok (.ifCond .ne 9, 3) := by decide +kernel
theorem d_T_refusal_49 : decode b_T_refusal 49 = .ok (.iload_n 1, 1) := by decide +kernel
theorem d_T_refusal_50 : decode b_T_refusal 50 = .ok (.bipush 39, 2) := by decide +kernel
theorem d_T_refusal_52 : decode b_T_refusal 52 = .ok (.if_icmp .ne 6, 3) := by decide +kernel
theorem d_T_refusal_55 : decode b_T_refusal 55 = .ok (.bipush 127, 2) := by decide +kernel
theorem d_T_refusal_57 : decode b_T_refusal 57 = .ok (.ireturn, 1) := by decide +kernel
theorem d_T_refusal_58 : decode b_T_refusal 58 = .ok (.iload_n 2, 1) := by decide +kernel
theorem d_T_refusal_59 : decode b_T_refusal 59 = .ok (.ifCond .eq 16, 3) := by decide +kernel
theorem d_T_refusal_62 : decode b_T_refusal 62 = .ok (.aload_n 0, 1) := by decide +kernel
theorem d_T_refusal_63 : decode b_T_refusal 63 = .ok (.getfield 38, 3) := by decide +kernel
theorem d_T_refusal_66 : decode b_T_refusal 66 = .ok (.getfield 127, 3) := by decide +kernel
theorem d_T_refusal_69 : decode b_T_refusal 69 = .ok (.ifCond .ne 6, 3) := by decide +kernel
theorem d_T_refusal_72 : decode b_T_refusal 72 = .ok (.bipush 51, 2) := by decide +kernel
theorem d_T_refusal_74 : decode b_T_refusal 74 = .ok (.ireturn, 1) := by decide +kernel
theorem d_T_refusal_75 : decode b_T_refusal 75 = .ok (.aload_n 0, 1) := by decide +kernel
theorem d_T_refusal_76 : decode b_T_refusal 76 = .ok (.iload_n 1, 1) := by decide +kernel
theorem d_T_refusal_77 : decode b_T_refusal 77 = .ok (.invokevirtual 205, 3) := by decide +kernel
theorem d_T_refusal_80 : decode b_T_refusal 80 = .ok (.ifCond .eq 7, 3) := by decide +kernel
theorem d_T_refusal_83 : decode b_T_refusal 83 = .ok (.iconst 0, 1) := by decide +kernel
theorem d_T_refusal_84 : decode b_T_refusal 84 = .ok (.goto 5, 3) := by decide +kernel
theorem d_T_refusal_87 : decode b_T_refusal 87 = .ok (.bipush 49, 2) := by decide +kernel
theorem d_T_refusal_89 : decode b_T_refusal 89 = .ok (.ireturn, 1) := by decide +kernel
theorem d_T_isKnown_0 : decode b_T_isKnown 0 = .ok (.iload_n 0, 1) := by decide +kernel
theorem d_T_isKnown_1 : decode b_T_isKnown 1 = .ok (.bipush 16, 2) := by decide +kernel
theorem d_T_isKnown_3 : decode b_T_isKnown 3 = .ok (.if_icmp .eq 34, 3) := by decide +kernel
theorem d_T_isKnown_6 : decode b_T_isKnown 6 = .ok (.iload_n 0, 1) := by decide +kernel
theorem d_T_isKnown_7 : decode b_T_isKnown 7 = .ok (.bipush 17, 2) := by decide +kernel
theorem d_T_isKnown_9 : decode b_T_isKnown 9 = .ok (.if_icmp .eq 28, 3) := by decide +kernel
theorem d_T_isKnown_12 : decode b_T_isKnown 12 = .ok (.iload_n 0, 1) := by decide +kernel
theorem d_T_isKnown_13 : decode b_T_isKnown 13 = .ok (.bipush 34, 2) := by decide +kernel
theorem d_T_isKnown_15 : decode b_T_isKnown 15 = .ok (.if_icmp .eq 22, 3) := by decide +kernel
theorem d_T_isKnown_18 : decode b_T_isKnown 18 = .ok (.iload_n 0, 1) := by decide +kernel
theorem d_T_isKnown_19 : decode b_T_isKnown 19 = .ok (.bipush 39, 2) := by decide +kernel
theorem d_T_isKnown_21 : decode b_T_isKnown 21 = .ok (.if_icmp .eq 16, 3) := by decide +kernel
theorem d_T_isKnown_24 : decode b_T_isKnown 24 = .ok (.iload_n 0, 1) := by decide +kernel
theorem d_T_isKnown_25 : decode b_T_isKnown 25 = .ok (.bipush 62, 2) := by decide +kernel
theorem d_T_isKnown_27 : decode b_T_isKnown 27 = .ok (.if_icmp .eq 10, 3) := by decide +kernel
theorem d_T_isKnown_30 : decode b_T_isKnown 30 = .ok (.iload_n 0, 1) := by decide +kernel
theorem d_T_isKnown_31 : decode b_T_isKnown 31 = .ok (.invokestatic 202, 3) := by decide +kernel
theorem d_T_isKnown_34 : decode b_T_isKnown 34 = .ok (.ifCond .eq 7, 3) := by decide +kernel
theorem d_T_isKnown_37 : decode b_T_isKnown 37 = .ok (.iconst 1, 1) := by decide +kernel
theorem d_T_isKnown_38 : decode b_T_isKnown 38 = .ok (.goto 4, 3) := by decide +kernel
theorem d_T_isKnown_41 : decode b_T_isKnown 41 = .ok (.iconst 0, 1) := by decide +kernel
theorem d_T_isKnown_42 : decode b_T_isKnown 42 = .ok (.ireturn, 1) := by decide +kernel
theorem d_T_needsUnlocking_0 : decode b_T_needsUnlocking 0 = .ok (.iload_n 0, 1) := by decide +kernel
theorem d_T_needsUnlocking_1 : decode b_T_needsUnlocking 1 = .ok (.bipush 46, 2) := by decide +kernel
theorem d_T_needsUnlocking_3 : decode b_T_needsUnlocking 3 = .ok (.if_icmp .eq 27, 3) := by decide +kernel
theorem d_T_needsUnlocking_6 : decode b_T_needsUnlocking 6 = .ok (.iload_n 0, 1) := by decide +kernel
theorem d_T_needsUnlocking_7 : decode b_T_needsUnlocking 7 = .ok (.bipush 49, 2) := by decide +kernel
theorem d_T_needsUnlocking_9 : decode b_T_needsUnlocking 9 = .ok (.if_icmp .eq 21, 3) := by decide +kernel
theorem d_T_needsUnlocking_12 : decode b_T_needsUnlocking 12 = .ok (.iload_n 0, 1) := by decide +kernel
theorem d_T_needsUnlocking_13 : decode b_T_needsUnlocking 13 = .ok (.bipush 52, 2) := by decide +kernel
theorem d_T_needsUnlocking_15 : decode b_T_needsUnlocking 15 = .ok (.if_icmp .eq 15, 3) := by decide +kernel
theorem d_T_needsUnlocking_18 : decode b_T_needsUnlocking 18 = .ok (.iload_n 0, 1) := by decide +kernel
theorem d_T_needsUnlocking_19 : decode b_T_needsUnlocking 19 = .ok (.bipush 54, 2) := by decide +kernel
theorem d_T_needsUnlocking_21 : decode b_T_needsUnlocking 21 = .ok (.if_icmp .eq 9, 3) := by decide +kernel
theorem d_T_needsUnlocking_24 : decode b_T_needsUnlocking 24 = .ok (.iload_n 0, 1) := by decide +kernel
theorem d_T_needsUnlocking_25 : decode b_T_needsUnlocking 25 = .ok (.bipush 55, 2) := by decide +kernel
theorem d_T_needsUnlocking_27 : decode b_T_needsUnlocking 27 = .ok (.if_icmp .ne 7, 3) := by decide +kernel
theorem d_T_needsUnlocking_30 : decode b_T_needsUnlocking 30 = .ok (.iconst 1, 1) := by decide +kernel
theorem d_T_needsUnlocking_31 : decode b_T_needsUnlocking 31 = .ok (.goto 4, 3) := by decide +kernel
theorem d_T_needsUnlocking_34 : decode b_T_needsUnlocking 34 = .ok (.iconst 0, 1) := by decide +kernel
theorem d_T_needsUnlocking_35 : decode b_T_needsUnlocking 35 = .ok (.ireturn, 1) := by decide +kernel
theorem d_T_hasRightLength_0 : decode b_T_hasRightLength 0 = .ok (.aload_n 0, 1) := by decide +kernel
theorem d_T_hasRightLength_1 : decode b_T_hasRightLength 1 = .ok (.getfield 19, 3) := by decide +kernel
theorem d_T_hasRightLength_4 : decode b_T_hasRightLength 4 = .ok (.getfield 208, 3) := by decide +kernel
theorem d_T_hasRightLength_7 : decode b_T_hasRightLength 7 = .ok (.istore_n 2, 1) := by decide +kernel
theorem d_T_hasRightLength_8 : decode b_T_hasRightLength 8 = .ok (.iload_n 1, 1) := by decide +kernel
theorem d_T_hasRightLength_9 : decode b_T_hasRightLength 9 = .ok (.tableswitch 177 39 55 #[83, 177, 177, 177, 177, 177, 177, 110, 177, 177, 121, 177, 177, 110, 177, 149, 166], 83) := by decide +kernel
theorem d_T_hasRightLength_92 : decode b_T_hasRightLength 92 = .ok (.iload_n 2, 1) := by decide +kernel
theorem d_T_hasRightLength_93 : decode b_T_hasRightLength 93 = .ok (.aload_n 0, 1) := by decide +kernel
theorem d_T_hasRightLength_94 : decode b_T_hasRightLength 94 = .ok (.getfield 19, 3) := by decide +kernel
theorem d_T_hasRightLength_97 : decode b_T_hasRightLength 97 = .ok (.iconst 1, 1) := by decide +kernel
theorem d_T_hasRightLength_98 : decode b_T_hasRightLength 98 = .ok (.invokevirtual 174, 3) := by decide +kernel
theorem d_T_hasRightLength_101 : decode b_T_hasRightLength 101 = .ok (.iconst 2, 1) := by decide +kernel
theorem d_T_hasRightLength_102 : decode b_T_hasRightLength 102 = .ok (.if_icmp .ne 7, 3) := by decide +kernel
theorem d_T_hasRightLength_105 : decode b_T_hasRightLength 105 = .ok (.iconst 3, 1) := by decide +kernel
theorem d_T_hasRightLength_106 : decode b_T_hasRightLength 106 = .ok (.goto 4, 3) := by decide +kernel
theorem d_T_hasRightLength_109 : decode b_T_hasRightLength 109 = .ok (.iconst 2, 1) := by decide +kernel
theorem d_T_hasRightLength_110 : decode b_T_hasRightLength 110 = .ok (.if_icmp .ne 7, 3) := by decide +kernel
theorem d_T_hasRightLength_113 : decode b_T_hasRightLength 113 = .ok (.iconst 1, 1) := by decide +kernel
theorem d_T_hasRightLength_114 : decode b_T_hasRightLength 114 = .ok (.goto 4, 3) := by decide +kernel
theorem d_T_hasRightLength_117 : decode b_T_hasRightLength 117 = .ok (.iconst 0, 1) := by decide +kernel
theorem d_T_hasRightLength_118 : decode b_T_hasRightLength 118 = .ok (.ireturn, 1) := by decide +kernel
theorem d_T_hasRightLength_119 : decode b_T_hasRightLength 119 = .ok (.iload_n 2, 1) := by decide +kernel
theorem d_T_hasRightLength_120 : decode b_T_hasRightLength 120 = .ok (.iconst 3, 1) := by decide +kernel
theorem d_T_hasRightLength_121 : decode b_T_hasRightLength 121 = .ok (.if_icmp .ne 7, 3) := by decide +kernel
theorem d_T_hasRightLength_124 : decode b_T_hasRightLength 124 = .ok (.iconst 1, 1) := by decide +kernel
theorem d_T_hasRightLength_125 : decode b_T_hasRightLength 125 = .ok (.goto 4, 3) := by decide +kernel
theorem d_T_hasRightLength_128 : decode b_T_hasRightLength 128 = .ok (.iconst 0, 1) := by decide +kernel
theorem d_T_hasRightLength_129 : decode b_T_hasRightLength 129 = .ok (.ireturn, 1) := by decide +kernel
theorem d_T_hasRightLength_130 : decode b_T_hasRightLength 130 = .ok (.iload_n 2, 1) := by decide +kernel
theorem d_T_hasRightLength_131 : decode b_T_hasRightLength 131 = .ok (.aload_n 0, 1) := by decide +kernel
theorem d_T_hasRightLength_132 : decode b_T_hasRightLength 132 = .ok (.getfield 19, 3) := by decide +kernel
theorem d_T_hasRightLength_135 : decode b_T_hasRightLength 135 = .ok (.iconst 2, 1) := by decide +kernel
theorem d_T_hasRightLength_136 : decode b_T_hasRightLength 136 = .ok (.invokevirtual 174, 3) := by decide +kernel
theorem d_T_hasRightLength_139 : decode b_T_hasRightLength 139 = .ok (.iconst 2, 1) := by decide +kernel
theorem d_T_hasRightLength_140 : decode b_T_hasRightLength 140 = .ok (.if_icmp .ne 8, 3) := by decide +kernel
theorem d_T_hasRightLength_143 : decode b_T_hasRightLength 143 = .ok (.bipush 6, 2) := by decide +kernel
theorem d_T_hasRightLength_145 : decode b_T_hasRightLength 145 = .ok (.goto 4, 3) := by decide +kernel
theorem d_T_hasRightLength_148 : decode b_T_hasRightLength 148 = .ok (.iconst 4, 1) := by decide +kernel
theorem d_T_hasRightLength_149 : decode b_T_hasRightLength 149 = .ok (.if_icmp .ne 7, 3) := by decide +kernel
theorem d_T_hasRightLength_152 : decode b_T_hasRightLength 152 = .ok (.iconst 1, 1) := by decide +kernel
theorem d_T_hasRightLength_153 : decode b_T_hasRightLength 153 = .ok (.goto 4, 3) := by decide +kernel
theorem d_T_hasRightLength_156 : decode b_T_hasRightLength 156 = .ok (.iconst 0, 1) := by decide +kernel
theorem d_T_hasRightLength_157 : decode b_T_hasRightLength 157 = .ok (.ireturn, 1) := by decide +kernel
theorem d_T_hasRightLength_158 : decode b_T_hasRightLength 158 = .ok (.iload_n 2, 1) := by decide +kernel
theorem d_T_hasRightLength_159 : decode b_T_hasRightLength 159 = .ok (.iconst 3, 1) := by decide +kernel
theorem d_T_hasRightLength_160 : decode b_T_hasRightLength 160 = .ok (.if_icmp .lt 13, 3) := by decide +kernel
theorem d_T_hasRightLength_163 : decode b_T_hasRightLength 163 = .ok (.iload_n 2, 1) := by decide +kernel
theorem d_T_hasRightLength_164 : decode b_T_hasRightLength 164 = .ok (.bipush 10, 2) := by decide +kernel
theorem d_T_hasRightLength_166 : decode b_T_hasRightLength 166 = .ok (.if_icmp .gt 7, 3) := by decide +kernel
theorem d_T_hasRightLength_169 : decode b_T_hasRightLength 169 = .ok (.iconst 1, 1) := by decide +kernel
theorem d_T_hasRightLength_170 : decode b_T_hasRightLength 170 = .ok (.goto 4, 3) := by decide +kernel
theorem d_T_hasRightLength_173 : decode b_T_hasRightLength 173 = .ok (.iconst 0, 1) := by decide +kernel
theorem d_T_hasRightLength_174 : decode b_T_hasRightLength 174 = .ok (.ireturn, 1) := by decide +kernel
theorem d_T_hasRightLength_175 : decode b_T_hasRightLength 175 = .ok (.iload_n 2, 1) := by decide +kernel
theorem d_T_hasRightLength_176 : decode b_T_hasRightLength 176 = .ok (.iconst 1, 1) := by decide +kernel
theorem d_T_hasRightLength_177 : decode b_T_hasRightLength 177 = .ok (.if_icmp .ne 7, 3) := by decide +kernel
theorem d_T_hasRightLength_180 : decode b_T_hasRightLength 180 = .ok (.iconst 1, 1) := by decide +kernel
theorem d_T_hasRightLength_181 : decode b_T_hasRightLength 181 = .ok (.goto 4, 3) := by decide +kernel
theorem d_T_hasRightLength_184 : decode b_T_hasRightLength 184 = .ok (.iconst 0, 1) := by decide +kernel
theorem d_T_hasRightLength_185 : decode b_T_hasRightLength 185 = .ok (.ireturn, 1) := by decide +kernel
theorem d_T_hasRightLength_186 : decode b_T_hasRightLength 186 = .ok (.iload_n 2, 1) := by decide +kernel
theorem d_T_hasRightLength_187 : decode b_T_hasRightLength 187 = .ok (.iconst 2, 1) := by decide +kernel
theorem d_T_hasRightLength_188 : decode b_T_hasRightLength 188 = .ok (.if_icmp .ne 7, 3) := by decide +kernel
theorem d_T_hasRightLength_191 : decode b_T_hasRightLength 191 = .ok (.iconst 1, 1) := by decide +kernel
theorem d_T_hasRightLength_192 : decode b_T_hasRightLength 192 = .ok (.goto 4, 3) := by decide +kernel
theorem d_T_hasRightLength_195 : decode b_T_hasRightLength 195 = .ok (.iconst 0, 1) := by decide +kernel
theorem d_T_hasRightLength_196 : decode b_T_hasRightLength 196 = .ok (.ireturn, 1) := by decide +kernel
theorem d_T_hasKnownKind_0 : decode b_T_hasKnownKind 0 = .ok (.aload_n 0, 1) := by decide +kernel
theorem d_T_hasKnownKind_1 : decode b_T_hasKnownKind 1 = .ok (.getfield 19, 3) := by decide +kernel
theorem d_T_hasKnownKind_4 : decode b_T_hasKnownKind 4 = .ok (.iconst 1, 1) := by decide +kernel
theorem d_T_hasKnownKind_5 : decode b_T_hasKnownKind 5 = .ok (.invokevirtual 174, 3) := by decide +kernel
theorem d_T_hasKnownKind_8 : decode b_T_hasKnownKind 8 = .ok (.istore_n 2, 1) := by decide +kernel
theorem d_T_hasKnownKind_9 : decode b_T_hasKnownKind 9 = .ok (.iload_n 1, 1) := by decide +kernel
theorem d_T_hasKnownKind_10 : decode b_T_hasKnownKind 10 = .ok (.lookupswitch 87 #[(16, 50), (17, 66), (39, 50), (49, 66), (62, 77)], 50) := by decide +kernel
theorem d_T_hasKnownKind_60 : decode b_T_hasKnownKind 60 = .ok (.iload_n 2, 1) := by decide +kernel
theorem d_T_hasKnownKind_61 : decode b_T_hasKnownKind 61 = .ok (.iconst 1, 1) := by decide +kernel
theorem d_T_hasKnownKind_62 : decode b_T_hasKnownKind 62 = .ok (.if_icmp .eq 8, 3) := by decide +kernel
theorem d_T_hasKnownKind_65 : decode b_T_hasKnownKind 65 = .ok (.iload_n 2, 1) := by decide +kernel
theorem d_T_hasKnownKind_66 : decode b_T_hasKnownKind 66 = .ok (.iconst 2, 1) := by decide +kernel
theorem d_T_hasKnownKind_67 : decode b_T_hasKnownKind 67 = .ok (.if_icmp .ne 7, 3) := by decide +kernel
theorem d_T_hasKnownKind_70 : decode b_T_hasKnownKind 70 = .ok (.iconst 1, 1) := by decide +kernel
theorem d_T_hasKnownKind_71 : decode b_T_hasKnownKind 71 = .ok (.goto 4, 3) := by decide +kernel
theorem d_T_hasKnownKind_74 : decode b_T_hasKnownKind 74 = .ok (.iconst 0, 1) := by decide +kernel
theorem d_T_hasKnownKind_75 : decode b_T_hasKnownKind 75 = .ok (.ireturn, 1) := by decide +kernel
theorem d_T_hasKnownKind_76 : decode b_T_hasKnownKind 76 = .ok (.iload_n 2, 1) := by decide +kernel
theorem d_T_hasKnownKind_77 : decode b_T_hasKnownKind 77 = .ok (.iconst 1, 1) := by decide +kernel
theorem d_T_hasKnownKind_78 : decode b_T_hasKnownKind 78 = .ok (.if_icmp .ne 7, 3) := by decide +kernel
theorem d_T_hasKnownKind_81 : decode b_T_hasKnownKind 81 = .ok (.iconst 1, 1) := by decide +kernel
theorem d_T_hasKnownKind_82 : decode b_T_hasKnownKind 82 = .ok (.goto 4, 3) := by decide +kernel
theorem d_T_hasKnownKind_85 : decode b_T_hasKnownKind 85 = .ok (.iconst 0, 1) := by decide +kernel
theorem d_T_hasKnownKind_86 : decode b_T_hasKnownKind 86 = .ok (.ireturn, 1) := by decide +kernel
theorem d_T_hasKnownKind_87 : decode b_T_hasKnownKind 87 = .ok (.iload_n 2, 1) := by decide +kernel
theorem d_T_hasKnownKind_88 : decode b_T_hasKnownKind 88 = .ok (.ifCond .ne 7, 3) := by decide +kernel
theorem d_T_hasKnownKind_91 : decode b_T_hasKnownKind 91 = .ok (.iconst 1, 1) := by decide +kernel
theorem d_T_hasKnownKind_92 : decode b_T_hasKnownKind 92 = .ok (.goto 4, 3) := by decide +kernel
theorem d_T_hasKnownKind_95 : decode b_T_hasKnownKind 95 = .ok (.iconst 0, 1) := by decide +kernel
theorem d_T_hasKnownKind_96 : decode b_T_hasKnownKind 96 = .ok (.ireturn, 1) := by decide +kernel
theorem d_T_hasKnownKind_97 : decode b_T_hasKnownKind 97 = .ok (.iconst 1, 1) := by decide +kernel
theorem d_T_hasKnownKind_98 : decode b_T_hasKnownKind 98 = .ok (.ireturn, 1) := by decide +kernel
theorem d_T_isInRange_0 : decode b_T_isInRange 0 = .ok (.aload_n 0, 1) := by decide +kernel
theorem d_T_isInRange_1 : decode b_T_isInRange 1 = .ok (.getfield 19, 3) := by decide +kernel
theorem d_T_isInRange_4 : decode b_T_isInRange 4 = .ok (.iconst 1, 1) := by decide +kernel
theorem d_T_isInRange_5 : decode b_T_isInRange 5 = .ok (.invokevirtual 174, 3) := by decide +kernel
theorem d_T_isInRange_8 : decode b_T_isInRange 8 = .ok (.istore_n 2, 1) := by decide +kernel
theorem d_T_isInRange_9 : decode b_T_isInRange 9 = .ok (.aload_n 0, 1) := by decide +kernel
theorem d_T_isInRange_10 : decode b_T_isInRange 10 = .ok (.getfield 19, 3) := by decide +kernel
theorem d_T_isInRange_13 : decode b_T_isInRange 13 = .ok (.iconst 2, 1) := by decide +kernel
theorem d_T_isInRange_14 : decode b_T_isInRange 14 = .ok (.invokevirtual 174, 3) := by decide +kernel
theorem d_T_isInRange_17 : decode b_T_isInRange 17 = .ok (.istore_n 3, 1) := by decide +kernel
theorem d_T_isInRange_18 : decode b_T_isInRange 18 = .ok (.iload_n 1, 1) := by decide +kernel
theorem d_T_isInRange_19 : decode b_T_isInRange 19 = .ok (.lookupswitch 113 #[(34, 41), (46, 52), (49, 63), (52, 91)], 41) := by decide +kernel
theorem d_T_isInRange_60 : decode b_T_isInRange 60 = .ok (.iload_n 2, 1) := by decide +kernel
theorem d_T_isInRange_61 : decode b_T_isInRange 61 = .ok (.iconst 2, 1) := by decide +kernel
theorem d_T_isInRange_62 : decode b_T_isInRange 62 = .ok (.if_icmp .gt 7, 3) := by decide +kernel
theorem d_T_isInRange_65 : decode b_T_isInRange 65 = .ok (.iconst 1, 1) := by decide +kernel
theorem d_T_isInRange_66 : decode b_T_isInRange 66 = .ok (.goto 4, 3) := by decide +kernel
theorem d_T_isInRange_69 : decode b_T_isInRange 69 = .ok (.iconst 0, 1) := by decide +kernel
theorem d_T_isInRange_70 : decode b_T_isInRange 70 = .ok (.ireturn, 1) := by decide +kernel
theorem d_T_isInRange_71 : decode b_T_isInRange 71 = .ok (.iload_n 2, 1) := by decide +kernel
theorem d_T_isInRange_72 : decode b_T_isInRange 72 = .ok (.iconst 1, 1) := by decide +kernel
theorem d_T_isInRange_73 : decode b_T_isInRange 73 = .ok (.if_icmp .ne 7, 3) := by decide +kernel
theorem d_T_isInRange_76 : decode b_T_isInRange 76 = .ok (.iconst 1, 1) := by decide +kernel
theorem d_T_isInRange_77 : decode b_T_isInRange 77 = .ok (.goto 4, 3) := by decide +kernel
theorem d_T_isInRange_80 : decode b_T_isInRange 80 = .ok (.iconst 0, 1) := by decide +kernel
