theorem d_Rc_accept_7 : decode b_Rc_accept 7 = .ok (.iload_n 3, 1) := by decide +kernel
theorem d_Rc_accept_8 : decode b_Rc_accept 8 = .ok (.iconst 1, 1) := by decide +kernel
theorem d_Rc_accept_9 : decode b_Rc_accept 9 = .ok (.if_icmp .lt 23, 3) := by decide +kernel
theorem d_Rc_accept_12 : decode b_Rc_accept 12 = .ok (.iload_n 3, 1) := by decide +kernel
theorem d_Rc_accept_13 : decode b_Rc_accept 13 = .ok (.bipush 7, 2) := by decide +kernel
theorem d_Rc_accept_15 : decode b_Rc_accept 15 = .ok (.if_icmp .gt 17, 3) := by decide +kernel
theorem d_Rc_accept_18 : decode b_Rc_accept 18 = .ok (.aload_n 0, 1) := by decide +kernel
theorem d_Rc_accept_19 : decode b_Rc_accept 19 = .ok (.iload_n 3, 1) := by decide +kernel
theorem d_Rc_accept_20 : decode b_Rc_accept 20 = .ok (.invokevirtual 32, 3) := by decide +kernel
theorem d_Rc_accept_23 : decode b_Rc_accept 23 = .ok (.aload_n 0, 1) := by decide +kernel
theorem d_Rc_accept_24 : decode b_Rc_accept 24 = .ok (.iload_n 1, 1) := by decide +kernel
theorem d_Rc_accept_25 : decode b_Rc_accept 25 = .ok (.iload_n 2, 1) := by decide +kernel
theorem d_Rc_accept_26 : decode b_Rc_accept 26 = .ok (.iconst 1, 1) := by decide +kernel
theorem d_Rc_accept_27 : decode b_Rc_accept 27 = .ok (.invokevirtual 36, 3) := by decide +kernel
theorem d_Rc_accept_30 : decode b_Rc_accept 30 = .ok (.iconst 2, 1) := by decide +kernel
theorem d_Rc_accept_31 : decode b_Rc_accept 31 = .ok (.ireturn, 1) := by decide +kernel
theorem d_Rc_accept_32 : decode b_Rc_accept 32 = .ok (.iload_n 1, 1) := by decide +kernel
theorem d_Rc_accept_33 : decode b_Rc_accept 33 = .ok (.iload_n 2, 1) := by decide +kernel
theorem d_Rc_accept_34 : decode b_Rc_accept 34 = .ok (.iconst 1, 1) := by decide +kernel
theorem d_Rc_accept_35 : decode b_Rc_accept 35 = .ok (.invokestatic 28, 3) := by decide +kernel
theorem d_Rc_accept_38 : decode b_Rc_accept 38 = .ok (.istore 4, 2) := by decide +kernel
theorem d_Rc_accept_40 : decode b_Rc_accept 40 = .ok (.iload_n 3, 1) := by decide +kernel
theorem d_Rc_accept_41 : decode b_Rc_accept 41 = .ok (.bipush 16, 2) := by decide +kernel
theorem d_Rc_accept_43 : decode b_Rc_accept 43 = .ok (.if_icmp .ne 32, 3) := by decide +kernel
theorem d_Rc_accept_46 : decode b_Rc_accept 46 = .ok (.iload 4, 2) := by decide +kernel
theorem d_Rc_accept_48 : decode b_Rc_accept 48 = .ok (.bipush 8, 2) := by decide +kernel
theorem d_Rc_accept_50 : decode b_Rc_accept 50 = .ok (.if_icmp .lt 25, 3) := by decide +kernel
theorem d_Rc_accept_53 : decode b_Rc_accept 53 = .ok (.iload 4, 2) := by decide +kernel
theorem d_Rc_accept_55 : decode b_Rc_accept 55 = .ok (.bipush 34, 2) := by decide +kernel
theorem d_Rc_accept_57 : decode b_Rc_accept 57 = .ok (.if_icmp .gt 18, 3) := by decide +kernel
theorem d_Rc_accept_60 : decode b_Rc_accept 60 = .ok (.aload_n 0, 1) := by decide +kernel
theorem d_Rc_accept_61 : decode b_Rc_accept 61 = .ok (.iload 4, 2) := by decide +kernel
theorem d_Rc_accept_63 : decode b_Rc_accept 63 = .ok (.invokevirtual 32, 3) := by decide +kernel
theorem d_Rc_accept_66 : decode b_Rc_accept 66 = .ok (.aload_n 0, 1) := by decide +kernel
theorem d_Rc_accept_67 : decode b_Rc_accept 67 = .ok (.iload_n 1, 1) := by decide +kernel
theorem d_Rc_accept_68 : decode b_Rc_accept 68 = .ok (.iload_n 2, 1) := by decide +kernel
theorem d_Rc_accept_69 : decode b_Rc_accept 69 = .ok (.iconst 2, 1) := by decide +kernel
theorem d_Rc_accept_70 : decode b_Rc_accept 70 = .ok (.invokevirtual 36, 3) := by decide +kernel
theorem d_Rc_accept_73 : decode b_Rc_accept 73 = .ok (.iconst 1, 1) := by decide +kernel
theorem d_Rc_accept_74 : decode b_Rc_accept 74 = .ok (.ireturn, 1) := by decide +kernel
theorem d_Rc_accept_75 : decode b_Rc_accept 75 = .ok (.iload_n 3, 1) := by decide +kernel
theorem d_Rc_accept_76 : decode b_Rc_accept 76 = .ok (.bipush 32, 2) := by decide +kernel
theorem d_Rc_accept_78 : decode b_Rc_accept 78 = .ok (.if_icmp .lt 23, 3) := by decide +kernel
theorem d_Rc_accept_81 : decode b_Rc_accept 81 = .ok (.iload_n 3, 1) := by decide +kernel
theorem d_Rc_accept_82 : decode b_Rc_accept 82 = .ok (.bipush 48, 2) := by decide +kernel
theorem d_Rc_accept_84 : decode b_Rc_accept 84 = .ok (.if_icmp .ge 17, 3) := by decide +kernel
theorem d_Rc_accept_87 : decode b_Rc_accept 87 = .ok (.aload_n 0, 1) := by decide +kernel
theorem d_Rc_accept_88 : decode b_Rc_accept 88 = .ok (.getfield 19, 3) := by decide +kernel
theorem d_Rc_accept_91 : decode b_Rc_accept 91 = .ok (.ifCond .le 10, 3) := by decide +kernel
theorem d_Rc_accept_94 : decode b_Rc_accept 94 = .ok (.aload_n 0, 1) := by decide +kernel
theorem d_Rc_accept_95 : decode b_Rc_accept 95 = .ok (.iload_n 1, 1) := by decide +kernel
theorem d_Rc_accept_96 : decode b_Rc_accept 96 = .ok (.iload_n 2, 1) := by decide +kernel
theorem d_Rc_accept_97 : decode b_Rc_accept 97 = .ok (.invokevirtual 40, 3) := by decide +kernel
theorem d_Rc_accept_100 : decode b_Rc_accept 100 = .ok (.ireturn, 1) := by decide +kernel
theorem d_Rc_accept_101 : decode b_Rc_accept 101 = .ok (.iconst 0, 1) := by decide +kernel
theorem d_Rc_accept_102 : decode b_Rc_accept 102 = .ok (.ireturn, 1) := by decide +kernel
theorem d_Rc_acceptNext_0 : decode b_Rc_acceptNext 0 = .ok (.iload_n 1, 1) := by decide +kernel
theorem d_Rc_acceptNext_1 : decode b_Rc_acceptNext 1 = .ok (.iload_n 2, 1) := by decide +kernel
theorem d_Rc_acceptNext_2 : decode b_Rc_acceptNext 2 = .ok (.iconst 0, 1) := by decide +kernel
theorem d_Rc_acceptNext_3 : decode b_Rc_acceptNext 3 = .ok (.invokestatic 28, 3) := by decide +kernel
theorem d_Rc_acceptNext_6 : decode b_Rc_acceptNext 6 = .ok (.bipush 32, 2) := by decide +kernel
theorem d_Rc_acceptNext_8 : decode b_Rc_acceptNext 8 = .ok (.isub, 1) := by decide +kernel
theorem d_Rc_acceptNext_9 : decode b_Rc_acceptNext 9 = .ok (.aload_n 0, 1) := by decide +kernel
theorem d_Rc_acceptNext_10 : decode b_Rc_acceptNext 10 = .ok (.getfield 44, 3) := by decide +kernel
theorem d_Rc_acceptNext_13 : decode b_Rc_acceptNext 13 = .ok (.if_icmp .eq 9, 3) := by decide +kernel
theorem d_Rc_acceptNext_16 : decode b_Rc_acceptNext 16 = .ok (.aload_n 0, 1) := by decide +kernel
theorem d_Rc_acceptNext_17 : decode b_Rc_acceptNext 17 = .ok (.invokevirtual 25, 3) := by decide +kernel
theorem d_Rc_acceptNext_20 : decode b_Rc_acceptNext 20 = .ok (.iconst 0, 1) := by decide +kernel
theorem d_Rc_acceptNext_21 : decode b_Rc_acceptNext 21 = .ok (.ireturn, 1) := by decide +kernel
theorem d_Rc_acceptNext_22 : decode b_Rc_acceptNext 22 = .ok (.aload_n 0, 1) := by decide +kernel
theorem d_Rc_acceptNext_23 : decode b_Rc_acceptNext 23 = .ok (.getfield 44, 3) := by decide +kernel
theorem d_Rc_acceptNext_26 : decode b_Rc_acceptNext 26 = .ok (.iconst 2, 1) := by decide +kernel
theorem d_Rc_acceptNext_27 : decode b_Rc_acceptNext 27 = .ok (.irem, 1) := by decide +kernel
theorem d_Rc_acceptNext_28 : decode b_Rc_acceptNext 28 = .ok (.ifCond .ne 7, 3) := by decide +kernel
theorem d_Rc_acceptNext_31 : decode b_Rc_acceptNext 31 = .ok (.iconst 1, 1) := by decide +kernel
theorem d_Rc_acceptNext_32 : decode b_Rc_acceptNext 32 = .ok (.goto 4, 3) := by decide +kernel
theorem d_Rc_acceptNext_35 : decode b_Rc_acceptNext 35 = .ok (.iconst 0, 1) := by decide +kernel
theorem d_Rc_acceptNext_36 : decode b_Rc_acceptNext 36 = .ok (.istore_n 3, 1) := by decide +kernel
theorem d_Rc_acceptNext_37 : decode b_Rc_acceptNext 37 = .ok (.aload_n 0, 1) := by decide +kernel
theorem d_Rc_acceptNext_38 : decode b_Rc_acceptNext 38 = .ok (.aload_n 0, 1) := by decide +kernel
theorem d_Rc_acceptNext_39 : decode b_Rc_acceptNext 39 = .ok (.getfield 44, 3) := by decide +kernel
theorem d_Rc_acceptNext_42 : decode b_Rc_acceptNext 42 = .ok (.iconst 1, 1) := by decide +kernel
theorem d_Rc_acceptNext_43 : decode b_Rc_acceptNext 43 = .ok (.iadd, 1) := by decide +kernel
theorem d_Rc_acceptNext_44 : decode b_Rc_acceptNext 44 = .ok (.bipush 16, 2) := by decide +kernel
theorem d_Rc_acceptNext_46 : decode b_Rc_acceptNext 46 = .ok (.irem, 1) := by decide +kernel
theorem d_Rc_acceptNext_47 : decode b_Rc_acceptNext 47 = .ok (.putfield 44, 3) := by decide +kernel
theorem d_Rc_acceptNext_50 : decode b_Rc_acceptNext 50 = .ok (.aload_n 0, 1) := by decide +kernel
theorem d_Rc_acceptNext_51 : decode b_Rc_acceptNext 51 = .ok (.iload_n 1, 1) := by decide +kernel
theorem d_Rc_acceptNext_52 : decode b_Rc_acceptNext 52 = .ok (.iload_n 2, 1) := by decide +kernel
theorem d_Rc_acceptNext_53 : decode b_Rc_acceptNext 53 = .ok (.iconst 1, 1) := by decide +kernel
theorem d_Rc_acceptNext_54 : decode b_Rc_acceptNext 54 = .ok (.invokevirtual 36, 3) := by decide +kernel
theorem d_Rc_acceptNext_57 : decode b_Rc_acceptNext 57 = .ok (.aload_n 0, 1) := by decide +kernel
theorem d_Rc_acceptNext_58 : decode b_Rc_acceptNext 58 = .ok (.getfield 19, 3) := by decide +kernel
theorem d_Rc_acceptNext_61 : decode b_Rc_acceptNext 61 = .ok (.ifCond .ne 5, 3) := by decide +kernel
theorem d_Rc_acceptNext_64 : decode b_Rc_acceptNext 64 = .ok (.iconst 2, 1) := by decide +kernel
theorem d_Rc_acceptNext_65 : decode b_Rc_acceptNext 65 = .ok (.ireturn, 1) := by decide +kernel
theorem d_Rc_acceptNext_66 : decode b_Rc_acceptNext 66 = .ok (.iload_n 3, 1) := by decide +kernel
theorem d_Rc_acceptNext_67 : decode b_Rc_acceptNext 67 = .ok (.ifCond .eq 7, 3) := by decide +kernel
theorem d_Rc_acceptNext_70 : decode b_Rc_acceptNext 70 = .ok (.iconst 1, 1) := by decide +kernel
theorem d_Rc_acceptNext_71 : decode b_Rc_acceptNext 71 = .ok (.goto 4, 3) := by decide +kernel
theorem d_Rc_acceptNext_74 : decode b_Rc_acceptNext 74 = .ok (.iconst 0, 1) := by decide +kernel
theorem d_Rc_acceptNext_75 : decode b_Rc_acceptNext 75 = .ok (.ireturn, 1) := by decide +kernel
theorem d_Rc_begin_0 : decode b_Rc_begin 0 = .ok (.aload_n 0, 1) := by decide +kernel
theorem d_Rc_begin_1 : decode b_Rc_begin 1 = .ok (.iconst 0, 1) := by decide +kernel
theorem d_Rc_begin_2 : decode b_Rc_begin 2 = .ok (.putfield 15, 3) := by decide +kernel
theorem d_Rc_begin_5 : decode b_Rc_begin 5 = .ok (.aload_n 0, 1) := by decide +kernel
theorem d_Rc_begin_6 : decode b_Rc_begin 6 = .ok (.iload_n 1, 1) := by decide +kernel
theorem d_Rc_begin_7 : decode b_Rc_begin 7 = .ok (.putfield 19, 3) := by decide +kernel
theorem d_Rc_begin_10 : decode b_Rc_begin 10 = .ok (.aload_n 0, 1) := by decide +kernel
theorem d_Rc_begin_11 : decode b_Rc_begin 11 = .ok (.iconst 1, 1) := by decide +kernel
theorem d_Rc_begin_12 : decode b_Rc_begin 12 = .ok (.putfield 44, 3) := by decide +kernel
theorem d_Rc_begin_15 : decode b_Rc_begin 15 = .ok (.return_, 1) := by decide +kernel
theorem d_Rc_add_0 : decode b_Rc_add 0 = .ok (.aload_n 0, 1) := by decide +kernel
theorem d_Rc_add_1 : decode b_Rc_add 1 = .ok (.iconst 0, 1) := by decide +kernel
theorem d_Rc_add_2 : decode b_Rc_add 2 = .ok (.putfield 22, 3) := by decide +kernel
theorem d_Rc_add_5 : decode b_Rc_add 5 = .ok (.iload_n 3, 1) := by decide +kernel
theorem d_Rc_add_6 : decode b_Rc_add 6 = .ok (.istore 4, 2) := by decide +kernel
theorem d_Rc_add_8 : decode b_Rc_add 8 = .ok (.iload 4, 2) := by decide +kernel
theorem d_Rc_add_10 : decode b_Rc_add 10 = .ok (.bipush 8, 2) := by decide +kernel
theorem d_Rc_add_12 : decode b_Rc_add 12 = .ok (.if_icmp .ge 61, 3) := by decide +kernel
theorem d_Rc_add_15 : decode b_Rc_add 15 = .ok (.aload_n 0, 1) := by decide +kernel
theorem d_Rc_add_16 : decode b_Rc_add 16 = .ok (.getfield 19, 3) := by decide +kernel
theorem d_Rc_add_19 : decode b_Rc_add 19 = .ok (.ifCond .le 54, 3) := by decide +kernel
theorem d_Rc_add_22 : decode b_Rc_add 22 = .ok (.aload_n 0, 1) := by decide +kernel
theorem d_Rc_add_23 : decode b_Rc_add 23 = .ok (.getfield 15, 3) := by decide +kernel
theorem d_Rc_add_26 : decode b_Rc_add 26 = .ok (.bipush 34, 2) := by decide +kernel
theorem d_Rc_add_28 : decode b_Rc_add 28 = .ok (.if_icmp .ge 45, 3) := by decide +kernel
theorem d_Rc_add_31 : decode b_Rc_add 31 = .ok (.aload_n 0, 1) := by decide +kernel
theorem d_Rc_add_32 : decode b_Rc_add 32 = .ok (.getfield 11, 3) := by decide +kernel
theorem d_Rc_add_35 : decode b_Rc_add 35 = .ok (.aload_n 0, 1) := by decide +kernel
theorem d_Rc_add_36 : decode b_Rc_add 36 = .ok (.getfield 15, 3) := by decide +kernel
theorem d_Rc_add_39 : decode b_Rc_add 39 = .ok (.iload_n 1, 1) := by decide +kernel
theorem d_Rc_add_40 : decode b_Rc_add 40 = .ok (.iload_n 2, 1) := by decide +kernel
theorem d_Rc_add_41 : decode b_Rc_add 41 = .ok (.iload 4, 2) := by decide +kernel
theorem d_Rc_add_43 : decode b_Rc_add 43 = .ok (.invokestatic 28, 3) := by decide +kernel
theorem d_Rc_add_46 : decode b_Rc_add 46 = .ok (.iastore, 1) := by decide +kernel
theorem d_Rc_add_47 : decode b_Rc_add 47 = .ok (.aload_n 0, 1) := by decide +kernel
theorem d_Rc_add_48 : decode b_Rc_add 48 = .ok (.dup, 1) := by decide +kernel
theorem d_Rc_add_49 : decode b_Rc_add 49 = .ok (.getfield 15, 3) := by decide +kernel
theorem d_Rc_add_52 : decode b_Rc_add 52 = .ok (.iconst 1, 1) := by decide +kernel
theorem d_Rc_add_53 : decode b_Rc_add 53 = .ok (.iadd, 1) := by decide +kernel
theorem d_Rc_add_54 : decode b_Rc_add 54 = .ok (.putfield 15, 3) := by decide +kernel
theorem d_Rc_add_57 : decode b_Rc_add 57 = .ok (.aload_n 0, 1) := by decide +kernel
theorem d_Rc_add_58 : decode b_Rc_add 58 = .ok (.dup, 1) := by decide +kernel
theorem d_Rc_add_59 : decode b_Rc_add 59 = .ok (.getfield 19, 3) := by decide +kernel
theorem d_Rc_add_62 : decode b_Rc_add 62 = .ok (.iconst 1, 1) := by decide +kernel
theorem d_Rc_add_63 : decode b_Rc_add 63 = .ok (.isub, 1) := by decide +kernel
theorem d_Rc_add_64 : decode b_Rc_add 64 = .ok (.putfield 19, 3) := by decide +kernel
theorem d_Rc_add_67 : decode b_Rc_add 67 = .ok (.iinc 4 1, 3) := by decide +kernel
theorem d_Rc_add_70 : decode b_Rc_add 70 = .ok (.goto (-62), 3) := by decide +kernel
theorem d_Rc_add_73 : decode b_Rc_add 73 = .ok (.return_, 1) := by decide +kernel
theorem d_Rw_init_0 : decode b_Rw_init 0 = .ok (.aload_n 0, 1) := by decide +kernel
theorem d_Rw_init_1 : decode b_Rw_init 1 = .ok (.invokespecial 3, 3) := by decide +kernel
theorem d_Rw_init_4 : decode b_Rw_init 4 = .ok (.aload_n 0, 1) := by decide +kernel
theorem d_Rw_init_5 : decode b_Rw_init 5 = .ok (.bipush 96, 2) := by decide +kernel
theorem d_Rw_init_7 : decode b_Rw_init 7 = .ok (.newarray .int, 2) := by decide +kernel
theorem d_Rw_init_9 : decode b_Rw_init 9 = .ok (.putfield 11, 3) := by decide +kernel
theorem d_Rw_init_12 : decode b_Rw_init 12 = .ok (.return_, 1) := by decide +kernel
theorem d_Rw_put_0 : decode b_Rw_put 0 = .ok (.aload_n 0, 1) := by decide +kernel
theorem d_Rw_put_1 : decode b_Rw_put 1 = .ok (.getfield 15, 3) := by decide +kernel
theorem d_Rw_put_4 : decode b_Rw_put 4 = .ok (.bipush 12, 2) := by decide +kernel
theorem d_Rw_put_6 : decode b_Rw_put 6 = .ok (.if_icmp .eq 10, 3) := by decide +kernel
theorem d_Rw_put_9 : decode b_Rw_put 9 = .ok (.aload_n 1, 1) := by decide +kernel
theorem d_Rw_put_10 : decode b_Rw_put 10 = .ok (.arraylength, 1) := by decide +kernel
theorem d_Rw_put_11 : decode b_Rw_put 11 = .ok (.bipush 8, 2) := by decide +kernel
theorem d_Rw_put_13 : decode b_Rw_put 13 = .ok (.if_icmp .ge 4, 3) := by decide +kernel
theorem d_Rw_put_16 : decode b_Rw_put 16 = .ok (.return_, 1) := by decide +kernel
theorem d_Rw_put_17 : decode b_Rw_put 17 = .ok (.aload_n 0, 1) := by decide +kernel
theorem d_Rw_put_18 : decode b_Rw_put 18 = .ok (.getfield 19, 3) := by decide +kernel
theorem d_Rw_put_21 : decode b_Rw_put 21 = .ok (.aload_n 0, 1) := by decide +kernel
theorem d_Rw_put_22 : decode b_Rw_put 22 = .ok (.getfield 15, 3) := by decide +kernel
theorem d_Rw_put_25 : decode b_Rw_put 25 = .ok (.iadd, 1) := by decide +kernel
theorem d_Rw_put_26 : decode b_Rw_put 26 = .ok (.bipush 12, 2) := by decide +kernel
theorem d_Rw_put_28 : decode b_Rw_put 28 = .ok (.irem, 1) := by decide +kernel
theorem d_Rw_put_29 : decode b_Rw_put 29 = .ok (.bipush 8, 2) := by decide +kernel
theorem d_Rw_put_31 : decode b_Rw_put 31 = .ok (.imul, 1) := by decide +kernel
theorem d_Rw_put_32 : decode b_Rw_put 32 = .ok (.istore_n 2, 1) := by decide +kernel
theorem d_Rw_put_33 : decode b_Rw_put 33 = .ok (.iconst 0, 1) := by decide +kernel
theorem d_Rw_put_34 : decode b_Rw_put 34 = .ok (.istore_n 3, 1) := by decide +kernel
theorem d_Rw_put_35 : decode b_Rw_put 35 = .ok (.iload_n 3, 1) := by decide +kernel
theorem d_Rw_put_36 : decode b_Rw_put 36 = .ok (.bipush 8, 2) := by decide +kernel
theorem d_Rw_put_38 : decode b_Rw_put 38 = .ok (.if_icmp .ge 20, 3) := by decide +kernel
theorem d_Rw_put_41 : decode b_Rw_put 41 = .ok (.aload_n 0, 1) := by decide +kernel
theorem d_Rw_put_42 : decode b_Rw_put 42 = .ok (.getfield 11, 3) := by decide +kernel
theorem d_Rw_put_45 : decode b_Rw_put 45 = .ok (.iload_n 2, 1) := by decide +kernel
theorem d_Rw_put_46 : decode b_Rw_put 46 = .ok (.iload_n 3, 1) := by decide +kernel
theorem d_Rw_put_47 : decode b_Rw_put 47 = .ok (.iadd, 1) := by decide +kernel
theorem d_Rw_put_48 : decode b_Rw_put 48 = .ok (.aload_n 1, 1) := by decide +kernel
theorem d_Rw_put_49 : decode b_Rw_put 49 = .ok (.iload_n 3, 1) := by decide +kernel
theorem d_Rw_put_50 : decode b_Rw_put 50 = .ok (.iaload, 1) := by decide +kernel
theorem d_Rw_put_51 : decode b_Rw_put 51 = .ok (.iastore, 1) := by decide +kernel
theorem d_Rw_put_52 : decode b_Rw_put 52 = .ok (.iinc 3 1, 3) := by decide +kernel
theorem d_Rw_put_55 : decode b_Rw_put 55 = .ok (.goto (-20), 3) := by decide +kernel
theorem d_Rw_put_58 : decode b_Rw_put 58 = .ok (.aload_n 0, 1) := by decide +kernel
theorem d_Rw_put_59 : decode b_Rw_put 59 = .ok (.dup, 1) := by decide +kernel
theorem d_Rw_put_60 : decode b_Rw_put 60 = .ok (.getfield 15, 3) := by decide +kernel
theorem d_Rw_put_63 : decode b_Rw_put 63 = .ok (.iconst 1, 1) := by decide +kernel
theorem d_Rw_put_64 : decode b_Rw_put 64 = .ok (.iadd, 1) := by decide +kernel
theorem d_Rw_put_65 : decode b_Rw_put 65 = .ok (.putfield 15, 3) := by decide +kernel
theorem d_Rw_put_68 : decode b_Rw_put 68 = .ok (.return_, 1) := by decide +kernel
theorem d_Rw_byteOfFirst_0 : decode b_Rw_byteOfFirst 0 = .ok (.aload_n 0, 1) := by decide +kernel
theorem d_Rw_byteOfFirst_1 : decode b_Rw_byteOfFirst 1 = .ok (.getfield 11, 3) := by decide +kernel
theorem d_Rw_byteOfFirst_4 : decode b_Rw_byteOfFirst 4 = .ok (.aload_n 0, 1) := by decide +kernel
theorem d_Rw_byteOfFirst_5 : decode b_Rw_byteOfFirst 5 = .ok (.getfield 19, 3) := by decide +kernel
theorem d_Rw_byteOfFirst_8 : decode b_Rw_byteOfFirst 8 = .ok (.bipush 8, 2) := by decide +kernel
theorem d_Rw_byteOfFirst_10 : decode b_Rw_byteOfFirst 10 = .ok (.imul, 1) := by decide +kernel
theorem d_Rw_byteOfFirst_11 : decode b_Rw_byteOfFirst 11 = .ok (.iload_n 1, 1) := by decide +kernel
theorem d_Rw_byteOfFirst_12 : decode b_Rw_byteOfFirst 12 = .ok (.iadd, 1) := by decide +kernel
theorem d_Rw_byteOfFirst_13 : decode b_Rw_byteOfFirst 13 = .ok (.iaload, 1) := by decide +kernel
theorem d_Rw_byteOfFirst_14 : decode b_Rw_byteOfFirst 14 = .ok (.ireturn, 1) := by decide +kernel
theorem d_Rw_dropFirst_0 : decode b_Rw_dropFirst 0 = .ok (.aload_n 0, 1) := by decide +kernel
theorem d_Rw_dropFirst_1 : decode b_Rw_dropFirst 1 = .ok (.aload_n 0, 1) := by decide +kernel
theorem d_Rw_dropFirst_2 : decode b_Rw_dropFirst 2 = .ok (.getfield 19, 3) := by decide +kernel
theorem d_Rw_dropFirst_5 : decode b_Rw_dropFirst 5 = .ok (.iconst 1, 1) := by decide +kernel
theorem d_Rw_dropFirst_6 : decode b_Rw_dropFirst 6 = .ok (.iadd, 1) := by decide +kernel
theorem d_Rw_dropFirst_7 : decode b_Rw_dropFirst 7 = .ok (.bipush 12, 2) := by decide +kernel
theorem d_Rw_dropFirst_9 : decode b_Rw_dropFirst 9 = .ok (.irem, 1) := by decide +kernel
theorem d_Rw_dropFirst_10 : decode b_Rw_dropFirst 10 = .ok (.putfield 19, 3) := by decide +kernel
theorem d_Rw_dropFirst_13 : decode b_Rw_dropFirst 13 = .ok (.aload_n 0, 1) := by decide +kernel
theorem d_Rw_dropFirst_14 : decode b_Rw_dropFirst 14 = .ok (.dup, 1) := by decide +kernel
theorem d_Rw_dropFirst_15 : decode b_Rw_dropFirst 15 = .ok (.getfield 15, 3) := by decide +kernel
theorem d_Rw_dropFirst_18 : decode b_Rw_dropFirst 18 = .ok (.iconst 1, 1) := by decide +kernel
theorem d_Rw_dropFirst_19 : decode b_Rw_dropFirst 19 = .ok (.isub, 1) := by decide +kernel
theorem d_Rw_dropFirst_20 : decode b_Rw_dropFirst 20 = .ok (.putfield 15, 3) := by decide +kernel
theorem d_Rw_dropFirst_23 : decode b_Rw_dropFirst 23 = .ok (.return_, 1) := by decide +kernel
theorem d_Rw_clear_0 : decode b_Rw_clear 0 = .ok (.aload_n 0, 1) := by decide +kernel
theorem d_Rw_clear_1 : decode b_Rw_clear 1 = .ok (.iconst 0, 1) := by decide +kernel
theorem d_Rw_clear_2 : decode b_Rw_clear 2 = .ok (.putfield 15, 3) := by decide +kernel
theorem d_Rw_clear_5 : decode b_Rw_clear 5 = .ok (.return_, 1) := by decide +kernel
theorem d_Sd_init_0 : decode b_Sd_init 0 = .ok (.aload_n 0, 1) := by decide +kernel
theorem d_Sd_init_1 : decode b_Sd_init 1 = .ok (.invokespecial 3, 3) := by decide +kernel
theorem d_Sd_init_4 : decode b_Sd_init 4 = .ok (.aload_n 0, 1) := by decide +kernel
theorem d_Sd_init_5 : decode b_Sd_init 5 = .ok (.new 9, 3) := by decide +kernel
theorem d_Sd_init_8 : decode b_Sd_init 8 = .ok (.dup, 1) := by decide +kernel
theorem d_Sd_init_9 : decode b_Sd_init 9 = .ok (.invokespecial 11, 3) := by decide +kernel
theorem d_Sd_init_12 : decode b_Sd_init 12 = .ok (.putfield 12, 3) := by decide +kernel
theorem d_Sd_init_15 : decode b_Sd_init 15 = .ok (.aload_n 0, 1) := by decide +kernel
theorem d_Sd_init_16 : decode b_Sd_init 16 = .ok (.bipush 10, 2) := by decide +kernel
theorem d_Sd_init_18 : decode b_Sd_init 18 = .ok (.newarray .int, 2) := by decide +kernel
theorem d_Sd_init_20 : decode b_Sd_init 20 = .ok (.putfield 18, 3) := by decide +kernel
theorem d_Sd_init_23 : decode b_Sd_init 23 = .ok (.aload_n 0, 1) := by decide +kernel
theorem d_Sd_init_24 : decode b_Sd_init 24 = .ok (.bipush 8, 2) := by decide +kernel
theorem d_Sd_init_26 : decode b_Sd_init 26 = .ok (.newarray .int, 2) := by decide +kernel
theorem d_Sd_init_28 : decode b_Sd_init 28 = .ok (.putfield 22, 3) := by decide +kernel
theorem d_Sd_init_31 : decode b_Sd_init 31 = .ok (.return_, 1) := by decide +kernel
theorem d_Sd_begin_0 : decode b_Sd_begin 0 = .ok (.aload_n 0, 1) := by decide +kernel
theorem d_Sd_begin_1 : decode b_Sd_begin 1 = .ok (.iconst 0, 1) := by decide +kernel
theorem d_Sd_begin_2 : decode b_Sd_begin 2 = .ok (.putfield 25, 3) := by decide +kernel
theorem d_Sd_begin_5 : decode b_Sd_begin 5 = .ok (.aload_n 0, 1) := by decide +kernel
theorem d_Sd_begin_6 : decode b_Sd_begin 6 = .ok (.iload_n 1, 1) := by decide +kernel
theorem d_Sd_begin_7 : decode b_Sd_begin 7 = .ok (.invokevirtual 29, 3) := by decide +kernel
theorem d_Sd_begin_10 : decode b_Sd_begin 10 = .ok (.return_, 1) := by decide +kernel
theorem d_Sd_add_0 : decode b_Sd_add 0 = .ok (.aload_n 0, 1) := by decide +kernel
theorem d_Sd_add_1 : decode b_Sd_add 1 = .ok (.getfield 25, 3) := by decide +kernel
theorem d_Sd_add_4 : decode b_Sd_add 4 = .ok (.bipush 10, 2) := by decide +kernel
theorem d_Sd_add_6 : decode b_Sd_add 6 = .ok (.if_icmp .ge 23, 3) := by decide +kernel
theorem d_Sd_add_9 : decode b_Sd_add 9 = .ok (.aload_n 0, 1) := by decide +kernel
theorem d_Sd_add_10 : decode b_Sd_add 10 = .ok (.getfield 18, 3) := by decide +kernel
theorem d_Sd_add_13 : decode b_Sd_add 13 = .ok (.aload_n 0, 1) := by decide +kernel
theorem d_Sd_add_14 : decode b_Sd_add 14 = .ok (.getfield 25, 3) := by decide +kernel
theorem d_Sd_add_17 : decode b_Sd_add 17 = .ok (.iload_n 1, 1) := by decide +kernel
theorem d_Sd_add_18 : decode b_Sd_add 18 = .ok (.iastore, 1) := by decide +kernel
theorem d_Sd_add_19 : decode b_Sd_add 19 = .ok (.aload_n 0, 1) := by decide +kernel
theorem d_Sd_add_20 : decode b_Sd_add 20 = .ok (.dup, 1) := by decide +kernel
theorem d_Sd_add_21 : decode b_Sd_add 21 = .ok (.getfield 25, 3) := by decide +kernel
theorem d_Sd_add_24 : decode b_Sd_add 24 = .ok (.iconst 1, 1) := by decide +kernel
theorem d_Sd_add_25 : decode b_Sd_add 25 = .ok (.iadd, 1) := by decide +kernel
theorem d_Sd_add_26 : decode b_Sd_add 26 = .ok (.putfield 25, 3) := by decide +kernel
theorem d_Sd_add_29 : decode b_Sd_add 29 = .ok (.return_, 1) := by decide +kernel
theorem d_Sd_send_0 : decode b_Sd_send 0 = .ok (.aload_n 0, 1) := by decide +kernel
theorem d_Sd_send_1 : decode b_Sd_send 1 = .ok (.iconst 0, 1) := by decide +kernel
theorem d_Sd_send_2 : decode b_Sd_send 2 = .ok (.putfield 33, 3) := by decide +kernel
theorem d_Sd_send_5 : decode b_Sd_send 5 = .ok (.aload_n 0, 1) := by decide +kernel
theorem d_Sd_send_6 : decode b_Sd_send 6 = .ok (.getfield 25, 3) := by decide +kernel
theorem d_Sd_send_9 : decode b_Sd_send 9 = .ok (.bipush 7, 2) := by decide +kernel
theorem d_Sd_send_11 : decode b_Sd_send 11 = .ok (.if_icmp .gt 19, 3) := by decide +kernel
theorem d_Sd_send_14 : decode b_Sd_send 14 = .ok (.aload_n 0, 1) := by decide +kernel
theorem d_Sd_send_15 : decode b_Sd_send 15 = .ok (.getfield 22, 3) := by decide +kernel
theorem d_Sd_send_18 : decode b_Sd_send 18 = .ok (.iconst 0, 1) := by decide +kernel
theorem d_Sd_send_19 : decode b_Sd_send 19 = .ok (.aload_n 0, 1) := by decide +kernel
theorem d_Sd_send_20 : decode b_Sd_send 20 = .ok (.getfield 25, 3) := by decide +kernel
theorem d_Sd_send_23 : decode b_Sd_send 23 = .ok (.iastore, 1) := by decide +kernel
theorem d_Sd_send_24 : decode b_Sd_send 24 = .ok (.aload_n 0, 1) := by decide +kernel
theorem d_Sd_send_25 : decode b_Sd_send 25 = .ok (.iconst 1, 1) := by decide +kernel
theorem d_Sd_send_26 : decode b_Sd_send 26 = .ok (.invokevirtual 36, 3) := by decide +kernel
theorem d_Sd_send_29 : decode b_Sd_send 29 = .ok (.return_, 1) := by decide +kernel
theorem d_Sd_send_30 : decode b_Sd_send 30 = .ok (.aload_n 0, 1) := by decide +kernel
theorem d_Sd_send_31 : decode b_Sd_send 31 = .ok (.getfield 22, 3) := by decide +kernel
theorem d_Sd_send_34 : decode b_Sd_send 34 = .ok (.iconst 0, 1) := by decide +kernel
theorem d_Sd_send_35 : decode b_Sd_send 35 = .ok (.bipush 16, 2) := by decide +kernel
theorem d_Sd_send_37 : decode b_Sd_send 37 = .ok (.iastore, 1) := by decide +kernel
theorem d_Sd_send_38 : decode b_Sd_send 38 = .ok (.aload_n 0, 1) := by decide +kernel
theorem d_Sd_send_39 : decode b_Sd_send 39 = .ok (.getfield 22, 3) := by decide +kernel
theorem d_Sd_send_42 : decode b_Sd_send 42 = .ok (.iconst 1, 1) := by decide +kernel
theorem d_Sd_send_43 : decode b_Sd_send 43 = .ok (.aload_n 0, 1) := by decide +kernel
theorem d_Sd_send_44 : decode b_Sd_send 44 = .ok (.getfield 25, 3) := by decide +kernel
theorem d_Sd_send_47 : decode b_Sd_send 47 = .ok (.iastore, 1) := by decide +kernel
theorem d_Sd_send_48 : decode b_Sd_send 48 = .ok (.aload_n 0, 1) := by decide +kernel
theorem d_Sd_send_49 : decode b_Sd_send 49 = .ok (.iconst 2, 1) := by decide +kernel
theorem d_Sd_send_50 : decode b_Sd_send 50 = .ok (.invokevirtual 36, 3) := by decide +kernel
theorem d_Sd_send_53 : decode b_Sd_send 53 = .ok (.aload_n 0, 1) := by decide +kernel
theorem d_Sd_send_54 : decode b_Sd_send 54 = .ok (.iconst 1, 1) := by decide +kernel
theorem d_Sd_send_55 : decode b_Sd_send 55 = .ok (.putfield 39, 3) := by decide +kernel
theorem d_Sd_send_58 : decode b_Sd_send 58 = .ok (.aload_n 0, 1) := by decide +kernel
theorem d_Sd_send_59 : decode b_Sd_send 59 = .ok (.iconst 1, 1) := by decide +kernel
theorem d_Sd_send_60 : decode b_Sd_send 60 = .ok (.putfield 42, 3) := by decide +kernel
theorem d_Sd_send_63 : decode b_Sd_send 63 = .ok (.aload_n 0, 1) := by decide +kernel
theorem d_Sd_send_64 : decode b_Sd_send 64 = .ok (.iconst 0, 1) := by decide +kernel
theorem d_Sd_send_65 : decode b_Sd_send 65 = .ok (.putfield 46, 3) := by decide +kernel
theorem d_Sd_send_68 : decode b_Sd_send 68 = .ok (.return_, 1) := by decide +kernel
theorem d_Sd_putFrom_0 : decode b_Sd_putFrom 0 = .ok (.iload_n 1, 1) := by decide +kernel
theorem d_Sd_putFrom_1 : decode b_Sd_putFrom 1 = .ok (.istore_n 2, 1) := by decide +kernel
theorem d_Sd_putFrom_2 : decode b_Sd_putFrom 2 = .ok (.iload_n 2, 1) := by decide +kernel
theorem d_Sd_putFrom_3 : decode b_Sd_putFrom 3 = .ok (.bipush 8, 2) := by decide +kernel
theorem d_Sd_putFrom_5 : decode b_Sd_putFrom 5 = .ok (.if_icmp .ge 76, 3) := by decide +kernel
theorem d_Sd_putFrom_8 : decode b_Sd_putFrom 8 = .ok (.aload_n 0, 1) := by decide +kernel
theorem d_Sd_putFrom_9 : decode b_Sd_putFrom 9 = .ok (.getfield 33, 3) := by decide +kernel
theorem d_Sd_putFrom_12 : decode b_Sd_putFrom 12 = .ok (.aload_n 0, 1) := by decide +kernel
theorem d_Sd_putFrom_13 : decode b_Sd_putFrom 13 = .ok (.getfield 25, 3) := by decide +kernel
theorem d_Sd_putFrom_16 : decode b_Sd_putFrom 16 = .ok (.if_icmp .ge 16, 3) := by decide +kernel
theorem d_Sd_putFrom_19 : decode b_Sd_putFrom 19 = .ok (.aload_n 0, 1) := by decide +kernel
theorem d_Sd_putFrom_20 : decode b_Sd_putFrom 20 = .ok (.getfield 33, 3) := by decide +kernel
theorem d_Sd_putFrom_23 : decode b_Sd_putFrom 23 = .ok (.bipush 10, 2) := by decide +kernel
theorem d_Sd_putFrom_25 : decode b_Sd_putFrom 25 = .ok (.if_icmp .ge 7, 3) := by decide +kernel
theorem d_Sd_putFrom_28 : decode b_Sd_putFrom 28 = .ok (.iconst 1, 1) := by decide +kernel
theorem d_Sd_putFrom_29 : decode b_Sd_putFrom 29 = .ok (.goto 4, 3) := by decide +kernel
theorem d_Sd_putFrom_32 : decode b_Sd_putFrom 32 = .ok (.iconst 0, 1) := by decide +kernel
theorem d_Sd_putFrom_33 : decode b_Sd_putFrom 33 = .ok (.istore_n 3, 1) := by decide +kernel
theorem d_Sd_putFrom_34 : decode b_Sd_putFrom 34 = .ok (.aload_n 0, 1) := by decide +kernel
theorem d_Sd_putFrom_35 : decode b_Sd_putFrom 35 = .ok (.getfield 22, 3) := by decide +kernel
theorem d_Sd_putFrom_38 : decode b_Sd_putFrom 38 = .ok (.iload_n 2, 1) := by decide +kernel
theorem d_Sd_putFrom_39 : decode b_Sd_putFrom 39 = .ok (.iload_n 3, 1) := by decide +kernel
theorem d_Sd_putFrom_40 : decode b_Sd_putFrom 40 = .ok (.ifCond .eq 15, 3) := by decide +kernel
theorem d_Sd_putFrom_43 : decode b_Sd_putFrom 43 = .ok (.aload_n 0, 1) := by decide +kernel
theorem d_Sd_putFrom_44 : decode b_Sd_putFrom 44 = .ok (.getfield 18, 3) := by decide +kernel
theorem d_Sd_putFrom_47 : decode b_Sd_putFrom 47 = .ok (.aload_n 0, 1) := by decide +kernel
theorem d_Sd_putFrom_48 : decode b_Sd_putFrom 48 = .ok (.getfield 33, 3) := by decide +kernel
theorem d_Sd_putFrom_51 : decode b_Sd_putFrom 51 = .ok (.iaload, 1) := by decide +kernel
theorem d_Sd_putFrom_52 : decode b_Sd_putFrom 52 = .ok (.goto 4, 3) := by decide +kernel
theorem d_Sd_putFrom_55 : decode b_Sd_putFrom 55 = .ok (.iconst 0, 1) := by decide +kernel
theorem d_Sd_putFrom_56 : decode b_Sd_putFrom 56 = .ok (.iastore, 1) := by decide +kernel
theorem d_Sd_putFrom_57 : decode b_Sd_putFrom 57 = .ok (.aload_n 0, 1) := by decide +kernel
theorem d_Sd_putFrom_58 : decode b_Sd_putFrom 58 = .ok (.dup, 1) := by decide +kernel
theorem d_Sd_putFrom_59 : decode b_Sd_putFrom 59 = .ok (.getfield 33, 3) := by decide +kernel
theorem d_Sd_putFrom_62 : decode b_Sd_putFrom 62 = .ok (.iload_n 3, 1) := by decide +kernel
theorem d_Sd_putFrom_63 : decode b_Sd_putFrom 63 = .ok (.ifCond .eq 7, 3) := by decide +kernel
theorem d_Sd_putFrom_66 : decode b_Sd_putFrom 66 = .ok (.iconst 1, 1) := by decide +kernel
theorem d_Sd_putFrom_67 : decode b_Sd_putFrom 67 = .ok (.goto 4, 3) := by decide +kernel
theorem d_Sd_putFrom_70 : decode b_Sd_putFrom 70 = .ok (.iconst 0, 1) := by decide +kernel
theorem d_Sd_putFrom_71 : decode b_Sd_putFrom 71 = .ok (.iadd, 1) := by decide +kernel
theorem d_Sd_putFrom_72 : decode b_Sd_putFrom 72 = .ok (.putfield 33, 3) := by decide +kernel
theorem d_Sd_putFrom_75 : decode b_Sd_putFrom 75 = .ok (.iinc 2 1, 3) := by decide +kernel
theorem d_Sd_putFrom_78 : decode b_Sd_putFrom 78 = .ok (.goto (-76), 3) := by decide +kernel
theorem d_Sd_putFrom_81 : decode b_Sd_putFrom 81 = .ok (.aload_n 0, 1) := by decide +kernel
theorem d_Sd_putFrom_82 : decode b_Sd_putFrom 82 = .ok (.getfield 12, 3) := by decide +kernel
theorem d_Sd_putFrom_85 : decode b_Sd_putFrom 85 = .ok (.aload_n 0, 1) := by decide +kernel
theorem d_Sd_putFrom_86 : decode b_Sd_putFrom 86 = .ok (.getfield 22, 3) := by decide +kernel
theorem d_Sd_putFrom_89 : decode b_Sd_putFrom 89 = .ok (.invokevirtual 49, 3) := by decide +kernel
theorem d_Sd_putFrom_92 : decode b_Sd_putFrom 92 = .ok (.return_, 1) := by decide +kernel
theorem d_Sd_goOn_0 : decode b_Sd_goOn 0 = .ok (.iload_n 1, 1) := by decide +kernel
theorem d_Sd_goOn_1 : decode b_Sd_goOn 1 = .ok (.ifCond .ne 8, 3) := by decide +kernel
theorem d_Sd_goOn_4 : decode b_Sd_goOn 4 = .ok (.bipush 10, 2) := by decide +kernel
theorem d_Sd_goOn_6 : decode b_Sd_goOn 6 = .ok (.goto 4, 3) := by decide +kernel
theorem d_Sd_goOn_9 : decode b_Sd_goOn 9 = .ok (.iload_n 1, 1) := by decide +kernel
theorem d_Sd_goOn_10 : decode b_Sd_goOn 10 = .ok (.istore_n 2, 1) := by decide +kernel
theorem d_Sd_goOn_11 : decode b_Sd_goOn 11 = .ok (.iconst 0, 1) := by decide +kernel
theorem d_Sd_goOn_12 : decode b_Sd_goOn 12 = .ok (.istore_n 3, 1) := by decide +kernel
theorem d_Sd_goOn_13 : decode b_Sd_goOn 13 = .ok (.iload_n 3, 1) := by decide +kernel
theorem d_Sd_goOn_14 : decode b_Sd_goOn 14 = .ok (.iload_n 2, 1) := by decide +kernel
theorem d_Sd_goOn_15 : decode b_Sd_goOn 15 = .ok (.if_icmp .ge 51, 3) := by decide +kernel
theorem d_Sd_goOn_18 : decode b_Sd_goOn 18 = .ok (.aload_n 0, 1) := by decide +kernel
theorem d_Sd_goOn_19 : decode b_Sd_goOn 19 = .ok (.getfield 33, 3) := by decide +kernel
theorem d_Sd_goOn_22 : decode b_Sd_goOn 22 = .ok (.aload_n 0, 1) := by decide +kernel
theorem d_Sd_goOn_23 : decode b_Sd_goOn 23 = .ok (.getfield 25, 3) := by decide +kernel
theorem d_Sd_goOn_26 : decode b_Sd_goOn 26 = .ok (.if_icmp .ge 40, 3) := by decide +kernel
theorem d_Sd_goOn_29 : decode b_Sd_goOn 29 = .ok (.aload_n 0, 1) := by decide +kernel
theorem d_Sd_goOn_30 : decode b_Sd_goOn 30 = .ok (.getfield 22, 3) := by decide +kernel
theorem d_Sd_goOn_33 : decode b_Sd_goOn 33 = .ok (.iconst 0, 1) := by decide +kernel
theorem d_Sd_goOn_34 : decode b_Sd_goOn 34 = .ok (.bipush 32, 2) := by decide +kernel
theorem d_Sd_goOn_36 : decode b_Sd_goOn 36 = .ok (.aload_n 0, 1) := by decide +kernel
theorem d_Sd_goOn_37 : decode b_Sd_goOn 37 = .ok (.getfield 39, 3) := by decide +kernel
theorem d_Sd_goOn_40 : decode b_Sd_goOn 40 = .ok (.iadd, 1) := by decide +kernel
theorem d_Sd_goOn_41 : decode b_Sd_goOn 41 = .ok (.iastore, 1) := by decide +kernel
theorem d_Sd_goOn_42 : decode b_Sd_goOn 42 = .ok (.aload_n 0, 1) := by decide +kernel
theorem d_Sd_goOn_43 : decode b_Sd_goOn 43 = .ok (.aload_n 0, 1) := by decide +kernel
theorem d_Sd_goOn_44 : decode b_Sd_goOn 44 = .ok (.getfield 39, 3) := by decide +kernel
theorem d_Sd_goOn_47 : decode b_Sd_goOn 47 = .ok (.iconst 1, 1) := by decide +kernel
theorem d_Sd_goOn_48 : decode b_Sd_goOn 48 = .ok (.iadd, 1) := by decide +kernel
theorem d_Sd_goOn_49 : decode b_Sd_goOn 49 = .ok (.bipush 16, 2) := by decide +kernel
theorem d_Sd_goOn_51 : decode b_Sd_goOn 51 = .ok (.irem, 1) := by decide +kernel
theorem d_Sd_goOn_52 : decode b_Sd_goOn 52 = .ok (.putfield 39, 3) := by decide +kernel
theorem d_Sd_goOn_55 : decode b_Sd_goOn 55 = .ok (.aload_n 0, 1) := by decide +kernel
theorem d_Sd_goOn_56 : decode b_Sd_goOn 56 = .ok (.iconst 1, 1) := by decide +kernel
theorem d_Sd_goOn_57 : decode b_Sd_goOn 57 = .ok (.invokevirtual 36, 3) := by decide +kernel
theorem d_Sd_goOn_60 : decode b_Sd_goOn 60 = .ok (.iinc 3 1, 3) := by decide +kernel
theorem d_Sd_goOn_63 : decode b_Sd_goOn 63 = .ok (.goto (-50), 3) := by decide +kernel
theorem d_Sd_goOn_66 : decode b_Sd_goOn 66 = .ok (.aload_n 0, 1) := by decide +kernel
theorem d_Sd_goOn_67 : decode b_Sd_goOn 67 = .ok (.aload_n 0, 1) := by decide +kernel
theorem d_Sd_goOn_68 : decode b_Sd_goOn 68 = .ok (.getfield 33, 3) := by decide +kernel
theorem d_Sd_goOn_71 : decode b_Sd_goOn 71 = .ok (.aload_n 0, 1) := by decide +kernel
theorem d_Sd_goOn_72 : decode b_Sd_goOn 72 = .ok (.getfield 25, 3) := by decide +kernel
theorem d_Sd_goOn_75 : decode b_Sd_goOn 75 = .ok (.if_icmp .ge 7, 3) := by decide +kernel
theorem d_Sd_goOn_78 : decode b_Sd_goOn 78 = .ok (.iconst 1, 1) := by decide +kernel
theorem d_Sd_goOn_79 : decode b_Sd_goOn 79 = .ok (.goto 4, 3) := by decide +kernel
theorem d_Sd_goOn_82 : decode b_Sd_goOn 82 = .ok (.iconst 0, 1) := by decide +kernel
theorem d_Sd_goOn_83 : decode b_Sd_goOn 83 = .ok (.putfield 42, 3) := by decide +kernel
theorem d_Sd_goOn_86 : decode b_Sd_goOn 86 = .ok (.aload_n 0, 1) := by decide +kernel
theorem d_Sd_goOn_87 : decode b_Sd_goOn 87 = .ok (.iconst 0, 1) := by decide +kernel
theorem d_Sd_goOn_88 : decode b_Sd_goOn 88 = .ok (.putfield 46, 3) := by decide +kernel
theorem d_Sd_goOn_91 : decode b_Sd_goOn 91 = .ok (.return_, 1) := by decide +kernel
theorem d_Sd_askForMore_0 : decode b_Sd_askForMore 0 = .ok (.aload_n 0, 1) := by decide +kernel
theorem d_Sd_askForMore_1 : decode b_Sd_askForMore 1 = .ok (.iconst 0, 1) := by decide +kernel
theorem d_Sd_askForMore_2 : decode b_Sd_askForMore 2 = .ok (.putfield 33, 3) := by decide +kernel
theorem d_Sd_askForMore_5 : decode b_Sd_askForMore 5 = .ok (.aload_n 0, 1) := by decide +kernel
theorem d_Sd_askForMore_6 : decode b_Sd_askForMore 6 = .ok (.iconst 0, 1) := by decide +kernel
theorem d_Sd_askForMore_7 : decode b_Sd_askForMore 7 = .ok (.putfield 25, 3) := by decide +kernel
theorem d_Sd_askForMore_10 : decode b_Sd_askForMore 10 = .ok (.aload_n 0, 1) := by decide +kernel
theorem d_Sd_askForMore_11 : decode b_Sd_askForMore 11 = .ok (.getfield 22, 3) := by decide +kernel
theorem d_Sd_askForMore_14 : decode b_Sd_askForMore 14 = .ok (.iconst 0, 1) := by decide +kernel
theorem d_Sd_askForMore_15 : decode b_Sd_askForMore 15 = .ok (.bipush 48, 2) := by decide +kernel
theorem d_Sd_askForMore_17 : decode b_Sd_askForMore 17 = .ok (.iastore, 1) := by decide +kernel
theorem d_Sd_askForMore_18 : decode b_Sd_askForMore 18 = .ok (.aload_n 0, 1) := by decide +kernel
theorem d_Sd_askForMore_19 : decode b_Sd_askForMore 19 = .ok (.getfield 22, 3) := by decide +kernel
theorem d_Sd_askForMore_22 : decode b_Sd_askForMore 22 = .ok (.iconst 1, 1) := by decide +kernel
theorem d_Sd_askForMore_23 : decode b_Sd_askForMore 23 = .ok (.iconst 2, 1) := by decide +kernel
theorem d_Sd_askForMore_24 : decode b_Sd_askForMore 24 = .ok (.iastore, 1) := by decide +kernel
theorem d_Sd_askForMore_25 : decode b_Sd_askForMore 25 = .ok (.aload_n 0, 1) := by decide +kernel
theorem d_Sd_askForMore_26 : decode b_Sd_askForMore 26 = .ok (.iconst 2, 1) := by decide +kernel
theorem d_Sd_askForMore_27 : decode b_Sd_askForMore 27 = .ok (.invokevirtual 36, 3) := by decide +kernel
theorem d_Sd_askForMore_30 : decode b_Sd_askForMore 30 = .ok (.return_, 1) := by decide +kernel
theorem d_Sd_waitAnew_0 : decode b_Sd_waitAnew 0 = .ok (.aload_n 0, 1) := by decide +kernel
theorem d_Sd_waitAnew_1 : decode b_Sd_waitAnew 1 = .ok (.iconst 0, 1) := by decide +kernel
theorem d_Sd_waitAnew_2 : decode b_Sd_waitAnew 2 = .ok (.putfield 46, 3) := by decide +kernel
theorem d_Sd_waitAnew_5 : decode b_Sd_waitAnew 5 = .ok (.return_, 1) := by decide +kernel
theorem d_Sd_drop_0 : decode b_Sd_drop 0 = .ok (.aload_n 0, 1) := by decide +kernel
theorem d_Sd_drop_1 : decode b_Sd_drop 1 = .ok (.iconst 0, 1) := by decide +kernel
theorem d_Sd_drop_2 : decode b_Sd_drop 2 = .ok (.putfield 42, 3) := by decide +kernel
theorem d_Sd_drop_5 : decode b_Sd_drop 5 = .ok (.return_, 1) := by decide +kernel
theorem d_Sd_age_0 : decode b_Sd_age 0 = .ok (.aload_n 0, 1) := by decide +kernel
theorem d_Sd_age_1 : decode b_Sd_age 1 = .ok (.getfield 42, 3) := by decide +kernel
theorem d_Sd_age_4 : decode b_Sd_age 4 = .ok (.ifCond .ne 4, 3) := by decide +kernel
theorem d_Sd_age_7 : decode b_Sd_age 7 = .ok (.return_, 1) := by decide +kernel
theorem d_Sd_age_8 : decode b_Sd_age 8 = .ok (.aload_n 0, 1) := by decide +kernel
theorem d_Sd_age_9 : decode b_Sd_age 9 = .ok (.dup, 1) := by decide +kernel
theorem d_Sd_age_10 : decode b_Sd_age 10 = .ok (.getfield 46, 3) := by decide +kernel
theorem d_Sd_age_13 : decode b_Sd_age 13 = .ok (.iconst 1, 1) := by decide +kernel
theorem d_Sd_age_14 : decode b_Sd_age 14 = .ok (.iadd, 1) := by decide +kernel
theorem d_Sd_age_15 : decode b_Sd_age 15 = .ok (.putfield 46, 3) := by decide +kernel
theorem d_Sd_age_18 : decode b_Sd_age 18 = .ok (.aload_n 0, 1) := by decide +kernel
theorem d_Sd_age_19 : decode b_Sd_age 19 = .ok (.getfield 46, 3) := by decide +kernel
theorem d_Sd_age_22 : decode b_Sd_age 22 = .ok (.iconst 4, 1) := by decide +kernel
theorem d_Sd_age_23 : decode b_Sd_age 23 = .ok (.if_icmp .lt 7, 3) := by decide +kernel
theorem d_Sd_age_26 : decode b_Sd_age 26 = .ok (.aload_n 0, 1) := by decide +kernel
theorem d_Sd_age_27 : decode b_Sd_age 27 = .ok (.invokevirtual 53, 3) := by decide +kernel
theorem d_Sd_age_30 : decode b_Sd_age 30 = .ok (.return_, 1) := by decide +kernel
theorem d_Sd_toSend_0 : decode b_Sd_toSend 0 = .ok (.aload_n 0, 1) := by decide +kernel
theorem d_Sd_toSend_1 : decode b_Sd_toSend 1 = .ok (.getfield 42, 3) := by decide +kernel
theorem d_Sd_toSend_4 : decode b_Sd_toSend 4 = .ok (.ifCond .eq 15, 3) := by decide +kernel
theorem d_Sd_toSend_7 : decode b_Sd_toSend 7 = .ok (.aload_n 0, 1) := by decide +kernel
theorem d_Sd_toSend_8 : decode b_Sd_toSend 8 = .ok (.getfield 25, 3) := by decide +kernel
theorem d_Sd_toSend_11 : decode b_Sd_toSend 11 = .ok (.aload_n 0, 1) := by decide +kernel
theorem d_Sd_toSend_12 : decode b_Sd_toSend 12 = .ok (.getfield 33, 3) := by decide +kernel
theorem d_Sd_toSend_15 : decode b_Sd_toSend 15 = .ok (.isub, 1) := by decide +kernel
theorem d_Sd_toSend_16 : decode b_Sd_toSend 16 = .ok (.goto 4, 3) := by decide +kernel
theorem d_Sd_toSend_19 : decode b_Sd_toSend 19 = .ok (.iconst 0, 1) := by decide +kernel
theorem d_Sd_toSend_20 : decode b_Sd_toSend 20 = .ok (.ireturn, 1) := by decide +kernel
theorem d_L_law_0 : decode code 0 = .ok (.new 7, 3) := by decide +kernel
theorem d_L_law_3 : decode code 3 = .ok (.dup, 1) := by decide +kernel
theorem d_L_law_4 : decode code 4 = .ok (.invokespecial 9, 3) := by decide +kernel
theorem d_L_law_7 : decode code 7 = .ok (.astore_n 1, 1) := by decide +kernel
theorem d_L_law_8 : decode code 8 = .ok (.new 10, 3) := by decide +kernel
theorem d_L_law_11 : decode code 11 = .ok (.dup, 1) := by decide +kernel
theorem d_L_law_12 : decode code 12 = .ok (.invokespecial 12, 3) := by decide +kernel
theorem d_L_law_15 : decode code 15 = .ok (.astore_n 2, 1) := by decide +kernel
theorem d_L_law_16 : decode code 16 = .ok (.iconst 0, 1) := by decide +kernel
theorem d_L_law_17 : decode code 17 = .ok (.istore_n 3, 1) := by decide +kernel
theorem d_L_law_18 : decode code 18 = .ok (.iload_n 3, 1) := by decide +kernel
theorem d_L_law_19 : decode code 19 = .ok (.aload_n 0, 1) := by decide +kernel
theorem d_L_law_20 : decode code 20 = .ok (.arraylength, 1) := by decide +kernel
theorem d_L_law_21 : decode code 21 = .ok (.iconst 3, 1) := by decide +kernel
theorem d_L_law_22 : decode code 22 = .ok (.isub, 1) := by decide +kernel
theorem d_L_law_23 : decode code 23 = .ok (.if_icmp .gt 248, 3) := by decide +kernel
theorem d_L_law_26 : decode code 26 = .ok (.aload_n 0, 1) := by decide +kernel
theorem d_L_law_27 : decode code 27 = .ok (.iload_n 3, 1) := by decide +kernel
theorem d_L_law_28 : decode code 28 = .ok (.iaload, 1) := by decide +kernel
theorem d_L_law_29 : decode code 29 = .ok (.bipush 15, 2) := by decide +kernel
theorem d_L_law_31 : decode code 31 = .ok (.iand, 1) := by decide +kernel
theorem d_L_law_32 : decode code 32 = .ok (.tableswitch 233 0 8 #[52, 85, 108, 121, 132, 153, 164, 187, 210], 52) := by decide +kernel
theorem d_L_law_84 : decode code 84 = .ok (.aload_n 1, 1) := by decide +kernel
theorem d_L_law_85 : decode code 85 = .ok (.aload_n 0, 1) := by decide +kernel
theorem d_L_law_86 : decode code 86 = .ok (.iload_n 3, 1) := by decide +kernel
theorem d_L_law_87 : decode code 87 = .ok (.iconst 1, 1) := by decide +kernel
theorem d_L_law_88 : decode code 88 = .ok (.iadd, 1) := by decide +kernel
theorem d_L_law_89 : decode code 89 = .ok (.iaload, 1) := by decide +kernel
theorem d_L_law_90 : decode code 90 = .ok (.aload_n 0, 1) := by decide +kernel
theorem d_L_law_91 : decode code 91 = .ok (.iload_n 3, 1) := by decide +kernel
theorem d_L_law_92 : decode code 92 = .ok (.iconst 2, 1) := by decide +kernel
theorem d_L_law_93 : decode code 93 = .ok (.iadd, 1) := by decide +kernel
theorem d_L_law_94 : decode code 94 = .ok (.iaload, 1) := by decide +kernel
theorem d_L_law_95 : decode code 95 = .ok (.invokevirtual 13, 3) := by decide +kernel
theorem d_L_law_98 : decode code 98 = .ok (.aload_n 2, 1) := by decide +kernel
theorem d_L_law_99 : decode code 99 = .ok (.aload_n 0, 1) := by decide +kernel
theorem d_L_law_100 : decode code 100 = .ok (.iload_n 3, 1) := by decide +kernel
theorem d_L_law_101 : decode code 101 = .ok (.iconst 1, 1) := by decide +kernel
theorem d_L_law_102 : decode code 102 = .ok (.iadd, 1) := by decide +kernel
theorem d_L_law_103 : decode code 103 = .ok (.iaload, 1) := by decide +kernel
theorem d_L_law_104 : decode code 104 = .ok (.aload_n 0, 1) := by decide +kernel
theorem d_L_law_105 : decode code 105 = .ok (.iload_n 3, 1) := by decide +kernel
theorem d_L_law_106 : decode code 106 = .ok (.iconst 2, 1) := by decide +kernel
theorem d_L_law_107 : decode code 107 = .ok (.iadd, 1) := by decide +kernel
theorem d_L_law_108 : decode code 108 = .ok (.iaload, 1) := by decide +kernel
theorem d_L_law_109 : decode code 109 = .ok (.invokevirtual 17, 3) := by decide +kernel
theorem d_L_law_112 : decode code 112 = .ok (.if_icmp .eq 153, 3) := by decide +kernel
theorem d_L_law_115 : decode code 115 = .ok (.iconst 0, 1) := by decide +kernel
theorem d_L_law_116 : decode code 116 = .ok (.ireturn, 1) := by decide +kernel
theorem d_L_law_117 : decode code 117 = .ok (.aload_n 1, 1) := by decide +kernel
theorem d_L_law_118 : decode code 118 = .ok (.aload_n 0, 1) := by decide +kernel
theorem d_L_law_119 : decode code 119 = .ok (.iload_n 3, 1) := by decide +kernel
theorem d_L_law_120 : decode code 120 = .ok (.iconst 1, 1) := by decide +kernel
theorem d_L_law_121 : decode code 121 = .ok (.iadd, 1) := by decide +kernel
theorem d_L_law_122 : decode code 122 = .ok (.iaload, 1) := by decide +kernel
theorem d_L_law_123 : decode code 123 = .ok (.invokevirtual 18, 3) := by decide +kernel
theorem d_L_law_126 : decode code 126 = .ok (.aload_n 2, 1) := by decide +kernel
theorem d_L_law_127 : decode code 127 = .ok (.aload_n 0, 1) := by decide +kernel
theorem d_L_law_128 : decode code 128 = .ok (.iload_n 3, 1) := by decide +kernel
theorem d_L_law_129 : decode code 129 = .ok (.iconst 1, 1) := by decide +kernel
theorem d_L_law_130 : decode code 130 = .ok (.iadd, 1) := by decide +kernel
theorem d_L_law_131 : decode code 131 = .ok (.iaload, 1) := by decide +kernel
theorem d_L_law_132 : decode code 132 = .ok (.invokevirtual 22, 3) := by decide +kernel
theorem d_L_law_135 : decode code 135 = .ok (.if_icmp .eq 130, 3) := by decide +kernel
theorem d_L_law_138 : decode code 138 = .ok (.iconst 0, 1) := by decide +kernel
theorem d_L_law_139 : decode code 139 = .ok (.ireturn, 1) := by decide +kernel
theorem d_L_law_140 : decode code 140 = .ok (.aload_n 1, 1) := by decide +kernel
theorem d_L_law_141 : decode code 141 = .ok (.invokevirtual 23, 3) := by decide +kernel
theorem d_L_law_144 : decode code 144 = .ok (.aload_n 2, 1) := by decide +kernel
theorem d_L_law_145 : decode code 145 = .ok (.invokevirtual 27, 3) := by decide +kernel
theorem d_L_law_148 : decode code 148 = .ok (.if_icmp .eq 117, 3) := by decide +kernel
theorem d_L_law_151 : decode code 151 = .ok (.iconst 0, 1) := by decide +kernel
theorem d_L_law_152 : decode code 152 = .ok (.ireturn, 1) := by decide +kernel
theorem d_L_law_153 : decode code 153 = .ok (.aload_n 1, 1) := by decide +kernel
theorem d_L_law_154 : decode code 154 = .ok (.invokevirtual 28, 3) := by decide +kernel
theorem d_L_law_157 : decode code 157 = .ok (.aload_n 2, 1) := by decide +kernel
theorem d_L_law_158 : decode code 158 = .ok (.invokevirtual 31, 3) := by decide +kernel
theorem d_L_law_161 : decode code 161 = .ok (.goto 104, 3) := by decide +kernel
theorem d_L_law_164 : decode code 164 = .ok (.aload_n 1, 1) := by decide +kernel
theorem d_L_law_165 : decode code 165 = .ok (.aload_n 0, 1) := by decide +kernel
theorem d_L_law_166 : decode code 166 = .ok (.iload_n 3, 1) := by decide +kernel
theorem d_L_law_167 : decode code 167 = .ok (.iconst 1, 1) := by decide +kernel
theorem d_L_law_168 : decode code 168 = .ok (.iadd, 1) := by decide +kernel
theorem d_L_law_169 : decode code 169 = .ok (.iaload, 1) := by decide +kernel
theorem d_L_law_170 : decode code 170 = .ok (.invokevirtual 32, 3) := by decide +kernel
theorem d_L_law_173 : decode code 173 = .ok (.aload_n 2, 1) := by decide +kernel
theorem d_L_law_174 : decode code 174 = .ok (.aload_n 0, 1) := by decide +kernel
theorem d_L_law_175 : decode code 175 = .ok (.iload_n 3, 1) := by decide +kernel
theorem d_L_law_176 : decode code 176 = .ok (.iconst 1, 1) := by decide +kernel
theorem d_L_law_177 : decode code 177 = .ok (.iadd, 1) := by decide +kernel
theorem d_L_law_178 : decode code 178 = .ok (.iaload, 1) := by decide +kernel
theorem d_L_law_179 : decode code 179 = .ok (.invokevirtual 36, 3) := by decide +kernel
theorem d_L_law_182 : decode code 182 = .ok (.goto 83, 3) := by decide +kernel
theorem d_L_law_185 : decode code 185 = .ok (.aload_n 1, 1) := by decide +kernel
theorem d_L_law_186 : decode code 186 = .ok (.invokevirtual 37, 3) := by decide +kernel
theorem d_L_law_189 : decode code 189 = .ok (.aload_n 2, 1) := by decide +kernel
theorem d_L_law_190 : decode code 190 = .ok (.invokevirtual 40, 3) := by decide +kernel
theorem d_L_law_193 : decode code 193 = .ok (.goto 72, 3) := by decide +kernel
theorem d_L_law_196 : decode code 196 = .ok (.aload_n 1, 1) := by decide +kernel
theorem d_L_law_197 : decode code 197 = .ok (.aload_n 0, 1) := by decide +kernel
theorem d_L_law_198 : decode code 198 = .ok (.iload_n 3, 1) := by decide +kernel
theorem d_L_law_199 : decode code 199 = .ok (.iconst 1, 1) := by decide +kernel
theorem d_L_law_200 : decode code 200 = .ok (.iadd, 1) := by decide +kernel
theorem d_L_law_201 : decode code 201 = .ok (.iaload, 1) := by decide +kernel
theorem d_L_law_202 : decode code 202 = .ok (.invokevirtual 41, 3) := by decide +kernel
theorem d_L_law_205 : decode code 205 = .ok (.aload_n 2, 1) := by decide +kernel
theorem d_L_law_206 : decode code 206 = .ok (.aload_n 0, 1) := by decide +kernel
theorem d_L_law_207 : decode code 207 = .ok (.iload_n 3, 1) := by decide +kernel
theorem d_L_law_208 : decode code 208 = .ok (.iconst 1, 1) := by decide +kernel
theorem d_L_law_209 : decode code 209 = .ok (.iadd, 1) := by decide +kernel
theorem d_L_law_210 : decode code 210 = .ok (.iaload, 1) := by decide +kernel
theorem d_L_law_211 : decode code 211 = .ok (.invokevirtual 44, 3) := by decide +kernel
theorem d_L_law_214 : decode code 214 = .ok (.if_icmp .eq 51, 3) := by decide +kernel
theorem d_L_law_217 : decode code 217 = .ok (.iconst 0, 1) := by decide +kernel
theorem d_L_law_218 : decode code 218 = .ok (.ireturn, 1) := by decide +kernel
theorem d_L_law_219 : decode code 219 = .ok (.aload_n 1, 1) := by decide +kernel
theorem d_L_law_220 : decode code 220 = .ok (.aload_n 0, 1) := by decide +kernel
theorem d_L_law_221 : decode code 221 = .ok (.iload_n 3, 1) := by decide +kernel
theorem d_L_law_222 : decode code 222 = .ok (.iconst 1, 1) := by decide +kernel
theorem d_L_law_223 : decode code 223 = .ok (.iadd, 1) := by decide +kernel
theorem d_L_law_224 : decode code 224 = .ok (.iaload, 1) := by decide +kernel
theorem d_L_law_225 : decode code 225 = .ok (.invokevirtual 45, 3) := by decide +kernel
theorem d_L_law_228 : decode code 228 = .ok (.aload_n 2, 1) := by decide +kernel
theorem d_L_law_229 : decode code 229 = .ok (.aload_n 0, 1) := by decide +kernel
theorem d_L_law_230 : decode code 230 = .ok (.iload_n 3, 1) := by decide +kernel
theorem d_L_law_231 : decode code 231 = .ok (.iconst 1, 1) := by decide +kernel
theorem d_L_law_232 : decode code 232 = .ok (.iadd, 1) := by decide +kernel
theorem d_L_law_233 : decode code 233 = .ok (.iaload, 1) := by decide +kernel
theorem d_L_law_234 : decode code 234 = .ok (.invokevirtual 48, 3) := by decide +kernel
theorem d_L_law_237 : decode code 237 = .ok (.if_icmp .eq 28, 3) := by decide +kernel
theorem d_L_law_240 : decode code 240 = .ok (.iconst 0, 1) := by decide +kernel
theorem d_L_law_241 : decode code 241 = .ok (.ireturn, 1) := by decide +kernel
theorem d_L_law_242 : decode code 242 = .ok (.aload_n 1, 1) := by decide +kernel
theorem d_L_law_243 : decode code 243 = .ok (.aload_n 0, 1) := by decide +kernel
