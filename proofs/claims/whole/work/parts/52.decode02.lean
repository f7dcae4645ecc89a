theorem d_M_init_123 : decode b_M_init 123 = .ok (.sipush 256, 3) := by decide +kernel
theorem d_M_init_126 : decode b_M_init 126 = .ok (.irem, 1) := by decide +kernel
theorem d_M_init_127 : decode b_M_init 127 = .ok (.iastore, 1) := by decide +kernel
theorem d_M_init_128 : decode b_M_init 128 = .ok (.aload_n 0, 1) := by decide +kernel
theorem d_M_init_129 : decode b_M_init 129 = .ok (.invokevirtual 33, 3) := by decide +kernel
theorem d_M_init_132 : decode b_M_init 132 = .ok (.aload_n 0, 1) := by decide +kernel
theorem d_M_init_133 : decode b_M_init 133 = .ok (.iconst 0, 1) := by decide +kernel
theorem d_M_init_134 : decode b_M_init 134 = .ok (.putfield 36, 3) := by decide +kernel
theorem d_M_init_137 : decode b_M_init 137 = .ok (.return_, 1) := by decide +kernel
theorem d_M_sumOf_0 : decode b_M_sumOf 0 = .ok (.ldc 39, 2) := by decide +kernel
theorem d_M_sumOf_2 : decode b_M_sumOf 2 = .ok (.istore_n 2, 1) := by decide +kernel
theorem d_M_sumOf_3 : decode b_M_sumOf 3 = .ok (.bipush 48, 2) := by decide +kernel
theorem d_M_sumOf_5 : decode b_M_sumOf 5 = .ok (.iload_n 1, 1) := by decide +kernel
theorem d_M_sumOf_6 : decode b_M_sumOf 6 = .ok (.imul, 1) := by decide +kernel
theorem d_M_sumOf_7 : decode b_M_sumOf 7 = .ok (.istore_n 3, 1) := by decide +kernel
theorem d_M_sumOf_8 : decode b_M_sumOf 8 = .ok (.iload_n 3, 1) := by decide +kernel
theorem d_M_sumOf_9 : decode b_M_sumOf 9 = .ok (.bipush 48, 2) := by decide +kernel
theorem d_M_sumOf_11 : decode b_M_sumOf 11 = .ok (.iload_n 1, 1) := by decide +kernel
theorem d_M_sumOf_12 : decode b_M_sumOf 12 = .ok (.imul, 1) := by decide +kernel
theorem d_M_sumOf_13 : decode b_M_sumOf 13 = .ok (.bipush 32, 2) := by decide +kernel
theorem d_M_sumOf_15 : decode b_M_sumOf 15 = .ok (.iadd, 1) := by decide +kernel
theorem d_M_sumOf_16 : decode b_M_sumOf 16 = .ok (.if_icmp .ge 61, 3) := by decide +kernel
theorem d_M_sumOf_19 : decode b_M_sumOf 19 = .ok (.iload_n 2, 1) := by decide +kernel
theorem d_M_sumOf_20 : decode b_M_sumOf 20 = .ok (.aload_n 0, 1) := by decide +kernel
theorem d_M_sumOf_21 : decode b_M_sumOf 21 = .ok (.getfield 7, 3) := by decide +kernel
theorem d_M_sumOf_24 : decode b_M_sumOf 24 = .ok (.iload_n 3, 1) := by decide +kernel
theorem d_M_sumOf_25 : decode b_M_sumOf 25 = .ok (.iaload, 1) := by decide +kernel
theorem d_M_sumOf_26 : decode b_M_sumOf 26 = .ok (.sipush 256, 3) := by decide +kernel
theorem d_M_sumOf_29 : decode b_M_sumOf 29 = .ok (.imul, 1) := by decide +kernel
theorem d_M_sumOf_30 : decode b_M_sumOf 30 = .ok (.ixor, 1) := by decide +kernel
theorem d_M_sumOf_31 : decode b_M_sumOf 31 = .ok (.istore_n 2, 1) := by decide +kernel
theorem d_M_sumOf_32 : decode b_M_sumOf 32 = .ok (.iconst 0, 1) := by decide +kernel
theorem d_M_sumOf_33 : decode b_M_sumOf 33 = .ok (.istore 4, 2) := by decide +kernel
theorem d_M_sumOf_35 : decode b_M_sumOf 35 = .ok (.iload 4, 2) := by decide +kernel
theorem d_M_sumOf_37 : decode b_M_sumOf 37 = .ok (.bipush 8, 2) := by decide +kernel
theorem d_M_sumOf_39 : decode b_M_sumOf 39 = .ok (.if_icmp .ge 32, 3) := by decide +kernel
theorem d_M_sumOf_42 : decode b_M_sumOf 42 = .ok (.iload_n 2, 1) := by decide +kernel
theorem d_M_sumOf_43 : decode b_M_sumOf 43 = .ok (.ldc 40, 2) := by decide +kernel
theorem d_M_sumOf_45 : decode b_M_sumOf 45 = .ok (.if_icmp .lt 16, 3) := by decide +kernel
theorem d_M_sumOf_48 : decode b_M_sumOf 48 = .ok (.iload_n 2, 1) := by decide +kernel
theorem d_M_sumOf_49 : decode b_M_sumOf 49 = .ok (.iconst 2, 1) := by decide +kernel
theorem d_M_sumOf_50 : decode b_M_sumOf 50 = .ok (.imul, 1) := by decide +kernel
theorem d_M_sumOf_51 : decode b_M_sumOf 51 = .ok (.ldc 41, 2) := by decide +kernel
theorem d_M_sumOf_53 : decode b_M_sumOf 53 = .ok (.isub, 1) := by decide +kernel
theorem d_M_sumOf_54 : decode b_M_sumOf 54 = .ok (.sipush 4129, 3) := by decide +kernel
theorem d_M_sumOf_57 : decode b_M_sumOf 57 = .ok (.ixor, 1) := by decide +kernel
theorem d_M_sumOf_58 : decode b_M_sumOf 58 = .ok (.goto 6, 3) := by decide +kernel
theorem d_M_sumOf_61 : decode b_M_sumOf 61 = .ok (.iload_n 2, 1) := by decide +kernel
theorem d_M_sumOf_62 : decode b_M_sumOf 62 = .ok (.iconst 2, 1) := by decide +kernel
theorem d_M_sumOf_63 : decode b_M_sumOf 63 = .ok (.imul, 1) := by decide +kernel
theorem d_M_sumOf_64 : decode b_M_sumOf 64 = .ok (.istore_n 2, 1) := by decide +kernel
theorem d_M_sumOf_65 : decode b_M_sumOf 65 = .ok (.iinc 4 1, 3) := by decide +kernel
theorem d_M_sumOf_68 : decode b_M_sumOf 68 = .ok (.goto (-33), 3) := by decide +kernel
theorem d_M_sumOf_71 : decode b_M_sumOf 71 = .ok (.iinc 3 1, 3) := by decide +kernel
theorem d_M_sumOf_74 : decode b_M_sumOf 74 = .ok (.goto (-66), 3) := by decide +kernel
theorem d_M_sumOf_77 : decode b_M_sumOf 77 = .ok (.iload_n 2, 1) := by decide +kernel
theorem d_M_sumOf_78 : decode b_M_sumOf 78 = .ok (.ireturn, 1) := by decide +kernel
theorem d_M_isGood_0 : decode b_M_isGood 0 = .ok (.bipush 48, 2) := by decide +kernel
theorem d_M_isGood_2 : decode b_M_isGood 2 = .ok (.iload_n 1, 1) := by decide +kernel
theorem d_M_isGood_3 : decode b_M_isGood 3 = .ok (.imul, 1) := by decide +kernel
theorem d_M_isGood_4 : decode b_M_isGood 4 = .ok (.bipush 32, 2) := by decide +kernel
theorem d_M_isGood_6 : decode b_M_isGood 6 = .ok (.iadd, 1) := by decide +kernel
theorem d_M_isGood_7 : decode b_M_isGood 7 = .ok (.istore_n 2, 1) := by decide +kernel
theorem d_M_isGood_8 : decode b_M_isGood 8 = .ok (.aload_n 0, 1) := by decide +kernel
theorem d_M_isGood_9 : decode b_M_isGood 9 = .ok (.getfield 7, 3) := by decide +kernel
theorem d_M_isGood_12 : decode b_M_isGood 12 = .ok (.iload_n 2, 1) := by decide +kernel
theorem d_M_isGood_13 : decode b_M_isGood 13 = .ok (.iaload, 1) := by decide +kernel
theorem d_M_isGood_14 : decode b_M_isGood 14 = .ok (.ifCond .ne 36, 3) := by decide +kernel
theorem d_M_isGood_17 : decode b_M_isGood 17 = .ok (.aload_n 0, 1) := by decide +kernel
theorem d_M_isGood_18 : decode b_M_isGood 18 = .ok (.getfield 7, 3) := by decide +kernel
theorem d_M_isGood_21 : decode b_M_isGood 21 = .ok (.iload_n 2, 1) := by decide +kernel
theorem d_M_isGood_22 : decode b_M_isGood 22 = .ok (.iconst 2, 1) := by decide +kernel
theorem d_M_isGood_23 : decode b_M_isGood 23 = .ok (.iadd, 1) := by decide +kernel
theorem d_M_isGood_24 : decode b_M_isGood 24 = .ok (.iaload, 1) := by decide +kernel
theorem d_M_isGood_25 : decode b_M_isGood 25 = .ok (.sipush 256, 3) := by decide +kernel
theorem d_M_isGood_28 : decode b_M_isGood 28 = .ok (.imul, 1) := by decide +kernel
theorem d_M_isGood_29 : decode b_M_isGood 29 = .ok (.aload_n 0, 1) := by decide +kernel
theorem d_M_isGood_30 : decode b_M_isGood 30 = .ok (.getfield 7, 3) := by decide +kernel
theorem d_M_isGood_33 : decode b_M_isGood 33 = .ok (.iload_n 2, 1) := by decide +kernel
theorem d_M_isGood_34 : decode b_M_isGood 34 = .ok (.iconst 3, 1) := by decide +kernel
theorem d_M_isGood_35 : decode b_M_isGood 35 = .ok (.iadd, 1) := by decide +kernel
theorem d_M_isGood_36 : decode b_M_isGood 36 = .ok (.iaload, 1) := by decide +kernel
theorem d_M_isGood_37 : decode b_M_isGood 37 = .ok (.iadd, 1) := by decide +kernel
theorem d_M_isGood_38 : decode b_M_isGood 38 = .ok (.aload_n 0, 1) := by decide +kernel
theorem d_M_isGood_39 : decode b_M_isGood 39 = .ok (.iload_n 1, 1) := by decide +kernel
theorem d_M_isGood_40 : decode b_M_isGood 40 = .ok (.invokevirtual 29, 3) := by decide +kernel
theorem d_M_isGood_43 : decode b_M_isGood 43 = .ok (.if_icmp .ne 7, 3) := by decide +kernel
theorem d_M_isGood_46 : decode b_M_isGood 46 = .ok (.iconst 1, 1) := by decide +kernel
theorem d_M_isGood_47 : decode b_M_isGood 47 = .ok (.goto 4, 3) := by decide +kernel
theorem d_M_isGood_50 : decode b_M_isGood 50 = .ok (.iconst 0, 1) := by decide +kernel
theorem d_M_isGood_51 : decode b_M_isGood 51 = .ok (.ireturn, 1) := by decide +kernel
theorem d_M_bestSlot_0 : decode b_M_bestSlot 0 = .ok (.aload_n 0, 1) := by decide +kernel
theorem d_M_bestSlot_1 : decode b_M_bestSlot 1 = .ok (.iconst 0, 1) := by decide +kernel
theorem d_M_bestSlot_2 : decode b_M_bestSlot 2 = .ok (.invokevirtual 42, 3) := by decide +kernel
theorem d_M_bestSlot_5 : decode b_M_bestSlot 5 = .ok (.istore_n 1, 1) := by decide +kernel
theorem d_M_bestSlot_6 : decode b_M_bestSlot 6 = .ok (.aload_n 0, 1) := by decide +kernel
theorem d_M_bestSlot_7 : decode b_M_bestSlot 7 = .ok (.iconst 1, 1) := by decide +kernel
theorem d_M_bestSlot_8 : decode b_M_bestSlot 8 = .ok (.invokevirtual 42, 3) := by decide +kernel
theorem d_M_bestSlot_11 : decode b_M_bestSlot 11 = .ok (.istore_n 2, 1) := by decide +kernel
theorem d_M_bestSlot_12 : decode b_M_bestSlot 12 = .ok (.iload_n 1, 1) := by decide +kernel
theorem d_M_bestSlot_13 : decode b_M_bestSlot 13 = .ok (.ifCond .ne 9, 3) := by decide +kernel
theorem d_M_bestSlot_16 : decode b_M_bestSlot 16 = .ok (.iload_n 2, 1) := by decide +kernel
theorem d_M_bestSlot_17 : decode b_M_bestSlot 17 = .ok (.ifCond .ne 5, 3) := by decide +kernel
theorem d_M_bestSlot_20 : decode b_M_bestSlot 20 = .ok (.iconst (-1), 1) := by decide +kernel
theorem d_M_bestSlot_21 : decode b_M_bestSlot 21 = .ok (.ireturn, 1) := by decide +kernel
theorem d_M_bestSlot_22 : decode b_M_bestSlot 22 = .ok (.iload_n 1, 1) := by decide +kernel
theorem d_M_bestSlot_23 : decode b_M_bestSlot 23 = .ok (.ifCond .eq 24, 3) := by decide +kernel
theorem d_M_bestSlot_26 : decode b_M_bestSlot 26 = .ok (.iload_n 2, 1) := by decide +kernel
theorem d_M_bestSlot_27 : decode b_M_bestSlot 27 = .ok (.ifCond .eq 24, 3) := by decide +kernel
theorem d_M_bestSlot_30 : decode b_M_bestSlot 30 = .ok (.aload_n 0, 1) := by decide +kernel
theorem d_M_bestSlot_31 : decode b_M_bestSlot 31 = .ok (.getfield 7, 3) := by decide +kernel
theorem d_M_bestSlot_34 : decode b_M_bestSlot 34 = .ok (.bipush 81, 2) := by decide +kernel
theorem d_M_bestSlot_36 : decode b_M_bestSlot 36 = .ok (.iaload, 1) := by decide +kernel
theorem d_M_bestSlot_37 : decode b_M_bestSlot 37 = .ok (.aload_n 0, 1) := by decide +kernel
theorem d_M_bestSlot_38 : decode b_M_bestSlot 38 = .ok (.getfield 7, 3) := by decide +kernel
theorem d_M_bestSlot_41 : decode b_M_bestSlot 41 = .ok (.bipush 33, 2) := by decide +kernel
theorem d_M_bestSlot_43 : decode b_M_bestSlot 43 = .ok (.iaload, 1) := by decide +kernel
theorem d_M_bestSlot_44 : decode b_M_bestSlot 44 = .ok (.if_icmp .le 7, 3) := by decide +kernel
theorem d_M_bestSlot_47 : decode b_M_bestSlot 47 = .ok (.iconst 1, 1) := by decide +kernel
theorem d_M_bestSlot_48 : decode b_M_bestSlot 48 = .ok (.goto 4, 3) := by decide +kernel
theorem d_M_bestSlot_51 : decode b_M_bestSlot 51 = .ok (.iconst 0, 1) := by decide +kernel
theorem d_M_bestSlot_52 : decode b_M_bestSlot 52 = .ok (.ireturn, 1) := by decide +kernel
theorem d_M_change_0 : decode b_M_change 0 = .ok (.iconst 0, 1) := by decide +kernel
theorem d_M_change_1 : decode b_M_change 1 = .ok (.istore 4, 2) := by decide +kernel
theorem d_M_change_3 : decode b_M_change 3 = .ok (.iload 4, 2) := by decide +kernel
theorem d_M_change_5 : decode b_M_change 5 = .ok (.bipush 8, 2) := by decide +kernel
theorem d_M_change_7 : decode b_M_change 7 = .ok (.if_icmp .ge 98, 3) := by decide +kernel
theorem d_M_change_10 : decode b_M_change 10 = .ok (.aload_n 0, 1) := by decide +kernel
theorem d_M_change_11 : decode b_M_change 11 = .ok (.getfield 7, 3) := by decide +kernel
theorem d_M_change_14 : decode b_M_change 14 = .ok (.iload_n 1, 1) := by decide +kernel
theorem d_M_change_15 : decode b_M_change 15 = .ok (.iaload, 1) := by decide +kernel
theorem d_M_change_16 : decode b_M_change 16 = .ok (.iload 4, 2) := by decide +kernel
theorem d_M_change_18 : decode b_M_change 18 = .ok (.ishr, 1) := by decide +kernel
theorem d_M_change_19 : decode b_M_change 19 = .ok (.iconst 1, 1) := by decide +kernel
theorem d_M_change_20 : decode b_M_change 20 = .ok (.iand, 1) := by decide +kernel
theorem d_M_change_21 : decode b_M_change 21 = .ok (.iload_n 3, 1) := by decide +kernel
theorem d_M_change_22 : decode b_M_change 22 = .ok (.iload 4, 2) := by decide +kernel
theorem d_M_change_24 : decode b_M_change 24 = .ok (.ishr, 1) := by decide +kernel
theorem d_M_change_25 : decode b_M_change 25 = .ok (.iconst 1, 1) := by decide +kernel
theorem d_M_change_26 : decode b_M_change 26 = .ok (.iand, 1) := by decide +kernel
theorem d_M_change_27 : decode b_M_change 27 = .ok (.if_icmp .eq 7, 3) := by decide +kernel
theorem d_M_change_30 : decode b_M_change 30 = .ok (.iconst 1, 1) := by decide +kernel
theorem d_M_change_31 : decode b_M_change 31 = .ok (.goto 4, 3) := by decide +kernel
theorem d_M_change_34 : decode b_M_change 34 = .ok (.iconst 0, 1) := by decide +kernel
theorem d_M_change_35 : decode b_M_change 35 = .ok (.istore 5, 2) := by decide +kernel
theorem d_M_change_37 : decode b_M_change 37 = .ok (.aload_n 0, 1) := by decide +kernel
theorem d_M_change_38 : decode b_M_change 38 = .ok (.getfield 46, 3) := by decide +kernel
theorem d_M_change_41 : decode b_M_change 41 = .ok (.ifCond .eq 24, 3) := by decide +kernel
theorem d_M_change_44 : decode b_M_change 44 = .ok (.aload_n 0, 1) := by decide +kernel
theorem d_M_change_45 : decode b_M_change 45 = .ok (.getfield 50, 3) := by decide +kernel
theorem d_M_change_48 : decode b_M_change 48 = .ok (.bipush 8, 2) := by decide +kernel
theorem d_M_change_50 : decode b_M_change 50 = .ok (.iload_n 2, 1) := by decide +kernel
theorem d_M_change_51 : decode b_M_change 51 = .ok (.imul, 1) := by decide +kernel
theorem d_M_change_52 : decode b_M_change 52 = .ok (.iload 4, 2) := by decide +kernel
theorem d_M_change_54 : decode b_M_change 54 = .ok (.iadd, 1) := by decide +kernel
theorem d_M_change_55 : decode b_M_change 55 = .ok (.bipush 32, 2) := by decide +kernel
theorem d_M_change_57 : decode b_M_change 57 = .ok (.irem, 1) := by decide +kernel
theorem d_M_change_58 : decode b_M_change 58 = .ok (.iushr, 1) := by decide +kernel
theorem d_M_change_59 : decode b_M_change 59 = .ok (.iconst 1, 1) := by decide +kernel
theorem d_M_change_60 : decode b_M_change 60 = .ok (.iand, 1) := by decide +kernel
theorem d_M_change_61 : decode b_M_change 61 = .ok (.iconst 1, 1) := by decide +kernel
theorem d_M_change_62 : decode b_M_change 62 = .ok (.if_icmp .ne 7, 3) := by decide +kernel
theorem d_M_change_65 : decode b_M_change 65 = .ok (.iconst 1, 1) := by decide +kernel
theorem d_M_change_66 : decode b_M_change 66 = .ok (.goto 4, 3) := by decide +kernel
theorem d_M_change_69 : decode b_M_change 69 = .ok (.iconst 0, 1) := by decide +kernel
theorem d_M_change_70 : decode b_M_change 70 = .ok (.istore 6, 2) := by decide +kernel
theorem d_M_change_72 : decode b_M_change 72 = .ok (.iload 5, 2) := by decide +kernel
theorem d_M_change_74 : decode b_M_change 74 = .ok (.ifCond .eq 25, 3) := by decide +kernel
theorem d_M_change_77 : decode b_M_change 77 = .ok (.iload 6, 2) := by decide +kernel
theorem d_M_change_79 : decode b_M_change 79 = .ok (.ifCond .eq 20, 3) := by decide +kernel
theorem d_M_change_82 : decode b_M_change 82 = .ok (.aload_n 0, 1) := by decide +kernel
theorem d_M_change_83 : decode b_M_change 83 = .ok (.getfield 7, 3) := by decide +kernel
theorem d_M_change_86 : decode b_M_change 86 = .ok (.iload_n 1, 1) := by decide +kernel
theorem d_M_change_87 : decode b_M_change 87 = .ok (.aload_n 0, 1) := by decide +kernel
theorem d_M_change_88 : decode b_M_change 88 = .ok (.getfield 7, 3) := by decide +kernel
theorem d_M_change_91 : decode b_M_change 91 = .ok (.iload_n 1, 1) := by decide +kernel
theorem d_M_change_92 : decode b_M_change 92 = .ok (.iaload, 1) := by decide +kernel
theorem d_M_change_93 : decode b_M_change 93 = .ok (.iconst 1, 1) := by decide +kernel
theorem d_M_change_94 : decode b_M_change 94 = .ok (.iload 4, 2) := by decide +kernel
theorem d_M_change_96 : decode b_M_change 96 = .ok (.ishl, 1) := by decide +kernel
theorem d_M_change_97 : decode b_M_change 97 = .ok (.ixor, 1) := by decide +kernel
theorem d_M_change_98 : decode b_M_change 98 = .ok (.iastore, 1) := by decide +kernel
theorem d_M_change_99 : decode b_M_change 99 = .ok (.iinc 4 1, 3) := by decide +kernel
theorem d_M_change_102 : decode b_M_change 102 = .ok (.goto (-99), 3) := by decide +kernel
theorem d_M_change_105 : decode b_M_change 105 = .ok (.return_, 1) := by decide +kernel
theorem d_M_torn_0 : decode b_M_torn 0 = .ok (.aload_n 0, 1) := by decide +kernel
theorem d_M_torn_1 : decode b_M_torn 1 = .ok (.getfield 46, 3) := by decide +kernel
theorem d_M_torn_4 : decode b_M_torn 4 = .ok (.istore_n 1, 1) := by decide +kernel
theorem d_M_torn_5 : decode b_M_torn 5 = .ok (.aload_n 0, 1) := by decide +kernel
theorem d_M_torn_6 : decode b_M_torn 6 = .ok (.iconst 0, 1) := by decide +kernel
theorem d_M_torn_7 : decode b_M_torn 7 = .ok (.putfield 46, 3) := by decide +kernel
theorem d_M_torn_10 : decode b_M_torn 10 = .ok (.iload_n 1, 1) := by decide +kernel
theorem d_M_torn_11 : decode b_M_torn 11 = .ok (.ireturn, 1) := by decide +kernel
theorem d_M_erase_0 : decode b_M_erase 0 = .ok (.iconst 0, 1) := by decide +kernel
theorem d_M_erase_1 : decode b_M_erase 1 = .ok (.istore_n 2, 1) := by decide +kernel
theorem d_M_erase_2 : decode b_M_erase 2 = .ok (.iload_n 2, 1) := by decide +kernel
theorem d_M_erase_3 : decode b_M_erase 3 = .ok (.bipush 16, 2) := by decide +kernel
theorem d_M_erase_5 : decode b_M_erase 5 = .ok (.if_icmp .ge 23, 3) := by decide +kernel
theorem d_M_erase_8 : decode b_M_erase 8 = .ok (.aload_n 0, 1) := by decide +kernel
theorem d_M_erase_9 : decode b_M_erase 9 = .ok (.bipush 16, 2) := by decide +kernel
theorem d_M_erase_11 : decode b_M_erase 11 = .ok (.iload_n 1, 1) := by decide +kernel
theorem d_M_erase_12 : decode b_M_erase 12 = .ok (.imul, 1) := by decide +kernel
theorem d_M_erase_13 : decode b_M_erase 13 = .ok (.iload_n 2, 1) := by decide +kernel
theorem d_M_erase_14 : decode b_M_erase 14 = .ok (.iadd, 1) := by decide +kernel
theorem d_M_erase_15 : decode b_M_erase 15 = .ok (.iload_n 2, 1) := by decide +kernel
theorem d_M_erase_16 : decode b_M_erase 16 = .ok (.sipush 255, 3) := by decide +kernel
theorem d_M_erase_19 : decode b_M_erase 19 = .ok (.invokevirtual 53, 3) := by decide +kernel
theorem d_M_erase_22 : decode b_M_erase 22 = .ok (.iinc 2 1, 3) := by decide +kernel
theorem d_M_erase_25 : decode b_M_erase 25 = .ok (.goto (-23), 3) := by decide +kernel
theorem d_M_erase_28 : decode b_M_erase 28 = .ok (.aload_n 0, 1) := by decide +kernel
theorem d_M_erase_29 : decode b_M_erase 29 = .ok (.invokevirtual 57, 3) := by decide +kernel
theorem d_M_erase_32 : decode b_M_erase 32 = .ok (.ireturn, 1) := by decide +kernel
theorem d_M_boot_0 : decode b_M_boot 0 = .ok (.aload_n 0, 1) := by decide +kernel
theorem d_M_boot_1 : decode b_M_boot 1 = .ok (.aload_n 0, 1) := by decide +kernel
theorem d_M_boot_2 : decode b_M_boot 2 = .ok (.invokevirtual 61, 3) := by decide +kernel
theorem d_M_boot_5 : decode b_M_boot 5 = .ok (.putfield 65, 3) := by decide +kernel
theorem d_M_boot_8 : decode b_M_boot 8 = .ok (.aload_n 0, 1) := by decide +kernel
theorem d_M_boot_9 : decode b_M_boot 9 = .ok (.iconst 1, 1) := by decide +kernel
theorem d_M_boot_10 : decode b_M_boot 10 = .ok (.invokevirtual 68, 3) := by decide +kernel
theorem d_M_boot_13 : decode b_M_boot 13 = .ok (.aload_n 0, 1) := by decide +kernel
theorem d_M_boot_14 : decode b_M_boot 14 = .ok (.invokevirtual 72, 3) := by decide +kernel
theorem d_M_boot_17 : decode b_M_boot 17 = .ok (.aload_n 0, 1) := by decide +kernel
theorem d_M_boot_18 : decode b_M_boot 18 = .ok (.invokevirtual 75, 3) := by decide +kernel
theorem d_M_boot_21 : decode b_M_boot 21 = .ok (.aload_n 0, 1) := by decide +kernel
theorem d_M_boot_22 : decode b_M_boot 22 = .ok (.iconst (-1), 1) := by decide +kernel
theorem d_M_boot_23 : decode b_M_boot 23 = .ok (.putfield 78, 3) := by decide +kernel
theorem d_M_boot_26 : decode b_M_boot 26 = .ok (.aload_n 0, 1) := by decide +kernel
theorem d_M_boot_27 : decode b_M_boot 27 = .ok (.iconst 0, 1) := by decide +kernel
theorem d_M_boot_28 : decode b_M_boot 28 = .ok (.putfield 81, 3) := by decide +kernel
theorem d_M_boot_31 : decode b_M_boot 31 = .ok (.aload_n 0, 1) := by decide +kernel
theorem d_M_boot_32 : decode b_M_boot 32 = .ok (.iconst 0, 1) := by decide +kernel
theorem d_M_boot_33 : decode b_M_boot 33 = .ok (.putfield 84, 3) := by decide +kernel
theorem d_M_boot_36 : decode b_M_boot 36 = .ok (.aload_n 0, 1) := by decide +kernel
theorem d_M_boot_37 : decode b_M_boot 37 = .ok (.iconst 0, 1) := by decide +kernel
theorem d_M_boot_38 : decode b_M_boot 38 = .ok (.putfield 87, 3) := by decide +kernel
theorem d_M_boot_41 : decode b_M_boot 41 = .ok (.return_, 1) := by decide +kernel
theorem d_M_changeSession_0 : decode b_M_changeSession 0 = .ok (.aload_n 0, 1) := by decide +kernel
theorem d_M_changeSession_1 : decode b_M_changeSession 1 = .ok (.iload_n 1, 1) := by decide +kernel
theorem d_M_changeSession_2 : decode b_M_changeSession 2 = .ok (.putfield 90, 3) := by decide +kernel
theorem d_M_changeSession_5 : decode b_M_changeSession 5 = .ok (.aload_n 0, 1) := by decide +kernel
theorem d_M_changeSession_6 : decode b_M_changeSession 6 = .ok (.iconst 0, 1) := by decide +kernel
theorem d_M_changeSession_7 : decode b_M_changeSession 7 = .ok (.putfield 93, 3) := by decide +kernel
theorem d_M_changeSession_10 : decode b_M_changeSession 10 = .ok (.aload_n 0, 1) := by decide +kernel
theorem d_M_changeSession_11 : decode b_M_changeSession 11 = .ok (.iconst 0, 1) := by decide +kernel
theorem d_M_changeSession_12 : decode b_M_changeSession 12 = .ok (.putfield 96, 3) := by decide +kernel
theorem d_M_changeSession_15 : decode b_M_changeSession 15 = .ok (.aload_n 0, 1) := by decide +kernel
theorem d_M_changeSession_16 : decode b_M_changeSession 16 = .ok (.iconst (-1), 1) := by decide +kernel
theorem d_M_changeSession_17 : decode b_M_changeSession 17 = .ok (.putfield 13, 3) := by decide +kernel
theorem d_M_changeSession_20 : decode b_M_changeSession 20 = .ok (.return_, 1) := by decide +kernel
theorem d_M_dropRequest_0 : decode b_M_dropRequest 0 = .ok (.aload_n 0, 1) := by decide +kernel
theorem d_M_dropRequest_1 : decode b_M_dropRequest 1 = .ok (.iconst 0, 1) := by decide +kernel
theorem d_M_dropRequest_2 : decode b_M_dropRequest 2 = .ok (.putfield 99, 3) := by decide +kernel
theorem d_M_dropRequest_5 : decode b_M_dropRequest 5 = .ok (.aload_n 0, 1) := by decide +kernel
theorem d_M_dropRequest_6 : decode b_M_dropRequest 6 = .ok (.iconst 0, 1) := by decide +kernel
theorem d_M_dropRequest_7 : decode b_M_dropRequest 7 = .ok (.putfield 102, 3) := by decide +kernel
theorem d_M_dropRequest_10 : decode b_M_dropRequest 10 = .ok (.return_, 1) := by decide +kernel
theorem d_M_dropAnswer_0 : decode b_M_dropAnswer 0 = .ok (.aload_n 0, 1) := by decide +kernel
theorem d_M_dropAnswer_1 : decode b_M_dropAnswer 1 = .ok (.iconst 0, 1) := by decide +kernel
theorem d_M_dropAnswer_2 : decode b_M_dropAnswer 2 = .ok (.putfield 105, 3) := by decide +kernel
theorem d_M_dropAnswer_5 : decode b_M_dropAnswer 5 = .ok (.aload_n 0, 1) := by decide +kernel
theorem d_M_dropAnswer_6 : decode b_M_dropAnswer 6 = .ok (.iconst 0, 1) := by decide +kernel
theorem d_M_dropAnswer_7 : decode b_M_dropAnswer 7 = .ok (.putfield 108, 3) := by decide +kernel
theorem d_M_dropAnswer_10 : decode b_M_dropAnswer 10 = .ok (.return_, 1) := by decide +kernel
theorem d_M_restart_0 : decode b_M_restart 0 = .ok (.aload_n 0, 1) := by decide +kernel
theorem d_M_restart_1 : decode b_M_restart 1 = .ok (.invokevirtual 33, 3) := by decide +kernel
theorem d_M_restart_4 : decode b_M_restart 4 = .ok (.aload_n 0, 1) := by decide +kernel
theorem d_M_restart_5 : decode b_M_restart 5 = .ok (.iconst 0, 1) := by decide +kernel
theorem d_M_restart_6 : decode b_M_restart 6 = .ok (.putfield 36, 3) := by decide +kernel
theorem d_M_restart_9 : decode b_M_restart 9 = .ok (.return_, 1) := by decide +kernel
theorem d_M_cut_0 : decode b_M_cut 0 = .ok (.aload_n 0, 1) := by decide +kernel
theorem d_M_cut_1 : decode b_M_cut 1 = .ok (.iconst 1, 1) := by decide +kernel
theorem d_M_cut_2 : decode b_M_cut 2 = .ok (.putfield 46, 3) := by decide +kernel
theorem d_M_cut_5 : decode b_M_cut 5 = .ok (.aload_n 0, 1) := by decide +kernel
theorem d_M_cut_6 : decode b_M_cut 6 = .ok (.iload_n 1, 1) := by decide +kernel
theorem d_M_cut_7 : decode b_M_cut 7 = .ok (.putfield 50, 3) := by decide +kernel
theorem d_M_cut_10 : decode b_M_cut 10 = .ok (.return_, 1) := by decide +kernel
theorem d_M_toCome_0 : decode b_M_toCome 0 = .ok (.aload_n 0, 1) := by decide +kernel
theorem d_M_toCome_1 : decode b_M_toCome 1 = .ok (.getfield 13, 3) := by decide +kernel
theorem d_M_toCome_4 : decode b_M_toCome 4 = .ok (.ifCond .ge 7, 3) := by decide +kernel
theorem d_M_toCome_7 : decode b_M_toCome 7 = .ok (.iconst (-1), 1) := by decide +kernel
theorem d_M_toCome_8 : decode b_M_toCome 8 = .ok (.goto 12, 3) := by decide +kernel
theorem d_M_toCome_11 : decode b_M_toCome 11 = .ok (.aload_n 0, 1) := by decide +kernel
theorem d_M_toCome_12 : decode b_M_toCome 12 = .ok (.getfield 111, 3) := by decide +kernel
theorem d_M_toCome_15 : decode b_M_toCome 15 = .ok (.aload_n 0, 1) := by decide +kernel
theorem d_M_toCome_16 : decode b_M_toCome 16 = .ok (.getfield 114, 3) := by decide +kernel
theorem d_M_toCome_19 : decode b_M_toCome 19 = .ok (.isub, 1) := by decide +kernel
theorem d_M_toCome_20 : decode b_M_toCome 20 = .ok (.ireturn, 1) := by decide +kernel
theorem d_M_emit_0 : decode b_M_emit 0 = .ok (.aload_n 0, 1) := by decide +kernel
theorem d_M_emit_1 : decode b_M_emit 1 = .ok (.getfield 105, 3) := by decide +kernel
theorem d_M_emit_4 : decode b_M_emit 4 = .ok (.aload_n 0, 1) := by decide +kernel
theorem d_M_emit_5 : decode b_M_emit 5 = .ok (.getfield 108, 3) := by decide +kernel
theorem d_M_emit_8 : decode b_M_emit 8 = .ok (.isub, 1) := by decide +kernel
theorem d_M_emit_9 : decode b_M_emit 9 = .ok (.iload_n 3, 1) := by decide +kernel
theorem d_M_emit_10 : decode b_M_emit 10 = .ok (.if_icmp .ge 15, 3) := by decide +kernel
theorem d_M_emit_13 : decode b_M_emit 13 = .ok (.aload_n 0, 1) := by decide +kernel
theorem d_M_emit_14 : decode b_M_emit 14 = .ok (.getfield 105, 3) := by decide +kernel
theorem d_M_emit_17 : decode b_M_emit 17 = .ok (.aload_n 0, 1) := by decide +kernel
theorem d_M_emit_18 : decode b_M_emit 18 = .ok (.getfield 108, 3) := by decide +kernel
theorem d_M_emit_21 : decode b_M_emit 21 = .ok (.isub, 1) := by decide +kernel
theorem d_M_emit_22 : decode b_M_emit 22 = .ok (.goto 4, 3) := by decide +kernel
theorem d_M_emit_25 : decode b_M_emit 25 = .ok (.iload_n 3, 1) := by decide +kernel
theorem d_M_emit_26 : decode b_M_emit 26 = .ok (.istore 4, 2) := by decide +kernel
theorem d_M_emit_28 : decode b_M_emit 28 = .ok (.aload_n 0, 1) := by decide +kernel
theorem d_M_emit_29 : decode b_M_emit 29 = .ok (.getfield 36, 3) := by decide +kernel
theorem d_M_emit_32 : decode b_M_emit 32 = .ok (.bipush 12, 2) := by decide +kernel
theorem d_M_emit_34 : decode b_M_emit 34 = .ok (.if_icmp .ge 118, 3) := by decide +kernel
theorem d_M_emit_37 : decode b_M_emit 37 = .ok (.iconst 0, 1) := by decide +kernel
theorem d_M_emit_38 : decode b_M_emit 38 = .ok (.istore 5, 2) := by decide +kernel
theorem d_M_emit_40 : decode b_M_emit 40 = .ok (.iload 5, 2) := by decide +kernel
theorem d_M_emit_42 : decode b_M_emit 42 = .ok (.bipush 8, 2) := by decide +kernel
theorem d_M_emit_44 : decode b_M_emit 44 = .ok (.if_icmp .ge 25, 3) := by decide +kernel
theorem d_M_emit_47 : decode b_M_emit 47 = .ok (.aload_n 0, 1) := by decide +kernel
theorem d_M_emit_48 : decode b_M_emit 48 = .ok (.getfield 23, 3) := by decide +kernel
theorem d_M_emit_51 : decode b_M_emit 51 = .ok (.bipush 8, 2) := by decide +kernel
theorem d_M_emit_53 : decode b_M_emit 53 = .ok (.aload_n 0, 1) := by decide +kernel
theorem d_M_emit_54 : decode b_M_emit 54 = .ok (.getfield 36, 3) := by decide +kernel
theorem d_M_emit_57 : decode b_M_emit 57 = .ok (.imul, 1) := by decide +kernel
theorem d_M_emit_58 : decode b_M_emit 58 = .ok (.iload 5, 2) := by decide +kernel
theorem d_M_emit_60 : decode b_M_emit 60 = .ok (.iadd, 1) := by decide +kernel
theorem d_M_emit_61 : decode b_M_emit 61 = .ok (.iconst 0, 1) := by decide +kernel
theorem d_M_emit_62 : decode b_M_emit 62 = .ok (.iastore, 1) := by decide +kernel
theorem d_M_emit_63 : decode b_M_emit 63 = .ok (.iinc 5 1, 3) := by decide +kernel
theorem d_M_emit_66 : decode b_M_emit 66 = .ok (.goto (-26), 3) := by decide +kernel
theorem d_M_emit_69 : decode b_M_emit 69 = .ok (.bipush 8, 2) := by decide +kernel
theorem d_M_emit_71 : decode b_M_emit 71 = .ok (.aload_n 0, 1) := by decide +kernel
theorem d_M_emit_72 : decode b_M_emit 72 = .ok (.getfield 36, 3) := by decide +kernel
theorem d_M_emit_75 : decode b_M_emit 75 = .ok (.imul, 1) := by decide +kernel
theorem d_M_emit_76 : decode b_M_emit 76 = .ok (.istore 5, 2) := by decide +kernel
theorem d_M_emit_78 : decode b_M_emit 78 = .ok (.aload_n 0, 1) := by decide +kernel
theorem d_M_emit_79 : decode b_M_emit 79 = .ok (.getfield 23, 3) := by decide +kernel
theorem d_M_emit_82 : decode b_M_emit 82 = .ok (.iload 5, 2) := by decide +kernel
theorem d_M_emit_84 : decode b_M_emit 84 = .ok (.iload_n 1, 1) := by decide +kernel
theorem d_M_emit_85 : decode b_M_emit 85 = .ok (.iastore, 1) := by decide +kernel
theorem d_M_emit_86 : decode b_M_emit 86 = .ok (.iinc 5 1, 3) := by decide +kernel
theorem d_M_emit_89 : decode b_M_emit 89 = .ok (.iload_n 2, 1) := by decide +kernel
theorem d_M_emit_90 : decode b_M_emit 90 = .ok (.ifCond .lt 14, 3) := by decide +kernel
theorem d_M_emit_93 : decode b_M_emit 93 = .ok (.aload_n 0, 1) := by decide +kernel
theorem d_M_emit_94 : decode b_M_emit 94 = .ok (.getfield 23, 3) := by decide +kernel
theorem d_M_emit_97 : decode b_M_emit 97 = .ok (.iload 5, 2) := by decide +kernel
theorem d_M_emit_99 : decode b_M_emit 99 = .ok (.iload_n 2, 1) := by decide +kernel
theorem d_M_emit_100 : decode b_M_emit 100 = .ok (.iastore, 1) := by decide +kernel
theorem d_M_emit_101 : decode b_M_emit 101 = .ok (.iinc 5 1, 3) := by decide +kernel
theorem d_M_emit_104 : decode b_M_emit 104 = .ok (.iconst 0, 1) := by decide +kernel
theorem d_M_emit_105 : decode b_M_emit 105 = .ok (.istore 6, 2) := by decide +kernel
theorem d_M_emit_107 : decode b_M_emit 107 = .ok (.iload 6, 2) := by decide +kernel
theorem d_M_emit_109 : decode b_M_emit 109 = .ok (.iload 4, 2) := by decide +kernel
theorem d_M_emit_111 : decode b_M_emit 111 = .ok (.if_icmp .ge 31, 3) := by decide +kernel
theorem d_M_emit_114 : decode b_M_emit 114 = .ok (.aload_n 0, 1) := by decide +kernel
theorem d_M_emit_115 : decode b_M_emit 115 = .ok (.getfield 23, 3) := by decide +kernel
theorem d_M_emit_118 : decode b_M_emit 118 = .ok (.iload 5, 2) := by decide +kernel
theorem d_M_emit_120 : decode b_M_emit 120 = .ok (.iload 6, 2) := by decide +kernel
theorem d_M_emit_122 : decode b_M_emit 122 = .ok (.iadd, 1) := by decide +kernel
theorem d_M_emit_123 : decode b_M_emit 123 = .ok (.aload_n 0, 1) := by decide +kernel
theorem d_M_emit_124 : decode b_M_emit 124 = .ok (.getfield 20, 3) := by decide +kernel
theorem d_M_emit_127 : decode b_M_emit 127 = .ok (.aload_n 0, 1) := by decide +kernel
theorem d_M_emit_128 : decode b_M_emit 128 = .ok (.getfield 108, 3) := by decide +kernel
theorem d_M_emit_131 : decode b_M_emit 131 = .ok (.iload 6, 2) := by decide +kernel
theorem d_M_emit_133 : decode b_M_emit 133 = .ok (.iadd, 1) := by decide +kernel
theorem d_M_emit_134 : decode b_M_emit 134 = .ok (.iaload, 1) := by decide +kernel
theorem d_M_emit_135 : decode b_M_emit 135 = .ok (.iastore, 1) := by decide +kernel
theorem d_M_emit_136 : decode b_M_emit 136 = .ok (.iinc 6 1, 3) := by decide +kernel
theorem d_M_emit_139 : decode b_M_emit 139 = .ok (.goto (-32), 3) := by decide +kernel
theorem d_M_emit_142 : decode b_M_emit 142 = .ok (.aload_n 0, 1) := by decide +kernel
theorem d_M_emit_143 : decode b_M_emit 143 = .ok (.dup, 1) := by decide +kernel
theorem d_M_emit_144 : decode b_M_emit 144 = .ok (.getfield 36, 3) := by decide +kernel
theorem d_M_emit_147 : decode b_M_emit 147 = .ok (.iconst 1, 1) := by decide +kernel
theorem d_M_emit_148 : decode b_M_emit 148 = .ok (.iadd, 1) := by decide +kernel
theorem d_M_emit_149 : decode b_M_emit 149 = .ok (.putfield 36, 3) := by decide +kernel
theorem d_M_emit_152 : decode b_M_emit 152 = .ok (.aload_n 0, 1) := by decide +kernel
theorem d_M_emit_153 : decode b_M_emit 153 = .ok (.dup, 1) := by decide +kernel
theorem d_M_emit_154 : decode b_M_emit 154 = .ok (.getfield 108, 3) := by decide +kernel
theorem d_M_emit_157 : decode b_M_emit 157 = .ok (.iload 4, 2) := by decide +kernel
theorem d_M_emit_159 : decode b_M_emit 159 = .ok (.iadd, 1) := by decide +kernel
theorem d_M_emit_160 : decode b_M_emit 160 = .ok (.putfield 108, 3) := by decide +kernel
theorem d_M_emit_163 : decode b_M_emit 163 = .ok (.return_, 1) := by decide +kernel
theorem d_M_askMore_0 : decode b_M_askMore 0 = .ok (.aload_n 0, 1) := by decide +kernel
theorem d_M_askMore_1 : decode b_M_askMore 1 = .ok (.invokevirtual 75, 3) := by decide +kernel
theorem d_M_askMore_4 : decode b_M_askMore 4 = .ok (.aload_n 0, 1) := by decide +kernel
theorem d_M_askMore_5 : decode b_M_askMore 5 = .ok (.bipush 48, 2) := by decide +kernel
theorem d_M_askMore_7 : decode b_M_askMore 7 = .ok (.iconst 2, 1) := by decide +kernel
theorem d_M_askMore_8 : decode b_M_askMore 8 = .ok (.iconst 0, 1) := by decide +kernel
theorem d_M_askMore_9 : decode b_M_askMore 9 = .ok (.invokevirtual 117, 3) := by decide +kernel
theorem d_M_askMore_12 : decode b_M_askMore 12 = .ok (.return_, 1) := by decide +kernel
theorem d_M_add_0 : decode b_M_add 0 = .ok (.aload_n 0, 1) := by decide +kernel
theorem d_M_add_1 : decode b_M_add 1 = .ok (.getfield 20, 3) := by decide +kernel
theorem d_M_add_4 : decode b_M_add 4 = .ok (.aload_n 0, 1) := by decide +kernel
theorem d_M_add_5 : decode b_M_add 5 = .ok (.getfield 105, 3) := by decide +kernel
theorem d_M_add_8 : decode b_M_add 8 = .ok (.iload_n 1, 1) := by decide +kernel
theorem d_M_add_9 : decode b_M_add 9 = .ok (.iastore, 1) := by decide +kernel
theorem d_M_add_10 : decode b_M_add 10 = .ok (.aload_n 0, 1) := by decide +kernel
theorem d_M_add_11 : decode b_M_add 11 = .ok (.dup, 1) := by decide +kernel
theorem d_M_add_12 : decode b_M_add 12 = .ok (.getfield 105, 3) := by decide +kernel
theorem d_M_add_15 : decode b_M_add 15 = .ok (.iconst 1, 1) := by decide +kernel
theorem d_M_add_16 : decode b_M_add 16 = .ok (.iadd, 1) := by decide +kernel
theorem d_M_add_17 : decode b_M_add 17 = .ok (.putfield 105, 3) := by decide +kernel
theorem d_M_add_20 : decode b_M_add 20 = .ok (.return_, 1) := by decide +kernel
theorem d_M_sendAnswer_0 : decode b_M_sendAnswer 0 = .ok (.aload_n 0, 1) := by decide +kernel
theorem d_M_sendAnswer_1 : decode b_M_sendAnswer 1 = .ok (.iconst 0, 1) := by decide +kernel
theorem d_M_sendAnswer_2 : decode b_M_sendAnswer 2 = .ok (.putfield 108, 3) := by decide +kernel
theorem d_M_sendAnswer_5 : decode b_M_sendAnswer 5 = .ok (.aload_n 0, 1) := by decide +kernel
theorem d_M_sendAnswer_6 : decode b_M_sendAnswer 6 = .ok (.iconst 0, 1) := by decide +kernel
theorem d_M_sendAnswer_7 : decode b_M_sendAnswer 7 = .ok (.putfield 120, 3) := by decide +kernel
theorem d_M_sendAnswer_10 : decode b_M_sendAnswer 10 = .ok (.aload_n 0, 1) := by decide +kernel
theorem d_M_sendAnswer_11 : decode b_M_sendAnswer 11 = .ok (.iconst 0, 1) := by decide +kernel
theorem d_M_sendAnswer_12 : decode b_M_sendAnswer 12 = .ok (.putfield 123, 3) := by decide +kernel
theorem d_M_sendAnswer_15 : decode b_M_sendAnswer 15 = .ok (.aload_n 0, 1) := by decide +kernel
theorem d_M_sendAnswer_16 : decode b_M_sendAnswer 16 = .ok (.getfield 105, 3) := by decide +kernel
theorem d_M_sendAnswer_19 : decode b_M_sendAnswer 19 = .ok (.bipush 7, 2) := by decide +kernel
theorem d_M_sendAnswer_21 : decode b_M_sendAnswer 21 = .ok (.if_icmp .gt 17, 3) := by decide +kernel
theorem d_M_sendAnswer_24 : decode b_M_sendAnswer 24 = .ok (.aload_n 0, 1) := by decide +kernel
theorem d_M_sendAnswer_25 : decode b_M_sendAnswer 25 = .ok (.aload_n 0, 1) := by decide +kernel
theorem d_M_sendAnswer_26 : decode b_M_sendAnswer 26 = .ok (.getfield 105, 3) := by decide +kernel
theorem d_M_sendAnswer_29 : decode b_M_sendAnswer 29 = .ok (.iconst (-1), 1) := by decide +kernel
theorem d_M_sendAnswer_30 : decode b_M_sendAnswer 30 = .ok (.bipush 7, 2) := by decide +kernel
theorem d_M_sendAnswer_32 : decode b_M_sendAnswer 32 = .ok (.invokevirtual 117, 3) := by decide +kernel
theorem d_M_sendAnswer_35 : decode b_M_sendAnswer 35 = .ok (.goto 15, 3) := by decide +kernel
theorem d_M_sendAnswer_38 : decode b_M_sendAnswer 38 = .ok (.aload_n 0, 1) := by decide +kernel
theorem d_M_sendAnswer_39 : decode b_M_sendAnswer 39 = .ok (.bipush 16, 2) := by decide +kernel
theorem d_M_sendAnswer_41 : decode b_M_sendAnswer 41 = .ok (.aload_n 0, 1) := by decide +kernel
theorem d_M_sendAnswer_42 : decode b_M_sendAnswer 42 = .ok (.getfield 105, 3) := by decide +kernel
theorem d_M_sendAnswer_45 : decode b_M_sendAnswer 45 = .ok (.bipush 6, 2) := by decide +kernel
theorem d_M_sendAnswer_47 : decode b_M_sendAnswer 47 = .ok (.invokevirtual 117, 3) := by decide +kernel
theorem d_M_sendAnswer_50 : decode b_M_sendAnswer 50 = .ok (.aload_n 0, 1) := by decide +kernel
theorem d_M_sendAnswer_51 : decode b_M_sendAnswer 51 = .ok (.getfield 108, 3) := by decide +kernel
theorem d_M_sendAnswer_54 : decode b_M_sendAnswer 54 = .ok (.aload_n 0, 1) := by decide +kernel
theorem d_M_sendAnswer_55 : decode b_M_sendAnswer 55 = .ok (.getfield 105, 3) := by decide +kernel
theorem d_M_sendAnswer_58 : decode b_M_sendAnswer 58 = .ok (.if_icmp .ne 7, 3) := by decide +kernel
theorem d_M_sendAnswer_61 : decode b_M_sendAnswer 61 = .ok (.aload_n 0, 1) := by decide +kernel
theorem d_M_sendAnswer_62 : decode b_M_sendAnswer 62 = .ok (.invokevirtual 75, 3) := by decide +kernel
theorem d_M_sendAnswer_65 : decode b_M_sendAnswer 65 = .ok (.return_, 1) := by decide +kernel
theorem d_M_sendMore_0 : decode b_M_sendMore 0 = .ok (.iconst 0, 1) := by decide +kernel
theorem d_M_sendMore_1 : decode b_M_sendMore 1 = .ok (.istore_n 2, 1) := by decide +kernel
theorem d_M_sendMore_2 : decode b_M_sendMore 2 = .ok (.aload_n 0, 1) := by decide +kernel
theorem d_M_sendMore_3 : decode b_M_sendMore 3 = .ok (.getfield 108, 3) := by decide +kernel
theorem d_M_sendMore_6 : decode b_M_sendMore 6 = .ok (.aload_n 0, 1) := by decide +kernel
theorem d_M_sendMore_7 : decode b_M_sendMore 7 = .ok (.getfield 105, 3) := by decide +kernel
theorem d_M_sendMore_10 : decode b_M_sendMore 10 = .ok (.if_icmp .ge 45, 3) := by decide +kernel
theorem d_M_sendMore_13 : decode b_M_sendMore 13 = .ok (.iload_n 1, 1) := by decide +kernel
theorem d_M_sendMore_14 : decode b_M_sendMore 14 = .ok (.ifCond .eq 8, 3) := by decide +kernel
theorem d_M_sendMore_17 : decode b_M_sendMore 17 = .ok (.iload_n 2, 1) := by decide +kernel
theorem d_M_sendMore_18 : decode b_M_sendMore 18 = .ok (.iload_n 1, 1) := by decide +kernel
theorem d_M_sendMore_19 : decode b_M_sendMore 19 = .ok (.if_icmp .ge 36, 3) := by decide +kernel
theorem d_M_sendMore_22 : decode b_M_sendMore 22 = .ok (.aload_n 0, 1) := by decide +kernel
theorem d_M_sendMore_23 : decode b_M_sendMore 23 = .ok (.aload_n 0, 1) := by decide +kernel
theorem d_M_sendMore_24 : decode b_M_sendMore 24 = .ok (.getfield 120, 3) := by decide +kernel
theorem d_M_sendMore_27 : decode b_M_sendMore 27 = .ok (.iconst 1, 1) := by decide +kernel
theorem d_M_sendMore_28 : decode b_M_sendMore 28 = .ok (.iadd, 1) := by decide +kernel
theorem d_M_sendMore_29 : decode b_M_sendMore 29 = .ok (.bipush 16, 2) := by decide +kernel
theorem d_M_sendMore_31 : decode b_M_sendMore 31 = .ok (.irem, 1) := by decide +kernel
theorem d_M_sendMore_32 : decode b_M_sendMore 32 = .ok (.putfield 120, 3) := by decide +kernel
theorem d_M_sendMore_35 : decode b_M_sendMore 35 = .ok (.aload_n 0, 1) := by decide +kernel
theorem d_M_sendMore_36 : decode b_M_sendMore 36 = .ok (.bipush 32, 2) := by decide +kernel
theorem d_M_sendMore_38 : decode b_M_sendMore 38 = .ok (.aload_n 0, 1) := by decide +kernel
theorem d_M_sendMore_39 : decode b_M_sendMore 39 = .ok (.getfield 120, 3) := by decide +kernel
theorem d_M_sendMore_42 : decode b_M_sendMore 42 = .ok (.iadd, 1) := by decide +kernel
theorem d_M_sendMore_43 : decode b_M_sendMore 43 = .ok (.iconst (-1), 1) := by decide +kernel
theorem d_M_sendMore_44 : decode b_M_sendMore 44 = .ok (.bipush 7, 2) := by decide +kernel
theorem d_M_sendMore_46 : decode b_M_sendMore 46 = .ok (.invokevirtual 117, 3) := by decide +kernel
theorem d_M_sendMore_49 : decode b_M_sendMore 49 = .ok (.iinc 2 1, 3) := by decide +kernel
theorem d_M_sendMore_52 : decode b_M_sendMore 52 = .ok (.goto (-50), 3) := by decide +kernel
theorem d_M_sendMore_55 : decode b_M_sendMore 55 = .ok (.aload_n 0, 1) := by decide +kernel
theorem d_M_sendMore_56 : decode b_M_sendMore 56 = .ok (.iconst 0, 1) := by decide +kernel
theorem d_M_sendMore_57 : decode b_M_sendMore 57 = .ok (.putfield 123, 3) := by decide +kernel
theorem d_M_sendMore_60 : decode b_M_sendMore 60 = .ok (.aload_n 0, 1) := by decide +kernel
theorem d_M_sendMore_61 : decode b_M_sendMore 61 = .ok (.getfield 108, 3) := by decide +kernel
theorem d_M_sendMore_64 : decode b_M_sendMore 64 = .ok (.aload_n 0, 1) := by decide +kernel
theorem d_M_sendMore_65 : decode b_M_sendMore 65 = .ok (.getfield 105, 3) := by decide +kernel
theorem d_M_sendMore_68 : decode b_M_sendMore 68 = .ok (.if_icmp .ne 7, 3) := by decide +kernel
theorem d_M_sendMore_71 : decode b_M_sendMore 71 = .ok (.aload_n 0, 1) := by decide +kernel
theorem d_M_sendMore_72 : decode b_M_sendMore 72 = .ok (.invokevirtual 75, 3) := by decide +kernel
theorem d_M_sendMore_75 : decode b_M_sendMore 75 = .ok (.return_, 1) := by decide +kernel
theorem d_M_isService_0 : decode b_M_isService 0 = .ok (.iload_n 1, 1) := by decide +kernel
theorem d_M_isService_1 : decode b_M_isService 1 = .ok (.bipush 16, 2) := by decide +kernel
theorem d_M_isService_3 : decode b_M_isService 3 = .ok (.if_icmp .eq 57, 3) := by decide +kernel
theorem d_M_isService_6 : decode b_M_isService 6 = .ok (.iload_n 1, 1) := by decide +kernel
theorem d_M_isService_7 : decode b_M_isService 7 = .ok (.bipush 62, 2) := by decide +kernel
theorem d_M_isService_9 : decode b_M_isService 9 = .ok (.if_icmp .eq 51, 3) := by decide +kernel
theorem d_M_isService_12 : decode b_M_isService 12 = .ok (.iload_n 1, 1) := by decide +kernel
theorem d_M_isService_13 : decode b_M_isService 13 = .ok (.bipush 17, 2) := by decide +kernel
theorem d_M_isService_15 : decode b_M_isService 15 = .ok (.if_icmp .eq 45, 3) := by decide +kernel
theorem d_M_isService_18 : decode b_M_isService 18 = .ok (.iload_n 1, 1) := by decide +kernel
theorem d_M_isService_19 : decode b_M_isService 19 = .ok (.bipush 39, 2) := by decide +kernel
theorem d_M_isService_21 : decode b_M_isService 21 = .ok (.if_icmp .eq 39, 3) := by decide +kernel
theorem d_M_isService_24 : decode b_M_isService 24 = .ok (.iload_n 1, 1) := by decide +kernel
theorem d_M_isService_25 : decode b_M_isService 25 = .ok (.bipush 34, 2) := by decide +kernel
theorem d_M_isService_27 : decode b_M_isService 27 = .ok (.if_icmp .eq 33, 3) := by decide +kernel
theorem d_M_isService_30 : decode b_M_isService 30 = .ok (.iload_n 1, 1) := by decide +kernel
theorem d_M_isService_31 : decode b_M_isService 31 = .ok (.bipush 46, 2) := by decide +kernel
theorem d_M_isService_33 : decode b_M_isService 33 = .ok (.if_icmp .eq 27, 3) := by decide +kernel
theorem d_M_isService_36 : decode b_M_isService 36 = .ok (.iload_n 1, 1) := by decide +kernel
theorem d_M_isService_37 : decode b_M_isService 37 = .ok (.bipush 49, 2) := by decide +kernel
theorem d_M_isService_39 : decode b_M_isService 39 = .ok (.if_icmp .eq 21, 3) := by decide +kernel
theorem d_M_isService_42 : decode b_M_isService 42 = .ok (.iload_n 1, 1) := by decide +kernel
theorem d_M_isService_43 : decode b_M_isService 43 = .ok (.bipush 52, 2) := by decide +kernel
theorem d_M_isService_45 : decode b_M_isService 45 = .ok (.if_icmp .eq 15, 3) := by decide +kernel
theorem d_M_isService_48 : decode b_M_isService 48 = .ok (.iload_n 1, 1) := by decide +kernel
theorem d_M_isService_49 : decode b_M_isService 49 = .ok (.bipush 54, 2) := by decide +kernel
theorem d_M_isService_51 : decode b_M_isService 51 = .ok (.if_icmp .eq 9, 3) := by decide +kernel
theorem d_M_isService_54 : decode b_M_isService 54 = .ok (.iload_n 1, 1) := by decide +kernel
theorem d_M_isService_55 : decode b_M_isService 55 = .ok (.bipush 55, 2) := by decide +kernel
theorem d_M_isService_57 : decode b_M_isService 57 = .ok (.if_icmp .ne 7, 3) := by decide +kernel
theorem d_M_isService_60 : decode b_M_isService 60 = .ok (.iconst 1, 1) := by decide +kernel
theorem d_M_isService_61 : decode b_M_isService 61 = .ok (.goto 4, 3) := by decide +kernel
theorem d_M_isService_64 : decode b_M_isService 64 = .ok (.iconst 0, 1) := by decide +kernel
theorem d_M_isService_65 : decode b_M_isService 65 = .ok (.ireturn, 1) := by decide +kernel
theorem d_M_isLong_0 : decode b_M_isLong 0 = .ok (.iload_n 1, 1) := by decide +kernel
theorem d_M_isLong_1 : decode b_M_isLong 1 = .ok (.tableswitch 207 39 55 #[83, 207, 207, 207, 207, 207, 207, 119, 207, 207, 133, 207, 207, 119, 207, 170, 193], 83) := by decide +kernel
theorem d_M_isLong_84 : decode b_M_isLong 84 = .ok (.aload_n 0, 1) := by decide +kernel
theorem d_M_isLong_85 : decode b_M_isLong 85 = .ok (.getfield 102, 3) := by decide +kernel
theorem d_M_isLong_88 : decode b_M_isLong 88 = .ok (.aload_n 0, 1) := by decide +kernel
theorem d_M_isLong_89 : decode b_M_isLong 89 = .ok (.getfield 102, 3) := by decide +kernel
theorem d_M_isLong_92 : decode b_M_isLong 92 = .ok (.iconst 1, 1) := by decide +kernel
theorem d_M_isLong_93 : decode b_M_isLong 93 = .ok (.if_icmp .le 17, 3) := by decide +kernel
theorem d_M_isLong_96 : decode b_M_isLong 96 = .ok (.aload_n 0, 1) := by decide +kernel
theorem d_M_isLong_97 : decode b_M_isLong 97 = .ok (.getfield 17, 3) := by decide +kernel
theorem d_M_isLong_100 : decode b_M_isLong 100 = .ok (.iconst 1, 1) := by decide +kernel
theorem d_M_isLong_101 : decode b_M_isLong 101 = .ok (.iaload, 1) := by decide +kernel
theorem d_M_isLong_102 : decode b_M_isLong 102 = .ok (.iconst 2, 1) := by decide +kernel
theorem d_M_isLong_103 : decode b_M_isLong 103 = .ok (.if_icmp .ne 7, 3) := by decide +kernel
theorem d_M_isLong_106 : decode b_M_isLong 106 = .ok (.iconst 3, 1) := by decide +kernel
theorem d_M_isLong_107 : decode b_M_isLong 107 = .ok (.goto 4, 3) := by decide +kernel
theorem d_M_isLong_110 : decode b_M_isLong 110 = .ok (.iconst 2, 1) := by decide +kernel
theorem d_M_isLong_111 : decode b_M_isLong 111 = .ok (.if_icmp .ne 7, 3) := by decide +kernel
theorem d_M_isLong_114 : decode b_M_isLong 114 = .ok (.iconst 1, 1) := by decide +kernel
theorem d_M_isLong_115 : decode b_M_isLong 115 = .ok (.goto 4, 3) := by decide +kernel
theorem d_M_isLong_118 : decode b_M_isLong 118 = .ok (.iconst 0, 1) := by decide +kernel
theorem d_M_isLong_119 : decode b_M_isLong 119 = .ok (.ireturn, 1) := by decide +kernel
theorem d_M_isLong_120 : decode b_M_isLong 120 = .ok (.aload_n 0, 1) := by decide +kernel
theorem d_M_isLong_121 : decode b_M_isLong 121 = .ok (.getfield 102, 3) := by decide +kernel
theorem d_M_isLong_124 : decode b_M_isLong 124 = .ok (.iconst 3, 1) := by decide +kernel
theorem d_M_isLong_125 : decode b_M_isLong 125 = .ok (.if_icmp .ne 7, 3) := by decide +kernel
theorem d_M_isLong_128 : decode b_M_isLong 128 = .ok (.iconst 1, 1) := by decide +kernel
theorem d_M_isLong_129 : decode b_M_isLong 129 = .ok (.goto 4, 3) := by decide +kernel
theorem d_M_isLong_132 : decode b_M_isLong 132 = .ok (.iconst 0, 1) := by decide +kernel
theorem d_M_isLong_133 : decode b_M_isLong 133 = .ok (.ireturn, 1) := by decide +kernel
theorem d_M_isLong_134 : decode b_M_isLong 134 = .ok (.aload_n 0, 1) := by decide +kernel
theorem d_M_isLong_135 : decode b_M_isLong 135 = .ok (.getfield 102, 3) := by decide +kernel
theorem d_M_isLong_138 : decode b_M_isLong 138 = .ok (.aload_n 0, 1) := by decide +kernel
theorem d_M_isLong_139 : decode b_M_isLong 139 = .ok (.getfield 102, 3) := by decide +kernel
theorem d_M_isLong_142 : decode b_M_isLong 142 = .ok (.iconst 2, 1) := by decide +kernel
theorem d_M_isLong_143 : decode b_M_isLong 143 = .ok (.if_icmp .le 18, 3) := by decide +kernel
theorem d_M_isLong_146 : decode b_M_isLong 146 = .ok (.aload_n 0, 1) := by decide +kernel
theorem d_M_isLong_147 : decode b_M_isLong 147 = .ok (.getfield 17, 3) := by decide +kernel
theorem d_M_isLong_150 : decode b_M_isLong 150 = .ok (.iconst 2, 1) := by decide +kernel
theorem d_M_isLong_151 : decode b_M_isLong 151 = .ok (.iaload, 1) := by decide +kernel
theorem d_M_isLong_152 : decode b_M_isLong 152 = .ok (.iconst 2, 1) := by decide +kernel
theorem d_M_isLong_153 : decode b_M_isLong 153 = .ok (.if_icmp .ne 8, 3) := by decide +kernel
theorem d_M_isLong_156 : decode b_M_isLong 156 = .ok (.bipush 6, 2) := by decide +kernel
theorem d_M_isLong_158 : decode b_M_isLong 158 = .ok (.goto 4, 3) := by decide +kernel
theorem d_M_isLong_161 : decode b_M_isLong 161 = .ok (.iconst 4, 1) := by decide +kernel
theorem d_M_isLong_162 : decode b_M_isLong 162 = .ok (.if_icmp .ne 7, 3) := by decide +kernel
theorem d_M_isLong_165 : decode b_M_isLong 165 = .ok (.iconst 1, 1) := by decide +kernel
theorem d_M_isLong_166 : decode b_M_isLong 166 = .ok (.goto 4, 3) := by decide +kernel
theorem d_M_isLong_169 : decode b_M_isLong 169 = .ok (.iconst 0, 1) := by decide +kernel
theorem d_M_isLong_170 : decode b_M_isLong 170 = .ok (.ireturn, 1) := by decide +kernel
theorem d_M_isLong_171 : decode b_M_isLong 171 = .ok (.aload_n 0, 1) := by decide +kernel
theorem d_M_isLong_172 : decode b_M_isLong 172 = .ok (.getfield 102, 3) := by decide +kernel
theorem d_M_isLong_175 : decode b_M_isLong 175 = .ok (.iconst 3, 1) := by decide +kernel
theorem d_M_isLong_176 : decode b_M_isLong 176 = .ok (.if_icmp .lt 16, 3) := by decide +kernel
theorem d_M_isLong_179 : decode b_M_isLong 179 = .ok (.aload_n 0, 1) := by decide +kernel
theorem d_M_isLong_180 : decode b_M_isLong 180 = .ok (.getfield 102, 3) := by decide +kernel
theorem d_M_isLong_183 : decode b_M_isLong 183 = .ok (.bipush 10, 2) := by decide +kernel
theorem d_M_isLong_185 : decode b_M_isLong 185 = .ok (.if_icmp .gt 7, 3) := by decide +kernel
theorem d_M_isLong_188 : decode b_M_isLong 188 = .ok (.iconst 1, 1) := by decide +kernel
theorem d_M_isLong_189 : decode b_M_isLong 189 = .ok (.goto 4, 3) := by decide +kernel
theorem d_M_isLong_192 : decode b_M_isLong 192 = .ok (.iconst 0, 1) := by decide +kernel
theorem d_M_isLong_193 : decode b_M_isLong 193 = .ok (.ireturn, 1) := by decide +kernel
theorem d_M_isLong_194 : decode b_M_isLong 194 = .ok (.aload_n 0, 1) := by decide +kernel
theorem d_M_isLong_195 : decode b_M_isLong 195 = .ok (.getfield 102, 3) := by decide +kernel
theorem d_M_isLong_198 : decode b_M_isLong 198 = .ok (.iconst 1, 1) := by decide +kernel
theorem d_M_isLong_199 : decode b_M_isLong 199 = .ok (.if_icmp .ne 7, 3) := by decide +kernel
theorem d_M_isLong_202 : decode b_M_isLong 202 = .ok (.iconst 1, 1) := by decide +kernel
theorem d_M_isLong_203 : decode b_M_isLong 203 = .ok (.goto 4, 3) := by decide +kernel
theorem d_M_isLong_206 : decode b_M_isLong 206 = .ok (.iconst 0, 1) := by decide +kernel
theorem d_M_isLong_207 : decode b_M_isLong 207 = .ok (.ireturn, 1) := by decide +kernel
theorem d_M_isLong_208 : decode b_M_isLong 208 = .ok (.aload_n 0, 1) := by decide +kernel
theorem d_M_isLong_209 : decode b_M_isLong 209 = .ok (.getfield 102, 3) := by decide +kernel
theorem d_M_isLong_212 : decode b_M_isLong 212 = .ok (.iconst 2, 1) := by decide +kernel
theorem d_M_isLong_213 : decode b_M_isLong 213 = .ok (.if_icmp .ne 7, 3) := by decide +kernel
theorem d_M_isLong_216 : decode b_M_isLong 216 = .ok (.iconst 1, 1) := by decide +kernel
theorem d_M_isLong_217 : decode b_M_isLong 217 = .ok (.goto 4, 3) := by decide +kernel
theorem d_M_isLong_220 : decode b_M_isLong 220 = .ok (.iconst 0, 1) := by decide +kernel
theorem d_M_isLong_221 : decode b_M_isLong 221 = .ok (.ireturn, 1) := by decide +kernel
theorem d_M_hasPart_0 : decode b_M_hasPart 0 = .ok (.aload_n 0, 1) := by decide +kernel
theorem d_M_hasPart_1 : decode b_M_hasPart 1 = .ok (.getfield 17, 3) := by decide +kernel
theorem d_M_hasPart_4 : decode b_M_hasPart 4 = .ok (.iconst 1, 1) := by decide +kernel
theorem d_M_hasPart_5 : decode b_M_hasPart 5 = .ok (.iaload, 1) := by decide +kernel
theorem d_M_hasPart_6 : decode b_M_hasPart 6 = .ok (.istore_n 2, 1) := by decide +kernel
theorem d_M_hasPart_7 : decode b_M_hasPart 7 = .ok (.iload_n 1, 1) := by decide +kernel
theorem d_M_hasPart_8 : decode b_M_hasPart 8 = .ok (.bipush 16, 2) := by decide +kernel
theorem d_M_hasPart_10 : decode b_M_hasPart 10 = .ok (.if_icmp .eq 9, 3) := by decide +kernel
theorem d_M_hasPart_13 : decode b_M_hasPart 13 = .ok (.iload_n 1, 1) := by decide +kernel
theorem d_M_hasPart_14 : decode b_M_hasPart 14 = .ok (.bipush 39, 2) := by decide +kernel
theorem d_M_hasPart_16 : decode b_M_hasPart 16 = .ok (.if_icmp .ne 19, 3) := by decide +kernel
theorem d_M_hasPart_19 : decode b_M_hasPart 19 = .ok (.iload_n 2, 1) := by decide +kernel
theorem d_M_hasPart_20 : decode b_M_hasPart 20 = .ok (.iconst 1, 1) := by decide +kernel
theorem d_M_hasPart_21 : decode b_M_hasPart 21 = .ok (.if_icmp .eq 8, 3) := by decide +kernel
theorem d_M_hasPart_24 : decode b_M_hasPart 24 = .ok (.iload_n 2, 1) := by decide +kernel
theorem d_M_hasPart_25 : decode b_M_hasPart 25 = .ok (.iconst 2, 1) := by decide +kernel
theorem d_M_hasPart_26 : decode b_M_hasPart 26 = .ok (.if_icmp .ne 7, 3) := by decide +kernel
