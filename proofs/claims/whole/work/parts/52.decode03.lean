theorem d_M_hasPart_29 : decode b_M_hasPart 29 = .ok (.iconst 1, 1) := by decide +kernel
theorem d_M_hasPart_30 : decode b_M_hasPart 30 = .ok (.goto 4, 3) := by decide +kernel
theorem d_M_hasPart_33 : decode b_M_hasPart 33 = .ok (.iconst 0, 1) := by decide +kernel
theorem d_M_hasPart_34 : decode b_M_hasPart 34 = .ok (.ireturn, 1) := by decide +kernel
theorem d_M_hasPart_35 : decode b_M_hasPart 35 = .ok (.iload_n 1, 1) := by decide +kernel
theorem d_M_hasPart_36 : decode b_M_hasPart 36 = .ok (.bipush 62, 2) := by decide +kernel
theorem d_M_hasPart_38 : decode b_M_hasPart 38 = .ok (.if_icmp .ne 13, 3) := by decide +kernel
theorem d_M_hasPart_41 : decode b_M_hasPart 41 = .ok (.iload_n 2, 1) := by decide +kernel
theorem d_M_hasPart_42 : decode b_M_hasPart 42 = .ok (.ifCond .ne 7, 3) := by decide +kernel
theorem d_M_hasPart_45 : decode b_M_hasPart 45 = .ok (.iconst 1, 1) := by decide +kernel
theorem d_M_hasPart_46 : decode b_M_hasPart 46 = .ok (.goto 4, 3) := by decide +kernel
theorem d_M_hasPart_49 : decode b_M_hasPart 49 = .ok (.iconst 0, 1) := by decide +kernel
theorem d_M_hasPart_50 : decode b_M_hasPart 50 = .ok (.ireturn, 1) := by decide +kernel
theorem d_M_hasPart_51 : decode b_M_hasPart 51 = .ok (.iload_n 1, 1) := by decide +kernel
theorem d_M_hasPart_52 : decode b_M_hasPart 52 = .ok (.bipush 17, 2) := by decide +kernel
theorem d_M_hasPart_54 : decode b_M_hasPart 54 = .ok (.if_icmp .eq 9, 3) := by decide +kernel
theorem d_M_hasPart_57 : decode b_M_hasPart 57 = .ok (.iload_n 1, 1) := by decide +kernel
theorem d_M_hasPart_58 : decode b_M_hasPart 58 = .ok (.bipush 49, 2) := by decide +kernel
theorem d_M_hasPart_60 : decode b_M_hasPart 60 = .ok (.if_icmp .ne 8, 3) := by decide +kernel
theorem d_M_hasPart_63 : decode b_M_hasPart 63 = .ok (.iload_n 2, 1) := by decide +kernel
theorem d_M_hasPart_64 : decode b_M_hasPart 64 = .ok (.iconst 1, 1) := by decide +kernel
theorem d_M_hasPart_65 : decode b_M_hasPart 65 = .ok (.if_icmp .ne 7, 3) := by decide +kernel
theorem d_M_hasPart_68 : decode b_M_hasPart 68 = .ok (.iconst 1, 1) := by decide +kernel
theorem d_M_hasPart_69 : decode b_M_hasPart 69 = .ok (.goto 4, 3) := by decide +kernel
theorem d_M_hasPart_72 : decode b_M_hasPart 72 = .ok (.iconst 0, 1) := by decide +kernel
theorem d_M_hasPart_73 : decode b_M_hasPart 73 = .ok (.ireturn, 1) := by decide +kernel
theorem d_M_against_0 : decode b_M_against 0 = .ok (.aload_n 0, 1) := by decide +kernel
theorem d_M_against_1 : decode b_M_against 1 = .ok (.getfield 17, 3) := by decide +kernel
theorem d_M_against_4 : decode b_M_against 4 = .ok (.iconst 0, 1) := by decide +kernel
theorem d_M_against_5 : decode b_M_against 5 = .ok (.iaload, 1) := by decide +kernel
theorem d_M_against_6 : decode b_M_against 6 = .ok (.istore_n 1, 1) := by decide +kernel
theorem d_M_against_7 : decode b_M_against 7 = .ok (.aload_n 0, 1) := by decide +kernel
theorem d_M_against_8 : decode b_M_against 8 = .ok (.iload_n 1, 1) := by decide +kernel
theorem d_M_against_9 : decode b_M_against 9 = .ok (.invokevirtual 126, 3) := by decide +kernel
theorem d_M_against_12 : decode b_M_against 12 = .ok (.ifCond .ne 6, 3) := by decide +kernel
theorem d_M_against_15 : decode b_M_against 15 = .ok (.bipush 17, 2) := by decide +kernel
theorem d_M_against_17 : decode b_M_against 17 = .ok (.ireturn, 1) := by decide +kernel
theorem d_M_against_18 : decode b_M_against 18 = .ok (.aload_n 0, 1) := by decide +kernel
theorem d_M_against_19 : decode b_M_against 19 = .ok (.iload_n 1, 1) := by decide +kernel
theorem d_M_against_20 : decode b_M_against 20 = .ok (.invokevirtual 129, 3) := by decide +kernel
theorem d_M_against_23 : decode b_M_against 23 = .ok (.ifCond .ne 6, 3) := by decide +kernel
theorem d_M_against_26 : decode b_M_against 26 = .ok (.bipush 19, 2) := by decide +kernel
theorem d_M_against_28 : decode b_M_against 28 = .ok (.ireturn, 1) := by decide +kernel
theorem d_M_against_29 : decode b_M_against 29 = .ok (.aload_n 0, 1) := by decide +kernel
theorem d_M_against_30 : decode b_M_against 30 = .ok (.iload_n 1, 1) := by decide +kernel
theorem d_M_against_31 : decode b_M_against 31 = .ok (.invokevirtual 132, 3) := by decide +kernel
theorem d_M_against_34 : decode b_M_against 34 = .ok (.ifCond .ne 6, 3) := by decide +kernel
theorem d_M_against_37 : decode b_M_against 37 = .ok (.bipush 18, 2) := by decide +kernel
theorem d_M_against_39 : decode b_M_against 39 = .ok (.ireturn, 1) := by decide +kernel
theorem d_M_against_40 : decode b_M_against 40 = .ok (.iload_n 1, 1) := by decide +kernel
theorem d_M_against_41 : decode b_M_against 41 = .ok (.bipush 46, 2) := by decide +kernel
theorem d_M_against_43 : decode b_M_against 43 = .ok (.if_icmp .eq 27, 3) := by decide +kernel
theorem d_M_against_46 : decode b_M_against 46 = .ok (.iload_n 1, 1) := by decide +kernel
theorem d_M_against_47 : decode b_M_against 47 = .ok (.bipush 49, 2) := by decide +kernel
theorem d_M_against_49 : decode b_M_against 49 = .ok (.if_icmp .eq 21, 3) := by decide +kernel
theorem d_M_against_52 : decode b_M_against 52 = .ok (.iload_n 1, 1) := by decide +kernel
theorem d_M_against_53 : decode b_M_against 53 = .ok (.bipush 52, 2) := by decide +kernel
theorem d_M_against_55 : decode b_M_against 55 = .ok (.if_icmp .eq 15, 3) := by decide +kernel
theorem d_M_against_58 : decode b_M_against 58 = .ok (.iload_n 1, 1) := by decide +kernel
theorem d_M_against_59 : decode b_M_against 59 = .ok (.bipush 54, 2) := by decide +kernel
theorem d_M_against_61 : decode b_M_against 61 = .ok (.if_icmp .eq 9, 3) := by decide +kernel
theorem d_M_against_64 : decode b_M_against 64 = .ok (.iload_n 1, 1) := by decide +kernel
theorem d_M_against_65 : decode b_M_against 65 = .ok (.bipush 55, 2) := by decide +kernel
theorem d_M_against_67 : decode b_M_against 67 = .ok (.if_icmp .ne 7, 3) := by decide +kernel
theorem d_M_against_70 : decode b_M_against 70 = .ok (.iconst 1, 1) := by decide +kernel
theorem d_M_against_71 : decode b_M_against 71 = .ok (.goto 4, 3) := by decide +kernel
theorem d_M_against_74 : decode b_M_against 74 = .ok (.iconst 0, 1) := by decide +kernel
theorem d_M_against_75 : decode b_M_against 75 = .ok (.istore_n 2, 1) := by decide +kernel
theorem d_M_against_76 : decode b_M_against 76 = .ok (.aload_n 0, 1) := by decide +kernel
theorem d_M_against_77 : decode b_M_against 77 = .ok (.getfield 90, 3) := by decide +kernel
theorem d_M_against_80 : decode b_M_against 80 = .ok (.iconst 1, 1) := by decide +kernel
theorem d_M_against_81 : decode b_M_against 81 = .ok (.if_icmp .ne 16, 3) := by decide +kernel
theorem d_M_against_84 : decode b_M_against 84 = .ok (.iload_n 2, 1) := by decide +kernel
theorem d_M_against_85 : decode b_M_against 85 = .ok (.ifCond .ne 9, 3) := by decide +kernel
theorem d_M_against_88 : decode b_M_against 88 = .ok (.iload_n 1, 1) := by decide +kernel
theorem d_M_against_89 : decode b_M_against 89 = .ok (.bipush 39, 2) := by decide +kernel
theorem d_M_against_91 : decode b_M_against 91 = .ok (.if_icmp .ne 6, 3) := by decide +kernel
theorem d_M_against_94 : decode b_M_against 94 = .ok (.bipush 127, 2) := by decide +kernel
theorem d_M_against_96 : decode b_M_against 96 = .ok (.ireturn, 1) := by decide +kernel
theorem d_M_against_97 : decode b_M_against 97 = .ok (.aload_n 0, 1) := by decide +kernel
theorem d_M_against_98 : decode b_M_against 98 = .ok (.getfield 93, 3) := by decide +kernel
theorem d_M_against_101 : decode b_M_against 101 = .ok (.ifCond .ne 12, 3) := by decide +kernel
theorem d_M_against_104 : decode b_M_against 104 = .ok (.iload_n 2, 1) := by decide +kernel
theorem d_M_against_105 : decode b_M_against 105 = .ok (.ifCond .eq 8, 3) := by decide +kernel
theorem d_M_against_108 : decode b_M_against 108 = .ok (.bipush 51, 2) := by decide +kernel
theorem d_M_against_110 : decode b_M_against 110 = .ok (.goto 4, 3) := by decide +kernel
theorem d_M_against_113 : decode b_M_against 113 = .ok (.iconst 0, 1) := by decide +kernel
theorem d_M_against_114 : decode b_M_against 114 = .ok (.ireturn, 1) := by decide +kernel
theorem d_M_seeds_0 : decode b_M_seeds 0 = .ok (.aload_n 0, 1) := by decide +kernel
theorem d_M_seeds_1 : decode b_M_seeds 1 = .ok (.getfield 96, 3) := by decide +kernel
theorem d_M_seeds_4 : decode b_M_seeds 4 = .ok (.istore_n 1, 1) := by decide +kernel
theorem d_M_seeds_5 : decode b_M_seeds 5 = .ok (.aload_n 0, 1) := by decide +kernel
theorem d_M_seeds_6 : decode b_M_seeds 6 = .ok (.iconst 0, 1) := by decide +kernel
theorem d_M_seeds_7 : decode b_M_seeds 7 = .ok (.putfield 96, 3) := by decide +kernel
theorem d_M_seeds_10 : decode b_M_seeds 10 = .ok (.aload_n 0, 1) := by decide +kernel
theorem d_M_seeds_11 : decode b_M_seeds 11 = .ok (.getfield 17, 3) := by decide +kernel
theorem d_M_seeds_14 : decode b_M_seeds 14 = .ok (.iconst 1, 1) := by decide +kernel
theorem d_M_seeds_15 : decode b_M_seeds 15 = .ok (.iaload, 1) := by decide +kernel
theorem d_M_seeds_16 : decode b_M_seeds 16 = .ok (.iconst 1, 1) := by decide +kernel
theorem d_M_seeds_17 : decode b_M_seeds 17 = .ok (.if_icmp .ne 69, 3) := by decide +kernel
theorem d_M_seeds_20 : decode b_M_seeds 20 = .ok (.aload_n 0, 1) := by decide +kernel
theorem d_M_seeds_21 : decode b_M_seeds 21 = .ok (.getfield 84, 3) := by decide +kernel
theorem d_M_seeds_24 : decode b_M_seeds 24 = .ok (.ifCond .eq 6, 3) := by decide +kernel
theorem d_M_seeds_27 : decode b_M_seeds 27 = .ok (.bipush 55, 2) := by decide +kernel
theorem d_M_seeds_29 : decode b_M_seeds 29 = .ok (.ireturn, 1) := by decide +kernel
theorem d_M_seeds_30 : decode b_M_seeds 30 = .ok (.aload_n 0, 1) := by decide +kernel
theorem d_M_seeds_31 : decode b_M_seeds 31 = .ok (.getfield 93, 3) := by decide +kernel
theorem d_M_seeds_34 : decode b_M_seeds 34 = .ok (.ifCond .ne 31, 3) := by decide +kernel
theorem d_M_seeds_37 : decode b_M_seeds 37 = .ok (.aload_n 0, 1) := by decide +kernel
theorem d_M_seeds_38 : decode b_M_seeds 38 = .ok (.bipush 17, 2) := by decide +kernel
theorem d_M_seeds_40 : decode b_M_seeds 40 = .ok (.bipush 73, 2) := by decide +kernel
theorem d_M_seeds_42 : decode b_M_seeds 42 = .ok (.aload_n 0, 1) := by decide +kernel
theorem d_M_seeds_43 : decode b_M_seeds 43 = .ok (.getfield 135, 3) := by decide +kernel
theorem d_M_seeds_46 : decode b_M_seeds 46 = .ok (.imul, 1) := by decide +kernel
theorem d_M_seeds_47 : decode b_M_seeds 47 = .ok (.iadd, 1) := by decide +kernel
theorem d_M_seeds_48 : decode b_M_seeds 48 = .ok (.sipush 256, 3) := by decide +kernel
theorem d_M_seeds_51 : decode b_M_seeds 51 = .ok (.irem, 1) := by decide +kernel
theorem d_M_seeds_52 : decode b_M_seeds 52 = .ok (.putfield 96, 3) := by decide +kernel
theorem d_M_seeds_55 : decode b_M_seeds 55 = .ok (.aload_n 0, 1) := by decide +kernel
theorem d_M_seeds_56 : decode b_M_seeds 56 = .ok (.dup, 1) := by decide +kernel
theorem d_M_seeds_57 : decode b_M_seeds 57 = .ok (.getfield 135, 3) := by decide +kernel
theorem d_M_seeds_60 : decode b_M_seeds 60 = .ok (.iconst 1, 1) := by decide +kernel
theorem d_M_seeds_61 : decode b_M_seeds 61 = .ok (.iadd, 1) := by decide +kernel
theorem d_M_seeds_62 : decode b_M_seeds 62 = .ok (.putfield 135, 3) := by decide +kernel
theorem d_M_seeds_65 : decode b_M_seeds 65 = .ok (.aload_n 0, 1) := by decide +kernel
theorem d_M_seeds_66 : decode b_M_seeds 66 = .ok (.bipush 103, 2) := by decide +kernel
theorem d_M_seeds_68 : decode b_M_seeds 68 = .ok (.invokevirtual 138, 3) := by decide +kernel
theorem d_M_seeds_71 : decode b_M_seeds 71 = .ok (.aload_n 0, 1) := by decide +kernel
theorem d_M_seeds_72 : decode b_M_seeds 72 = .ok (.iconst 1, 1) := by decide +kernel
theorem d_M_seeds_73 : decode b_M_seeds 73 = .ok (.invokevirtual 138, 3) := by decide +kernel
theorem d_M_seeds_76 : decode b_M_seeds 76 = .ok (.aload_n 0, 1) := by decide +kernel
theorem d_M_seeds_77 : decode b_M_seeds 77 = .ok (.aload_n 0, 1) := by decide +kernel
theorem d_M_seeds_78 : decode b_M_seeds 78 = .ok (.getfield 96, 3) := by decide +kernel
theorem d_M_seeds_81 : decode b_M_seeds 81 = .ok (.invokevirtual 138, 3) := by decide +kernel
theorem d_M_seeds_84 : decode b_M_seeds 84 = .ok (.iconst 0, 1) := by decide +kernel
theorem d_M_seeds_85 : decode b_M_seeds 85 = .ok (.ireturn, 1) := by decide +kernel
theorem d_M_seeds_86 : decode b_M_seeds 86 = .ok (.iload_n 1, 1) := by decide +kernel
theorem d_M_seeds_87 : decode b_M_seeds 87 = .ok (.ifCond .ne 6, 3) := by decide +kernel
theorem d_M_seeds_90 : decode b_M_seeds 90 = .ok (.bipush 36, 2) := by decide +kernel
theorem d_M_seeds_92 : decode b_M_seeds 92 = .ok (.ireturn, 1) := by decide +kernel
theorem d_M_seeds_93 : decode b_M_seeds 93 = .ok (.aload_n 0, 1) := by decide +kernel
theorem d_M_seeds_94 : decode b_M_seeds 94 = .ok (.getfield 17, 3) := by decide +kernel
theorem d_M_seeds_97 : decode b_M_seeds 97 = .ok (.iconst 2, 1) := by decide +kernel
theorem d_M_seeds_98 : decode b_M_seeds 98 = .ok (.iaload, 1) := by decide +kernel
theorem d_M_seeds_99 : decode b_M_seeds 99 = .ok (.iconst 5, 1) := by decide +kernel
theorem d_M_seeds_100 : decode b_M_seeds 100 = .ok (.iload_n 1, 1) := by decide +kernel
theorem d_M_seeds_101 : decode b_M_seeds 101 = .ok (.imul, 1) := by decide +kernel
theorem d_M_seeds_102 : decode b_M_seeds 102 = .ok (.iconst 3, 1) := by decide +kernel
theorem d_M_seeds_103 : decode b_M_seeds 103 = .ok (.iadd, 1) := by decide +kernel
theorem d_M_seeds_104 : decode b_M_seeds 104 = .ok (.sipush 256, 3) := by decide +kernel
theorem d_M_seeds_107 : decode b_M_seeds 107 = .ok (.irem, 1) := by decide +kernel
theorem d_M_seeds_108 : decode b_M_seeds 108 = .ok (.if_icmp .ne 26, 3) := by decide +kernel
theorem d_M_seeds_111 : decode b_M_seeds 111 = .ok (.aload_n 0, 1) := by decide +kernel
theorem d_M_seeds_112 : decode b_M_seeds 112 = .ok (.iconst 1, 1) := by decide +kernel
theorem d_M_seeds_113 : decode b_M_seeds 113 = .ok (.putfield 93, 3) := by decide +kernel
theorem d_M_seeds_116 : decode b_M_seeds 116 = .ok (.aload_n 0, 1) := by decide +kernel
theorem d_M_seeds_117 : decode b_M_seeds 117 = .ok (.iconst 0, 1) := by decide +kernel
theorem d_M_seeds_118 : decode b_M_seeds 118 = .ok (.putfield 81, 3) := by decide +kernel
theorem d_M_seeds_121 : decode b_M_seeds 121 = .ok (.aload_n 0, 1) := by decide +kernel
theorem d_M_seeds_122 : decode b_M_seeds 122 = .ok (.bipush 103, 2) := by decide +kernel
theorem d_M_seeds_124 : decode b_M_seeds 124 = .ok (.invokevirtual 138, 3) := by decide +kernel
theorem d_M_seeds_127 : decode b_M_seeds 127 = .ok (.aload_n 0, 1) := by decide +kernel
theorem d_M_seeds_128 : decode b_M_seeds 128 = .ok (.iconst 2, 1) := by decide +kernel
theorem d_M_seeds_129 : decode b_M_seeds 129 = .ok (.invokevirtual 138, 3) := by decide +kernel
theorem d_M_seeds_132 : decode b_M_seeds 132 = .ok (.iconst 0, 1) := by decide +kernel
theorem d_M_seeds_133 : decode b_M_seeds 133 = .ok (.ireturn, 1) := by decide +kernel
theorem d_M_seeds_134 : decode b_M_seeds 134 = .ok (.aload_n 0, 1) := by decide +kernel
theorem d_M_seeds_135 : decode b_M_seeds 135 = .ok (.iconst 1, 1) := by decide +kernel
theorem d_M_seeds_136 : decode b_M_seeds 136 = .ok (.aload_n 0, 1) := by decide +kernel
theorem d_M_seeds_137 : decode b_M_seeds 137 = .ok (.getfield 81, 3) := by decide +kernel
theorem d_M_seeds_140 : decode b_M_seeds 140 = .ok (.isub, 1) := by decide +kernel
theorem d_M_seeds_141 : decode b_M_seeds 141 = .ok (.putfield 81, 3) := by decide +kernel
theorem d_M_seeds_144 : decode b_M_seeds 144 = .ok (.aload_n 0, 1) := by decide +kernel
theorem d_M_seeds_145 : decode b_M_seeds 145 = .ok (.getfield 81, 3) := by decide +kernel
theorem d_M_seeds_148 : decode b_M_seeds 148 = .ok (.iconst 1, 1) := by decide +kernel
theorem d_M_seeds_149 : decode b_M_seeds 149 = .ok (.if_icmp .ne 6, 3) := by decide +kernel
theorem d_M_seeds_152 : decode b_M_seeds 152 = .ok (.bipush 53, 2) := by decide +kernel
theorem d_M_seeds_154 : decode b_M_seeds 154 = .ok (.ireturn, 1) := by decide +kernel
theorem d_M_seeds_155 : decode b_M_seeds 155 = .ok (.aload_n 0, 1) := by decide +kernel
theorem d_M_seeds_156 : decode b_M_seeds 156 = .ok (.bipush 8, 2) := by decide +kernel
theorem d_M_seeds_158 : decode b_M_seeds 158 = .ok (.putfield 84, 3) := by decide +kernel
theorem d_M_seeds_161 : decode b_M_seeds 161 = .ok (.bipush 54, 2) := by decide +kernel
theorem d_M_seeds_163 : decode b_M_seeds 163 = .ok (.ireturn, 1) := by decide +kernel
theorem d_M_readData_0 : decode b_M_readData 0 = .ok (.aload_n 0, 1) := by decide +kernel
theorem d_M_readData_1 : decode b_M_readData 1 = .ok (.getfield 17, 3) := by decide +kernel
theorem d_M_readData_4 : decode b_M_readData 4 = .ok (.iconst 1, 1) := by decide +kernel
theorem d_M_readData_5 : decode b_M_readData 5 = .ok (.iaload, 1) := by decide +kernel
theorem d_M_readData_6 : decode b_M_readData 6 = .ok (.istore_n 1, 1) := by decide +kernel
theorem d_M_readData_7 : decode b_M_readData 7 = .ok (.iload_n 1, 1) := by decide +kernel
theorem d_M_readData_8 : decode b_M_readData 8 = .ok (.iconst 2, 1) := by decide +kernel
theorem d_M_readData_9 : decode b_M_readData 9 = .ok (.if_icmp .le 6, 3) := by decide +kernel
theorem d_M_readData_12 : decode b_M_readData 12 = .ok (.bipush 49, 2) := by decide +kernel
theorem d_M_readData_14 : decode b_M_readData 14 = .ok (.ireturn, 1) := by decide +kernel
theorem d_M_readData_15 : decode b_M_readData 15 = .ok (.iload_n 1, 1) := by decide +kernel
theorem d_M_readData_16 : decode b_M_readData 16 = .ok (.iconst 1, 1) := by decide +kernel
theorem d_M_readData_17 : decode b_M_readData 17 = .ok (.if_icmp .eq 13, 3) := by decide +kernel
theorem d_M_readData_20 : decode b_M_readData 20 = .ok (.aload_n 0, 1) := by decide +kernel
theorem d_M_readData_21 : decode b_M_readData 21 = .ok (.getfield 65, 3) := by decide +kernel
theorem d_M_readData_24 : decode b_M_readData 24 = .ok (.ifCond .ge 6, 3) := by decide +kernel
theorem d_M_readData_27 : decode b_M_readData 27 = .ok (.bipush 34, 2) := by decide +kernel
theorem d_M_readData_29 : decode b_M_readData 29 = .ok (.ireturn, 1) := by decide +kernel
theorem d_M_readData_30 : decode b_M_readData 30 = .ok (.aload_n 0, 1) := by decide +kernel
theorem d_M_readData_31 : decode b_M_readData 31 = .ok (.bipush 98, 2) := by decide +kernel
theorem d_M_readData_33 : decode b_M_readData 33 = .ok (.invokevirtual 138, 3) := by decide +kernel
theorem d_M_readData_36 : decode b_M_readData 36 = .ok (.aload_n 0, 1) := by decide +kernel
theorem d_M_readData_37 : decode b_M_readData 37 = .ok (.iload_n 1, 1) := by decide +kernel
theorem d_M_readData_38 : decode b_M_readData 38 = .ok (.invokevirtual 138, 3) := by decide +kernel
theorem d_M_readData_41 : decode b_M_readData 41 = .ok (.iload_n 1, 1) := by decide +kernel
theorem d_M_readData_42 : decode b_M_readData 42 = .ok (.ifCond .ne 11, 3) := by decide +kernel
theorem d_M_readData_45 : decode b_M_readData 45 = .ok (.aload_n 0, 1) := by decide +kernel
theorem d_M_readData_46 : decode b_M_readData 46 = .ok (.aload_n 0, 1) := by decide +kernel
theorem d_M_readData_47 : decode b_M_readData 47 = .ok (.getfield 65, 3) := by decide +kernel
theorem d_M_readData_50 : decode b_M_readData 50 = .ok (.invokevirtual 138, 3) := by decide +kernel
theorem d_M_readData_53 : decode b_M_readData 53 = .ok (.iload_n 1, 1) := by decide +kernel
theorem d_M_readData_54 : decode b_M_readData 54 = .ok (.iconst 1, 1) := by decide +kernel
theorem d_M_readData_55 : decode b_M_readData 55 = .ok (.if_icmp .ne 11, 3) := by decide +kernel
theorem d_M_readData_58 : decode b_M_readData 58 = .ok (.aload_n 0, 1) := by decide +kernel
theorem d_M_readData_59 : decode b_M_readData 59 = .ok (.aload_n 0, 1) := by decide +kernel
theorem d_M_readData_60 : decode b_M_readData 60 = .ok (.getfield 87, 3) := by decide +kernel
theorem d_M_readData_63 : decode b_M_readData 63 = .ok (.invokevirtual 138, 3) := by decide +kernel
theorem d_M_readData_66 : decode b_M_readData 66 = .ok (.iconst 0, 1) := by decide +kernel
theorem d_M_readData_67 : decode b_M_readData 67 = .ok (.istore_n 2, 1) := by decide +kernel
theorem d_M_readData_68 : decode b_M_readData 68 = .ok (.iload_n 2, 1) := by decide +kernel
theorem d_M_readData_69 : decode b_M_readData 69 = .ok (.bipush 8, 2) := by decide +kernel
theorem d_M_readData_71 : decode b_M_readData 71 = .ok (.if_icmp .ge 32, 3) := by decide +kernel
theorem d_M_readData_74 : decode b_M_readData 74 = .ok (.iload_n 1, 1) := by decide +kernel
theorem d_M_readData_75 : decode b_M_readData 75 = .ok (.iconst 2, 1) := by decide +kernel
theorem d_M_readData_76 : decode b_M_readData 76 = .ok (.if_icmp .ne 27, 3) := by decide +kernel
theorem d_M_readData_79 : decode b_M_readData 79 = .ok (.aload_n 0, 1) := by decide +kernel
theorem d_M_readData_80 : decode b_M_readData 80 = .ok (.aload_n 0, 1) := by decide +kernel
theorem d_M_readData_81 : decode b_M_readData 81 = .ok (.getfield 7, 3) := by decide +kernel
theorem d_M_readData_84 : decode b_M_readData 84 = .ok (.bipush 48, 2) := by decide +kernel
theorem d_M_readData_86 : decode b_M_readData 86 = .ok (.aload_n 0, 1) := by decide +kernel
theorem d_M_readData_87 : decode b_M_readData 87 = .ok (.getfield 65, 3) := by decide +kernel
theorem d_M_readData_90 : decode b_M_readData 90 = .ok (.imul, 1) := by decide +kernel
theorem d_M_readData_91 : decode b_M_readData 91 = .ok (.iload_n 2, 1) := by decide +kernel
theorem d_M_readData_92 : decode b_M_readData 92 = .ok (.iadd, 1) := by decide +kernel
theorem d_M_readData_93 : decode b_M_readData 93 = .ok (.iaload, 1) := by decide +kernel
theorem d_M_readData_94 : decode b_M_readData 94 = .ok (.invokevirtual 138, 3) := by decide +kernel
theorem d_M_readData_97 : decode b_M_readData 97 = .ok (.iinc 2 1, 3) := by decide +kernel
theorem d_M_readData_100 : decode b_M_readData 100 = .ok (.goto (-32), 3) := by decide +kernel
theorem d_M_readData_103 : decode b_M_readData 103 = .ok (.iconst 0, 1) := by decide +kernel
theorem d_M_readData_104 : decode b_M_readData 104 = .ok (.ireturn, 1) := by decide +kernel
theorem d_M_writeData_0 : decode b_M_writeData 0 = .ok (.aload_n 0, 1) := by decide +kernel
theorem d_M_writeData_1 : decode b_M_writeData 1 = .ok (.getfield 17, 3) := by decide +kernel
theorem d_M_writeData_4 : decode b_M_writeData 4 = .ok (.iconst 1, 1) := by decide +kernel
theorem d_M_writeData_5 : decode b_M_writeData 5 = .ok (.iaload, 1) := by decide +kernel
theorem d_M_writeData_6 : decode b_M_writeData 6 = .ok (.iconst 1, 1) := by decide +kernel
theorem d_M_writeData_7 : decode b_M_writeData 7 = .ok (.if_icmp .eq 6, 3) := by decide +kernel
theorem d_M_writeData_10 : decode b_M_writeData 10 = .ok (.bipush 49, 2) := by decide +kernel
theorem d_M_writeData_12 : decode b_M_writeData 12 = .ok (.ireturn, 1) := by decide +kernel
theorem d_M_writeData_13 : decode b_M_writeData 13 = .ok (.aload_n 0, 1) := by decide +kernel
theorem d_M_writeData_14 : decode b_M_writeData 14 = .ok (.aload_n 0, 1) := by decide +kernel
theorem d_M_writeData_15 : decode b_M_writeData 15 = .ok (.getfield 17, 3) := by decide +kernel
theorem d_M_writeData_18 : decode b_M_writeData 18 = .ok (.iconst 2, 1) := by decide +kernel
theorem d_M_writeData_19 : decode b_M_writeData 19 = .ok (.iaload, 1) := by decide +kernel
theorem d_M_writeData_20 : decode b_M_writeData 20 = .ok (.putfield 87, 3) := by decide +kernel
theorem d_M_writeData_23 : decode b_M_writeData 23 = .ok (.aload_n 0, 1) := by decide +kernel
theorem d_M_writeData_24 : decode b_M_writeData 24 = .ok (.bipush 110, 2) := by decide +kernel
theorem d_M_writeData_26 : decode b_M_writeData 26 = .ok (.invokevirtual 138, 3) := by decide +kernel
theorem d_M_writeData_29 : decode b_M_writeData 29 = .ok (.aload_n 0, 1) := by decide +kernel
theorem d_M_writeData_30 : decode b_M_writeData 30 = .ok (.iconst 1, 1) := by decide +kernel
theorem d_M_writeData_31 : decode b_M_writeData 31 = .ok (.invokevirtual 138, 3) := by decide +kernel
theorem d_M_writeData_34 : decode b_M_writeData 34 = .ok (.iconst 0, 1) := by decide +kernel
theorem d_M_writeData_35 : decode b_M_writeData 35 = .ok (.ireturn, 1) := by decide +kernel
theorem d_M_eraseSlot_0 : decode b_M_eraseSlot 0 = .ok (.iload_n 1, 1) := by decide +kernel
theorem d_M_eraseSlot_1 : decode b_M_eraseSlot 1 = .ok (.aload_n 0, 1) := by decide +kernel
theorem d_M_eraseSlot_2 : decode b_M_eraseSlot 2 = .ok (.getfield 65, 3) := by decide +kernel
theorem d_M_eraseSlot_5 : decode b_M_eraseSlot 5 = .ok (.if_icmp .ne 6, 3) := by decide +kernel
theorem d_M_eraseSlot_8 : decode b_M_eraseSlot 8 = .ok (.bipush 34, 2) := by decide +kernel
theorem d_M_eraseSlot_10 : decode b_M_eraseSlot 10 = .ok (.ireturn, 1) := by decide +kernel
theorem d_M_eraseSlot_11 : decode b_M_eraseSlot 11 = .ok (.aload_n 0, 1) := by decide +kernel
theorem d_M_eraseSlot_12 : decode b_M_eraseSlot 12 = .ok (.iconst (-1), 1) := by decide +kernel
theorem d_M_eraseSlot_13 : decode b_M_eraseSlot 13 = .ok (.putfield 78, 3) := by decide +kernel
theorem d_M_eraseSlot_16 : decode b_M_eraseSlot 16 = .ok (.aload_n 0, 1) := by decide +kernel
theorem d_M_eraseSlot_17 : decode b_M_eraseSlot 17 = .ok (.iconst 3, 1) := by decide +kernel
theorem d_M_eraseSlot_18 : decode b_M_eraseSlot 18 = .ok (.iload_n 1, 1) := by decide +kernel
theorem d_M_eraseSlot_19 : decode b_M_eraseSlot 19 = .ok (.imul, 1) := by decide +kernel
theorem d_M_eraseSlot_20 : decode b_M_eraseSlot 20 = .ok (.iconst 2, 1) := by decide +kernel
theorem d_M_eraseSlot_21 : decode b_M_eraseSlot 21 = .ok (.iadd, 1) := by decide +kernel
theorem d_M_eraseSlot_22 : decode b_M_eraseSlot 22 = .ok (.invokevirtual 141, 3) := by decide +kernel
theorem d_M_eraseSlot_25 : decode b_M_eraseSlot 25 = .ok (.ifCond .eq 5, 3) := by decide +kernel
theorem d_M_eraseSlot_28 : decode b_M_eraseSlot 28 = .ok (.iconst (-1), 1) := by decide +kernel
theorem d_M_eraseSlot_29 : decode b_M_eraseSlot 29 = .ok (.ireturn, 1) := by decide +kernel
theorem d_M_eraseSlot_30 : decode b_M_eraseSlot 30 = .ok (.aload_n 0, 1) := by decide +kernel
theorem d_M_eraseSlot_31 : decode b_M_eraseSlot 31 = .ok (.iconst 3, 1) := by decide +kernel
theorem d_M_eraseSlot_32 : decode b_M_eraseSlot 32 = .ok (.iload_n 1, 1) := by decide +kernel
theorem d_M_eraseSlot_33 : decode b_M_eraseSlot 33 = .ok (.imul, 1) := by decide +kernel
theorem d_M_eraseSlot_34 : decode b_M_eraseSlot 34 = .ok (.invokevirtual 141, 3) := by decide +kernel
theorem d_M_eraseSlot_37 : decode b_M_eraseSlot 37 = .ok (.ifCond .eq 5, 3) := by decide +kernel
theorem d_M_eraseSlot_40 : decode b_M_eraseSlot 40 = .ok (.iconst (-1), 1) := by decide +kernel
theorem d_M_eraseSlot_41 : decode b_M_eraseSlot 41 = .ok (.ireturn, 1) := by decide +kernel
theorem d_M_eraseSlot_42 : decode b_M_eraseSlot 42 = .ok (.aload_n 0, 1) := by decide +kernel
theorem d_M_eraseSlot_43 : decode b_M_eraseSlot 43 = .ok (.iconst 3, 1) := by decide +kernel
theorem d_M_eraseSlot_44 : decode b_M_eraseSlot 44 = .ok (.iload_n 1, 1) := by decide +kernel
theorem d_M_eraseSlot_45 : decode b_M_eraseSlot 45 = .ok (.imul, 1) := by decide +kernel
theorem d_M_eraseSlot_46 : decode b_M_eraseSlot 46 = .ok (.iconst 1, 1) := by decide +kernel
theorem d_M_eraseSlot_47 : decode b_M_eraseSlot 47 = .ok (.iadd, 1) := by decide +kernel
theorem d_M_eraseSlot_48 : decode b_M_eraseSlot 48 = .ok (.invokevirtual 141, 3) := by decide +kernel
theorem d_M_eraseSlot_51 : decode b_M_eraseSlot 51 = .ok (.ifCond .eq 7, 3) := by decide +kernel
theorem d_M_eraseSlot_54 : decode b_M_eraseSlot 54 = .ok (.iconst (-1), 1) := by decide +kernel
theorem d_M_eraseSlot_55 : decode b_M_eraseSlot 55 = .ok (.goto 4, 3) := by decide +kernel
theorem d_M_eraseSlot_58 : decode b_M_eraseSlot 58 = .ok (.iconst 0, 1) := by decide +kernel
theorem d_M_eraseSlot_59 : decode b_M_eraseSlot 59 = .ok (.ireturn, 1) := by decide +kernel
theorem d_M_activate_0 : decode b_M_activate 0 = .ok (.iload_n 1, 1) := by decide +kernel
theorem d_M_activate_1 : decode b_M_activate 1 = .ok (.aload_n 0, 1) := by decide +kernel
theorem d_M_activate_2 : decode b_M_activate 2 = .ok (.getfield 65, 3) := by decide +kernel
theorem d_M_activate_5 : decode b_M_activate 5 = .ok (.if_icmp .eq 11, 3) := by decide +kernel
theorem d_M_activate_8 : decode b_M_activate 8 = .ok (.iload_n 1, 1) := by decide +kernel
theorem d_M_activate_9 : decode b_M_activate 9 = .ok (.aload_n 0, 1) := by decide +kernel
theorem d_M_activate_10 : decode b_M_activate 10 = .ok (.getfield 78, 3) := by decide +kernel
theorem d_M_activate_13 : decode b_M_activate 13 = .ok (.if_icmp .eq 6, 3) := by decide +kernel
theorem d_M_activate_16 : decode b_M_activate 16 = .ok (.bipush 34, 2) := by decide +kernel
theorem d_M_activate_18 : decode b_M_activate 18 = .ok (.ireturn, 1) := by decide +kernel
theorem d_M_activate_19 : decode b_M_activate 19 = .ok (.aload_n 0, 1) := by decide +kernel
theorem d_M_activate_20 : decode b_M_activate 20 = .ok (.invokevirtual 61, 3) := by decide +kernel
theorem d_M_activate_23 : decode b_M_activate 23 = .ok (.istore_n 2, 1) := by decide +kernel
theorem d_M_activate_24 : decode b_M_activate 24 = .ok (.iload_n 2, 1) := by decide +kernel
theorem d_M_activate_25 : decode b_M_activate 25 = .ok (.ifCond .ge 7, 3) := by decide +kernel
theorem d_M_activate_28 : decode b_M_activate 28 = .ok (.iconst 1, 1) := by decide +kernel
theorem d_M_activate_29 : decode b_M_activate 29 = .ok (.goto 21, 3) := by decide +kernel
theorem d_M_activate_32 : decode b_M_activate 32 = .ok (.aload_n 0, 1) := by decide +kernel
theorem d_M_activate_33 : decode b_M_activate 33 = .ok (.getfield 7, 3) := by decide +kernel
theorem d_M_activate_36 : decode b_M_activate 36 = .ok (.bipush 48, 2) := by decide +kernel
theorem d_M_activate_38 : decode b_M_activate 38 = .ok (.iload_n 2, 1) := by decide +kernel
theorem d_M_activate_39 : decode b_M_activate 39 = .ok (.imul, 1) := by decide +kernel
theorem d_M_activate_40 : decode b_M_activate 40 = .ok (.bipush 33, 2) := by decide +kernel
theorem d_M_activate_42 : decode b_M_activate 42 = .ok (.iadd, 1) := by decide +kernel
theorem d_M_activate_43 : decode b_M_activate 43 = .ok (.iaload, 1) := by decide +kernel
theorem d_M_activate_44 : decode b_M_activate 44 = .ok (.iconst 1, 1) := by decide +kernel
theorem d_M_activate_45 : decode b_M_activate 45 = .ok (.iadd, 1) := by decide +kernel
theorem d_M_activate_46 : decode b_M_activate 46 = .ok (.sipush 256, 3) := by decide +kernel
theorem d_M_activate_49 : decode b_M_activate 49 = .ok (.irem, 1) := by decide +kernel
theorem d_M_activate_50 : decode b_M_activate 50 = .ok (.istore_n 3, 1) := by decide +kernel
theorem d_M_activate_51 : decode b_M_activate 51 = .ok (.aload_n 0, 1) := by decide +kernel
theorem d_M_activate_52 : decode b_M_activate 52 = .ok (.iload_n 1, 1) := by decide +kernel
theorem d_M_activate_53 : decode b_M_activate 53 = .ok (.invokevirtual 29, 3) := by decide +kernel
theorem d_M_activate_56 : decode b_M_activate 56 = .ok (.istore 4, 2) := by decide +kernel
theorem d_M_activate_58 : decode b_M_activate 58 = .ok (.bipush 48, 2) := by decide +kernel
theorem d_M_activate_60 : decode b_M_activate 60 = .ok (.iload_n 1, 1) := by decide +kernel
theorem d_M_activate_61 : decode b_M_activate 61 = .ok (.imul, 1) := by decide +kernel
theorem d_M_activate_62 : decode b_M_activate 62 = .ok (.bipush 32, 2) := by decide +kernel
theorem d_M_activate_64 : decode b_M_activate 64 = .ok (.iadd, 1) := by decide +kernel
theorem d_M_activate_65 : decode b_M_activate 65 = .ok (.istore 5, 2) := by decide +kernel
theorem d_M_activate_67 : decode b_M_activate 67 = .ok (.aload_n 0, 1) := by decide +kernel
theorem d_M_activate_68 : decode b_M_activate 68 = .ok (.iload 5, 2) := by decide +kernel
theorem d_M_activate_70 : decode b_M_activate 70 = .ok (.iconst 1, 1) := by decide +kernel
theorem d_M_activate_71 : decode b_M_activate 71 = .ok (.iadd, 1) := by decide +kernel
theorem d_M_activate_72 : decode b_M_activate 72 = .ok (.iconst 0, 1) := by decide +kernel
theorem d_M_activate_73 : decode b_M_activate 73 = .ok (.aload_n 0, 1) := by decide +kernel
theorem d_M_activate_74 : decode b_M_activate 74 = .ok (.getfield 7, 3) := by decide +kernel
theorem d_M_activate_77 : decode b_M_activate 77 = .ok (.iload 5, 2) := by decide +kernel
theorem d_M_activate_79 : decode b_M_activate 79 = .ok (.iconst 1, 1) := by decide +kernel
theorem d_M_activate_80 : decode b_M_activate 80 = .ok (.iadd, 1) := by decide +kernel
theorem d_M_activate_81 : decode b_M_activate 81 = .ok (.iaload, 1) := by decide +kernel
theorem d_M_activate_82 : decode b_M_activate 82 = .ok (.iload_n 3, 1) := by decide +kernel
theorem d_M_activate_83 : decode b_M_activate 83 = .ok (.iand, 1) := by decide +kernel
theorem d_M_activate_84 : decode b_M_activate 84 = .ok (.invokevirtual 53, 3) := by decide +kernel
theorem d_M_activate_87 : decode b_M_activate 87 = .ok (.aload_n 0, 1) := by decide +kernel
theorem d_M_activate_88 : decode b_M_activate 88 = .ok (.iload 5, 2) := by decide +kernel
theorem d_M_activate_90 : decode b_M_activate 90 = .ok (.iconst 2, 1) := by decide +kernel
theorem d_M_activate_91 : decode b_M_activate 91 = .ok (.iadd, 1) := by decide +kernel
theorem d_M_activate_92 : decode b_M_activate 92 = .ok (.iconst 1, 1) := by decide +kernel
theorem d_M_activate_93 : decode b_M_activate 93 = .ok (.aload_n 0, 1) := by decide +kernel
theorem d_M_activate_94 : decode b_M_activate 94 = .ok (.getfield 7, 3) := by decide +kernel
theorem d_M_activate_97 : decode b_M_activate 97 = .ok (.iload 5, 2) := by decide +kernel
theorem d_M_activate_99 : decode b_M_activate 99 = .ok (.iconst 2, 1) := by decide +kernel
theorem d_M_activate_100 : decode b_M_activate 100 = .ok (.iadd, 1) := by decide +kernel
theorem d_M_activate_101 : decode b_M_activate 101 = .ok (.iaload, 1) := by decide +kernel
theorem d_M_activate_102 : decode b_M_activate 102 = .ok (.iload 4, 2) := by decide +kernel
theorem d_M_activate_104 : decode b_M_activate 104 = .ok (.sipush 256, 3) := by decide +kernel
theorem d_M_activate_107 : decode b_M_activate 107 = .ok (.idiv, 1) := by decide +kernel
theorem d_M_activate_108 : decode b_M_activate 108 = .ok (.iand, 1) := by decide +kernel
theorem d_M_activate_109 : decode b_M_activate 109 = .ok (.invokevirtual 53, 3) := by decide +kernel
theorem d_M_activate_112 : decode b_M_activate 112 = .ok (.aload_n 0, 1) := by decide +kernel
theorem d_M_activate_113 : decode b_M_activate 113 = .ok (.iload 5, 2) := by decide +kernel
theorem d_M_activate_115 : decode b_M_activate 115 = .ok (.iconst 3, 1) := by decide +kernel
theorem d_M_activate_116 : decode b_M_activate 116 = .ok (.iadd, 1) := by decide +kernel
theorem d_M_activate_117 : decode b_M_activate 117 = .ok (.iconst 2, 1) := by decide +kernel
theorem d_M_activate_118 : decode b_M_activate 118 = .ok (.aload_n 0, 1) := by decide +kernel
theorem d_M_activate_119 : decode b_M_activate 119 = .ok (.getfield 7, 3) := by decide +kernel
theorem d_M_activate_122 : decode b_M_activate 122 = .ok (.iload 5, 2) := by decide +kernel
theorem d_M_activate_124 : decode b_M_activate 124 = .ok (.iconst 3, 1) := by decide +kernel
theorem d_M_activate_125 : decode b_M_activate 125 = .ok (.iadd, 1) := by decide +kernel
theorem d_M_activate_126 : decode b_M_activate 126 = .ok (.iaload, 1) := by decide +kernel
theorem d_M_activate_127 : decode b_M_activate 127 = .ok (.iload 4, 2) := by decide +kernel
theorem d_M_activate_129 : decode b_M_activate 129 = .ok (.sipush 256, 3) := by decide +kernel
theorem d_M_activate_132 : decode b_M_activate 132 = .ok (.irem, 1) := by decide +kernel
theorem d_M_activate_133 : decode b_M_activate 133 = .ok (.iand, 1) := by decide +kernel
theorem d_M_activate_134 : decode b_M_activate 134 = .ok (.invokevirtual 53, 3) := by decide +kernel
theorem d_M_activate_137 : decode b_M_activate 137 = .ok (.aload_n 0, 1) := by decide +kernel
theorem d_M_activate_138 : decode b_M_activate 138 = .ok (.invokevirtual 57, 3) := by decide +kernel
theorem d_M_activate_141 : decode b_M_activate 141 = .ok (.ifCond .eq 5, 3) := by decide +kernel
theorem d_M_activate_144 : decode b_M_activate 144 = .ok (.iconst (-1), 1) := by decide +kernel
theorem d_M_activate_145 : decode b_M_activate 145 = .ok (.ireturn, 1) := by decide +kernel
theorem d_M_activate_146 : decode b_M_activate 146 = .ok (.aload_n 0, 1) := by decide +kernel
theorem d_M_activate_147 : decode b_M_activate 147 = .ok (.iload 5, 2) := by decide +kernel
theorem d_M_activate_149 : decode b_M_activate 149 = .ok (.iconst 0, 1) := by decide +kernel
theorem d_M_activate_150 : decode b_M_activate 150 = .ok (.iconst 0, 1) := by decide +kernel
theorem d_M_activate_151 : decode b_M_activate 151 = .ok (.invokevirtual 53, 3) := by decide +kernel
theorem d_M_activate_154 : decode b_M_activate 154 = .ok (.aload_n 0, 1) := by decide +kernel
theorem d_M_activate_155 : decode b_M_activate 155 = .ok (.invokevirtual 57, 3) := by decide +kernel
theorem d_M_activate_158 : decode b_M_activate 158 = .ok (.ifCond .eq 7, 3) := by decide +kernel
theorem d_M_activate_161 : decode b_M_activate 161 = .ok (.iconst (-1), 1) := by decide +kernel
theorem d_M_activate_162 : decode b_M_activate 162 = .ok (.goto 4, 3) := by decide +kernel
theorem d_M_activate_165 : decode b_M_activate 165 = .ok (.iconst 0, 1) := by decide +kernel
theorem d_M_activate_166 : decode b_M_activate 166 = .ok (.ireturn, 1) := by decide +kernel
theorem d_M_routine_0 : decode b_M_routine 0 = .ok (.aload_n 0, 1) := by decide +kernel
theorem d_M_routine_1 : decode b_M_routine 1 = .ok (.getfield 17, 3) := by decide +kernel
theorem d_M_routine_4 : decode b_M_routine 4 = .ok (.iconst 2, 1) := by decide +kernel
theorem d_M_routine_5 : decode b_M_routine 5 = .ok (.iaload, 1) := by decide +kernel
theorem d_M_routine_6 : decode b_M_routine 6 = .ok (.istore_n 1, 1) := by decide +kernel
theorem d_M_routine_7 : decode b_M_routine 7 = .ok (.aload_n 0, 1) := by decide +kernel
theorem d_M_routine_8 : decode b_M_routine 8 = .ok (.getfield 17, 3) := by decide +kernel
theorem d_M_routine_11 : decode b_M_routine 11 = .ok (.iconst 3, 1) := by decide +kernel
theorem d_M_routine_12 : decode b_M_routine 12 = .ok (.iaload, 1) := by decide +kernel
theorem d_M_routine_13 : decode b_M_routine 13 = .ok (.istore_n 2, 1) := by decide +kernel
theorem d_M_routine_14 : decode b_M_routine 14 = .ok (.iload_n 1, 1) := by decide +kernel
theorem d_M_routine_15 : decode b_M_routine 15 = .ok (.iconst 1, 1) := by decide +kernel
theorem d_M_routine_16 : decode b_M_routine 16 = .ok (.if_icmp .lt 13, 3) := by decide +kernel
theorem d_M_routine_19 : decode b_M_routine 19 = .ok (.iload_n 1, 1) := by decide +kernel
theorem d_M_routine_20 : decode b_M_routine 20 = .ok (.iconst 3, 1) := by decide +kernel
theorem d_M_routine_21 : decode b_M_routine 21 = .ok (.if_icmp .gt 8, 3) := by decide +kernel
theorem d_M_routine_24 : decode b_M_routine 24 = .ok (.iload_n 2, 1) := by decide +kernel
theorem d_M_routine_25 : decode b_M_routine 25 = .ok (.iconst 1, 1) := by decide +kernel
theorem d_M_routine_26 : decode b_M_routine 26 = .ok (.if_icmp .le 6, 3) := by decide +kernel
theorem d_M_routine_29 : decode b_M_routine 29 = .ok (.bipush 49, 2) := by decide +kernel
theorem d_M_routine_31 : decode b_M_routine 31 = .ok (.ireturn, 1) := by decide +kernel
theorem d_M_routine_32 : decode b_M_routine 32 = .ok (.iload_n 1, 1) := by decide +kernel
theorem d_M_routine_33 : decode b_M_routine 33 = .ok (.iconst 1, 1) := by decide +kernel
theorem d_M_routine_34 : decode b_M_routine 34 = .ok (.if_icmp .ne 11, 3) := by decide +kernel
theorem d_M_routine_37 : decode b_M_routine 37 = .ok (.aload_n 0, 1) := by decide +kernel
theorem d_M_routine_38 : decode b_M_routine 38 = .ok (.iload_n 2, 1) := by decide +kernel
theorem d_M_routine_39 : decode b_M_routine 39 = .ok (.invokevirtual 144, 3) := by decide +kernel
theorem d_M_routine_42 : decode b_M_routine 42 = .ok (.goto 17, 3) := by decide +kernel
theorem d_M_routine_45 : decode b_M_routine 45 = .ok (.iload_n 1, 1) := by decide +kernel
theorem d_M_routine_46 : decode b_M_routine 46 = .ok (.iconst 3, 1) := by decide +kernel
theorem d_M_routine_47 : decode b_M_routine 47 = .ok (.if_icmp .ne 11, 3) := by decide +kernel
theorem d_M_routine_50 : decode b_M_routine 50 = .ok (.aload_n 0, 1) := by decide +kernel
theorem d_M_routine_51 : decode b_M_routine 51 = .ok (.iload_n 2, 1) := by decide +kernel
theorem d_M_routine_52 : decode b_M_routine 52 = .ok (.invokevirtual 147, 3) := by decide +kernel
theorem d_M_routine_55 : decode b_M_routine 55 = .ok (.goto 4, 3) := by decide +kernel
theorem d_M_routine_58 : decode b_M_routine 58 = .ok (.iconst 0, 1) := by decide +kernel
theorem d_M_routine_59 : decode b_M_routine 59 = .ok (.istore_n 3, 1) := by decide +kernel
theorem d_M_routine_60 : decode b_M_routine 60 = .ok (.iload_n 3, 1) := by decide +kernel
theorem d_M_routine_61 : decode b_M_routine 61 = .ok (.ifCond .eq 5, 3) := by decide +kernel
theorem d_M_routine_64 : decode b_M_routine 64 = .ok (.iload_n 3, 1) := by decide +kernel
theorem d_M_routine_65 : decode b_M_routine 65 = .ok (.ireturn, 1) := by decide +kernel
theorem d_M_routine_66 : decode b_M_routine 66 = .ok (.aload_n 0, 1) := by decide +kernel
theorem d_M_routine_67 : decode b_M_routine 67 = .ok (.bipush 113, 2) := by decide +kernel
theorem d_M_routine_69 : decode b_M_routine 69 = .ok (.invokevirtual 138, 3) := by decide +kernel
theorem d_M_routine_72 : decode b_M_routine 72 = .ok (.aload_n 0, 1) := by decide +kernel
theorem d_M_routine_73 : decode b_M_routine 73 = .ok (.iconst 1, 1) := by decide +kernel
theorem d_M_routine_74 : decode b_M_routine 74 = .ok (.invokevirtual 138, 3) := by decide +kernel
theorem d_M_routine_77 : decode b_M_routine 77 = .ok (.aload_n 0, 1) := by decide +kernel
theorem d_M_routine_78 : decode b_M_routine 78 = .ok (.iload_n 1, 1) := by decide +kernel
theorem d_M_routine_79 : decode b_M_routine 79 = .ok (.invokevirtual 138, 3) := by decide +kernel
theorem d_M_routine_82 : decode b_M_routine 82 = .ok (.iload_n 1, 1) := by decide +kernel
theorem d_M_routine_83 : decode b_M_routine 83 = .ok (.iconst 2, 1) := by decide +kernel
theorem d_M_routine_84 : decode b_M_routine 84 = .ok (.if_icmp .ne 78, 3) := by decide +kernel
theorem d_M_routine_87 : decode b_M_routine 87 = .ok (.aload_n 0, 1) := by decide +kernel
theorem d_M_routine_88 : decode b_M_routine 88 = .ok (.iload_n 2, 1) := by decide +kernel
theorem d_M_routine_89 : decode b_M_routine 89 = .ok (.invokevirtual 29, 3) := by decide +kernel
theorem d_M_routine_92 : decode b_M_routine 92 = .ok (.sipush 256, 3) := by decide +kernel
theorem d_M_routine_95 : decode b_M_routine 95 = .ok (.aload_n 0, 1) := by decide +kernel
theorem d_M_routine_96 : decode b_M_routine 96 = .ok (.getfield 17, 3) := by decide +kernel
theorem d_M_routine_99 : decode b_M_routine 99 = .ok (.iconst 4, 1) := by decide +kernel
theorem d_M_routine_100 : decode b_M_routine 100 = .ok (.iaload, 1) := by decide +kernel
theorem d_M_routine_101 : decode b_M_routine 101 = .ok (.imul, 1) := by decide +kernel
theorem d_M_routine_102 : decode b_M_routine 102 = .ok (.aload_n 0, 1) := by decide +kernel
theorem d_M_routine_103 : decode b_M_routine 103 = .ok (.getfield 17, 3) := by decide +kernel
theorem d_M_routine_106 : decode b_M_routine 106 = .ok (.iconst 5, 1) := by decide +kernel
theorem d_M_routine_107 : decode b_M_routine 107 = .ok (.iaload, 1) := by decide +kernel
theorem d_M_routine_108 : decode b_M_routine 108 = .ok (.iadd, 1) := by decide +kernel
theorem d_M_routine_109 : decode b_M_routine 109 = .ok (.if_icmp .ne 7, 3) := by decide +kernel
theorem d_M_routine_112 : decode b_M_routine 112 = .ok (.iconst 1, 1) := by decide +kernel
theorem d_M_routine_113 : decode b_M_routine 113 = .ok (.goto 4, 3) := by decide +kernel
theorem d_M_routine_116 : decode b_M_routine 116 = .ok (.iconst 0, 1) := by decide +kernel
theorem d_M_routine_117 : decode b_M_routine 117 = .ok (.istore 4, 2) := by decide +kernel
theorem d_M_routine_119 : decode b_M_routine 119 = .ok (.aload_n 0, 1) := by decide +kernel
theorem d_M_routine_120 : decode b_M_routine 120 = .ok (.iload 4, 2) := by decide +kernel
theorem d_M_routine_122 : decode b_M_routine 122 = .ok (.ifCond .eq 7, 3) := by decide +kernel
theorem d_M_routine_125 : decode b_M_routine 125 = .ok (.iload_n 2, 1) := by decide +kernel
theorem d_M_routine_126 : decode b_M_routine 126 = .ok (.goto 19, 3) := by decide +kernel
theorem d_M_routine_129 : decode b_M_routine 129 = .ok (.aload_n 0, 1) := by decide +kernel
theorem d_M_routine_130 : decode b_M_routine 130 = .ok (.getfield 78, 3) := by decide +kernel
theorem d_M_routine_133 : decode b_M_routine 133 = .ok (.iload_n 2, 1) := by decide +kernel
theorem d_M_routine_134 : decode b_M_routine 134 = .ok (.if_icmp .ne 7, 3) := by decide +kernel
theorem d_M_routine_137 : decode b_M_routine 137 = .ok (.iconst (-1), 1) := by decide +kernel
theorem d_M_routine_138 : decode b_M_routine 138 = .ok (.goto 7, 3) := by decide +kernel
theorem d_M_routine_141 : decode b_M_routine 141 = .ok (.aload_n 0, 1) := by decide +kernel
theorem d_M_routine_142 : decode b_M_routine 142 = .ok (.getfield 78, 3) := by decide +kernel
theorem d_M_routine_145 : decode b_M_routine 145 = .ok (.putfield 78, 3) := by decide +kernel
theorem d_M_routine_148 : decode b_M_routine 148 = .ok (.aload_n 0, 1) := by decide +kernel
theorem d_M_routine_149 : decode b_M_routine 149 = .ok (.iload 4, 2) := by decide +kernel
theorem d_M_routine_151 : decode b_M_routine 151 = .ok (.ifCond .eq 7, 3) := by decide +kernel
theorem d_M_routine_154 : decode b_M_routine 154 = .ok (.iconst 1, 1) := by decide +kernel
theorem d_M_routine_155 : decode b_M_routine 155 = .ok (.goto 4, 3) := by decide +kernel
theorem d_M_routine_158 : decode b_M_routine 158 = .ok (.iconst 0, 1) := by decide +kernel
theorem d_M_routine_159 : decode b_M_routine 159 = .ok (.invokevirtual 138, 3) := by decide +kernel
theorem d_M_routine_162 : decode b_M_routine 162 = .ok (.iconst 0, 1) := by decide +kernel
theorem d_M_routine_163 : decode b_M_routine 163 = .ok (.ireturn, 1) := by decide +kernel
theorem d_M_download_0 : decode b_M_download 0 = .ok (.aload_n 0, 1) := by decide +kernel
theorem d_M_download_1 : decode b_M_download 1 = .ok (.getfield 17, 3) := by decide +kernel
theorem d_M_download_4 : decode b_M_download 4 = .ok (.iconst 1, 1) := by decide +kernel
theorem d_M_download_5 : decode b_M_download 5 = .ok (.iaload, 1) := by decide +kernel
theorem d_M_download_6 : decode b_M_download 6 = .ok (.istore_n 1, 1) := by decide +kernel
theorem d_M_download_7 : decode b_M_download 7 = .ok (.aload_n 0, 1) := by decide +kernel
theorem d_M_download_8 : decode b_M_download 8 = .ok (.getfield 17, 3) := by decide +kernel
theorem d_M_download_11 : decode b_M_download 11 = .ok (.iconst 2, 1) := by decide +kernel
theorem d_M_download_12 : decode b_M_download 12 = .ok (.iaload, 1) := by decide +kernel
theorem d_M_download_13 : decode b_M_download 13 = .ok (.istore_n 2, 1) := by decide +kernel
theorem d_M_download_14 : decode b_M_download 14 = .ok (.iload_n 1, 1) := by decide +kernel
theorem d_M_download_15 : decode b_M_download 15 = .ok (.iconst 1, 1) := by decide +kernel
theorem d_M_download_16 : decode b_M_download 16 = .ok (.if_icmp .gt 14, 3) := by decide +kernel
theorem d_M_download_19 : decode b_M_download 19 = .ok (.iload_n 2, 1) := by decide +kernel
theorem d_M_download_20 : decode b_M_download 20 = .ok (.iconst 1, 1) := by decide +kernel
theorem d_M_download_21 : decode b_M_download 21 = .ok (.if_icmp .lt 9, 3) := by decide +kernel
theorem d_M_download_24 : decode b_M_download 24 = .ok (.iload_n 2, 1) := by decide +kernel
theorem d_M_download_25 : decode b_M_download 25 = .ok (.bipush 32, 2) := by decide +kernel
theorem d_M_download_27 : decode b_M_download 27 = .ok (.if_icmp .le 6, 3) := by decide +kernel
theorem d_M_download_30 : decode b_M_download 30 = .ok (.bipush 49, 2) := by decide +kernel
theorem d_M_download_32 : decode b_M_download 32 = .ok (.ireturn, 1) := by decide +kernel
theorem d_M_download_33 : decode b_M_download 33 = .ok (.iload_n 1, 1) := by decide +kernel
theorem d_M_download_34 : decode b_M_download 34 = .ok (.aload_n 0, 1) := by decide +kernel
theorem d_M_download_35 : decode b_M_download 35 = .ok (.getfield 65, 3) := by decide +kernel
theorem d_M_download_38 : decode b_M_download 38 = .ok (.if_icmp .ne 6, 3) := by decide +kernel
theorem d_M_download_41 : decode b_M_download 41 = .ok (.bipush 34, 2) := by decide +kernel
theorem d_M_download_43 : decode b_M_download 43 = .ok (.ireturn, 1) := by decide +kernel
theorem d_M_download_44 : decode b_M_download 44 = .ok (.aload_n 0, 1) := by decide +kernel
theorem d_M_download_45 : decode b_M_download 45 = .ok (.iload_n 1, 1) := by decide +kernel
theorem d_M_download_46 : decode b_M_download 46 = .ok (.putfield 13, 3) := by decide +kernel
theorem d_M_download_49 : decode b_M_download 49 = .ok (.aload_n 0, 1) := by decide +kernel
theorem d_M_download_50 : decode b_M_download 50 = .ok (.iload_n 2, 1) := by decide +kernel
theorem d_M_download_51 : decode b_M_download 51 = .ok (.putfield 111, 3) := by decide +kernel
theorem d_M_download_54 : decode b_M_download 54 = .ok (.aload_n 0, 1) := by decide +kernel
theorem d_M_download_55 : decode b_M_download 55 = .ok (.iconst 0, 1) := by decide +kernel
theorem d_M_download_56 : decode b_M_download 56 = .ok (.putfield 114, 3) := by decide +kernel
theorem d_M_download_59 : decode b_M_download 59 = .ok (.aload_n 0, 1) := by decide +kernel
theorem d_M_download_60 : decode b_M_download 60 = .ok (.iconst 0, 1) := by decide +kernel
theorem d_M_download_61 : decode b_M_download 61 = .ok (.putfield 150, 3) := by decide +kernel
theorem d_M_download_64 : decode b_M_download 64 = .ok (.aload_n 0, 1) := by decide +kernel
theorem d_M_download_65 : decode b_M_download 65 = .ok (.iconst (-1), 1) := by decide +kernel
theorem d_M_download_66 : decode b_M_download 66 = .ok (.putfield 78, 3) := by decide +kernel
theorem d_M_download_69 : decode b_M_download 69 = .ok (.aload_n 0, 1) := by decide +kernel
theorem d_M_download_70 : decode b_M_download 70 = .ok (.bipush 116, 2) := by decide +kernel
theorem d_M_download_72 : decode b_M_download 72 = .ok (.invokevirtual 138, 3) := by decide +kernel
theorem d_M_download_75 : decode b_M_download 75 = .ok (.aload_n 0, 1) := by decide +kernel
theorem d_M_download_76 : decode b_M_download 76 = .ok (.bipush 8, 2) := by decide +kernel
theorem d_M_download_78 : decode b_M_download 78 = .ok (.invokevirtual 138, 3) := by decide +kernel
theorem d_M_download_81 : decode b_M_download 81 = .ok (.iconst 0, 1) := by decide +kernel
theorem d_M_download_82 : decode b_M_download 82 = .ok (.ireturn, 1) := by decide +kernel
theorem d_M_block_0 : decode b_M_block 0 = .ok (.aload_n 0, 1) := by decide +kernel
theorem d_M_block_1 : decode b_M_block 1 = .ok (.getfield 17, 3) := by decide +kernel
theorem d_M_block_4 : decode b_M_block 4 = .ok (.iconst 1, 1) := by decide +kernel
theorem d_M_block_5 : decode b_M_block 5 = .ok (.iaload, 1) := by decide +kernel
theorem d_M_block_6 : decode b_M_block 6 = .ok (.istore_n 1, 1) := by decide +kernel
theorem d_M_block_7 : decode b_M_block 7 = .ok (.aload_n 0, 1) := by decide +kernel
theorem d_M_block_8 : decode b_M_block 8 = .ok (.getfield 102, 3) := by decide +kernel
theorem d_M_block_11 : decode b_M_block 11 = .ok (.iconst 2, 1) := by decide +kernel
theorem d_M_block_12 : decode b_M_block 12 = .ok (.isub, 1) := by decide +kernel
theorem d_M_block_13 : decode b_M_block 13 = .ok (.istore_n 2, 1) := by decide +kernel
theorem d_M_block_14 : decode b_M_block 14 = .ok (.aload_n 0, 1) := by decide +kernel
theorem d_M_block_15 : decode b_M_block 15 = .ok (.invokevirtual 153, 3) := by decide +kernel
theorem d_M_block_18 : decode b_M_block 18 = .ok (.ifCond .gt 6, 3) := by decide +kernel
theorem d_M_block_21 : decode b_M_block 21 = .ok (.bipush 36, 2) := by decide +kernel
theorem d_M_block_23 : decode b_M_block 23 = .ok (.ireturn, 1) := by decide +kernel
theorem d_M_block_24 : decode b_M_block 24 = .ok (.aload_n 0, 1) := by decide +kernel
theorem d_M_block_25 : decode b_M_block 25 = .ok (.getfield 150, 3) := by decide +kernel
theorem d_M_block_28 : decode b_M_block 28 = .ok (.ifCond .le 19, 3) := by decide +kernel
theorem d_M_block_31 : decode b_M_block 31 = .ok (.iload_n 1, 1) := by decide +kernel
theorem d_M_block_32 : decode b_M_block 32 = .ok (.aload_n 0, 1) := by decide +kernel
theorem d_M_block_33 : decode b_M_block 33 = .ok (.getfield 150, 3) := by decide +kernel
theorem d_M_block_36 : decode b_M_block 36 = .ok (.sipush 256, 3) := by decide +kernel
theorem d_M_block_39 : decode b_M_block 39 = .ok (.irem, 1) := by decide +kernel
theorem d_M_block_40 : decode b_M_block 40 = .ok (.if_icmp .ne 7, 3) := by decide +kernel
theorem d_M_block_43 : decode b_M_block 43 = .ok (.iconst 1, 1) := by decide +kernel
theorem d_M_block_44 : decode b_M_block 44 = .ok (.goto 4, 3) := by decide +kernel
theorem d_M_block_47 : decode b_M_block 47 = .ok (.iconst 0, 1) := by decide +kernel
theorem d_M_block_48 : decode b_M_block 48 = .ok (.istore_n 3, 1) := by decide +kernel
theorem d_M_block_49 : decode b_M_block 49 = .ok (.iload_n 3, 1) := by decide +kernel
theorem d_M_block_50 : decode b_M_block 50 = .ok (.ifCond .ne 160, 3) := by decide +kernel
theorem d_M_block_53 : decode b_M_block 53 = .ok (.iload_n 1, 1) := by decide +kernel
theorem d_M_block_54 : decode b_M_block 54 = .ok (.aload_n 0, 1) := by decide +kernel
theorem d_M_block_55 : decode b_M_block 55 = .ok (.getfield 150, 3) := by decide +kernel
theorem d_M_block_58 : decode b_M_block 58 = .ok (.iconst 1, 1) := by decide +kernel
theorem d_M_block_59 : decode b_M_block 59 = .ok (.iadd, 1) := by decide +kernel
theorem d_M_block_60 : decode b_M_block 60 = .ok (.sipush 256, 3) := by decide +kernel
theorem d_M_block_63 : decode b_M_block 63 = .ok (.irem, 1) := by decide +kernel
theorem d_M_block_64 : decode b_M_block 64 = .ok (.if_icmp .eq 6, 3) := by decide +kernel
theorem d_M_block_67 : decode b_M_block 67 = .ok (.bipush 115, 2) := by decide +kernel
theorem d_M_block_69 : decode b_M_block 69 = .ok (.ireturn, 1) := by decide +kernel
theorem d_M_block_70 : decode b_M_block 70 = .ok (.iload_n 2, 1) := by decide +kernel
theorem d_M_block_71 : decode b_M_block 71 = .ok (.aload_n 0, 1) := by decide +kernel
theorem d_M_block_72 : decode b_M_block 72 = .ok (.invokevirtual 153, 3) := by decide +kernel
theorem d_M_block_75 : decode b_M_block 75 = .ok (.if_icmp .le 6, 3) := by decide +kernel
theorem d_M_block_78 : decode b_M_block 78 = .ok (.bipush 49, 2) := by decide +kernel
theorem d_M_block_80 : decode b_M_block 80 = .ok (.ireturn, 1) := by decide +kernel
theorem d_M_block_81 : decode b_M_block 81 = .ok (.bipush 48, 2) := by decide +kernel
theorem d_M_block_83 : decode b_M_block 83 = .ok (.aload_n 0, 1) := by decide +kernel
