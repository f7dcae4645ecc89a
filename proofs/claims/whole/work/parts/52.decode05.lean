theorem d_M_state_58 : decode b_M_state 58 = .ok (.getfield 90, 3) := by decide +kernel
theorem d_M_state_61 : decode b_M_state 61 = .ok (.ireturn, 1) := by decide +kernel
theorem d_M_state_62 : decode b_M_state 62 = .ok (.aload_n 0, 1) := by decide +kernel
theorem d_M_state_63 : decode b_M_state 63 = .ok (.getfield 93, 3) := by decide +kernel
theorem d_M_state_66 : decode b_M_state 66 = .ok (.ifCond .eq 7, 3) := by decide +kernel
theorem d_M_state_69 : decode b_M_state 69 = .ok (.iconst 1, 1) := by decide +kernel
theorem d_M_state_70 : decode b_M_state 70 = .ok (.goto 4, 3) := by decide +kernel
theorem d_M_state_73 : decode b_M_state 73 = .ok (.iconst 0, 1) := by decide +kernel
theorem d_M_state_74 : decode b_M_state 74 = .ok (.ireturn, 1) := by decide +kernel
theorem d_M_state_75 : decode b_M_state 75 = .ok (.aload_n 0, 1) := by decide +kernel
theorem d_M_state_76 : decode b_M_state 76 = .ok (.invokevirtual 153, 3) := by decide +kernel
theorem d_M_state_79 : decode b_M_state 79 = .ok (.ireturn, 1) := by decide +kernel
theorem d_M_state_80 : decode b_M_state 80 = .ok (.aload_n 0, 1) := by decide +kernel
theorem d_M_state_81 : decode b_M_state 81 = .ok (.getfield 46, 3) := by decide +kernel
theorem d_M_state_84 : decode b_M_state 84 = .ok (.ifCond .eq 7, 3) := by decide +kernel
theorem d_M_state_87 : decode b_M_state 87 = .ok (.iconst 1, 1) := by decide +kernel
theorem d_M_state_88 : decode b_M_state 88 = .ok (.goto 4, 3) := by decide +kernel
theorem d_M_state_91 : decode b_M_state 91 = .ok (.iconst 0, 1) := by decide +kernel
theorem d_M_state_92 : decode b_M_state 92 = .ok (.ireturn, 1) := by decide +kernel
theorem d_M_state_93 : decode b_M_state 93 = .ok (.aload_n 0, 1) := by decide +kernel
theorem d_M_state_94 : decode b_M_state 94 = .ok (.getfield 78, 3) := by decide +kernel
theorem d_M_state_97 : decode b_M_state 97 = .ok (.ireturn, 1) := by decide +kernel
theorem d_M_state_98 : decode b_M_state 98 = .ok (.aload_n 0, 1) := by decide +kernel
theorem d_M_state_99 : decode b_M_state 99 = .ok (.getfield 99, 3) := by decide +kernel
theorem d_M_state_102 : decode b_M_state 102 = .ok (.aload_n 0, 1) := by decide +kernel
theorem d_M_state_103 : decode b_M_state 103 = .ok (.getfield 102, 3) := by decide +kernel
theorem d_M_state_106 : decode b_M_state 106 = .ok (.isub, 1) := by decide +kernel
theorem d_M_state_107 : decode b_M_state 107 = .ok (.ireturn, 1) := by decide +kernel
theorem d_M_state_108 : decode b_M_state 108 = .ok (.aload_n 0, 1) := by decide +kernel
theorem d_M_state_109 : decode b_M_state 109 = .ok (.getfield 105, 3) := by decide +kernel
theorem d_M_state_112 : decode b_M_state 112 = .ok (.aload_n 0, 1) := by decide +kernel
theorem d_M_state_113 : decode b_M_state 113 = .ok (.getfield 108, 3) := by decide +kernel
theorem d_M_state_116 : decode b_M_state 116 = .ok (.isub, 1) := by decide +kernel
theorem d_M_state_117 : decode b_M_state 117 = .ok (.ireturn, 1) := by decide +kernel
theorem d_M_state_118 : decode b_M_state 118 = .ok (.aload_n 0, 1) := by decide +kernel
theorem d_M_state_119 : decode b_M_state 119 = .ok (.getfield 84, 3) := by decide +kernel
theorem d_M_state_122 : decode b_M_state 122 = .ok (.ireturn, 1) := by decide +kernel
theorem d_M_state_123 : decode b_M_state 123 = .ok (.iconst (-1), 1) := by decide +kernel
theorem d_M_state_124 : decode b_M_state 124 = .ok (.ireturn, 1) := by decide +kernel
theorem d_Dl_init_0 : decode b_Dl_init 0 = .ok (.aload_n 0, 1) := by decide +kernel
theorem d_Dl_init_1 : decode b_Dl_init 1 = .ok (.invokespecial 3, 3) := by decide +kernel
theorem d_Dl_init_4 : decode b_Dl_init 4 = .ok (.return_, 1) := by decide +kernel
theorem d_Dl_begin_0 : decode b_Dl_begin 0 = .ok (.aload_n 0, 1) := by decide +kernel
theorem d_Dl_begin_1 : decode b_Dl_begin 1 = .ok (.iconst 1, 1) := by decide +kernel
theorem d_Dl_begin_2 : decode b_Dl_begin 2 = .ok (.putfield 9, 3) := by decide +kernel
theorem d_Dl_begin_5 : decode b_Dl_begin 5 = .ok (.aload_n 0, 1) := by decide +kernel
theorem d_Dl_begin_6 : decode b_Dl_begin 6 = .ok (.iload_n 1, 1) := by decide +kernel
theorem d_Dl_begin_7 : decode b_Dl_begin 7 = .ok (.putfield 15, 3) := by decide +kernel
theorem d_Dl_begin_10 : decode b_Dl_begin 10 = .ok (.aload_n 0, 1) := by decide +kernel
theorem d_Dl_begin_11 : decode b_Dl_begin 11 = .ok (.iload_n 2, 1) := by decide +kernel
theorem d_Dl_begin_12 : decode b_Dl_begin 12 = .ok (.putfield 19, 3) := by decide +kernel
theorem d_Dl_begin_15 : decode b_Dl_begin 15 = .ok (.aload_n 0, 1) := by decide +kernel
theorem d_Dl_begin_16 : decode b_Dl_begin 16 = .ok (.iconst 0, 1) := by decide +kernel
theorem d_Dl_begin_17 : decode b_Dl_begin 17 = .ok (.putfield 22, 3) := by decide +kernel
theorem d_Dl_begin_20 : decode b_Dl_begin 20 = .ok (.aload_n 0, 1) := by decide +kernel
theorem d_Dl_begin_21 : decode b_Dl_begin 21 = .ok (.iconst 0, 1) := by decide +kernel
theorem d_Dl_begin_22 : decode b_Dl_begin 22 = .ok (.putfield 25, 3) := by decide +kernel
theorem d_Dl_begin_25 : decode b_Dl_begin 25 = .ok (.return_, 1) := by decide +kernel
theorem d_Dl_end_0 : decode b_Dl_end 0 = .ok (.aload_n 0, 1) := by decide +kernel
theorem d_Dl_end_1 : decode b_Dl_end 1 = .ok (.iconst 0, 1) := by decide +kernel
theorem d_Dl_end_2 : decode b_Dl_end 2 = .ok (.putfield 9, 3) := by decide +kernel
theorem d_Dl_end_5 : decode b_Dl_end 5 = .ok (.return_, 1) := by decide +kernel
theorem d_Dl_toCome_0 : decode b_Dl_toCome 0 = .ok (.aload_n 0, 1) := by decide +kernel
theorem d_Dl_toCome_1 : decode b_Dl_toCome 1 = .ok (.getfield 9, 3) := by decide +kernel
theorem d_Dl_toCome_4 : decode b_Dl_toCome 4 = .ok (.ifCond .eq 15, 3) := by decide +kernel
theorem d_Dl_toCome_7 : decode b_Dl_toCome 7 = .ok (.aload_n 0, 1) := by decide +kernel
theorem d_Dl_toCome_8 : decode b_Dl_toCome 8 = .ok (.getfield 19, 3) := by decide +kernel
theorem d_Dl_toCome_11 : decode b_Dl_toCome 11 = .ok (.aload_n 0, 1) := by decide +kernel
theorem d_Dl_toCome_12 : decode b_Dl_toCome 12 = .ok (.getfield 22, 3) := by decide +kernel
theorem d_Dl_toCome_15 : decode b_Dl_toCome 15 = .ok (.isub, 1) := by decide +kernel
theorem d_Dl_toCome_16 : decode b_Dl_toCome 16 = .ok (.goto 4, 3) := by decide +kernel
theorem d_Dl_toCome_19 : decode b_Dl_toCome 19 = .ok (.iconst (-1), 1) := by decide +kernel
theorem d_Dl_toCome_20 : decode b_Dl_toCome 20 = .ok (.ireturn, 1) := by decide +kernel
theorem d_Dl_isLatest_0 : decode b_Dl_isLatest 0 = .ok (.aload_n 0, 1) := by decide +kernel
theorem d_Dl_isLatest_1 : decode b_Dl_isLatest 1 = .ok (.getfield 25, 3) := by decide +kernel
theorem d_Dl_isLatest_4 : decode b_Dl_isLatest 4 = .ok (.ifCond .le 19, 3) := by decide +kernel
theorem d_Dl_isLatest_7 : decode b_Dl_isLatest 7 = .ok (.iload_n 1, 1) := by decide +kernel
theorem d_Dl_isLatest_8 : decode b_Dl_isLatest 8 = .ok (.aload_n 0, 1) := by decide +kernel
theorem d_Dl_isLatest_9 : decode b_Dl_isLatest 9 = .ok (.getfield 25, 3) := by decide +kernel
theorem d_Dl_isLatest_12 : decode b_Dl_isLatest 12 = .ok (.sipush 255, 3) := by decide +kernel
theorem d_Dl_isLatest_15 : decode b_Dl_isLatest 15 = .ok (.iand, 1) := by decide +kernel
theorem d_Dl_isLatest_16 : decode b_Dl_isLatest 16 = .ok (.if_icmp .ne 7, 3) := by decide +kernel
theorem d_Dl_isLatest_19 : decode b_Dl_isLatest 19 = .ok (.iconst 1, 1) := by decide +kernel
theorem d_Dl_isLatest_20 : decode b_Dl_isLatest 20 = .ok (.goto 4, 3) := by decide +kernel
theorem d_Dl_isLatest_23 : decode b_Dl_isLatest 23 = .ok (.iconst 0, 1) := by decide +kernel
theorem d_Dl_isLatest_24 : decode b_Dl_isLatest 24 = .ok (.ireturn, 1) := by decide +kernel
theorem d_Dl_isNext_0 : decode b_Dl_isNext 0 = .ok (.iload_n 1, 1) := by decide +kernel
theorem d_Dl_isNext_1 : decode b_Dl_isNext 1 = .ok (.aload_n 0, 1) := by decide +kernel
theorem d_Dl_isNext_2 : decode b_Dl_isNext 2 = .ok (.getfield 25, 3) := by decide +kernel
theorem d_Dl_isNext_5 : decode b_Dl_isNext 5 = .ok (.iconst 1, 1) := by decide +kernel
theorem d_Dl_isNext_6 : decode b_Dl_isNext 6 = .ok (.iadd, 1) := by decide +kernel
theorem d_Dl_isNext_7 : decode b_Dl_isNext 7 = .ok (.sipush 255, 3) := by decide +kernel
theorem d_Dl_isNext_10 : decode b_Dl_isNext 10 = .ok (.iand, 1) := by decide +kernel
theorem d_Dl_isNext_11 : decode b_Dl_isNext 11 = .ok (.if_icmp .ne 7, 3) := by decide +kernel
theorem d_Dl_isNext_14 : decode b_Dl_isNext 14 = .ok (.iconst 1, 1) := by decide +kernel
theorem d_Dl_isNext_15 : decode b_Dl_isNext 15 = .ok (.goto 4, 3) := by decide +kernel
theorem d_Dl_isNext_18 : decode b_Dl_isNext 18 = .ok (.iconst 0, 1) := by decide +kernel
theorem d_Dl_isNext_19 : decode b_Dl_isNext 19 = .ok (.ireturn, 1) := by decide +kernel
theorem d_Dl_addBlock_0 : decode b_Dl_addBlock 0 = .ok (.aload_n 0, 1) := by decide +kernel
theorem d_Dl_addBlock_1 : decode b_Dl_addBlock 1 = .ok (.dup, 1) := by decide +kernel
theorem d_Dl_addBlock_2 : decode b_Dl_addBlock 2 = .ok (.getfield 22, 3) := by decide +kernel
theorem d_Dl_addBlock_5 : decode b_Dl_addBlock 5 = .ok (.iload_n 1, 1) := by decide +kernel
theorem d_Dl_addBlock_6 : decode b_Dl_addBlock 6 = .ok (.iadd, 1) := by decide +kernel
theorem d_Dl_addBlock_7 : decode b_Dl_addBlock 7 = .ok (.putfield 22, 3) := by decide +kernel
theorem d_Dl_addBlock_10 : decode b_Dl_addBlock 10 = .ok (.aload_n 0, 1) := by decide +kernel
theorem d_Dl_addBlock_11 : decode b_Dl_addBlock 11 = .ok (.dup, 1) := by decide +kernel
theorem d_Dl_addBlock_12 : decode b_Dl_addBlock 12 = .ok (.getfield 25, 3) := by decide +kernel
theorem d_Dl_addBlock_15 : decode b_Dl_addBlock 15 = .ok (.iconst 1, 1) := by decide +kernel
theorem d_Dl_addBlock_16 : decode b_Dl_addBlock 16 = .ok (.iadd, 1) := by decide +kernel
theorem d_Dl_addBlock_17 : decode b_Dl_addBlock 17 = .ok (.putfield 25, 3) := by decide +kernel
theorem d_Dl_addBlock_20 : decode b_Dl_addBlock 20 = .ok (.return_, 1) := by decide +kernel
theorem d_Lk_init_0 : decode b_Lk_init 0 = .ok (.aload_n 0, 1) := by decide +kernel
theorem d_Lk_init_1 : decode b_Lk_init 1 = .ok (.invokespecial 1, 3) := by decide +kernel
theorem d_Lk_init_4 : decode b_Lk_init 4 = .ok (.return_, 1) := by decide +kernel
theorem d_Lk_reset_0 : decode b_Lk_reset 0 = .ok (.aload_n 0, 1) := by decide +kernel
theorem d_Lk_reset_1 : decode b_Lk_reset 1 = .ok (.invokevirtual 7, 3) := by decide +kernel
theorem d_Lk_reset_4 : decode b_Lk_reset 4 = .ok (.aload_n 0, 1) := by decide +kernel
theorem d_Lk_reset_5 : decode b_Lk_reset 5 = .ok (.iconst 0, 1) := by decide +kernel
theorem d_Lk_reset_6 : decode b_Lk_reset 6 = .ok (.putfield 12, 3) := by decide +kernel
theorem d_Lk_reset_9 : decode b_Lk_reset 9 = .ok (.aload_n 0, 1) := by decide +kernel
theorem d_Lk_reset_10 : decode b_Lk_reset 10 = .ok (.iconst 0, 1) := by decide +kernel
theorem d_Lk_reset_11 : decode b_Lk_reset 11 = .ok (.putfield 16, 3) := by decide +kernel
theorem d_Lk_reset_14 : decode b_Lk_reset 14 = .ok (.return_, 1) := by decide +kernel
theorem d_Lk_close_0 : decode b_Lk_close 0 = .ok (.aload_n 0, 1) := by decide +kernel
theorem d_Lk_close_1 : decode b_Lk_close 1 = .ok (.iconst 0, 1) := by decide +kernel
theorem d_Lk_close_2 : decode b_Lk_close 2 = .ok (.putfield 19, 3) := by decide +kernel
theorem d_Lk_close_5 : decode b_Lk_close 5 = .ok (.aload_n 0, 1) := by decide +kernel
theorem d_Lk_close_6 : decode b_Lk_close 6 = .ok (.iconst 0, 1) := by decide +kernel
theorem d_Lk_close_7 : decode b_Lk_close 7 = .ok (.putfield 23, 3) := by decide +kernel
theorem d_Lk_close_10 : decode b_Lk_close 10 = .ok (.return_, 1) := by decide +kernel
theorem d_Lk_open_0 : decode b_Lk_open 0 = .ok (.aload_n 0, 1) := by decide +kernel
theorem d_Lk_open_1 : decode b_Lk_open 1 = .ok (.iconst 1, 1) := by decide +kernel
theorem d_Lk_open_2 : decode b_Lk_open 2 = .ok (.putfield 19, 3) := by decide +kernel
theorem d_Lk_open_5 : decode b_Lk_open 5 = .ok (.aload_n 0, 1) := by decide +kernel
theorem d_Lk_open_6 : decode b_Lk_open 6 = .ok (.iconst 0, 1) := by decide +kernel
theorem d_Lk_open_7 : decode b_Lk_open 7 = .ok (.putfield 12, 3) := by decide +kernel
theorem d_Lk_open_10 : decode b_Lk_open 10 = .ok (.return_, 1) := by decide +kernel
theorem d_Lk_nextSeed_0 : decode b_Lk_nextSeed 0 = .ok (.aload_n 0, 1) := by decide +kernel
theorem d_Lk_nextSeed_1 : decode b_Lk_nextSeed 1 = .ok (.bipush 17, 2) := by decide +kernel
theorem d_Lk_nextSeed_3 : decode b_Lk_nextSeed 3 = .ok (.bipush 73, 2) := by decide +kernel
theorem d_Lk_nextSeed_5 : decode b_Lk_nextSeed 5 = .ok (.aload_n 0, 1) := by decide +kernel
theorem d_Lk_nextSeed_6 : decode b_Lk_nextSeed 6 = .ok (.getfield 26, 3) := by decide +kernel
theorem d_Lk_nextSeed_9 : decode b_Lk_nextSeed 9 = .ok (.imul, 1) := by decide +kernel
theorem d_Lk_nextSeed_10 : decode b_Lk_nextSeed 10 = .ok (.iadd, 1) := by decide +kernel
theorem d_Lk_nextSeed_11 : decode b_Lk_nextSeed 11 = .ok (.sipush 255, 3) := by decide +kernel
theorem d_Lk_nextSeed_14 : decode b_Lk_nextSeed 14 = .ok (.iand, 1) := by decide +kernel
theorem d_Lk_nextSeed_15 : decode b_Lk_nextSeed 15 = .ok (.putfield 23, 3) := by decide +kernel
theorem d_Lk_nextSeed_18 : decode b_Lk_nextSeed 18 = .ok (.aload_n 0, 1) := by decide +kernel
theorem d_Lk_nextSeed_19 : decode b_Lk_nextSeed 19 = .ok (.dup, 1) := by decide +kernel
theorem d_Lk_nextSeed_20 : decode b_Lk_nextSeed 20 = .ok (.getfield 26, 3) := by decide +kernel
theorem d_Lk_nextSeed_23 : decode b_Lk_nextSeed 23 = .ok (.iconst 1, 1) := by decide +kernel
theorem d_Lk_nextSeed_24 : decode b_Lk_nextSeed 24 = .ok (.iadd, 1) := by decide +kernel
theorem d_Lk_nextSeed_25 : decode b_Lk_nextSeed 25 = .ok (.putfield 26, 3) := by decide +kernel
theorem d_Lk_nextSeed_28 : decode b_Lk_nextSeed 28 = .ok (.aload_n 0, 1) := by decide +kernel
theorem d_Lk_nextSeed_29 : decode b_Lk_nextSeed 29 = .ok (.getfield 23, 3) := by decide +kernel
theorem d_Lk_nextSeed_32 : decode b_Lk_nextSeed 32 = .ok (.ireturn, 1) := by decide +kernel
theorem d_Lk_takeOpenSeed_0 : decode b_Lk_takeOpenSeed 0 = .ok (.aload_n 0, 1) := by decide +kernel
theorem d_Lk_takeOpenSeed_1 : decode b_Lk_takeOpenSeed 1 = .ok (.getfield 23, 3) := by decide +kernel
theorem d_Lk_takeOpenSeed_4 : decode b_Lk_takeOpenSeed 4 = .ok (.istore_n 1, 1) := by decide +kernel
theorem d_Lk_takeOpenSeed_5 : decode b_Lk_takeOpenSeed 5 = .ok (.aload_n 0, 1) := by decide +kernel
theorem d_Lk_takeOpenSeed_6 : decode b_Lk_takeOpenSeed 6 = .ok (.iconst 0, 1) := by decide +kernel
theorem d_Lk_takeOpenSeed_7 : decode b_Lk_takeOpenSeed 7 = .ok (.putfield 23, 3) := by decide +kernel
theorem d_Lk_takeOpenSeed_10 : decode b_Lk_takeOpenSeed 10 = .ok (.iload_n 1, 1) := by decide +kernel
theorem d_Lk_takeOpenSeed_11 : decode b_Lk_takeOpenSeed 11 = .ok (.ireturn, 1) := by decide +kernel
theorem d_Lk_countWrongKey_0 : decode b_Lk_countWrongKey 0 = .ok (.aload_n 0, 1) := by decide +kernel
theorem d_Lk_countWrongKey_1 : decode b_Lk_countWrongKey 1 = .ok (.dup, 1) := by decide +kernel
theorem d_Lk_countWrongKey_2 : decode b_Lk_countWrongKey 2 = .ok (.getfield 12, 3) := by decide +kernel
theorem d_Lk_countWrongKey_5 : decode b_Lk_countWrongKey 5 = .ok (.iconst 1, 1) := by decide +kernel
theorem d_Lk_countWrongKey_6 : decode b_Lk_countWrongKey 6 = .ok (.iadd, 1) := by decide +kernel
theorem d_Lk_countWrongKey_7 : decode b_Lk_countWrongKey 7 = .ok (.putfield 12, 3) := by decide +kernel
theorem d_Lk_countWrongKey_10 : decode b_Lk_countWrongKey 10 = .ok (.aload_n 0, 1) := by decide +kernel
theorem d_Lk_countWrongKey_11 : decode b_Lk_countWrongKey 11 = .ok (.getfield 12, 3) := by decide +kernel
theorem d_Lk_countWrongKey_14 : decode b_Lk_countWrongKey 14 = .ok (.iconst 2, 1) := by decide +kernel
theorem d_Lk_countWrongKey_15 : decode b_Lk_countWrongKey 15 = .ok (.if_icmp .ge 5, 3) := by decide +kernel
theorem d_Lk_countWrongKey_18 : decode b_Lk_countWrongKey 18 = .ok (.iconst 0, 1) := by decide +kernel
theorem d_Lk_countWrongKey_19 : decode b_Lk_countWrongKey 19 = .ok (.ireturn, 1) := by decide +kernel
theorem d_Lk_countWrongKey_20 : decode b_Lk_countWrongKey 20 = .ok (.aload_n 0, 1) := by decide +kernel
theorem d_Lk_countWrongKey_21 : decode b_Lk_countWrongKey 21 = .ok (.iconst 0, 1) := by decide +kernel
theorem d_Lk_countWrongKey_22 : decode b_Lk_countWrongKey 22 = .ok (.putfield 12, 3) := by decide +kernel
theorem d_Lk_countWrongKey_25 : decode b_Lk_countWrongKey 25 = .ok (.aload_n 0, 1) := by decide +kernel
theorem d_Lk_countWrongKey_26 : decode b_Lk_countWrongKey 26 = .ok (.bipush 8, 2) := by decide +kernel
theorem d_Lk_countWrongKey_28 : decode b_Lk_countWrongKey 28 = .ok (.putfield 16, 3) := by decide +kernel
theorem d_Lk_countWrongKey_31 : decode b_Lk_countWrongKey 31 = .ok (.iconst 1, 1) := by decide +kernel
theorem d_Lk_countWrongKey_32 : decode b_Lk_countWrongKey 32 = .ok (.ireturn, 1) := by decide +kernel
theorem d_Lk_shortenDelay_0 : decode b_Lk_shortenDelay 0 = .ok (.aload_n 0, 1) := by decide +kernel
theorem d_Lk_shortenDelay_1 : decode b_Lk_shortenDelay 1 = .ok (.getfield 16, 3) := by decide +kernel
theorem d_Lk_shortenDelay_4 : decode b_Lk_shortenDelay 4 = .ok (.ifCond .eq 13, 3) := by decide +kernel
theorem d_Lk_shortenDelay_7 : decode b_Lk_shortenDelay 7 = .ok (.aload_n 0, 1) := by decide +kernel
theorem d_Lk_shortenDelay_8 : decode b_Lk_shortenDelay 8 = .ok (.dup, 1) := by decide +kernel
theorem d_Lk_shortenDelay_9 : decode b_Lk_shortenDelay 9 = .ok (.getfield 16, 3) := by decide +kernel
theorem d_Lk_shortenDelay_12 : decode b_Lk_shortenDelay 12 = .ok (.iconst 1, 1) := by decide +kernel
theorem d_Lk_shortenDelay_13 : decode b_Lk_shortenDelay 13 = .ok (.isub, 1) := by decide +kernel
theorem d_Lk_shortenDelay_14 : decode b_Lk_shortenDelay 14 = .ok (.putfield 16, 3) := by decide +kernel
theorem d_Lk_shortenDelay_17 : decode b_Lk_shortenDelay 17 = .ok (.return_, 1) := by decide +kernel
theorem d_Mm_init_0 : decode b_Mm_init 0 = .ok (.aload_n 0, 1) := by decide +kernel
theorem d_Mm_init_1 : decode b_Mm_init 1 = .ok (.invokespecial 5, 3) := by decide +kernel
theorem d_Mm_init_4 : decode b_Mm_init 4 = .ok (.aload_n 0, 1) := by decide +kernel
theorem d_Mm_init_5 : decode b_Mm_init 5 = .ok (.bipush 96, 2) := by decide +kernel
theorem d_Mm_init_7 : decode b_Mm_init 7 = .ok (.newarray .int, 2) := by decide +kernel
theorem d_Mm_init_9 : decode b_Mm_init 9 = .ok (.putfield 11, 3) := by decide +kernel
theorem d_Mm_init_12 : decode b_Mm_init 12 = .ok (.iconst 0, 1) := by decide +kernel
theorem d_Mm_init_13 : decode b_Mm_init 13 = .ok (.istore_n 1, 1) := by decide +kernel
theorem d_Mm_init_14 : decode b_Mm_init 14 = .ok (.iload_n 1, 1) := by decide +kernel
theorem d_Mm_init_15 : decode b_Mm_init 15 = .ok (.bipush 96, 2) := by decide +kernel
theorem d_Mm_init_17 : decode b_Mm_init 17 = .ok (.if_icmp .ge 28, 3) := by decide +kernel
theorem d_Mm_init_20 : decode b_Mm_init 20 = .ok (.aload_n 0, 1) := by decide +kernel
theorem d_Mm_init_21 : decode b_Mm_init 21 = .ok (.getfield 11, 3) := by decide +kernel
theorem d_Mm_init_24 : decode b_Mm_init 24 = .ok (.iload_n 1, 1) := by decide +kernel
theorem d_Mm_init_25 : decode b_Mm_init 25 = .ok (.iload_n 1, 1) := by decide +kernel
theorem d_Mm_init_26 : decode b_Mm_init 26 = .ok (.bipush 32, 2) := by decide +kernel
theorem d_Mm_init_28 : decode b_Mm_init 28 = .ok (.if_icmp .ge 7, 3) := by decide +kernel
theorem d_Mm_init_31 : decode b_Mm_init 31 = .ok (.iload_n 1, 1) := by decide +kernel
theorem d_Mm_init_32 : decode b_Mm_init 32 = .ok (.goto 6, 3) := by decide +kernel
theorem d_Mm_init_35 : decode b_Mm_init 35 = .ok (.sipush 255, 3) := by decide +kernel
theorem d_Mm_init_38 : decode b_Mm_init 38 = .ok (.iastore, 1) := by decide +kernel
theorem d_Mm_init_39 : decode b_Mm_init 39 = .ok (.iinc 1 1, 3) := by decide +kernel
theorem d_Mm_init_42 : decode b_Mm_init 42 = .ok (.goto (-28), 3) := by decide +kernel
theorem d_Mm_init_45 : decode b_Mm_init 45 = .ok (.aload_n 0, 1) := by decide +kernel
theorem d_Mm_init_46 : decode b_Mm_init 46 = .ok (.iconst 0, 1) := by decide +kernel
theorem d_Mm_init_47 : decode b_Mm_init 47 = .ok (.invokevirtual 15, 3) := by decide +kernel
theorem d_Mm_init_50 : decode b_Mm_init 50 = .ok (.istore_n 1, 1) := by decide +kernel
theorem d_Mm_init_51 : decode b_Mm_init 51 = .ok (.iconst 0, 1) := by decide +kernel
theorem d_Mm_init_52 : decode b_Mm_init 52 = .ok (.invokestatic 19, 3) := by decide +kernel
theorem d_Mm_init_55 : decode b_Mm_init 55 = .ok (.istore_n 2, 1) := by decide +kernel
theorem d_Mm_init_56 : decode b_Mm_init 56 = .ok (.aload_n 0, 1) := by decide +kernel
theorem d_Mm_init_57 : decode b_Mm_init 57 = .ok (.getfield 11, 3) := by decide +kernel
theorem d_Mm_init_60 : decode b_Mm_init 60 = .ok (.iload_n 2, 1) := by decide +kernel
theorem d_Mm_init_61 : decode b_Mm_init 61 = .ok (.iconst 0, 1) := by decide +kernel
theorem d_Mm_init_62 : decode b_Mm_init 62 = .ok (.iastore, 1) := by decide +kernel
theorem d_Mm_init_63 : decode b_Mm_init 63 = .ok (.aload_n 0, 1) := by decide +kernel
theorem d_Mm_init_64 : decode b_Mm_init 64 = .ok (.getfield 11, 3) := by decide +kernel
theorem d_Mm_init_67 : decode b_Mm_init 67 = .ok (.iload_n 2, 1) := by decide +kernel
theorem d_Mm_init_68 : decode b_Mm_init 68 = .ok (.iconst 1, 1) := by decide +kernel
theorem d_Mm_init_69 : decode b_Mm_init 69 = .ok (.iadd, 1) := by decide +kernel
theorem d_Mm_init_70 : decode b_Mm_init 70 = .ok (.iconst 1, 1) := by decide +kernel
theorem d_Mm_init_71 : decode b_Mm_init 71 = .ok (.iastore, 1) := by decide +kernel
theorem d_Mm_init_72 : decode b_Mm_init 72 = .ok (.aload_n 0, 1) := by decide +kernel
theorem d_Mm_init_73 : decode b_Mm_init 73 = .ok (.getfield 11, 3) := by decide +kernel
theorem d_Mm_init_76 : decode b_Mm_init 76 = .ok (.iload_n 2, 1) := by decide +kernel
theorem d_Mm_init_77 : decode b_Mm_init 77 = .ok (.iconst 2, 1) := by decide +kernel
theorem d_Mm_init_78 : decode b_Mm_init 78 = .ok (.iadd, 1) := by decide +kernel
theorem d_Mm_init_79 : decode b_Mm_init 79 = .ok (.iload_n 1, 1) := by decide +kernel
theorem d_Mm_init_80 : decode b_Mm_init 80 = .ok (.bipush 8, 2) := by decide +kernel
theorem d_Mm_init_82 : decode b_Mm_init 82 = .ok (.iushr, 1) := by decide +kernel
theorem d_Mm_init_83 : decode b_Mm_init 83 = .ok (.iastore, 1) := by decide +kernel
theorem d_Mm_init_84 : decode b_Mm_init 84 = .ok (.aload_n 0, 1) := by decide +kernel
theorem d_Mm_init_85 : decode b_Mm_init 85 = .ok (.getfield 11, 3) := by decide +kernel
theorem d_Mm_init_88 : decode b_Mm_init 88 = .ok (.iload_n 2, 1) := by decide +kernel
theorem d_Mm_init_89 : decode b_Mm_init 89 = .ok (.iconst 3, 1) := by decide +kernel
theorem d_Mm_init_90 : decode b_Mm_init 90 = .ok (.iadd, 1) := by decide +kernel
theorem d_Mm_init_91 : decode b_Mm_init 91 = .ok (.iload_n 1, 1) := by decide +kernel
theorem d_Mm_init_92 : decode b_Mm_init 92 = .ok (.sipush 255, 3) := by decide +kernel
theorem d_Mm_init_95 : decode b_Mm_init 95 = .ok (.iand, 1) := by decide +kernel
theorem d_Mm_init_96 : decode b_Mm_init 96 = .ok (.iastore, 1) := by decide +kernel
theorem d_Mm_init_97 : decode b_Mm_init 97 = .ok (.return_, 1) := by decide +kernel
theorem d_Mm_imageOf_0 : decode b_Mm_imageOf 0 = .ok (.iload_n 0, 1) := by decide +kernel
theorem d_Mm_imageOf_1 : decode b_Mm_imageOf 1 = .ok (.bipush 48, 2) := by decide +kernel
theorem d_Mm_imageOf_3 : decode b_Mm_imageOf 3 = .ok (.imul, 1) := by decide +kernel
theorem d_Mm_imageOf_4 : decode b_Mm_imageOf 4 = .ok (.ireturn, 1) := by decide +kernel
theorem d_Mm_headerOf_0 : decode b_Mm_headerOf 0 = .ok (.iload_n 0, 1) := by decide +kernel
theorem d_Mm_headerOf_1 : decode b_Mm_headerOf 1 = .ok (.bipush 48, 2) := by decide +kernel
theorem d_Mm_headerOf_3 : decode b_Mm_headerOf 3 = .ok (.imul, 1) := by decide +kernel
theorem d_Mm_headerOf_4 : decode b_Mm_headerOf 4 = .ok (.bipush 32, 2) := by decide +kernel
theorem d_Mm_headerOf_6 : decode b_Mm_headerOf 6 = .ok (.iadd, 1) := by decide +kernel
theorem d_Mm_headerOf_7 : decode b_Mm_headerOf 7 = .ok (.ireturn, 1) := by decide +kernel
theorem d_Mm_has_0 : decode b_Mm_has 0 = .ok (.iload_n 1, 1) := by decide +kernel
theorem d_Mm_has_1 : decode b_Mm_has 1 = .ok (.ifCond .lt 15, 3) := by decide +kernel
theorem d_Mm_has_4 : decode b_Mm_has 4 = .ok (.iload_n 1, 1) := by decide +kernel
theorem d_Mm_has_5 : decode b_Mm_has 5 = .ok (.bipush 96, 2) := by decide +kernel
theorem d_Mm_has_7 : decode b_Mm_has 7 = .ok (.iload_n 2, 1) := by decide +kernel
theorem d_Mm_has_8 : decode b_Mm_has 8 = .ok (.isub, 1) := by decide +kernel
theorem d_Mm_has_9 : decode b_Mm_has 9 = .ok (.if_icmp .gt 7, 3) := by decide +kernel
theorem d_Mm_has_12 : decode b_Mm_has 12 = .ok (.iconst 1, 1) := by decide +kernel
theorem d_Mm_has_13 : decode b_Mm_has 13 = .ok (.goto 4, 3) := by decide +kernel
theorem d_Mm_has_16 : decode b_Mm_has 16 = .ok (.iconst 0, 1) := by decide +kernel
theorem d_Mm_has_17 : decode b_Mm_has 17 = .ok (.ireturn, 1) := by decide +kernel
theorem d_Mm_byteAt_0 : decode b_Mm_byteAt 0 = .ok (.iload_n 1, 1) := by decide +kernel
theorem d_Mm_byteAt_1 : decode b_Mm_byteAt 1 = .ok (.ifCond .lt 18, 3) := by decide +kernel
theorem d_Mm_byteAt_4 : decode b_Mm_byteAt 4 = .ok (.iload_n 1, 1) := by decide +kernel
theorem d_Mm_byteAt_5 : decode b_Mm_byteAt 5 = .ok (.bipush 96, 2) := by decide +kernel
theorem d_Mm_byteAt_7 : decode b_Mm_byteAt 7 = .ok (.if_icmp .ge 12, 3) := by decide +kernel
theorem d_Mm_byteAt_10 : decode b_Mm_byteAt 10 = .ok (.aload_n 0, 1) := by decide +kernel
theorem d_Mm_byteAt_11 : decode b_Mm_byteAt 11 = .ok (.getfield 11, 3) := by decide +kernel
theorem d_Mm_byteAt_14 : decode b_Mm_byteAt 14 = .ok (.iload_n 1, 1) := by decide +kernel
theorem d_Mm_byteAt_15 : decode b_Mm_byteAt 15 = .ok (.iaload, 1) := by decide +kernel
theorem d_Mm_byteAt_16 : decode b_Mm_byteAt 16 = .ok (.goto 4, 3) := by decide +kernel
theorem d_Mm_byteAt_19 : decode b_Mm_byteAt 19 = .ok (.iconst 0, 1) := by decide +kernel
theorem d_Mm_byteAt_20 : decode b_Mm_byteAt 20 = .ok (.ireturn, 1) := by decide +kernel
theorem d_Mm_orderCut_0 : decode b_Mm_orderCut 0 = .ok (.aload_n 0, 1) := by decide +kernel
theorem d_Mm_orderCut_1 : decode b_Mm_orderCut 1 = .ok (.iconst 1, 1) := by decide +kernel
theorem d_Mm_orderCut_2 : decode b_Mm_orderCut 2 = .ok (.putfield 22, 3) := by decide +kernel
theorem d_Mm_orderCut_5 : decode b_Mm_orderCut 5 = .ok (.aload_n 0, 1) := by decide +kernel
theorem d_Mm_orderCut_6 : decode b_Mm_orderCut 6 = .ok (.iload_n 1, 1) := by decide +kernel
theorem d_Mm_orderCut_7 : decode b_Mm_orderCut 7 = .ok (.putfield 26, 3) := by decide +kernel
theorem d_Mm_orderCut_10 : decode b_Mm_orderCut 10 = .ok (.return_, 1) := by decide +kernel
theorem d_Mm_write_0 : decode b_Mm_write 0 = .ok (.aload_n 0, 1) := by decide +kernel
theorem d_Mm_write_1 : decode b_Mm_write 1 = .ok (.iload_n 1, 1) := by decide +kernel
theorem d_Mm_write_2 : decode b_Mm_write 2 = .ok (.iload 4, 2) := by decide +kernel
theorem d_Mm_write_4 : decode b_Mm_write 4 = .ok (.invokevirtual 30, 3) := by decide +kernel
theorem d_Mm_write_7 : decode b_Mm_write 7 = .ok (.ifCond .eq 12, 3) := by decide +kernel
theorem d_Mm_write_10 : decode b_Mm_write 10 = .ok (.iload_n 3, 1) := by decide +kernel
theorem d_Mm_write_11 : decode b_Mm_write 11 = .ok (.aload_n 2, 1) := by decide +kernel
theorem d_Mm_write_12 : decode b_Mm_write 12 = .ok (.arraylength, 1) := by decide +kernel
theorem d_Mm_write_13 : decode b_Mm_write 13 = .ok (.iload 4, 2) := by decide +kernel
theorem d_Mm_write_15 : decode b_Mm_write 15 = .ok (.isub, 1) := by decide +kernel
theorem d_Mm_write_16 : decode b_Mm_write 16 = .ok (.if_icmp .le 5, 3) := by decide +kernel
theorem d_Mm_write_19 : decode b_Mm_write 19 = .ok (.iconst 1, 1) := by decide +kernel
theorem d_Mm_write_20 : decode b_Mm_write 20 = .ok (.ireturn, 1) := by decide +kernel
theorem d_Mm_write_21 : decode b_Mm_write 21 = .ok (.iconst 0, 1) := by decide +kernel
theorem d_Mm_write_22 : decode b_Mm_write 22 = .ok (.istore 5, 2) := by decide +kernel
theorem d_Mm_write_24 : decode b_Mm_write 24 = .ok (.iload 5, 2) := by decide +kernel
theorem d_Mm_write_26 : decode b_Mm_write 26 = .ok (.iload 4, 2) := by decide +kernel
theorem d_Mm_write_28 : decode b_Mm_write 28 = .ok (.if_icmp .ge 35, 3) := by decide +kernel
theorem d_Mm_write_31 : decode b_Mm_write 31 = .ok (.aload_n 0, 1) := by decide +kernel
theorem d_Mm_write_32 : decode b_Mm_write 32 = .ok (.iload_n 1, 1) := by decide +kernel
theorem d_Mm_write_33 : decode b_Mm_write 33 = .ok (.iload 5, 2) := by decide +kernel
theorem d_Mm_write_35 : decode b_Mm_write 35 = .ok (.iadd, 1) := by decide +kernel
theorem d_Mm_write_36 : decode b_Mm_write 36 = .ok (.iload 5, 2) := by decide +kernel
theorem d_Mm_write_38 : decode b_Mm_write 38 = .ok (.aload_n 0, 1) := by decide +kernel
theorem d_Mm_write_39 : decode b_Mm_write 39 = .ok (.getfield 11, 3) := by decide +kernel
theorem d_Mm_write_42 : decode b_Mm_write 42 = .ok (.iload_n 1, 1) := by decide +kernel
theorem d_Mm_write_43 : decode b_Mm_write 43 = .ok (.iload 5, 2) := by decide +kernel
theorem d_Mm_write_45 : decode b_Mm_write 45 = .ok (.iadd, 1) := by decide +kernel
theorem d_Mm_write_46 : decode b_Mm_write 46 = .ok (.iaload, 1) := by decide +kernel
theorem d_Mm_write_47 : decode b_Mm_write 47 = .ok (.aload_n 2, 1) := by decide +kernel
theorem d_Mm_write_48 : decode b_Mm_write 48 = .ok (.iload_n 3, 1) := by decide +kernel
theorem d_Mm_write_49 : decode b_Mm_write 49 = .ok (.iload 5, 2) := by decide +kernel
theorem d_Mm_write_51 : decode b_Mm_write 51 = .ok (.iadd, 1) := by decide +kernel
theorem d_Mm_write_52 : decode b_Mm_write 52 = .ok (.iaload, 1) := by decide +kernel
theorem d_Mm_write_53 : decode b_Mm_write 53 = .ok (.iand, 1) := by decide +kernel
theorem d_Mm_write_54 : decode b_Mm_write 54 = .ok (.invokevirtual 34, 3) := by decide +kernel
theorem d_Mm_write_57 : decode b_Mm_write 57 = .ok (.iinc 5 1, 3) := by decide +kernel
theorem d_Mm_write_60 : decode b_Mm_write 60 = .ok (.goto (-36), 3) := by decide +kernel
theorem d_Mm_write_63 : decode b_Mm_write 63 = .ok (.aload_n 0, 1) := by decide +kernel
theorem d_Mm_write_64 : decode b_Mm_write 64 = .ok (.invokevirtual 38, 3) := by decide +kernel
theorem d_Mm_write_67 : decode b_Mm_write 67 = .ok (.ireturn, 1) := by decide +kernel
theorem d_Mm_erase_0 : decode b_Mm_erase 0 = .ok (.iload_n 1, 1) := by decide +kernel
theorem d_Mm_erase_1 : decode b_Mm_erase 1 = .ok (.bipush 16, 2) := by decide +kernel
theorem d_Mm_erase_3 : decode b_Mm_erase 3 = .ok (.imul, 1) := by decide +kernel
theorem d_Mm_erase_4 : decode b_Mm_erase 4 = .ok (.istore_n 2, 1) := by decide +kernel
theorem d_Mm_erase_5 : decode b_Mm_erase 5 = .ok (.aload_n 0, 1) := by decide +kernel
theorem d_Mm_erase_6 : decode b_Mm_erase 6 = .ok (.iload_n 2, 1) := by decide +kernel
theorem d_Mm_erase_7 : decode b_Mm_erase 7 = .ok (.bipush 16, 2) := by decide +kernel
theorem d_Mm_erase_9 : decode b_Mm_erase 9 = .ok (.invokevirtual 30, 3) := by decide +kernel
theorem d_Mm_erase_12 : decode b_Mm_erase 12 = .ok (.ifCond .ne 5, 3) := by decide +kernel
theorem d_Mm_erase_15 : decode b_Mm_erase 15 = .ok (.iconst 1, 1) := by decide +kernel
theorem d_Mm_erase_16 : decode b_Mm_erase 16 = .ok (.ireturn, 1) := by decide +kernel
theorem d_Mm_erase_17 : decode b_Mm_erase 17 = .ok (.iconst 0, 1) := by decide +kernel
theorem d_Mm_erase_18 : decode b_Mm_erase 18 = .ok (.istore_n 3, 1) := by decide +kernel
theorem d_Mm_erase_19 : decode b_Mm_erase 19 = .ok (.iload_n 3, 1) := by decide +kernel
theorem d_Mm_erase_20 : decode b_Mm_erase 20 = .ok (.bipush 16, 2) := by decide +kernel
theorem d_Mm_erase_22 : decode b_Mm_erase 22 = .ok (.if_icmp .ge 20, 3) := by decide +kernel
theorem d_Mm_erase_25 : decode b_Mm_erase 25 = .ok (.aload_n 0, 1) := by decide +kernel
theorem d_Mm_erase_26 : decode b_Mm_erase 26 = .ok (.iload_n 2, 1) := by decide +kernel
theorem d_Mm_erase_27 : decode b_Mm_erase 27 = .ok (.iload_n 3, 1) := by decide +kernel
theorem d_Mm_erase_28 : decode b_Mm_erase 28 = .ok (.iadd, 1) := by decide +kernel
theorem d_Mm_erase_29 : decode b_Mm_erase 29 = .ok (.iload_n 3, 1) := by decide +kernel
theorem d_Mm_erase_30 : decode b_Mm_erase 30 = .ok (.sipush 255, 3) := by decide +kernel
theorem d_Mm_erase_33 : decode b_Mm_erase 33 = .ok (.invokevirtual 34, 3) := by decide +kernel
theorem d_Mm_erase_36 : decode b_Mm_erase 36 = .ok (.iinc 3 1, 3) := by decide +kernel
theorem d_Mm_erase_39 : decode b_Mm_erase 39 = .ok (.goto (-20), 3) := by decide +kernel
theorem d_Mm_erase_42 : decode b_Mm_erase 42 = .ok (.aload_n 0, 1) := by decide +kernel
theorem d_Mm_erase_43 : decode b_Mm_erase 43 = .ok (.invokevirtual 38, 3) := by decide +kernel
theorem d_Mm_erase_46 : decode b_Mm_erase 46 = .ok (.ireturn, 1) := by decide +kernel
theorem d_Mm_change_0 : decode b_Mm_change 0 = .ok (.aload_n 0, 1) := by decide +kernel
theorem d_Mm_change_1 : decode b_Mm_change 1 = .ok (.getfield 22, 3) := by decide +kernel
theorem d_Mm_change_4 : decode b_Mm_change 4 = .ok (.ifCond .eq 17, 3) := by decide +kernel
theorem d_Mm_change_7 : decode b_Mm_change 7 = .ok (.aload_n 0, 1) := by decide +kernel
theorem d_Mm_change_8 : decode b_Mm_change 8 = .ok (.getfield 26, 3) := by decide +kernel
theorem d_Mm_change_11 : decode b_Mm_change 11 = .ok (.bipush 8, 2) := by decide +kernel
theorem d_Mm_change_13 : decode b_Mm_change 13 = .ok (.iload_n 2, 1) := by decide +kernel
theorem d_Mm_change_14 : decode b_Mm_change 14 = .ok (.iconst 3, 1) := by decide +kernel
theorem d_Mm_change_15 : decode b_Mm_change 15 = .ok (.iand, 1) := by decide +kernel
theorem d_Mm_change_16 : decode b_Mm_change 16 = .ok (.imul, 1) := by decide +kernel
theorem d_Mm_change_17 : decode b_Mm_change 17 = .ok (.iushr, 1) := by decide +kernel
theorem d_Mm_change_18 : decode b_Mm_change 18 = .ok (.goto 6, 3) := by decide +kernel
theorem d_Mm_change_21 : decode b_Mm_change 21 = .ok (.sipush 255, 3) := by decide +kernel
theorem d_Mm_change_24 : decode b_Mm_change 24 = .ok (.istore 4, 2) := by decide +kernel
theorem d_Mm_change_26 : decode b_Mm_change 26 = .ok (.aload_n 0, 1) := by decide +kernel
theorem d_Mm_change_27 : decode b_Mm_change 27 = .ok (.getfield 11, 3) := by decide +kernel
theorem d_Mm_change_30 : decode b_Mm_change 30 = .ok (.iload_n 1, 1) := by decide +kernel
theorem d_Mm_change_31 : decode b_Mm_change 31 = .ok (.dup2, 1) := by decide +kernel
theorem d_Mm_change_32 : decode b_Mm_change 32 = .ok (.iaload, 1) := by decide +kernel
theorem d_Mm_change_33 : decode b_Mm_change 33 = .ok (.aload_n 0, 1) := by decide +kernel
theorem d_Mm_change_34 : decode b_Mm_change 34 = .ok (.getfield 11, 3) := by decide +kernel
theorem d_Mm_change_37 : decode b_Mm_change 37 = .ok (.iload_n 1, 1) := by decide +kernel
theorem d_Mm_change_38 : decode b_Mm_change 38 = .ok (.iaload, 1) := by decide +kernel
theorem d_Mm_change_39 : decode b_Mm_change 39 = .ok (.iload_n 3, 1) := by decide +kernel
theorem d_Mm_change_40 : decode b_Mm_change 40 = .ok (.ixor, 1) := by decide +kernel
theorem d_Mm_change_41 : decode b_Mm_change 41 = .ok (.iload 4, 2) := by decide +kernel
theorem d_Mm_change_43 : decode b_Mm_change 43 = .ok (.iand, 1) := by decide +kernel
theorem d_Mm_change_44 : decode b_Mm_change 44 = .ok (.ixor, 1) := by decide +kernel
theorem d_Mm_change_45 : decode b_Mm_change 45 = .ok (.iastore, 1) := by decide +kernel
theorem d_Mm_change_46 : decode b_Mm_change 46 = .ok (.return_, 1) := by decide +kernel
theorem d_Mm_endChange_0 : decode b_Mm_endChange 0 = .ok (.aload_n 0, 1) := by decide +kernel
theorem d_Mm_endChange_1 : decode b_Mm_endChange 1 = .ok (.getfield 22, 3) := by decide +kernel
theorem d_Mm_endChange_4 : decode b_Mm_endChange 4 = .ok (.ifCond .ne 7, 3) := by decide +kernel
theorem d_Mm_endChange_7 : decode b_Mm_endChange 7 = .ok (.iconst 1, 1) := by decide +kernel
theorem d_Mm_endChange_8 : decode b_Mm_endChange 8 = .ok (.goto 4, 3) := by decide +kernel
theorem d_Mm_endChange_11 : decode b_Mm_endChange 11 = .ok (.iconst 0, 1) := by decide +kernel
theorem d_Mm_endChange_12 : decode b_Mm_endChange 12 = .ok (.istore_n 1, 1) := by decide +kernel
theorem d_Mm_endChange_13 : decode b_Mm_endChange 13 = .ok (.aload_n 0, 1) := by decide +kernel
theorem d_Mm_endChange_14 : decode b_Mm_endChange 14 = .ok (.iconst 0, 1) := by decide +kernel
theorem d_Mm_endChange_15 : decode b_Mm_endChange 15 = .ok (.putfield 22, 3) := by decide +kernel
theorem d_Mm_endChange_18 : decode b_Mm_endChange 18 = .ok (.iload_n 1, 1) := by decide +kernel
theorem d_Mm_endChange_19 : decode b_Mm_endChange 19 = .ok (.ireturn, 1) := by decide +kernel
theorem d_Mm_holds_0 : decode b_Mm_holds 0 = .ok (.aload_n 0, 1) := by decide +kernel
theorem d_Mm_holds_1 : decode b_Mm_holds 1 = .ok (.iload_n 1, 1) := by decide +kernel
theorem d_Mm_holds_2 : decode b_Mm_holds 2 = .ok (.iload 4, 2) := by decide +kernel
theorem d_Mm_holds_4 : decode b_Mm_holds 4 = .ok (.invokevirtual 30, 3) := by decide +kernel
theorem d_Mm_holds_7 : decode b_Mm_holds 7 = .ok (.ifCond .eq 12, 3) := by decide +kernel
theorem d_Mm_holds_10 : decode b_Mm_holds 10 = .ok (.iload_n 3, 1) := by decide +kernel
theorem d_Mm_holds_11 : decode b_Mm_holds 11 = .ok (.aload_n 2, 1) := by decide +kernel
theorem d_Mm_holds_12 : decode b_Mm_holds 12 = .ok (.arraylength, 1) := by decide +kernel
theorem d_Mm_holds_13 : decode b_Mm_holds 13 = .ok (.iload 4, 2) := by decide +kernel
theorem d_Mm_holds_15 : decode b_Mm_holds 15 = .ok (.isub, 1) := by decide +kernel
theorem d_Mm_holds_16 : decode b_Mm_holds 16 = .ok (.if_icmp .le 5, 3) := by decide +kernel
theorem d_Mm_holds_19 : decode b_Mm_holds 19 = .ok (.iconst 0, 1) := by decide +kernel
theorem d_Mm_holds_20 : decode b_Mm_holds 20 = .ok (.ireturn, 1) := by decide +kernel
theorem d_Mm_holds_21 : decode b_Mm_holds 21 = .ok (.iconst 0, 1) := by decide +kernel
theorem d_Mm_holds_22 : decode b_Mm_holds 22 = .ok (.istore 5, 2) := by decide +kernel
theorem d_Mm_holds_24 : decode b_Mm_holds 24 = .ok (.iload 5, 2) := by decide +kernel
theorem d_Mm_holds_26 : decode b_Mm_holds 26 = .ok (.iload 4, 2) := by decide +kernel
theorem d_Mm_holds_28 : decode b_Mm_holds 28 = .ok (.if_icmp .ge 29, 3) := by decide +kernel
theorem d_Mm_holds_31 : decode b_Mm_holds 31 = .ok (.aload_n 0, 1) := by decide +kernel
theorem d_Mm_holds_32 : decode b_Mm_holds 32 = .ok (.getfield 11, 3) := by decide +kernel
theorem d_Mm_holds_35 : decode b_Mm_holds 35 = .ok (.iload_n 1, 1) := by decide +kernel
theorem d_Mm_holds_36 : decode b_Mm_holds 36 = .ok (.iload 5, 2) := by decide +kernel
theorem d_Mm_holds_38 : decode b_Mm_holds 38 = .ok (.iadd, 1) := by decide +kernel
theorem d_Mm_holds_39 : decode b_Mm_holds 39 = .ok (.iaload, 1) := by decide +kernel
theorem d_Mm_holds_40 : decode b_Mm_holds 40 = .ok (.aload_n 2, 1) := by decide +kernel
theorem d_Mm_holds_41 : decode b_Mm_holds 41 = .ok (.iload_n 3, 1) := by decide +kernel
theorem d_Mm_holds_42 : decode b_Mm_holds 42 = .ok (.iload 5, 2) := by decide +kernel
theorem d_Mm_holds_44 : decode b_Mm_holds 44 = .ok (.iadd, 1) := by decide +kernel
theorem d_Mm_holds_45 : decode b_Mm_holds 45 = .ok (.iaload, 1) := by decide +kernel
theorem d_Mm_holds_46 : decode b_Mm_holds 46 = .ok (.if_icmp .eq 5, 3) := by decide +kernel
theorem d_Mm_holds_49 : decode b_Mm_holds 49 = .ok (.iconst 0, 1) := by decide +kernel
theorem d_Mm_holds_50 : decode b_Mm_holds 50 = .ok (.ireturn, 1) := by decide +kernel
theorem d_Mm_holds_51 : decode b_Mm_holds 51 = .ok (.iinc 5 1, 3) := by decide +kernel
theorem d_Mm_holds_54 : decode b_Mm_holds 54 = .ok (.goto (-30), 3) := by decide +kernel
theorem d_Mm_holds_57 : decode b_Mm_holds 57 = .ok (.iconst 1, 1) := by decide +kernel
theorem d_Mm_holds_58 : decode b_Mm_holds 58 = .ok (.ireturn, 1) := by decide +kernel
theorem d_Mm_sumOf_0 : decode b_Mm_sumOf 0 = .ok (.iload_n 1, 1) := by decide +kernel
theorem d_Mm_sumOf_1 : decode b_Mm_sumOf 1 = .ok (.iconst 1, 1) := by decide +kernel
theorem d_Mm_sumOf_2 : decode b_Mm_sumOf 2 = .ok (.if_icmp .ne 8, 3) := by decide +kernel
theorem d_Mm_sumOf_5 : decode b_Mm_sumOf 5 = .ok (.bipush 48, 2) := by decide +kernel
theorem d_Mm_sumOf_7 : decode b_Mm_sumOf 7 = .ok (.goto 4, 3) := by decide +kernel
theorem d_Mm_sumOf_10 : decode b_Mm_sumOf 10 = .ok (.iconst 0, 1) := by decide +kernel
theorem d_Mm_sumOf_11 : decode b_Mm_sumOf 11 = .ok (.istore_n 2, 1) := by decide +kernel
theorem d_Mm_sumOf_12 : decode b_Mm_sumOf 12 = .ok (.ldc 42, 2) := by decide +kernel
theorem d_Mm_sumOf_14 : decode b_Mm_sumOf 14 = .ok (.istore_n 3, 1) := by decide +kernel
theorem d_Mm_sumOf_15 : decode b_Mm_sumOf 15 = .ok (.iload_n 2, 1) := by decide +kernel
theorem d_Mm_sumOf_16 : decode b_Mm_sumOf 16 = .ok (.istore 4, 2) := by decide +kernel
theorem d_Mm_sumOf_18 : decode b_Mm_sumOf 18 = .ok (.iload 4, 2) := by decide +kernel
theorem d_Mm_sumOf_20 : decode b_Mm_sumOf 20 = .ok (.iload_n 2, 1) := by decide +kernel
theorem d_Mm_sumOf_21 : decode b_Mm_sumOf 21 = .ok (.bipush 32, 2) := by decide +kernel
theorem d_Mm_sumOf_23 : decode b_Mm_sumOf 23 = .ok (.iadd, 1) := by decide +kernel
theorem d_Mm_sumOf_24 : decode b_Mm_sumOf 24 = .ok (.if_icmp .ge 65, 3) := by decide +kernel
theorem d_Mm_sumOf_27 : decode b_Mm_sumOf 27 = .ok (.iload_n 3, 1) := by decide +kernel
theorem d_Mm_sumOf_28 : decode b_Mm_sumOf 28 = .ok (.aload_n 0, 1) := by decide +kernel
theorem d_Mm_sumOf_29 : decode b_Mm_sumOf 29 = .ok (.getfield 11, 3) := by decide +kernel
theorem d_Mm_sumOf_32 : decode b_Mm_sumOf 32 = .ok (.iload 4, 2) := by decide +kernel
theorem d_Mm_sumOf_34 : decode b_Mm_sumOf 34 = .ok (.iaload, 1) := by decide +kernel
theorem d_Mm_sumOf_35 : decode b_Mm_sumOf 35 = .ok (.bipush 8, 2) := by decide +kernel
theorem d_Mm_sumOf_37 : decode b_Mm_sumOf 37 = .ok (.ishl, 1) := by decide +kernel
theorem d_Mm_sumOf_38 : decode b_Mm_sumOf 38 = .ok (.ixor, 1) := by decide +kernel
theorem d_Mm_sumOf_39 : decode b_Mm_sumOf 39 = .ok (.istore_n 3, 1) := by decide +kernel
theorem d_Mm_sumOf_40 : decode b_Mm_sumOf 40 = .ok (.iconst 0, 1) := by decide +kernel
theorem d_Mm_sumOf_41 : decode b_Mm_sumOf 41 = .ok (.istore 5, 2) := by decide +kernel
theorem d_Mm_sumOf_43 : decode b_Mm_sumOf 43 = .ok (.iload 5, 2) := by decide +kernel
theorem d_Mm_sumOf_45 : decode b_Mm_sumOf 45 = .ok (.bipush 8, 2) := by decide +kernel
theorem d_Mm_sumOf_47 : decode b_Mm_sumOf 47 = .ok (.if_icmp .ge 36, 3) := by decide +kernel
theorem d_Mm_sumOf_50 : decode b_Mm_sumOf 50 = .ok (.iload_n 3, 1) := by decide +kernel
theorem d_Mm_sumOf_51 : decode b_Mm_sumOf 51 = .ok (.iconst 1, 1) := by decide +kernel
theorem d_Mm_sumOf_52 : decode b_Mm_sumOf 52 = .ok (.ishl, 1) := by decide +kernel
theorem d_Mm_sumOf_53 : decode b_Mm_sumOf 53 = .ok (.ldc 42, 2) := by decide +kernel
theorem d_Mm_sumOf_55 : decode b_Mm_sumOf 55 = .ok (.iand, 1) := by decide +kernel
theorem d_Mm_sumOf_56 : decode b_Mm_sumOf 56 = .ok (.istore 6, 2) := by decide +kernel
theorem d_Mm_sumOf_58 : decode b_Mm_sumOf 58 = .ok (.iload_n 3, 1) := by decide +kernel
theorem d_Mm_sumOf_59 : decode b_Mm_sumOf 59 = .ok (.ldc 43, 2) := by decide +kernel
theorem d_Mm_sumOf_61 : decode b_Mm_sumOf 61 = .ok (.iand, 1) := by decide +kernel
theorem d_Mm_sumOf_62 : decode b_Mm_sumOf 62 = .ok (.ifCond .eq 12, 3) := by decide +kernel
theorem d_Mm_sumOf_65 : decode b_Mm_sumOf 65 = .ok (.iload 6, 2) := by decide +kernel
theorem d_Mm_sumOf_67 : decode b_Mm_sumOf 67 = .ok (.sipush 4129, 3) := by decide +kernel
theorem d_Mm_sumOf_70 : decode b_Mm_sumOf 70 = .ok (.ixor, 1) := by decide +kernel
theorem d_Mm_sumOf_71 : decode b_Mm_sumOf 71 = .ok (.goto 5, 3) := by decide +kernel
theorem d_Mm_sumOf_74 : decode b_Mm_sumOf 74 = .ok (.iload 6, 2) := by decide +kernel
theorem d_Mm_sumOf_76 : decode b_Mm_sumOf 76 = .ok (.istore_n 3, 1) := by decide +kernel
theorem d_Mm_sumOf_77 : decode b_Mm_sumOf 77 = .ok (.iinc 5 1, 3) := by decide +kernel
theorem d_Mm_sumOf_80 : decode b_Mm_sumOf 80 = .ok (.goto (-37), 3) := by decide +kernel
theorem d_Mm_sumOf_83 : decode b_Mm_sumOf 83 = .ok (.iinc 4 1, 3) := by decide +kernel
theorem d_Mm_sumOf_86 : decode b_Mm_sumOf 86 = .ok (.goto (-68), 3) := by decide +kernel
theorem d_Mm_sumOf_89 : decode b_Mm_sumOf 89 = .ok (.iload_n 3, 1) := by decide +kernel
theorem d_Mm_sumOf_90 : decode b_Mm_sumOf 90 = .ok (.ireturn, 1) := by decide +kernel
theorem d_Mm_goodSerial_0 : decode b_Mm_goodSerial 0 = .ok (.iload_n 1, 1) := by decide +kernel
theorem d_Mm_goodSerial_1 : decode b_Mm_goodSerial 1 = .ok (.invokestatic 19, 3) := by decide +kernel
theorem d_Mm_goodSerial_4 : decode b_Mm_goodSerial 4 = .ok (.istore_n 2, 1) := by decide +kernel
theorem d_Mm_goodSerial_5 : decode b_Mm_goodSerial 5 = .ok (.aload_n 0, 1) := by decide +kernel
theorem d_Mm_goodSerial_6 : decode b_Mm_goodSerial 6 = .ok (.iload_n 2, 1) := by decide +kernel
theorem d_Mm_goodSerial_7 : decode b_Mm_goodSerial 7 = .ok (.iconst 2, 1) := by decide +kernel
theorem d_Mm_goodSerial_8 : decode b_Mm_goodSerial 8 = .ok (.iadd, 1) := by decide +kernel
theorem d_Mm_goodSerial_9 : decode b_Mm_goodSerial 9 = .ok (.invokevirtual 44, 3) := by decide +kernel
theorem d_Mm_goodSerial_12 : decode b_Mm_goodSerial 12 = .ok (.bipush 8, 2) := by decide +kernel
theorem d_Mm_goodSerial_14 : decode b_Mm_goodSerial 14 = .ok (.ishl, 1) := by decide +kernel
theorem d_Mm_goodSerial_15 : decode b_Mm_goodSerial 15 = .ok (.aload_n 0, 1) := by decide +kernel
theorem d_Mm_goodSerial_16 : decode b_Mm_goodSerial 16 = .ok (.iload_n 2, 1) := by decide +kernel
theorem d_Mm_goodSerial_17 : decode b_Mm_goodSerial 17 = .ok (.iconst 3, 1) := by decide +kernel
theorem d_Mm_goodSerial_18 : decode b_Mm_goodSerial 18 = .ok (.iadd, 1) := by decide +kernel
theorem d_Mm_goodSerial_19 : decode b_Mm_goodSerial 19 = .ok (.invokevirtual 44, 3) := by decide +kernel
theorem d_Mm_goodSerial_22 : decode b_Mm_goodSerial 22 = .ok (.ior, 1) := by decide +kernel
theorem d_Mm_goodSerial_23 : decode b_Mm_goodSerial 23 = .ok (.istore_n 3, 1) := by decide +kernel
theorem d_Mm_goodSerial_24 : decode b_Mm_goodSerial 24 = .ok (.aload_n 0, 1) := by decide +kernel
theorem d_Mm_goodSerial_25 : decode b_Mm_goodSerial 25 = .ok (.iload_n 2, 1) := by decide +kernel
theorem d_Mm_goodSerial_26 : decode b_Mm_goodSerial 26 = .ok (.invokevirtual 44, 3) := by decide +kernel
theorem d_Mm_goodSerial_29 : decode b_Mm_goodSerial 29 = .ok (.ifCond .ne 22, 3) := by decide +kernel
theorem d_Mm_goodSerial_32 : decode b_Mm_goodSerial 32 = .ok (.iload_n 3, 1) := by decide +kernel
theorem d_Mm_goodSerial_33 : decode b_Mm_goodSerial 33 = .ok (.aload_n 0, 1) := by decide +kernel
theorem d_Mm_goodSerial_34 : decode b_Mm_goodSerial 34 = .ok (.iload_n 1, 1) := by decide +kernel
theorem d_Mm_goodSerial_35 : decode b_Mm_goodSerial 35 = .ok (.invokevirtual 15, 3) := by decide +kernel
theorem d_Mm_goodSerial_38 : decode b_Mm_goodSerial 38 = .ok (.if_icmp .ne 13, 3) := by decide +kernel
theorem d_Mm_goodSerial_41 : decode b_Mm_goodSerial 41 = .ok (.aload_n 0, 1) := by decide +kernel
theorem d_Mm_goodSerial_42 : decode b_Mm_goodSerial 42 = .ok (.iload_n 2, 1) := by decide +kernel
theorem d_Mm_goodSerial_43 : decode b_Mm_goodSerial 43 = .ok (.iconst 1, 1) := by decide +kernel
theorem d_Mm_goodSerial_44 : decode b_Mm_goodSerial 44 = .ok (.iadd, 1) := by decide +kernel
theorem d_Mm_goodSerial_45 : decode b_Mm_goodSerial 45 = .ok (.invokevirtual 44, 3) := by decide +kernel
theorem d_Mm_goodSerial_48 : decode b_Mm_goodSerial 48 = .ok (.goto 4, 3) := by decide +kernel
theorem d_Mm_goodSerial_51 : decode b_Mm_goodSerial 51 = .ok (.iconst (-1), 1) := by decide +kernel
theorem d_Mm_goodSerial_52 : decode b_Mm_goodSerial 52 = .ok (.ireturn, 1) := by decide +kernel
theorem d_Mm_bestSlot_0 : decode b_Mm_bestSlot 0 = .ok (.aload_n 0, 1) := by decide +kernel
theorem d_Mm_bestSlot_1 : decode b_Mm_bestSlot 1 = .ok (.iconst 0, 1) := by decide +kernel
theorem d_Mm_bestSlot_2 : decode b_Mm_bestSlot 2 = .ok (.invokevirtual 47, 3) := by decide +kernel
theorem d_Mm_bestSlot_5 : decode b_Mm_bestSlot 5 = .ok (.istore_n 1, 1) := by decide +kernel
theorem d_Mm_bestSlot_6 : decode b_Mm_bestSlot 6 = .ok (.aload_n 0, 1) := by decide +kernel
theorem d_Mm_bestSlot_7 : decode b_Mm_bestSlot 7 = .ok (.iconst 1, 1) := by decide +kernel
theorem d_Mm_bestSlot_8 : decode b_Mm_bestSlot 8 = .ok (.invokevirtual 47, 3) := by decide +kernel
theorem d_Mm_bestSlot_11 : decode b_Mm_bestSlot 11 = .ok (.istore_n 2, 1) := by decide +kernel
theorem d_Mm_bestSlot_12 : decode b_Mm_bestSlot 12 = .ok (.iload_n 2, 1) := by decide +kernel
theorem d_Mm_bestSlot_13 : decode b_Mm_bestSlot 13 = .ok (.iload_n 1, 1) := by decide +kernel
theorem d_Mm_bestSlot_14 : decode b_Mm_bestSlot 14 = .ok (.if_icmp .le 5, 3) := by decide +kernel
theorem d_Mm_bestSlot_17 : decode b_Mm_bestSlot 17 = .ok (.iconst 1, 1) := by decide +kernel
theorem d_Mm_bestSlot_18 : decode b_Mm_bestSlot 18 = .ok (.ireturn, 1) := by decide +kernel
theorem d_Mm_bestSlot_19 : decode b_Mm_bestSlot 19 = .ok (.iload_n 1, 1) := by decide +kernel
theorem d_Mm_bestSlot_20 : decode b_Mm_bestSlot 20 = .ok (.iconst (-1), 1) := by decide +kernel
theorem d_Mm_bestSlot_21 : decode b_Mm_bestSlot 21 = .ok (.if_icmp .ne 7, 3) := by decide +kernel
theorem d_Mm_bestSlot_24 : decode b_Mm_bestSlot 24 = .ok (.iconst (-1), 1) := by decide +kernel
theorem d_Mm_bestSlot_25 : decode b_Mm_bestSlot 25 = .ok (.goto 4, 3) := by decide +kernel
theorem d_Mm_bestSlot_28 : decode b_Mm_bestSlot 28 = .ok (.iconst 0, 1) := by decide +kernel
theorem d_Mm_bestSlot_29 : decode b_Mm_bestSlot 29 = .ok (.ireturn, 1) := by decide +kernel
theorem d_Rc_init_0 : decode b_Rc_init 0 = .ok (.aload_n 0, 1) := by decide +kernel
theorem d_Rc_init_1 : decode b_Rc_init 1 = .ok (.invokespecial 3, 3) := by decide +kernel
theorem d_Rc_init_4 : decode b_Rc_init 4 = .ok (.aload_n 0, 1) := by decide +kernel
theorem d_Rc_init_5 : decode b_Rc_init 5 = .ok (.bipush 34, 2) := by decide +kernel
theorem d_Rc_init_7 : decode b_Rc_init 7 = .ok (.newarray .int, 2) := by decide +kernel
theorem d_Rc_init_9 : decode b_Rc_init 9 = .ok (.putfield 11, 3) := by decide +kernel
theorem d_Rc_init_12 : decode b_Rc_init 12 = .ok (.return_, 1) := by decide +kernel
theorem d_Rc_at_0 : decode b_Rc_at 0 = .ok (.iload_n 1, 1) := by decide +kernel
theorem d_Rc_at_1 : decode b_Rc_at 1 = .ok (.ifCond .lt 26, 3) := by decide +kernel
theorem d_Rc_at_4 : decode b_Rc_at 4 = .ok (.iload_n 1, 1) := by decide +kernel
theorem d_Rc_at_5 : decode b_Rc_at 5 = .ok (.aload_n 0, 1) := by decide +kernel
theorem d_Rc_at_6 : decode b_Rc_at 6 = .ok (.getfield 15, 3) := by decide +kernel
theorem d_Rc_at_9 : decode b_Rc_at 9 = .ok (.if_icmp .ge 18, 3) := by decide +kernel
theorem d_Rc_at_12 : decode b_Rc_at 12 = .ok (.iload_n 1, 1) := by decide +kernel
theorem d_Rc_at_13 : decode b_Rc_at 13 = .ok (.bipush 34, 2) := by decide +kernel
theorem d_Rc_at_15 : decode b_Rc_at 15 = .ok (.if_icmp .ge 12, 3) := by decide +kernel
theorem d_Rc_at_18 : decode b_Rc_at 18 = .ok (.aload_n 0, 1) := by decide +kernel
theorem d_Rc_at_19 : decode b_Rc_at 19 = .ok (.getfield 11, 3) := by decide +kernel
theorem d_Rc_at_22 : decode b_Rc_at 22 = .ok (.iload_n 1, 1) := by decide +kernel
theorem d_Rc_at_23 : decode b_Rc_at 23 = .ok (.iaload, 1) := by decide +kernel
theorem d_Rc_at_24 : decode b_Rc_at 24 = .ok (.goto 4, 3) := by decide +kernel
theorem d_Rc_at_27 : decode b_Rc_at 27 = .ok (.iconst 0, 1) := by decide +kernel
theorem d_Rc_at_28 : decode b_Rc_at 28 = .ok (.ireturn, 1) := by decide +kernel
theorem d_Rc_drop_0 : decode b_Rc_drop 0 = .ok (.aload_n 0, 1) := by decide +kernel
theorem d_Rc_drop_1 : decode b_Rc_drop 1 = .ok (.iconst 0, 1) := by decide +kernel
theorem d_Rc_drop_2 : decode b_Rc_drop 2 = .ok (.putfield 15, 3) := by decide +kernel
theorem d_Rc_drop_5 : decode b_Rc_drop 5 = .ok (.aload_n 0, 1) := by decide +kernel
theorem d_Rc_drop_6 : decode b_Rc_drop 6 = .ok (.iconst 0, 1) := by decide +kernel
theorem d_Rc_drop_7 : decode b_Rc_drop 7 = .ok (.putfield 19, 3) := by decide +kernel
theorem d_Rc_drop_10 : decode b_Rc_drop 10 = .ok (.return_, 1) := by decide +kernel
theorem d_Rc_age_0 : decode b_Rc_age 0 = .ok (.aload_n 0, 1) := by decide +kernel
theorem d_Rc_age_1 : decode b_Rc_age 1 = .ok (.getfield 19, 3) := by decide +kernel
theorem d_Rc_age_4 : decode b_Rc_age 4 = .ok (.ifCond .ne 4, 3) := by decide +kernel
theorem d_Rc_age_7 : decode b_Rc_age 7 = .ok (.return_, 1) := by decide +kernel
theorem d_Rc_age_8 : decode b_Rc_age 8 = .ok (.aload_n 0, 1) := by decide +kernel
theorem d_Rc_age_9 : decode b_Rc_age 9 = .ok (.dup, 1) := by decide +kernel
theorem d_Rc_age_10 : decode b_Rc_age 10 = .ok (.getfield 22, 3) := by decide +kernel
theorem d_Rc_age_13 : decode b_Rc_age 13 = .ok (.iconst 1, 1) := by decide +kernel
theorem d_Rc_age_14 : decode b_Rc_age 14 = .ok (.iadd, 1) := by decide +kernel
theorem d_Rc_age_15 : decode b_Rc_age 15 = .ok (.putfield 22, 3) := by decide +kernel
theorem d_Rc_age_18 : decode b_Rc_age 18 = .ok (.aload_n 0, 1) := by decide +kernel
theorem d_Rc_age_19 : decode b_Rc_age 19 = .ok (.getfield 22, 3) := by decide +kernel
theorem d_Rc_age_22 : decode b_Rc_age 22 = .ok (.iconst 4, 1) := by decide +kernel
theorem d_Rc_age_23 : decode b_Rc_age 23 = .ok (.if_icmp .lt 7, 3) := by decide +kernel
theorem d_Rc_age_26 : decode b_Rc_age 26 = .ok (.aload_n 0, 1) := by decide +kernel
theorem d_Rc_age_27 : decode b_Rc_age 27 = .ok (.invokevirtual 25, 3) := by decide +kernel
theorem d_Rc_age_30 : decode b_Rc_age 30 = .ok (.return_, 1) := by decide +kernel
theorem d_Rc_accept_0 : decode b_Rc_accept 0 = .ok (.iload_n 1, 1) := by decide +kernel
theorem d_Rc_accept_1 : decode b_Rc_accept 1 = .ok (.iload_n 2, 1) := by decide +kernel
theorem d_Rc_accept_2 : decode b_Rc_accept 2 = .ok (.iconst 0, 1) := by decide +kernel
theorem d_Rc_accept_3 : decode b_Rc_accept 3 = .ok (.invokestatic 28, 3) := by decide +kernel
theorem d_Rc_accept_6 : decode b_Rc_accept 6 = .ok (.istore_n 3, 1) := by decide +kernel
