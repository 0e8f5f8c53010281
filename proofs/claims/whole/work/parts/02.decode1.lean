theorem dX0_init_0 : decode cX0_init 0 = .ok (.aload_n 0, 1) := by decide +kernel
theorem dX0_init_1 : decode cX0_init 1 = .ok (.invokespecial 3, 3) := by decide +kernel
theorem dX0_init_4 : decode cX0_init 4 = .ok (.aload_n 0, 1) := by decide +kernel
theorem dX0_init_5 : decode cX0_init 5 = .ok (.new 9, 3) := by decide +kernel
theorem dX0_init_8 : decode cX0_init 8 = .ok (.dup, 1) := by decide +kernel
theorem dX0_init_9 : decode cX0_init 9 = .ok (.invokespecial 11, 3) := by decide +kernel
theorem dX0_init_12 : decode cX0_init 12 = .ok (.putfield 12, 3) := by decide +kernel
theorem dX0_init_15 : decode cX0_init 15 = .ok (.aload_n 0, 1) := by decide +kernel
theorem dX0_init_16 : decode cX0_init 16 = .ok (.iconst 4, 1) := by decide +kernel
theorem dX0_init_17 : decode cX0_init 17 = .ok (.anewarray 18, 3) := by decide +kernel
theorem dX0_init_20 : decode cX0_init 20 = .ok (.putfield 20, 3) := by decide +kernel
theorem dX0_init_23 : decode cX0_init 23 = .ok (.iconst 0, 1) := by decide +kernel
theorem dX0_init_24 : decode cX0_init 24 = .ok (.istore_n 1, 1) := by decide +kernel
theorem dX0_init_25 : decode cX0_init 25 = .ok (.iload_n 1, 1) := by decide +kernel
theorem dX0_init_26 : decode cX0_init 26 = .ok (.iconst 4, 1) := by decide +kernel
theorem dX0_init_27 : decode cX0_init 27 = .ok (.if_icmp .ge 22, 3) := by decide +kernel
theorem dX0_init_30 : decode cX0_init 30 = .ok (.aload_n 0, 1) := by decide +kernel
theorem dX0_init_31 : decode cX0_init 31 = .ok (.getfield 20, 3) := by decide +kernel
theorem dX0_init_34 : decode cX0_init 34 = .ok (.iload_n 1, 1) := by decide +kernel
theorem dX0_init_35 : decode cX0_init 35 = .ok (.new 18, 3) := by decide +kernel
theorem dX0_init_38 : decode cX0_init 38 = .ok (.dup, 1) := by decide +kernel
theorem dX0_init_39 : decode cX0_init 39 = .ok (.invokespecial 24, 3) := by decide +kernel
theorem dX0_init_42 : decode cX0_init 42 = .ok (.aastore, 1) := by decide +kernel
theorem dX0_init_43 : decode cX0_init 43 = .ok (.iinc 1 1, 3) := by decide +kernel
theorem dX0_init_46 : decode cX0_init 46 = .ok (.goto (-21), 3) := by decide +kernel
theorem dX0_init_49 : decode cX0_init 49 = .ok (.return_, 1) := by decide +kernel
theorem dX0_copy_0 : decode cX0_copy 0 = .ok (.aload_n 0, 1) := by decide +kernel
theorem dX0_copy_1 : decode cX0_copy 1 = .ok (.getfield 12, 3) := by decide +kernel
theorem dX0_copy_4 : decode cX0_copy 4 = .ok (.aload_n 1, 1) := by decide +kernel
theorem dX0_copy_5 : decode cX0_copy 5 = .ok (.getfield 12, 3) := by decide +kernel
theorem dX0_copy_8 : decode cX0_copy 8 = .ok (.invokevirtual 25, 3) := by decide +kernel
theorem dX0_copy_11 : decode cX0_copy 11 = .ok (.iconst 0, 1) := by decide +kernel
theorem dX0_copy_12 : decode cX0_copy 12 = .ok (.istore_n 2, 1) := by decide +kernel
theorem dX0_copy_13 : decode cX0_copy 13 = .ok (.iload_n 2, 1) := by decide +kernel
theorem dX0_copy_14 : decode cX0_copy 14 = .ok (.aload_n 1, 1) := by decide +kernel
theorem dX0_copy_15 : decode cX0_copy 15 = .ok (.getfield 29, 3) := by decide +kernel
theorem dX0_copy_18 : decode cX0_copy 18 = .ok (.if_icmp .ge 24, 3) := by decide +kernel
theorem dX0_copy_21 : decode cX0_copy 21 = .ok (.aload_n 0, 1) := by decide +kernel
theorem dX0_copy_22 : decode cX0_copy 22 = .ok (.getfield 20, 3) := by decide +kernel
theorem dX0_copy_25 : decode cX0_copy 25 = .ok (.iload_n 2, 1) := by decide +kernel
theorem dX0_copy_26 : decode cX0_copy 26 = .ok (.aaload, 1) := by decide +kernel
theorem dX0_copy_27 : decode cX0_copy 27 = .ok (.aload_n 1, 1) := by decide +kernel
theorem dX0_copy_28 : decode cX0_copy 28 = .ok (.getfield 20, 3) := by decide +kernel
theorem dX0_copy_31 : decode cX0_copy 31 = .ok (.iload_n 2, 1) := by decide +kernel
theorem dX0_copy_32 : decode cX0_copy 32 = .ok (.aaload, 1) := by decide +kernel
theorem dX0_copy_33 : decode cX0_copy 33 = .ok (.invokevirtual 33, 3) := by decide +kernel
theorem dX0_copy_36 : decode cX0_copy 36 = .ok (.iinc 2 1, 3) := by decide +kernel
theorem dX0_copy_39 : decode cX0_copy 39 = .ok (.goto (-26), 3) := by decide +kernel
theorem dX0_copy_42 : decode cX0_copy 42 = .ok (.aload_n 0, 1) := by decide +kernel
theorem dX0_copy_43 : decode cX0_copy 43 = .ok (.aload_n 1, 1) := by decide +kernel
theorem dX0_copy_44 : decode cX0_copy 44 = .ok (.getfield 29, 3) := by decide +kernel
theorem dX0_copy_47 : decode cX0_copy 47 = .ok (.putfield 29, 3) := by decide +kernel
theorem dX0_copy_50 : decode cX0_copy 50 = .ok (.aload_n 0, 1) := by decide +kernel
theorem dX0_copy_51 : decode cX0_copy 51 = .ok (.aload_n 1, 1) := by decide +kernel
theorem dX0_copy_52 : decode cX0_copy 52 = .ok (.getfield 36, 3) := by decide +kernel
theorem dX0_copy_55 : decode cX0_copy 55 = .ok (.putfield 36, 3) := by decide +kernel
theorem dX0_copy_58 : decode cX0_copy 58 = .ok (.return_, 1) := by decide +kernel
theorem dX0_leastLow_0 : decode cX0_leastLow 0 = .ok (.sipush 999, 3) := by decide +kernel
theorem dX0_leastLow_3 : decode cX0_leastLow 3 = .ok (.istore_n 1, 1) := by decide +kernel
theorem dX0_leastLow_4 : decode cX0_leastLow 4 = .ok (.iconst 0, 1) := by decide +kernel
theorem dX0_leastLow_5 : decode cX0_leastLow 5 = .ok (.istore_n 2, 1) := by decide +kernel
theorem dX0_leastLow_6 : decode cX0_leastLow 6 = .ok (.iload_n 2, 1) := by decide +kernel
theorem dX0_leastLow_7 : decode cX0_leastLow 7 = .ok (.aload_n 0, 1) := by decide +kernel
theorem dX0_leastLow_8 : decode cX0_leastLow 8 = .ok (.getfield 29, 3) := by decide +kernel
theorem dX0_leastLow_11 : decode cX0_leastLow 11 = .ok (.if_icmp .ge 23, 3) := by decide +kernel
theorem dX0_leastLow_14 : decode cX0_leastLow 14 = .ok (.iload_n 1, 1) := by decide +kernel
theorem dX0_leastLow_15 : decode cX0_leastLow 15 = .ok (.aload_n 0, 1) := by decide +kernel
theorem dX0_leastLow_16 : decode cX0_leastLow 16 = .ok (.getfield 20, 3) := by decide +kernel
theorem dX0_leastLow_19 : decode cX0_leastLow 19 = .ok (.iload_n 2, 1) := by decide +kernel
theorem dX0_leastLow_20 : decode cX0_leastLow 20 = .ok (.aaload, 1) := by decide +kernel
theorem dX0_leastLow_21 : decode cX0_leastLow 21 = .ok (.getfield 39, 3) := by decide +kernel
theorem dX0_leastLow_24 : decode cX0_leastLow 24 = .ok (.invokestatic 42, 3) := by decide +kernel
theorem dX0_leastLow_27 : decode cX0_leastLow 27 = .ok (.istore_n 1, 1) := by decide +kernel
theorem dX0_leastLow_28 : decode cX0_leastLow 28 = .ok (.iinc 2 1, 3) := by decide +kernel
theorem dX0_leastLow_31 : decode cX0_leastLow 31 = .ok (.goto (-25), 3) := by decide +kernel
theorem dX0_leastLow_34 : decode cX0_leastLow 34 = .ok (.iload_n 1, 1) := by decide +kernel
theorem dX0_leastLow_35 : decode cX0_leastLow 35 = .ok (.ireturn, 1) := by decide +kernel
theorem dX0_allDone_0 : decode cX0_allDone 0 = .ok (.iconst 0, 1) := by decide +kernel
theorem dX0_allDone_1 : decode cX0_allDone 1 = .ok (.istore_n 1, 1) := by decide +kernel
theorem dX0_allDone_2 : decode cX0_allDone 2 = .ok (.iconst 0, 1) := by decide +kernel
theorem dX0_allDone_3 : decode cX0_allDone 3 = .ok (.istore_n 2, 1) := by decide +kernel
theorem dX0_allDone_4 : decode cX0_allDone 4 = .ok (.iload_n 2, 1) := by decide +kernel
theorem dX0_allDone_5 : decode cX0_allDone 5 = .ok (.aload_n 0, 1) := by decide +kernel
theorem dX0_allDone_6 : decode cX0_allDone 6 = .ok (.getfield 29, 3) := by decide +kernel
theorem dX0_allDone_9 : decode cX0_allDone 9 = .ok (.if_icmp .ge 30, 3) := by decide +kernel
theorem dX0_allDone_12 : decode cX0_allDone 12 = .ok (.iload_n 1, 1) := by decide +kernel
theorem dX0_allDone_13 : decode cX0_allDone 13 = .ok (.aload_n 0, 1) := by decide +kernel
theorem dX0_allDone_14 : decode cX0_allDone 14 = .ok (.getfield 20, 3) := by decide +kernel
theorem dX0_allDone_17 : decode cX0_allDone 17 = .ok (.iload_n 2, 1) := by decide +kernel
theorem dX0_allDone_18 : decode cX0_allDone 18 = .ok (.aaload, 1) := by decide +kernel
theorem dX0_allDone_19 : decode cX0_allDone 19 = .ok (.getfield 48, 3) := by decide +kernel
theorem dX0_allDone_22 : decode cX0_allDone 22 = .ok (.iconst 1, 1) := by decide +kernel
theorem dX0_allDone_23 : decode cX0_allDone 23 = .ok (.if_icmp .ne 7, 3) := by decide +kernel
theorem dX0_allDone_26 : decode cX0_allDone 26 = .ok (.iconst 1, 1) := by decide +kernel
theorem dX0_allDone_27 : decode cX0_allDone 27 = .ok (.goto 4, 3) := by decide +kernel
theorem dX0_allDone_30 : decode cX0_allDone 30 = .ok (.iconst 0, 1) := by decide +kernel
theorem dX0_allDone_31 : decode cX0_allDone 31 = .ok (.iadd, 1) := by decide +kernel
theorem dX0_allDone_32 : decode cX0_allDone 32 = .ok (.istore_n 1, 1) := by decide +kernel
theorem dX0_allDone_33 : decode cX0_allDone 33 = .ok (.iinc 2 1, 3) := by decide +kernel
theorem dX0_allDone_36 : decode cX0_allDone 36 = .ok (.goto (-32), 3) := by decide +kernel
theorem dX0_allDone_39 : decode cX0_allDone 39 = .ok (.iload_n 1, 1) := by decide +kernel
theorem dX0_allDone_40 : decode cX0_allDone 40 = .ok (.ireturn, 1) := by decide +kernel
theorem dX0_allSent_0 : decode cX0_allSent 0 = .ok (.iconst 0, 1) := by decide +kernel
theorem dX0_allSent_1 : decode cX0_allSent 1 = .ok (.istore_n 1, 1) := by decide +kernel
theorem dX0_allSent_2 : decode cX0_allSent 2 = .ok (.iconst 0, 1) := by decide +kernel
theorem dX0_allSent_3 : decode cX0_allSent 3 = .ok (.istore_n 2, 1) := by decide +kernel
theorem dX0_allSent_4 : decode cX0_allSent 4 = .ok (.iload_n 2, 1) := by decide +kernel
theorem dX0_allSent_5 : decode cX0_allSent 5 = .ok (.aload_n 0, 1) := by decide +kernel
theorem dX0_allSent_6 : decode cX0_allSent 6 = .ok (.getfield 29, 3) := by decide +kernel
theorem dX0_allSent_9 : decode cX0_allSent 9 = .ok (.if_icmp .ge 21, 3) := by decide +kernel
theorem dX0_allSent_12 : decode cX0_allSent 12 = .ok (.iload_n 1, 1) := by decide +kernel
theorem dX0_allSent_13 : decode cX0_allSent 13 = .ok (.aload_n 0, 1) := by decide +kernel
theorem dX0_allSent_14 : decode cX0_allSent 14 = .ok (.getfield 20, 3) := by decide +kernel
theorem dX0_allSent_17 : decode cX0_allSent 17 = .ok (.iload_n 2, 1) := by decide +kernel
theorem dX0_allSent_18 : decode cX0_allSent 18 = .ok (.aaload, 1) := by decide +kernel
theorem dX0_allSent_19 : decode cX0_allSent 19 = .ok (.getfield 51, 3) := by decide +kernel
theorem dX0_allSent_22 : decode cX0_allSent 22 = .ok (.iadd, 1) := by decide +kernel
theorem dX0_allSent_23 : decode cX0_allSent 23 = .ok (.istore_n 1, 1) := by decide +kernel
theorem dX0_allSent_24 : decode cX0_allSent 24 = .ok (.iinc 2 1, 3) := by decide +kernel
theorem dX0_allSent_27 : decode cX0_allSent 27 = .ok (.goto (-23), 3) := by decide +kernel
theorem dX0_allSent_30 : decode cX0_allSent 30 = .ok (.iload_n 1, 1) := by decide +kernel
theorem dX0_allSent_31 : decode cX0_allSent 31 = .ok (.ireturn, 1) := by decide +kernel
theorem dX0_allLost_0 : decode cX0_allLost 0 = .ok (.iconst 0, 1) := by decide +kernel
theorem dX0_allLost_1 : decode cX0_allLost 1 = .ok (.istore_n 1, 1) := by decide +kernel
theorem dX0_allLost_2 : decode cX0_allLost 2 = .ok (.iconst 0, 1) := by decide +kernel
theorem dX0_allLost_3 : decode cX0_allLost 3 = .ok (.istore_n 2, 1) := by decide +kernel
theorem dX0_allLost_4 : decode cX0_allLost 4 = .ok (.iload_n 2, 1) := by decide +kernel
theorem dX0_allLost_5 : decode cX0_allLost 5 = .ok (.aload_n 0, 1) := by decide +kernel
theorem dX0_allLost_6 : decode cX0_allLost 6 = .ok (.getfield 29, 3) := by decide +kernel
theorem dX0_allLost_9 : decode cX0_allLost 9 = .ok (.if_icmp .ge 21, 3) := by decide +kernel
theorem dX0_allLost_12 : decode cX0_allLost 12 = .ok (.iload_n 1, 1) := by decide +kernel
theorem dX0_allLost_13 : decode cX0_allLost 13 = .ok (.aload_n 0, 1) := by decide +kernel
theorem dX0_allLost_14 : decode cX0_allLost 14 = .ok (.getfield 20, 3) := by decide +kernel
theorem dX0_allLost_17 : decode cX0_allLost 17 = .ok (.iload_n 2, 1) := by decide +kernel
theorem dX0_allLost_18 : decode cX0_allLost 18 = .ok (.aaload, 1) := by decide +kernel
theorem dX0_allLost_19 : decode cX0_allLost 19 = .ok (.getfield 54, 3) := by decide +kernel
theorem dX0_allLost_22 : decode cX0_allLost 22 = .ok (.iadd, 1) := by decide +kernel
theorem dX0_allLost_23 : decode cX0_allLost 23 = .ok (.istore_n 1, 1) := by decide +kernel
theorem dX0_allLost_24 : decode cX0_allLost 24 = .ok (.iinc 2 1, 3) := by decide +kernel
theorem dX0_allLost_27 : decode cX0_allLost 27 = .ok (.goto (-23), 3) := by decide +kernel
theorem dX0_allLost_30 : decode cX0_allLost 30 = .ok (.iload_n 1, 1) := by decide +kernel
theorem dX0_allLost_31 : decode cX0_allLost 31 = .ok (.ireturn, 1) := by decide +kernel
theorem dX0_read_0 : decode cX0_read 0 = .ok (.aload_n 0, 1) := by decide +kernel
theorem dX0_read_1 : decode cX0_read 1 = .ok (.getfield 12, 3) := by decide +kernel
theorem dX0_read_4 : decode cX0_read 4 = .ok (.invokevirtual 57, 3) := by decide +kernel
theorem dX0_read_7 : decode cX0_read 7 = .ok (.aload_n 0, 1) := by decide +kernel
theorem dX0_read_8 : decode cX0_read 8 = .ok (.iconst 0, 1) := by decide +kernel
theorem dX0_read_9 : decode cX0_read 9 = .ok (.putfield 29, 3) := by decide +kernel
theorem dX0_read_12 : decode cX0_read 12 = .ok (.aload_n 0, 1) := by decide +kernel
theorem dX0_read_13 : decode cX0_read 13 = .ok (.iconst 0, 1) := by decide +kernel
theorem dX0_read_14 : decode cX0_read 14 = .ok (.putfield 36, 3) := by decide +kernel
theorem dX0_read_17 : decode cX0_read 17 = .ok (.aload_n 1, 1) := by decide +kernel
theorem dX0_read_18 : decode cX0_read 18 = .ok (.iconst 0, 1) := by decide +kernel
theorem dX0_read_19 : decode cX0_read 19 = .ok (.putfield 60, 3) := by decide +kernel
theorem dX0_read_22 : decode cX0_read 22 = .ok (.iconst 0, 1) := by decide +kernel
theorem dX0_read_23 : decode cX0_read 23 = .ok (.istore_n 2, 1) := by decide +kernel
theorem dX0_read_24 : decode cX0_read 24 = .ok (.iload_n 2, 1) := by decide +kernel
theorem dX0_read_25 : decode cX0_read 25 = .ok (.sipush 240, 3) := by decide +kernel
theorem dX0_read_28 : decode cX0_read 28 = .ok (.if_icmp .ge 44, 3) := by decide +kernel
theorem dX0_read_31 : decode cX0_read 31 = .ok (.aload_n 1, 1) := by decide +kernel
theorem dX0_read_32 : decode cX0_read 32 = .ok (.getfield 60, 3) := by decide +kernel
theorem dX0_read_35 : decode cX0_read 35 = .ok (.aload_n 1, 1) := by decide +kernel
theorem dX0_read_36 : decode cX0_read 36 = .ok (.getfield 65, 3) := by decide +kernel
theorem dX0_read_39 : decode cX0_read 39 = .ok (.if_icmp .ge 33, 3) := by decide +kernel
theorem dX0_read_42 : decode cX0_read 42 = .ok (.aload_n 1, 1) := by decide +kernel
theorem dX0_read_43 : decode cX0_read 43 = .ok (.getfield 60, 3) := by decide +kernel
theorem dX0_read_46 : decode cX0_read 46 = .ok (.istore_n 3, 1) := by decide +kernel
theorem dX0_read_47 : decode cX0_read 47 = .ok (.aload_n 0, 1) := by decide +kernel
theorem dX0_read_48 : decode cX0_read 48 = .ok (.aload_n 1, 1) := by decide +kernel
theorem dX0_read_49 : decode cX0_read 49 = .ok (.invokevirtual 68, 3) := by decide +kernel
theorem dX0_read_52 : decode cX0_read 52 = .ok (.ifCond .eq 12, 3) := by decide +kernel
theorem dX0_read_55 : decode cX0_read 55 = .ok (.aload_n 1, 1) := by decide +kernel
theorem dX0_read_56 : decode cX0_read 56 = .ok (.ldc 72, 2) := by decide +kernel
theorem dX0_read_58 : decode cX0_read 58 = .ok (.invokevirtual 74, 3) := by decide +kernel
theorem dX0_read_61 : decode cX0_read 61 = .ok (.ifCond .ne 5, 3) := by decide +kernel
theorem dX0_read_64 : decode cX0_read 64 = .ok (.iload_n 3, 1) := by decide +kernel
theorem dX0_read_65 : decode cX0_read 65 = .ok (.ireturn, 1) := by decide +kernel
theorem dX0_read_66 : decode cX0_read 66 = .ok (.iinc 2 1, 3) := by decide +kernel
theorem dX0_read_69 : decode cX0_read 69 = .ok (.goto (-45), 3) := by decide +kernel
theorem dX0_read_72 : decode cX0_read 72 = .ok (.iconst 0, 1) := by decide +kernel
theorem dX0_read_73 : decode cX0_read 73 = .ok (.istore_n 2, 1) := by decide +kernel
theorem dX0_read_74 : decode cX0_read 74 = .ok (.iload_n 2, 1) := by decide +kernel
theorem dX0_read_75 : decode cX0_read 75 = .ok (.aload_n 0, 1) := by decide +kernel
theorem dX0_read_76 : decode cX0_read 76 = .ok (.getfield 29, 3) := by decide +kernel
theorem dX0_read_79 : decode cX0_read 79 = .ok (.if_icmp .ge 22, 3) := by decide +kernel
theorem dX0_read_82 : decode cX0_read 82 = .ok (.aload_n 0, 1) := by decide +kernel
theorem dX0_read_83 : decode cX0_read 83 = .ok (.getfield 20, 3) := by decide +kernel
theorem dX0_read_86 : decode cX0_read 86 = .ok (.iload_n 2, 1) := by decide +kernel
theorem dX0_read_87 : decode cX0_read 87 = .ok (.aaload, 1) := by decide +kernel
theorem dX0_read_88 : decode cX0_read 88 = .ok (.aload_n 0, 1) := by decide +kernel
theorem dX0_read_89 : decode cX0_read 89 = .ok (.getfield 12, 3) := by decide +kernel
theorem dX0_read_92 : decode cX0_read 92 = .ok (.invokevirtual 78, 3) := by decide +kernel
theorem dX0_read_95 : decode cX0_read 95 = .ok (.iinc 2 1, 3) := by decide +kernel
theorem dX0_read_98 : decode cX0_read 98 = .ok (.goto (-24), 3) := by decide +kernel
theorem dX0_read_101 : decode cX0_read 101 = .ok (.bipush (-4), 2) := by decide +kernel
theorem dX0_read_103 : decode cX0_read 103 = .ok (.ireturn, 1) := by decide +kernel
theorem dX0_readItem_0 : decode cX0_readItem 0 = .ok (.aload_n 1, 1) := by decide +kernel
theorem dX0_readItem_1 : decode cX0_readItem 1 = .ok (.ldc 81, 2) := by decide +kernel
theorem dX0_readItem_3 : decode cX0_readItem 3 = .ok (.invokevirtual 74, 3) := by decide +kernel
theorem dX0_readItem_6 : decode cX0_readItem 6 = .ok (.ifCond .eq 8, 3) := by decide +kernel
theorem dX0_readItem_9 : decode cX0_readItem 9 = .ok (.aload_n 0, 1) := by decide +kernel
theorem dX0_readItem_10 : decode cX0_readItem 10 = .ok (.invokevirtual 83, 3) := by decide +kernel
theorem dX0_readItem_13 : decode cX0_readItem 13 = .ok (.ireturn, 1) := by decide +kernel
theorem dX0_readItem_14 : decode cX0_readItem 14 = .ok (.aload_n 1, 1) := by decide +kernel
theorem dX0_readItem_15 : decode cX0_readItem 15 = .ok (.ldc 87, 2) := by decide +kernel
theorem dX0_readItem_17 : decode cX0_readItem 17 = .ok (.invokevirtual 74, 3) := by decide +kernel
theorem dX0_readItem_20 : decode cX0_readItem 20 = .ok (.ifCond .eq 9, 3) := by decide +kernel
theorem dX0_readItem_23 : decode cX0_readItem 23 = .ok (.aload_n 0, 1) := by decide +kernel
theorem dX0_readItem_24 : decode cX0_readItem 24 = .ok (.aload_n 1, 1) := by decide +kernel
theorem dX0_readItem_25 : decode cX0_readItem 25 = .ok (.invokevirtual 89, 3) := by decide +kernel
theorem dX0_readItem_28 : decode cX0_readItem 28 = .ok (.ireturn, 1) := by decide +kernel
theorem dX0_readItem_29 : decode cX0_readItem 29 = .ok (.aload_n 1, 1) := by decide +kernel
theorem dX0_readItem_30 : decode cX0_readItem 30 = .ok (.ldc 92, 2) := by decide +kernel
theorem dX0_readItem_32 : decode cX0_readItem 32 = .ok (.invokevirtual 74, 3) := by decide +kernel
theorem dX0_readItem_35 : decode cX0_readItem 35 = .ok (.ifCond .eq 9, 3) := by decide +kernel
theorem dX0_readItem_38 : decode cX0_readItem 38 = .ok (.aload_n 0, 1) := by decide +kernel
theorem dX0_readItem_39 : decode cX0_readItem 39 = .ok (.aload_n 1, 1) := by decide +kernel
theorem dX0_readItem_40 : decode cX0_readItem 40 = .ok (.invokevirtual 94, 3) := by decide +kernel
theorem dX0_readItem_43 : decode cX0_readItem 43 = .ok (.ireturn, 1) := by decide +kernel
theorem dX0_readItem_44 : decode cX0_readItem 44 = .ok (.aload_n 0, 1) := by decide +kernel
theorem dX0_readItem_45 : decode cX0_readItem 45 = .ok (.aload_n 1, 1) := by decide +kernel
theorem dX0_readItem_46 : decode cX0_readItem 46 = .ok (.invokevirtual 97, 3) := by decide +kernel
theorem dX0_readItem_49 : decode cX0_readItem 49 = .ok (.ireturn, 1) := by decide +kernel
theorem dX0_addWay_0 : decode cX0_addWay 0 = .ok (.aload_n 0, 1) := by decide +kernel
theorem dX0_addWay_1 : decode cX0_addWay 1 = .ok (.getfield 29, 3) := by decide +kernel
theorem dX0_addWay_4 : decode cX0_addWay 4 = .ok (.iconst 4, 1) := by decide +kernel
theorem dX0_addWay_5 : decode cX0_addWay 5 = .ok (.if_icmp .lt 5, 3) := by decide +kernel
theorem dX0_addWay_8 : decode cX0_addWay 8 = .ok (.iconst 0, 1) := by decide +kernel
theorem dX0_addWay_9 : decode cX0_addWay 9 = .ok (.ireturn, 1) := by decide +kernel
theorem dX0_addWay_10 : decode cX0_addWay 10 = .ok (.aload_n 0, 1) := by decide +kernel
theorem dX0_addWay_11 : decode cX0_addWay 11 = .ok (.getfield 20, 3) := by decide +kernel
theorem dX0_addWay_14 : decode cX0_addWay 14 = .ok (.aload_n 0, 1) := by decide +kernel
theorem dX0_addWay_15 : decode cX0_addWay 15 = .ok (.getfield 29, 3) := by decide +kernel
theorem dX0_addWay_18 : decode cX0_addWay 18 = .ok (.aaload, 1) := by decide +kernel
theorem dX0_addWay_19 : decode cX0_addWay 19 = .ok (.aload_n 0, 1) := by decide +kernel
theorem dX0_addWay_20 : decode cX0_addWay 20 = .ok (.getfield 29, 3) := by decide +kernel
theorem dX0_addWay_23 : decode cX0_addWay 23 = .ok (.invokevirtual 100, 3) := by decide +kernel
theorem dX0_addWay_26 : decode cX0_addWay 26 = .ok (.aload_n 0, 1) := by decide +kernel
theorem dX0_addWay_27 : decode cX0_addWay 27 = .ok (.dup, 1) := by decide +kernel
theorem dX0_addWay_28 : decode cX0_addWay 28 = .ok (.getfield 29, 3) := by decide +kernel
theorem dX0_addWay_31 : decode cX0_addWay 31 = .ok (.iconst 1, 1) := by decide +kernel
theorem dX0_addWay_32 : decode cX0_addWay 32 = .ok (.iadd, 1) := by decide +kernel
theorem dX0_addWay_33 : decode cX0_addWay 33 = .ok (.putfield 29, 3) := by decide +kernel
theorem dX0_addWay_36 : decode cX0_addWay 36 = .ok (.iconst 1, 1) := by decide +kernel
theorem dX0_addWay_37 : decode cX0_addWay 37 = .ok (.ireturn, 1) := by decide +kernel
theorem dX0_readHop_0 : decode cX0_readHop 0 = .ok (.aload_n 1, 1) := by decide +kernel
theorem dX0_readHop_1 : decode cX0_readHop 1 = .ok (.bipush 20, 2) := by decide +kernel
theorem dX0_readHop_3 : decode cX0_readHop 3 = .ok (.sipush 999, 3) := by decide +kernel
theorem dX0_readHop_6 : decode cX0_readHop 6 = .ok (.invokevirtual 103, 3) := by decide +kernel
theorem dX0_readHop_9 : decode cX0_readHop 9 = .ok (.istore_n 2, 1) := by decide +kernel
theorem dX0_readHop_10 : decode cX0_readHop 10 = .ok (.aload_n 0, 1) := by decide +kernel
theorem dX0_readHop_11 : decode cX0_readHop 11 = .ok (.getfield 29, 3) := by decide +kernel
theorem dX0_readHop_14 : decode cX0_readHop 14 = .ok (.ifCond .eq 18, 3) := by decide +kernel
theorem dX0_readHop_17 : decode cX0_readHop 17 = .ok (.iload_n 2, 1) := by decide +kernel
theorem dX0_readHop_18 : decode cX0_readHop 18 = .ok (.bipush (-4), 2) := by decide +kernel
theorem dX0_readHop_20 : decode cX0_readHop 20 = .ok (.if_icmp .eq 12, 3) := by decide +kernel
theorem dX0_readHop_23 : decode cX0_readHop 23 = .ok (.aload_n 1, 1) := by decide +kernel
theorem dX0_readHop_24 : decode cX0_readHop 24 = .ok (.ldc 106, 2) := by decide +kernel
theorem dX0_readHop_26 : decode cX0_readHop 26 = .ok (.invokevirtual 74, 3) := by decide +kernel
theorem dX0_readHop_29 : decode cX0_readHop 29 = .ok (.ifCond .ne 5, 3) := by decide +kernel
theorem dX0_readHop_32 : decode cX0_readHop 32 = .ok (.iconst 0, 1) := by decide +kernel
theorem dX0_readHop_33 : decode cX0_readHop 33 = .ok (.ireturn, 1) := by decide +kernel
theorem dX0_readHop_34 : decode cX0_readHop 34 = .ok (.aload_n 1, 1) := by decide +kernel
theorem dX0_readHop_35 : decode cX0_readHop 35 = .ok (.invokevirtual 108, 3) := by decide +kernel
theorem dX0_readHop_38 : decode cX0_readHop 38 = .ok (.istore_n 3, 1) := by decide +kernel
theorem dX0_readHop_39 : decode cX0_readHop 39 = .ok (.iload_n 3, 1) := by decide +kernel
theorem dX0_readHop_40 : decode cX0_readHop 40 = .ok (.bipush (-4), 2) := by decide +kernel
theorem dX0_readHop_42 : decode cX0_readHop 42 = .ok (.if_icmp .eq 26, 3) := by decide +kernel
theorem dX0_readHop_45 : decode cX0_readHop 45 = .ok (.aload_n 0, 1) := by decide +kernel
theorem dX0_readHop_46 : decode cX0_readHop 46 = .ok (.getfield 20, 3) := by decide +kernel
theorem dX0_readHop_49 : decode cX0_readHop 49 = .ok (.aload_n 0, 1) := by decide +kernel
theorem dX0_readHop_50 : decode cX0_readHop 50 = .ok (.getfield 29, 3) := by decide +kernel
theorem dX0_readHop_53 : decode cX0_readHop 53 = .ok (.iconst 1, 1) := by decide +kernel
theorem dX0_readHop_54 : decode cX0_readHop 54 = .ok (.isub, 1) := by decide +kernel
theorem dX0_readHop_55 : decode cX0_readHop 55 = .ok (.aaload, 1) := by decide +kernel
theorem dX0_readHop_56 : decode cX0_readHop 56 = .ok (.iload_n 2, 1) := by decide +kernel
theorem dX0_readHop_57 : decode cX0_readHop 57 = .ok (.iload_n 3, 1) := by decide +kernel
theorem dX0_readHop_58 : decode cX0_readHop 58 = .ok (.invokevirtual 112, 3) := by decide +kernel
theorem dX0_readHop_61 : decode cX0_readHop 61 = .ok (.ifCond .eq 7, 3) := by decide +kernel
theorem dX0_readHop_64 : decode cX0_readHop 64 = .ok (.iconst 1, 1) := by decide +kernel
theorem dX0_readHop_65 : decode cX0_readHop 65 = .ok (.goto 4, 3) := by decide +kernel
theorem dX0_readHop_68 : decode cX0_readHop 68 = .ok (.iconst 0, 1) := by decide +kernel
theorem dX0_readHop_69 : decode cX0_readHop 69 = .ok (.ireturn, 1) := by decide +kernel
theorem dX0_readLoss_0 : decode cX0_readLoss 0 = .ok (.aload_n 1, 1) := by decide +kernel
theorem dX0_readLoss_1 : decode cX0_readLoss 1 = .ok (.iconst 0, 1) := by decide +kernel
theorem dX0_readLoss_2 : decode cX0_readLoss 2 = .ok (.bipush 99, 2) := by decide +kernel
theorem dX0_readLoss_4 : decode cX0_readLoss 4 = .ok (.invokevirtual 103, 3) := by decide +kernel
theorem dX0_readLoss_7 : decode cX0_readLoss 7 = .ok (.istore_n 2, 1) := by decide +kernel
theorem dX0_readLoss_8 : decode cX0_readLoss 8 = .ok (.aload_n 0, 1) := by decide +kernel
theorem dX0_readLoss_9 : decode cX0_readLoss 9 = .ok (.getfield 29, 3) := by decide +kernel
theorem dX0_readLoss_12 : decode cX0_readLoss 12 = .ok (.ifCond .eq 9, 3) := by decide +kernel
theorem dX0_readLoss_15 : decode cX0_readLoss 15 = .ok (.iload_n 2, 1) := by decide +kernel
theorem dX0_readLoss_16 : decode cX0_readLoss 16 = .ok (.bipush (-4), 2) := by decide +kernel
theorem dX0_readLoss_18 : decode cX0_readLoss 18 = .ok (.if_icmp .ne 5, 3) := by decide +kernel
theorem dX0_readLoss_21 : decode cX0_readLoss 21 = .ok (.iconst 0, 1) := by decide +kernel
theorem dX0_readLoss_22 : decode cX0_readLoss 22 = .ok (.ireturn, 1) := by decide +kernel
theorem dX0_readLoss_23 : decode cX0_readLoss 23 = .ok (.aload_n 0, 1) := by decide +kernel
theorem dX0_readLoss_24 : decode cX0_readLoss 24 = .ok (.getfield 20, 3) := by decide +kernel
theorem dX0_readLoss_27 : decode cX0_readLoss 27 = .ok (.aload_n 0, 1) := by decide +kernel
theorem dX0_readLoss_28 : decode cX0_readLoss 28 = .ok (.getfield 29, 3) := by decide +kernel
theorem dX0_readLoss_31 : decode cX0_readLoss 31 = .ok (.iconst 1, 1) := by decide +kernel
theorem dX0_readLoss_32 : decode cX0_readLoss 32 = .ok (.isub, 1) := by decide +kernel
theorem dX0_readLoss_33 : decode cX0_readLoss 33 = .ok (.aaload, 1) := by decide +kernel
theorem dX0_readLoss_34 : decode cX0_readLoss 34 = .ok (.iload_n 2, 1) := by decide +kernel
theorem dX0_readLoss_35 : decode cX0_readLoss 35 = .ok (.putfield 116, 3) := by decide +kernel
theorem dX0_readLoss_38 : decode cX0_readLoss 38 = .ok (.iconst 1, 1) := by decide +kernel
theorem dX0_readLoss_39 : decode cX0_readLoss 39 = .ok (.ireturn, 1) := by decide +kernel
theorem dX0_readRule_0 : decode cX0_readRule 0 = .ok (.aload_n 1, 1) := by decide +kernel
theorem dX0_readRule_1 : decode cX0_readRule 1 = .ok (.ldc 119, 2) := by decide +kernel
theorem dX0_readRule_3 : decode cX0_readRule 3 = .ok (.invokevirtual 74, 3) := by decide +kernel
theorem dX0_readRule_6 : decode cX0_readRule 6 = .ok (.ifCond .eq 37, 3) := by decide +kernel
theorem dX0_readRule_9 : decode cX0_readRule 9 = .ok (.aload_n 0, 1) := by decide +kernel
theorem dX0_readRule_10 : decode cX0_readRule 10 = .ok (.getfield 12, 3) := by decide +kernel
theorem dX0_readRule_13 : decode cX0_readRule 13 = .ok (.aload_n 1, 1) := by decide +kernel
theorem dX0_readRule_14 : decode cX0_readRule 14 = .ok (.bipush 20, 2) := by decide +kernel
theorem dX0_readRule_16 : decode cX0_readRule 16 = .ok (.sipush 200, 3) := by decide +kernel
theorem dX0_readRule_19 : decode cX0_readRule 19 = .ok (.invokevirtual 103, 3) := by decide +kernel
theorem dX0_readRule_22 : decode cX0_readRule 22 = .ok (.putfield 121, 3) := by decide +kernel
theorem dX0_readRule_25 : decode cX0_readRule 25 = .ok (.aload_n 0, 1) := by decide +kernel
theorem dX0_readRule_26 : decode cX0_readRule 26 = .ok (.getfield 12, 3) := by decide +kernel
theorem dX0_readRule_29 : decode cX0_readRule 29 = .ok (.getfield 121, 3) := by decide +kernel
theorem dX0_readRule_32 : decode cX0_readRule 32 = .ok (.bipush (-4), 2) := by decide +kernel
theorem dX0_readRule_34 : decode cX0_readRule 34 = .ok (.if_icmp .eq 7, 3) := by decide +kernel
theorem dX0_readRule_37 : decode cX0_readRule 37 = .ok (.iconst 1, 1) := by decide +kernel
theorem dX0_readRule_38 : decode cX0_readRule 38 = .ok (.goto 4, 3) := by decide +kernel
theorem dX0_readRule_41 : decode cX0_readRule 41 = .ok (.iconst 0, 1) := by decide +kernel
theorem dX0_readRule_42 : decode cX0_readRule 42 = .ok (.ireturn, 1) := by decide +kernel
theorem dX0_readRule_43 : decode cX0_readRule 43 = .ok (.aload_n 1, 1) := by decide +kernel
theorem dX0_readRule_44 : decode cX0_readRule 44 = .ok (.ldc 124, 2) := by decide +kernel
theorem dX0_readRule_46 : decode cX0_readRule 46 = .ok (.invokevirtual 74, 3) := by decide +kernel
theorem dX0_readRule_49 : decode cX0_readRule 49 = .ok (.ifCond .eq 38, 3) := by decide +kernel
theorem dX0_readRule_52 : decode cX0_readRule 52 = .ok (.aload_n 0, 1) := by decide +kernel
theorem dX0_readRule_53 : decode cX0_readRule 53 = .ok (.getfield 12, 3) := by decide +kernel
theorem dX0_readRule_56 : decode cX0_readRule 56 = .ok (.aload_n 1, 1) := by decide +kernel
theorem dX0_readRule_57 : decode cX0_readRule 57 = .ok (.sipush 200, 3) := by decide +kernel
theorem dX0_readRule_60 : decode cX0_readRule 60 = .ok (.sipush 999, 3) := by decide +kernel
theorem dX0_readRule_63 : decode cX0_readRule 63 = .ok (.invokevirtual 103, 3) := by decide +kernel
theorem dX0_readRule_66 : decode cX0_readRule 66 = .ok (.putfield 126, 3) := by decide +kernel
theorem dX0_readRule_69 : decode cX0_readRule 69 = .ok (.aload_n 0, 1) := by decide +kernel
theorem dX0_readRule_70 : decode cX0_readRule 70 = .ok (.getfield 12, 3) := by decide +kernel
theorem dX0_readRule_73 : decode cX0_readRule 73 = .ok (.getfield 126, 3) := by decide +kernel
theorem dX0_readRule_76 : decode cX0_readRule 76 = .ok (.bipush (-4), 2) := by decide +kernel
theorem dX0_readRule_78 : decode cX0_readRule 78 = .ok (.if_icmp .eq 7, 3) := by decide +kernel
theorem dX0_readRule_81 : decode cX0_readRule 81 = .ok (.iconst 1, 1) := by decide +kernel
theorem dX0_readRule_82 : decode cX0_readRule 82 = .ok (.goto 4, 3) := by decide +kernel
theorem dX0_readRule_85 : decode cX0_readRule 85 = .ok (.iconst 0, 1) := by decide +kernel
theorem dX0_readRule_86 : decode cX0_readRule 86 = .ok (.ireturn, 1) := by decide +kernel
theorem dX0_readRule_87 : decode cX0_readRule 87 = .ok (.aload_n 1, 1) := by decide +kernel
theorem dX0_readRule_88 : decode cX0_readRule 88 = .ok (.ldc 129, 2) := by decide +kernel
theorem dX0_readRule_90 : decode cX0_readRule 90 = .ok (.invokevirtual 74, 3) := by decide +kernel
theorem dX0_readRule_93 : decode cX0_readRule 93 = .ok (.ifCond .eq 35, 3) := by decide +kernel
theorem dX0_readRule_96 : decode cX0_readRule 96 = .ok (.aload_n 0, 1) := by decide +kernel
theorem dX0_readRule_97 : decode cX0_readRule 97 = .ok (.getfield 12, 3) := by decide +kernel
theorem dX0_readRule_100 : decode cX0_readRule 100 = .ok (.aload_n 1, 1) := by decide +kernel
theorem dX0_readRule_101 : decode cX0_readRule 101 = .ok (.iconst 1, 1) := by decide +kernel
theorem dX0_readRule_102 : decode cX0_readRule 102 = .ok (.bipush 99, 2) := by decide +kernel
theorem dX0_readRule_104 : decode cX0_readRule 104 = .ok (.invokevirtual 103, 3) := by decide +kernel
theorem dX0_readRule_107 : decode cX0_readRule 107 = .ok (.putfield 131, 3) := by decide +kernel
theorem dX0_readRule_110 : decode cX0_readRule 110 = .ok (.aload_n 0, 1) := by decide +kernel
theorem dX0_readRule_111 : decode cX0_readRule 111 = .ok (.getfield 12, 3) := by decide +kernel
theorem dX0_readRule_114 : decode cX0_readRule 114 = .ok (.getfield 131, 3) := by decide +kernel
theorem dX0_readRule_117 : decode cX0_readRule 117 = .ok (.bipush (-4), 2) := by decide +kernel
theorem dX0_readRule_119 : decode cX0_readRule 119 = .ok (.if_icmp .eq 7, 3) := by decide +kernel
theorem dX0_readRule_122 : decode cX0_readRule 122 = .ok (.iconst 1, 1) := by decide +kernel
theorem dX0_readRule_123 : decode cX0_readRule 123 = .ok (.goto 4, 3) := by decide +kernel
theorem dX0_readRule_126 : decode cX0_readRule 126 = .ok (.iconst 0, 1) := by decide +kernel
theorem dX0_readRule_127 : decode cX0_readRule 127 = .ok (.ireturn, 1) := by decide +kernel
theorem dX0_readRule_128 : decode cX0_readRule 128 = .ok (.aload_n 1, 1) := by decide +kernel
theorem dX0_readRule_129 : decode cX0_readRule 129 = .ok (.ldc 134, 2) := by decide +kernel
theorem dX0_readRule_131 : decode cX0_readRule 131 = .ok (.invokevirtual 74, 3) := by decide +kernel
theorem dX0_readRule_134 : decode cX0_readRule 134 = .ok (.ifCond .eq 32, 3) := by decide +kernel
theorem dX0_readRule_137 : decode cX0_readRule 137 = .ok (.aload_n 0, 1) := by decide +kernel
theorem dX0_readRule_138 : decode cX0_readRule 138 = .ok (.getfield 12, 3) := by decide +kernel
theorem dX0_readRule_141 : decode cX0_readRule 141 = .ok (.aload_n 1, 1) := by decide +kernel
theorem dX0_readRule_142 : decode cX0_readRule 142 = .ok (.invokevirtual 136, 3) := by decide +kernel
theorem dX0_readRule_145 : decode cX0_readRule 145 = .ok (.putfield 139, 3) := by decide +kernel
theorem dX0_readRule_148 : decode cX0_readRule 148 = .ok (.aload_n 0, 1) := by decide +kernel
theorem dX0_readRule_149 : decode cX0_readRule 149 = .ok (.getfield 12, 3) := by decide +kernel
theorem dX0_readRule_152 : decode cX0_readRule 152 = .ok (.getfield 139, 3) := by decide +kernel
theorem dX0_readRule_155 : decode cX0_readRule 155 = .ok (.bipush (-4), 2) := by decide +kernel
theorem dX0_readRule_157 : decode cX0_readRule 157 = .ok (.if_icmp .eq 7, 3) := by decide +kernel
theorem dX0_readRule_160 : decode cX0_readRule 160 = .ok (.iconst 1, 1) := by decide +kernel
theorem dX0_readRule_161 : decode cX0_readRule 161 = .ok (.goto 4, 3) := by decide +kernel
theorem dX0_readRule_164 : decode cX0_readRule 164 = .ok (.iconst 0, 1) := by decide +kernel
theorem dX0_readRule_165 : decode cX0_readRule 165 = .ok (.ireturn, 1) := by decide +kernel
theorem dX0_readRule_166 : decode cX0_readRule 166 = .ok (.aload_n 1, 1) := by decide +kernel
theorem dX0_readRule_167 : decode cX0_readRule 167 = .ok (.ldc 142, 2) := by decide +kernel
theorem dX0_readRule_169 : decode cX0_readRule 169 = .ok (.invokevirtual 74, 3) := by decide +kernel
theorem dX0_readRule_172 : decode cX0_readRule 172 = .ok (.ifCond .eq 36, 3) := by decide +kernel
theorem dX0_readRule_175 : decode cX0_readRule 175 = .ok (.aload_n 0, 1) := by decide +kernel
theorem dX0_readRule_176 : decode cX0_readRule 176 = .ok (.getfield 12, 3) := by decide +kernel
theorem dX0_readRule_179 : decode cX0_readRule 179 = .ok (.aload_n 1, 1) := by decide +kernel
theorem dX0_readRule_180 : decode cX0_readRule 180 = .ok (.iconst 0, 1) := by decide +kernel
theorem dX0_readRule_181 : decode cX0_readRule 181 = .ok (.sipush 9999, 3) := by decide +kernel
theorem dX0_readRule_184 : decode cX0_readRule 184 = .ok (.invokevirtual 103, 3) := by decide +kernel
theorem dX0_readRule_187 : decode cX0_readRule 187 = .ok (.putfield 144, 3) := by decide +kernel
theorem dX0_readRule_190 : decode cX0_readRule 190 = .ok (.aload_n 0, 1) := by decide +kernel
theorem dX0_readRule_191 : decode cX0_readRule 191 = .ok (.getfield 12, 3) := by decide +kernel
theorem dX0_readRule_194 : decode cX0_readRule 194 = .ok (.getfield 144, 3) := by decide +kernel
theorem dX0_readRule_197 : decode cX0_readRule 197 = .ok (.bipush (-4), 2) := by decide +kernel
theorem dX0_readRule_199 : decode cX0_readRule 199 = .ok (.if_icmp .eq 7, 3) := by decide +kernel
theorem dX0_readRule_202 : decode cX0_readRule 202 = .ok (.iconst 1, 1) := by decide +kernel
theorem dX0_readRule_203 : decode cX0_readRule 203 = .ok (.goto 4, 3) := by decide +kernel
theorem dX0_readRule_206 : decode cX0_readRule 206 = .ok (.iconst 0, 1) := by decide +kernel
theorem dX0_readRule_207 : decode cX0_readRule 207 = .ok (.ireturn, 1) := by decide +kernel
theorem dX0_readRule_208 : decode cX0_readRule 208 = .ok (.iconst 0, 1) := by decide +kernel
theorem dX0_readRule_209 : decode cX0_readRule 209 = .ok (.ireturn, 1) := by decide +kernel
theorem dX1_init_0 : decode cX1_init 0 = .ok (.aload_n 0, 1) := by decide +kernel
theorem dX1_init_1 : decode cX1_init 1 = .ok (.invokespecial 3, 3) := by decide +kernel
theorem dX1_init_4 : decode cX1_init 4 = .ok (.return_, 1) := by decide +kernel
theorem dX1_clear_0 : decode cX1_clear 0 = .ok (.aload_n 0, 1) := by decide +kernel
theorem dX1_clear_1 : decode cX1_clear 1 = .ok (.bipush 60, 2) := by decide +kernel
theorem dX1_clear_3 : decode cX1_clear 3 = .ok (.putfield 9, 3) := by decide +kernel
theorem dX1_clear_6 : decode cX1_clear 6 = .ok (.aload_n 0, 1) := by decide +kernel
theorem dX1_clear_7 : decode cX1_clear 7 = .ok (.sipush 900, 3) := by decide +kernel
theorem dX1_clear_10 : decode cX1_clear 10 = .ok (.putfield 15, 3) := by decide +kernel
theorem dX1_clear_13 : decode cX1_clear 13 = .ok (.aload_n 0, 1) := by decide +kernel
theorem dX1_clear_14 : decode cX1_clear 14 = .ok (.bipush 20, 2) := by decide +kernel
theorem dX1_clear_16 : decode cX1_clear 16 = .ok (.putfield 18, 3) := by decide +kernel
theorem dX1_clear_19 : decode cX1_clear 19 = .ok (.aload_n 0, 1) := by decide +kernel
theorem dX1_clear_20 : decode cX1_clear 20 = .ok (.iconst 1, 1) := by decide +kernel
theorem dX1_clear_21 : decode cX1_clear 21 = .ok (.putfield 21, 3) := by decide +kernel
theorem dX1_clear_24 : decode cX1_clear 24 = .ok (.aload_n 0, 1) := by decide +kernel
theorem dX1_clear_25 : decode cX1_clear 25 = .ok (.iconst 0, 1) := by decide +kernel
theorem dX1_clear_26 : decode cX1_clear 26 = .ok (.putfield 24, 3) := by decide +kernel
theorem dX1_clear_29 : decode cX1_clear 29 = .ok (.return_, 1) := by decide +kernel
theorem dX1_copy_0 : decode cX1_copy 0 = .ok (.aload_n 0, 1) := by decide +kernel
theorem dX1_copy_1 : decode cX1_copy 1 = .ok (.aload_n 1, 1) := by decide +kernel
theorem dX1_copy_2 : decode cX1_copy 2 = .ok (.getfield 9, 3) := by decide +kernel
theorem dX1_copy_5 : decode cX1_copy 5 = .ok (.putfield 9, 3) := by decide +kernel
theorem dX1_copy_8 : decode cX1_copy 8 = .ok (.aload_n 0, 1) := by decide +kernel
theorem dX1_copy_9 : decode cX1_copy 9 = .ok (.aload_n 1, 1) := by decide +kernel
theorem dX1_copy_10 : decode cX1_copy 10 = .ok (.getfield 15, 3) := by decide +kernel
theorem dX1_copy_13 : decode cX1_copy 13 = .ok (.putfield 15, 3) := by decide +kernel
theorem dX1_copy_16 : decode cX1_copy 16 = .ok (.aload_n 0, 1) := by decide +kernel
theorem dX1_copy_17 : decode cX1_copy 17 = .ok (.aload_n 1, 1) := by decide +kernel
theorem dX1_copy_18 : decode cX1_copy 18 = .ok (.getfield 18, 3) := by decide +kernel
theorem dX1_copy_21 : decode cX1_copy 21 = .ok (.putfield 18, 3) := by decide +kernel
theorem dX1_copy_24 : decode cX1_copy 24 = .ok (.aload_n 0, 1) := by decide +kernel
theorem dX1_copy_25 : decode cX1_copy 25 = .ok (.aload_n 1, 1) := by decide +kernel
theorem dX1_copy_26 : decode cX1_copy 26 = .ok (.getfield 21, 3) := by decide +kernel
theorem dX1_copy_29 : decode cX1_copy 29 = .ok (.putfield 21, 3) := by decide +kernel
theorem dX1_copy_32 : decode cX1_copy 32 = .ok (.aload_n 0, 1) := by decide +kernel
theorem dX1_copy_33 : decode cX1_copy 33 = .ok (.aload_n 1, 1) := by decide +kernel
theorem dX1_copy_34 : decode cX1_copy 34 = .ok (.getfield 24, 3) := by decide +kernel
theorem dX1_copy_37 : decode cX1_copy 37 = .ok (.putfield 24, 3) := by decide +kernel
theorem dX1_copy_40 : decode cX1_copy 40 = .ok (.return_, 1) := by decide +kernel
theorem dX1_trusts_0 : decode cX1_trusts 0 = .ok (.aload_n 0, 1) := by decide +kernel
theorem dX1_trusts_1 : decode cX1_trusts 1 = .ok (.getfield 21, 3) := by decide +kernel
theorem dX1_trusts_4 : decode cX1_trusts 4 = .ok (.lookupswitch 49 #[(0, 28), (1, 30)], 28) := by decide +kernel
theorem dX1_trusts_32 : decode cX1_trusts 32 = .ok (.iconst 1, 1) := by decide +kernel
theorem dX1_trusts_33 : decode cX1_trusts 33 = .ok (.ireturn, 1) := by decide +kernel
theorem dX1_trusts_34 : decode cX1_trusts 34 = .ok (.iload_n 1, 1) := by decide +kernel
theorem dX1_trusts_35 : decode cX1_trusts 35 = .ok (.aload_n 0, 1) := by decide +kernel
theorem dX1_trusts_36 : decode cX1_trusts 36 = .ok (.getfield 9, 3) := by decide +kernel
theorem dX1_trusts_39 : decode cX1_trusts 39 = .ok (.if_icmp .lt 12, 3) := by decide +kernel
theorem dX1_trusts_42 : decode cX1_trusts 42 = .ok (.iload_n 1, 1) := by decide +kernel
theorem dX1_trusts_43 : decode cX1_trusts 43 = .ok (.iload_n 2, 1) := by decide +kernel
theorem dX1_trusts_44 : decode cX1_trusts 44 = .ok (.if_icmp .ge 7, 3) := by decide +kernel
theorem dX1_trusts_47 : decode cX1_trusts 47 = .ok (.iconst 1, 1) := by decide +kernel
theorem dX1_trusts_48 : decode cX1_trusts 48 = .ok (.goto 4, 3) := by decide +kernel
theorem dX1_trusts_51 : decode cX1_trusts 51 = .ok (.iconst 0, 1) := by decide +kernel
theorem dX1_trusts_52 : decode cX1_trusts 52 = .ok (.ireturn, 1) := by decide +kernel
theorem dX1_trusts_53 : decode cX1_trusts 53 = .ok (.iconst 0, 1) := by decide +kernel
theorem dX1_trusts_54 : decode cX1_trusts 54 = .ok (.ireturn, 1) := by decide +kernel
theorem dX2_init_0 : decode cX2_init 0 = .ok (.aload_n 0, 1) := by decide +kernel
theorem dX2_init_1 : decode cX2_init 1 = .ok (.invokespecial 3, 3) := by decide +kernel
theorem dX2_init_4 : decode cX2_init 4 = .ok (.aload_n 0, 1) := by decide +kernel
theorem dX2_init_5 : decode cX2_init 5 = .ok (.sipush 240, 3) := by decide +kernel
theorem dX2_init_8 : decode cX2_init 8 = .ok (.newarray .char, 2) := by decide +kernel
theorem dX2_init_10 : decode cX2_init 10 = .ok (.putfield 9, 3) := by decide +kernel
theorem dX2_init_13 : decode cX2_init 13 = .ok (.return_, 1) := by decide +kernel
theorem dX2_append_0 : decode cX2_append 0 = .ok (.aload_n 0, 1) := by decide +kernel
theorem dX2_append_1 : decode cX2_append 1 = .ok (.getfield 15, 3) := by decide +kernel
theorem dX2_append_4 : decode cX2_append 4 = .ok (.sipush 240, 3) := by decide +kernel
theorem dX2_append_7 : decode cX2_append 7 = .ok (.if_icmp .ge 23, 3) := by decide +kernel
theorem dX2_append_10 : decode cX2_append 10 = .ok (.aload_n 0, 1) := by decide +kernel
theorem dX2_append_11 : decode cX2_append 11 = .ok (.getfield 9, 3) := by decide +kernel
theorem dX2_append_14 : decode cX2_append 14 = .ok (.aload_n 0, 1) := by decide +kernel
theorem dX2_append_15 : decode cX2_append 15 = .ok (.getfield 15, 3) := by decide +kernel
theorem dX2_append_18 : decode cX2_append 18 = .ok (.iload_n 1, 1) := by decide +kernel
theorem dX2_append_19 : decode cX2_append 19 = .ok (.castore, 1) := by decide +kernel
theorem dX2_append_20 : decode cX2_append 20 = .ok (.aload_n 0, 1) := by decide +kernel
theorem dX2_append_21 : decode cX2_append 21 = .ok (.dup, 1) := by decide +kernel
theorem dX2_append_22 : decode cX2_append 22 = .ok (.getfield 15, 3) := by decide +kernel
theorem dX2_append_25 : decode cX2_append 25 = .ok (.iconst 1, 1) := by decide +kernel
theorem dX2_append_26 : decode cX2_append 26 = .ok (.iadd, 1) := by decide +kernel
theorem dX2_append_27 : decode cX2_append 27 = .ok (.putfield 15, 3) := by decide +kernel
theorem dX2_append_30 : decode cX2_append 30 = .ok (.return_, 1) := by decide +kernel
theorem dX2_take_0 : decode cX2_take 0 = .ok (.aload_n 0, 1) := by decide +kernel
theorem dX2_take_1 : decode cX2_take 1 = .ok (.getfield 19, 3) := by decide +kernel
theorem dX2_take_4 : decode cX2_take 4 = .ok (.aload_n 1, 1) := by decide +kernel
theorem dX2_take_5 : decode cX2_take 5 = .ok (.invokevirtual 22, 3) := by decide +kernel
theorem dX2_take_8 : decode cX2_take 8 = .ok (.iadd, 1) := by decide +kernel
theorem dX2_take_9 : decode cX2_take 9 = .ok (.istore_n 2, 1) := by decide +kernel
theorem dX2_take_10 : decode cX2_take 10 = .ok (.iload_n 2, 1) := by decide +kernel
theorem dX2_take_11 : decode cX2_take 11 = .ok (.aload_n 0, 1) := by decide +kernel
theorem dX2_take_12 : decode cX2_take 12 = .ok (.getfield 15, 3) := by decide +kernel
theorem dX2_take_15 : decode cX2_take 15 = .ok (.if_icmp .le 5, 3) := by decide +kernel
theorem dX2_take_18 : decode cX2_take 18 = .ok (.iconst 0, 1) := by decide +kernel
theorem dX2_take_19 : decode cX2_take 19 = .ok (.ireturn, 1) := by decide +kernel
theorem dX2_take_20 : decode cX2_take 20 = .ok (.iconst 0, 1) := by decide +kernel
theorem dX2_take_21 : decode cX2_take 21 = .ok (.istore_n 3, 1) := by decide +kernel
theorem dX2_take_22 : decode cX2_take 22 = .ok (.iload_n 3, 1) := by decide +kernel
theorem dX2_take_23 : decode cX2_take 23 = .ok (.aload_n 1, 1) := by decide +kernel
theorem dX2_take_24 : decode cX2_take 24 = .ok (.invokevirtual 22, 3) := by decide +kernel
theorem dX2_take_27 : decode cX2_take 27 = .ok (.if_icmp .ge 30, 3) := by decide +kernel
theorem dX2_take_30 : decode cX2_take 30 = .ok (.aload_n 0, 1) := by decide +kernel
theorem dX2_take_31 : decode cX2_take 31 = .ok (.getfield 9, 3) := by decide +kernel
theorem dX2_take_34 : decode cX2_take 34 = .ok (.aload_n 0, 1) := by decide +kernel
theorem dX2_take_35 : decode cX2_take 35 = .ok (.getfield 19, 3) := by decide +kernel
theorem dX2_take_38 : decode cX2_take 38 = .ok (.iload_n 3, 1) := by decide +kernel
theorem dX2_take_39 : decode cX2_take 39 = .ok (.iadd, 1) := by decide +kernel
theorem dX2_take_40 : decode cX2_take 40 = .ok (.caload, 1) := by decide +kernel
theorem dX2_take_41 : decode cX2_take 41 = .ok (.aload_n 1, 1) := by decide +kernel
theorem dX2_take_42 : decode cX2_take 42 = .ok (.iload_n 3, 1) := by decide +kernel
theorem dX2_take_43 : decode cX2_take 43 = .ok (.invokevirtual 27, 3) := by decide +kernel
theorem dX2_take_46 : decode cX2_take 46 = .ok (.if_icmp .eq 5, 3) := by decide +kernel
theorem dX2_take_49 : decode cX2_take 49 = .ok (.iconst 0, 1) := by decide +kernel
theorem dX2_take_50 : decode cX2_take 50 = .ok (.ireturn, 1) := by decide +kernel
theorem dX2_take_51 : decode cX2_take 51 = .ok (.iinc 3 1, 3) := by decide +kernel
theorem dX2_take_54 : decode cX2_take 54 = .ok (.goto (-32), 3) := by decide +kernel
theorem dX2_take_57 : decode cX2_take 57 = .ok (.aload_n 0, 1) := by decide +kernel
theorem dX2_take_58 : decode cX2_take 58 = .ok (.iload_n 2, 1) := by decide +kernel
theorem dX2_take_59 : decode cX2_take 59 = .ok (.putfield 19, 3) := by decide +kernel
theorem dX2_take_62 : decode cX2_take 62 = .ok (.iconst 1, 1) := by decide +kernel
theorem dX2_take_63 : decode cX2_take 63 = .ok (.ireturn, 1) := by decide +kernel
theorem dX2_takeNumber_0 : decode cX2_takeNumber 0 = .ok (.iconst 0, 1) := by decide +kernel
theorem dX2_takeNumber_1 : decode cX2_takeNumber 1 = .ok (.istore_n 3, 1) := by decide +kernel
theorem dX2_takeNumber_2 : decode cX2_takeNumber 2 = .ok (.iconst 0, 1) := by decide +kernel
theorem dX2_takeNumber_3 : decode cX2_takeNumber 3 = .ok (.istore 4, 2) := by decide +kernel
theorem dX2_takeNumber_5 : decode cX2_takeNumber 5 = .ok (.iload 4, 2) := by decide +kernel
theorem dX2_takeNumber_7 : decode cX2_takeNumber 7 = .ok (.iconst 4, 1) := by decide +kernel
theorem dX2_takeNumber_8 : decode cX2_takeNumber 8 = .ok (.if_icmp .ge 76, 3) := by decide +kernel
theorem dX2_takeNumber_11 : decode cX2_takeNumber 11 = .ok (.aload_n 0, 1) := by decide +kernel
theorem dX2_takeNumber_12 : decode cX2_takeNumber 12 = .ok (.getfield 19, 3) := by decide +kernel
theorem dX2_takeNumber_15 : decode cX2_takeNumber 15 = .ok (.aload_n 0, 1) := by decide +kernel
theorem dX2_takeNumber_16 : decode cX2_takeNumber 16 = .ok (.getfield 15, 3) := by decide +kernel
theorem dX2_takeNumber_19 : decode cX2_takeNumber 19 = .ok (.if_icmp .ge 65, 3) := by decide +kernel
theorem dX2_takeNumber_22 : decode cX2_takeNumber 22 = .ok (.aload_n 0, 1) := by decide +kernel
theorem dX2_takeNumber_23 : decode cX2_takeNumber 23 = .ok (.getfield 9, 3) := by decide +kernel
theorem dX2_takeNumber_26 : decode cX2_takeNumber 26 = .ok (.aload_n 0, 1) := by decide +kernel
theorem dX2_takeNumber_27 : decode cX2_takeNumber 27 = .ok (.getfield 19, 3) := by decide +kernel
theorem dX2_takeNumber_30 : decode cX2_takeNumber 30 = .ok (.caload, 1) := by decide +kernel
theorem dX2_takeNumber_31 : decode cX2_takeNumber 31 = .ok (.bipush 48, 2) := by decide +kernel
theorem dX2_takeNumber_33 : decode cX2_takeNumber 33 = .ok (.if_icmp .lt 51, 3) := by decide +kernel
theorem dX2_takeNumber_36 : decode cX2_takeNumber 36 = .ok (.aload_n 0, 1) := by decide +kernel
theorem dX2_takeNumber_37 : decode cX2_takeNumber 37 = .ok (.getfield 9, 3) := by decide +kernel
theorem dX2_takeNumber_40 : decode cX2_takeNumber 40 = .ok (.aload_n 0, 1) := by decide +kernel
theorem dX2_takeNumber_41 : decode cX2_takeNumber 41 = .ok (.getfield 19, 3) := by decide +kernel
theorem dX2_takeNumber_44 : decode cX2_takeNumber 44 = .ok (.caload, 1) := by decide +kernel
theorem dX2_takeNumber_45 : decode cX2_takeNumber 45 = .ok (.bipush 57, 2) := by decide +kernel
theorem dX2_takeNumber_47 : decode cX2_takeNumber 47 = .ok (.if_icmp .gt 37, 3) := by decide +kernel
theorem dX2_takeNumber_50 : decode cX2_takeNumber 50 = .ok (.iload_n 3, 1) := by decide +kernel
theorem dX2_takeNumber_51 : decode cX2_takeNumber 51 = .ok (.bipush 10, 2) := by decide +kernel
theorem dX2_takeNumber_53 : decode cX2_takeNumber 53 = .ok (.imul, 1) := by decide +kernel
theorem dX2_takeNumber_54 : decode cX2_takeNumber 54 = .ok (.aload_n 0, 1) := by decide +kernel
theorem dX2_takeNumber_55 : decode cX2_takeNumber 55 = .ok (.getfield 9, 3) := by decide +kernel
theorem dX2_takeNumber_58 : decode cX2_takeNumber 58 = .ok (.aload_n 0, 1) := by decide +kernel
theorem dX2_takeNumber_59 : decode cX2_takeNumber 59 = .ok (.getfield 19, 3) := by decide +kernel
theorem dX2_takeNumber_62 : decode cX2_takeNumber 62 = .ok (.caload, 1) := by decide +kernel
theorem dX2_takeNumber_63 : decode cX2_takeNumber 63 = .ok (.bipush 48, 2) := by decide +kernel
theorem dX2_takeNumber_65 : decode cX2_takeNumber 65 = .ok (.isub, 1) := by decide +kernel
theorem dX2_takeNumber_66 : decode cX2_takeNumber 66 = .ok (.iadd, 1) := by decide +kernel
theorem dX2_takeNumber_67 : decode cX2_takeNumber 67 = .ok (.istore_n 3, 1) := by decide +kernel
theorem dX2_takeNumber_68 : decode cX2_takeNumber 68 = .ok (.aload_n 0, 1) := by decide +kernel
theorem dX2_takeNumber_69 : decode cX2_takeNumber 69 = .ok (.dup, 1) := by decide +kernel
theorem dX2_takeNumber_70 : decode cX2_takeNumber 70 = .ok (.getfield 19, 3) := by decide +kernel
theorem dX2_takeNumber_73 : decode cX2_takeNumber 73 = .ok (.iconst 1, 1) := by decide +kernel
theorem dX2_takeNumber_74 : decode cX2_takeNumber 74 = .ok (.iadd, 1) := by decide +kernel
theorem dX2_takeNumber_75 : decode cX2_takeNumber 75 = .ok (.putfield 19, 3) := by decide +kernel
theorem dX2_takeNumber_78 : decode cX2_takeNumber 78 = .ok (.iinc 4 1, 3) := by decide +kernel
theorem dX2_takeNumber_81 : decode cX2_takeNumber 81 = .ok (.goto (-76), 3) := by decide +kernel
theorem dX2_takeNumber_84 : decode cX2_takeNumber 84 = .ok (.iload 4, 2) := by decide +kernel
theorem dX2_takeNumber_86 : decode cX2_takeNumber 86 = .ok (.ifCond .le 16, 3) := by decide +kernel
theorem dX2_takeNumber_89 : decode cX2_takeNumber 89 = .ok (.iload_n 3, 1) := by decide +kernel
theorem dX2_takeNumber_90 : decode cX2_takeNumber 90 = .ok (.iload_n 1, 1) := by decide +kernel
theorem dX2_takeNumber_91 : decode cX2_takeNumber 91 = .ok (.iload_n 2, 1) := by decide +kernel
theorem dX2_takeNumber_92 : decode cX2_takeNumber 92 = .ok (.invokestatic 31, 3) := by decide +kernel
theorem dX2_takeNumber_95 : decode cX2_takeNumber 95 = .ok (.ifCond .eq 7, 3) := by decide +kernel
theorem dX2_takeNumber_98 : decode cX2_takeNumber 98 = .ok (.iload_n 3, 1) := by decide +kernel
theorem dX2_takeNumber_99 : decode cX2_takeNumber 99 = .ok (.goto 5, 3) := by decide +kernel
theorem dX2_takeNumber_102 : decode cX2_takeNumber 102 = .ok (.bipush (-4), 2) := by decide +kernel
theorem dX2_takeNumber_104 : decode cX2_takeNumber 104 = .ok (.ireturn, 1) := by decide +kernel
theorem dX2_takeKind_0 : decode cX2_takeKind 0 = .ok (.aload_n 0, 1) := by decide +kernel
theorem dX2_takeKind_1 : decode cX2_takeKind 1 = .ok (.ldc 35, 2) := by decide +kernel
theorem dX2_takeKind_3 : decode cX2_takeKind 3 = .ok (.invokevirtual 37, 3) := by decide +kernel
theorem dX2_takeKind_6 : decode cX2_takeKind 6 = .ok (.ifCond .eq 5, 3) := by decide +kernel
theorem dX2_takeKind_9 : decode cX2_takeKind 9 = .ok (.iconst 0, 1) := by decide +kernel
theorem dX2_takeKind_10 : decode cX2_takeKind 10 = .ok (.ireturn, 1) := by decide +kernel
theorem dX2_takeKind_11 : decode cX2_takeKind 11 = .ok (.aload_n 0, 1) := by decide +kernel
theorem dX2_takeKind_12 : decode cX2_takeKind 12 = .ok (.ldc 41, 2) := by decide +kernel
theorem dX2_takeKind_14 : decode cX2_takeKind 14 = .ok (.invokevirtual 37, 3) := by decide +kernel
theorem dX2_takeKind_17 : decode cX2_takeKind 17 = .ok (.ifCond .eq 5, 3) := by decide +kernel
theorem dX2_takeKind_20 : decode cX2_takeKind 20 = .ok (.iconst 1, 1) := by decide +kernel
theorem dX2_takeKind_21 : decode cX2_takeKind 21 = .ok (.ireturn, 1) := by decide +kernel
theorem dX2_takeKind_22 : decode cX2_takeKind 22 = .ok (.aload_n 0, 1) := by decide +kernel
theorem dX2_takeKind_23 : decode cX2_takeKind 23 = .ok (.ldc 43, 2) := by decide +kernel
theorem dX2_takeKind_25 : decode cX2_takeKind 25 = .ok (.invokevirtual 37, 3) := by decide +kernel
theorem dX2_takeKind_28 : decode cX2_takeKind 28 = .ok (.ifCond .eq 5, 3) := by decide +kernel
theorem dX2_takeKind_31 : decode cX2_takeKind 31 = .ok (.iconst 2, 1) := by decide +kernel
theorem dX2_takeKind_32 : decode cX2_takeKind 32 = .ok (.ireturn, 1) := by decide +kernel
theorem dX2_takeKind_33 : decode cX2_takeKind 33 = .ok (.aload_n 0, 1) := by decide +kernel
theorem dX2_takeKind_34 : decode cX2_takeKind 34 = .ok (.ldc 45, 2) := by decide +kernel
theorem dX2_takeKind_36 : decode cX2_takeKind 36 = .ok (.invokevirtual 37, 3) := by decide +kernel
theorem dX2_takeKind_39 : decode cX2_takeKind 39 = .ok (.ifCond .eq 7, 3) := by decide +kernel
theorem dX2_takeKind_42 : decode cX2_takeKind 42 = .ok (.iconst 3, 1) := by decide +kernel
theorem dX2_takeKind_43 : decode cX2_takeKind 43 = .ok (.goto 5, 3) := by decide +kernel
theorem dX2_takeKind_46 : decode cX2_takeKind 46 = .ok (.bipush (-4), 2) := by decide +kernel
theorem dX2_takeKind_48 : decode cX2_takeKind 48 = .ok (.ireturn, 1) := by decide +kernel
theorem dX2_takeBelief_0 : decode cX2_takeBelief 0 = .ok (.aload_n 0, 1) := by decide +kernel
theorem dX2_takeBelief_1 : decode cX2_takeBelief 1 = .ok (.ldc 47, 2) := by decide +kernel
theorem dX2_takeBelief_3 : decode cX2_takeBelief 3 = .ok (.invokevirtual 37, 3) := by decide +kernel
theorem dX2_takeBelief_6 : decode cX2_takeBelief 6 = .ok (.ifCond .eq 5, 3) := by decide +kernel
theorem dX2_takeBelief_9 : decode cX2_takeBelief 9 = .ok (.iconst 0, 1) := by decide +kernel
theorem dX2_takeBelief_10 : decode cX2_takeBelief 10 = .ok (.ireturn, 1) := by decide +kernel
theorem dX2_takeBelief_11 : decode cX2_takeBelief 11 = .ok (.aload_n 0, 1) := by decide +kernel
theorem dX2_takeBelief_12 : decode cX2_takeBelief 12 = .ok (.ldc 49, 2) := by decide +kernel
theorem dX2_takeBelief_14 : decode cX2_takeBelief 14 = .ok (.invokevirtual 37, 3) := by decide +kernel
theorem dX2_takeBelief_17 : decode cX2_takeBelief 17 = .ok (.ifCond .eq 5, 3) := by decide +kernel
theorem dX2_takeBelief_20 : decode cX2_takeBelief 20 = .ok (.iconst 1, 1) := by decide +kernel
theorem dX2_takeBelief_21 : decode cX2_takeBelief 21 = .ok (.ireturn, 1) := by decide +kernel
theorem dX2_takeBelief_22 : decode cX2_takeBelief 22 = .ok (.aload_n 0, 1) := by decide +kernel
theorem dX2_takeBelief_23 : decode cX2_takeBelief 23 = .ok (.ldc 51, 2) := by decide +kernel
theorem dX2_takeBelief_25 : decode cX2_takeBelief 25 = .ok (.invokevirtual 37, 3) := by decide +kernel
theorem dX2_takeBelief_28 : decode cX2_takeBelief 28 = .ok (.ifCond .eq 7, 3) := by decide +kernel
theorem dX2_takeBelief_31 : decode cX2_takeBelief 31 = .ok (.iconst 2, 1) := by decide +kernel
theorem dX2_takeBelief_32 : decode cX2_takeBelief 32 = .ok (.goto 5, 3) := by decide +kernel
theorem dX2_takeBelief_35 : decode cX2_takeBelief 35 = .ok (.bipush (-4), 2) := by decide +kernel
theorem dX2_takeBelief_37 : decode cX2_takeBelief 37 = .ok (.ireturn, 1) := by decide +kernel
theorem dX3_init_0 : decode cX3_init 0 = .ok (.aload_n 0, 1) := by decide +kernel
theorem dX3_init_1 : decode cX3_init 1 = .ok (.invokespecial 3, 3) := by decide +kernel
theorem dX3_init_4 : decode cX3_init 4 = .ok (.aload_n 0, 1) := by decide +kernel
theorem dX3_init_5 : decode cX3_init 5 = .ok (.bipush 6, 2) := by decide +kernel
theorem dX3_init_7 : decode cX3_init 7 = .ok (.newarray .int, 2) := by decide +kernel
theorem dX3_init_9 : decode cX3_init 9 = .ok (.putfield 9, 3) := by decide +kernel
theorem dX3_init_12 : decode cX3_init 12 = .ok (.aload_n 0, 1) := by decide +kernel
theorem dX3_init_13 : decode cX3_init 13 = .ok (.bipush 6, 2) := by decide +kernel
theorem dX3_init_15 : decode cX3_init 15 = .ok (.newarray .int, 2) := by decide +kernel
theorem dX3_init_17 : decode cX3_init 17 = .ok (.putfield 15, 3) := by decide +kernel
theorem dX3_init_20 : decode cX3_init 20 = .ok (.return_, 1) := by decide +kernel
theorem dX3_clear_0 : decode cX3_clear 0 = .ok (.aload_n 0, 1) := by decide +kernel
theorem dX3_clear_1 : decode cX3_clear 1 = .ok (.iload_n 1, 1) := by decide +kernel
theorem dX3_clear_2 : decode cX3_clear 2 = .ok (.putfield 18, 3) := by decide +kernel
theorem dX3_clear_5 : decode cX3_clear 5 = .ok (.aload_n 0, 1) := by decide +kernel
theorem dX3_clear_6 : decode cX3_clear 6 = .ok (.iconst 0, 1) := by decide +kernel
theorem dX3_clear_7 : decode cX3_clear 7 = .ok (.putfield 22, 3) := by decide +kernel
theorem dX3_clear_10 : decode cX3_clear 10 = .ok (.aload_n 0, 1) := by decide +kernel
theorem dX3_clear_11 : decode cX3_clear 11 = .ok (.iconst 0, 1) := by decide +kernel
theorem dX3_clear_12 : decode cX3_clear 12 = .ok (.putfield 25, 3) := by decide +kernel
theorem dX3_clear_15 : decode cX3_clear 15 = .ok (.return_, 1) := by decide +kernel
theorem dX3_addHop_0 : decode cX3_addHop 0 = .ok (.aload_n 0, 1) := by decide +kernel
theorem dX3_addHop_1 : decode cX3_addHop 1 = .ok (.getfield 22, 3) := by decide +kernel
theorem dX3_addHop_4 : decode cX3_addHop 4 = .ok (.bipush 6, 2) := by decide +kernel
theorem dX3_addHop_6 : decode cX3_addHop 6 = .ok (.if_icmp .lt 5, 3) := by decide +kernel
theorem dX3_addHop_9 : decode cX3_addHop 9 = .ok (.iconst 0, 1) := by decide +kernel
theorem dX3_addHop_10 : decode cX3_addHop 10 = .ok (.ireturn, 1) := by decide +kernel
theorem dX3_addHop_11 : decode cX3_addHop 11 = .ok (.aload_n 0, 1) := by decide +kernel
theorem dX3_addHop_12 : decode cX3_addHop 12 = .ok (.getfield 9, 3) := by decide +kernel
theorem dX3_addHop_15 : decode cX3_addHop 15 = .ok (.aload_n 0, 1) := by decide +kernel
theorem dX3_addHop_16 : decode cX3_addHop 16 = .ok (.getfield 22, 3) := by decide +kernel
theorem dX3_addHop_19 : decode cX3_addHop 19 = .ok (.iload_n 1, 1) := by decide +kernel
theorem dX3_addHop_20 : decode cX3_addHop 20 = .ok (.iastore, 1) := by decide +kernel
theorem dX3_addHop_21 : decode cX3_addHop 21 = .ok (.aload_n 0, 1) := by decide +kernel
theorem dX3_addHop_22 : decode cX3_addHop 22 = .ok (.getfield 15, 3) := by decide +kernel
theorem dX3_addHop_25 : decode cX3_addHop 25 = .ok (.aload_n 0, 1) := by decide +kernel
theorem dX3_addHop_26 : decode cX3_addHop 26 = .ok (.getfield 22, 3) := by decide +kernel
theorem dX3_addHop_29 : decode cX3_addHop 29 = .ok (.iload_n 2, 1) := by decide +kernel
theorem dX3_addHop_30 : decode cX3_addHop 30 = .ok (.iastore, 1) := by decide +kernel
theorem dX3_addHop_31 : decode cX3_addHop 31 = .ok (.aload_n 0, 1) := by decide +kernel
theorem dX3_addHop_32 : decode cX3_addHop 32 = .ok (.dup, 1) := by decide +kernel
theorem dX3_addHop_33 : decode cX3_addHop 33 = .ok (.getfield 22, 3) := by decide +kernel
theorem dX3_addHop_36 : decode cX3_addHop 36 = .ok (.iconst 1, 1) := by decide +kernel
theorem dX3_addHop_37 : decode cX3_addHop 37 = .ok (.iadd, 1) := by decide +kernel
theorem dX3_addHop_38 : decode cX3_addHop 38 = .ok (.putfield 22, 3) := by decide +kernel
theorem dX3_addHop_41 : decode cX3_addHop 41 = .ok (.iconst 1, 1) := by decide +kernel
theorem dX3_addHop_42 : decode cX3_addHop 42 = .ok (.ireturn, 1) := by decide +kernel
theorem dX3_begin_0 : decode cX3_begin 0 = .ok (.aload_n 0, 1) := by decide +kernel
theorem dX3_begin_1 : decode cX3_begin 1 = .ok (.aload_n 1, 1) := by decide +kernel
theorem dX3_begin_2 : decode cX3_begin 2 = .ok (.getfield 28, 3) := by decide +kernel
theorem dX3_begin_5 : decode cX3_begin 5 = .ok (.putfield 33, 3) := by decide +kernel
theorem dX3_begin_8 : decode cX3_begin 8 = .ok (.aload_n 0, 1) := by decide +kernel
theorem dX3_begin_9 : decode cX3_begin 9 = .ok (.aload_n 1, 1) := by decide +kernel
theorem dX3_begin_10 : decode cX3_begin 10 = .ok (.getfield 36, 3) := by decide +kernel
theorem dX3_begin_13 : decode cX3_begin 13 = .ok (.putfield 39, 3) := by decide +kernel
theorem dX3_begin_16 : decode cX3_begin 16 = .ok (.aload_n 0, 1) := by decide +kernel
theorem dX3_begin_17 : decode cX3_begin 17 = .ok (.aload_n 0, 1) := by decide +kernel
theorem dX3_begin_18 : decode cX3_begin 18 = .ok (.invokevirtual 42, 3) := by decide +kernel
theorem dX3_begin_21 : decode cX3_begin 21 = .ok (.ifCond .eq 7, 3) := by decide +kernel
theorem dX3_begin_24 : decode cX3_begin 24 = .ok (.iconst 1, 1) := by decide +kernel
theorem dX3_begin_25 : decode cX3_begin 25 = .ok (.goto 4, 3) := by decide +kernel
theorem dX3_begin_28 : decode cX3_begin 28 = .ok (.iconst 0, 1) := by decide +kernel
theorem dX3_begin_29 : decode cX3_begin 29 = .ok (.putfield 46, 3) := by decide +kernel
theorem dX3_begin_32 : decode cX3_begin 32 = .ok (.aload_n 0, 1) := by decide +kernel
theorem dX3_begin_33 : decode cX3_begin 33 = .ok (.iconst 0, 1) := by decide +kernel
theorem dX3_begin_34 : decode cX3_begin 34 = .ok (.putfield 49, 3) := by decide +kernel
theorem dX3_begin_37 : decode cX3_begin 37 = .ok (.aload_n 0, 1) := by decide +kernel
theorem dX3_begin_38 : decode cX3_begin 38 = .ok (.iconst 0, 1) := by decide +kernel
theorem dX3_begin_39 : decode cX3_begin 39 = .ok (.putfield 52, 3) := by decide +kernel
theorem dX3_begin_42 : decode cX3_begin 42 = .ok (.aload_n 0, 1) := by decide +kernel
theorem dX3_begin_43 : decode cX3_begin 43 = .ok (.iconst 0, 1) := by decide +kernel
theorem dX3_begin_44 : decode cX3_begin 44 = .ok (.putfield 55, 3) := by decide +kernel
theorem dX3_begin_47 : decode cX3_begin 47 = .ok (.aload_n 0, 1) := by decide +kernel
theorem dX3_begin_48 : decode cX3_begin 48 = .ok (.iconst 0, 1) := by decide +kernel
theorem dX3_begin_49 : decode cX3_begin 49 = .ok (.putfield 58, 3) := by decide +kernel
theorem dX3_begin_52 : decode cX3_begin 52 = .ok (.aload_n 0, 1) := by decide +kernel
theorem dX3_begin_53 : decode cX3_begin 53 = .ok (.iconst 0, 1) := by decide +kernel
theorem dX3_begin_54 : decode cX3_begin 54 = .ok (.putfield 61, 3) := by decide +kernel
theorem dX3_begin_57 : decode cX3_begin 57 = .ok (.aload_n 0, 1) := by decide +kernel
theorem dX3_begin_58 : decode cX3_begin 58 = .ok (.iconst 0, 1) := by decide +kernel
theorem dX3_begin_59 : decode cX3_begin 59 = .ok (.putfield 64, 3) := by decide +kernel
theorem dX3_begin_62 : decode cX3_begin 62 = .ok (.aload_n 0, 1) := by decide +kernel
theorem dX3_begin_63 : decode cX3_begin 63 = .ok (.iconst 0, 1) := by decide +kernel
theorem dX3_begin_64 : decode cX3_begin 64 = .ok (.putfield 67, 3) := by decide +kernel
theorem dX3_begin_67 : decode cX3_begin 67 = .ok (.return_, 1) := by decide +kernel
theorem dX3_copy_0 : decode cX3_copy 0 = .ok (.aload_n 0, 1) := by decide +kernel
theorem dX3_copy_1 : decode cX3_copy 1 = .ok (.aload_n 1, 1) := by decide +kernel
theorem dX3_copy_2 : decode cX3_copy 2 = .ok (.getfield 18, 3) := by decide +kernel
theorem dX3_copy_5 : decode cX3_copy 5 = .ok (.putfield 18, 3) := by decide +kernel
theorem dX3_copy_8 : decode cX3_copy 8 = .ok (.aload_n 0, 1) := by decide +kernel
theorem dX3_copy_9 : decode cX3_copy 9 = .ok (.aload_n 1, 1) := by decide +kernel
theorem dX3_copy_10 : decode cX3_copy 10 = .ok (.getfield 22, 3) := by decide +kernel
theorem dX3_copy_13 : decode cX3_copy 13 = .ok (.putfield 22, 3) := by decide +kernel
theorem dX3_copy_16 : decode cX3_copy 16 = .ok (.aload_n 1, 1) := by decide +kernel
theorem dX3_copy_17 : decode cX3_copy 17 = .ok (.getfield 9, 3) := by decide +kernel
theorem dX3_copy_20 : decode cX3_copy 20 = .ok (.iconst 0, 1) := by decide +kernel
theorem dX3_copy_21 : decode cX3_copy 21 = .ok (.aload_n 0, 1) := by decide +kernel
theorem dX3_copy_22 : decode cX3_copy 22 = .ok (.getfield 9, 3) := by decide +kernel
theorem dX3_copy_25 : decode cX3_copy 25 = .ok (.iconst 0, 1) := by decide +kernel
theorem dX3_copy_26 : decode cX3_copy 26 = .ok (.bipush 6, 2) := by decide +kernel
theorem dX3_copy_28 : decode cX3_copy 28 = .ok (.invokestatic 70, 3) := by decide +kernel
theorem dX3_copy_31 : decode cX3_copy 31 = .ok (.aload_n 1, 1) := by decide +kernel
theorem dX3_copy_32 : decode cX3_copy 32 = .ok (.getfield 15, 3) := by decide +kernel
theorem dX3_copy_35 : decode cX3_copy 35 = .ok (.iconst 0, 1) := by decide +kernel
theorem dX3_copy_36 : decode cX3_copy 36 = .ok (.aload_n 0, 1) := by decide +kernel
theorem dX3_copy_37 : decode cX3_copy 37 = .ok (.getfield 15, 3) := by decide +kernel
theorem dX3_copy_40 : decode cX3_copy 40 = .ok (.iconst 0, 1) := by decide +kernel
theorem dX3_copy_41 : decode cX3_copy 41 = .ok (.bipush 6, 2) := by decide +kernel
theorem dX3_copy_43 : decode cX3_copy 43 = .ok (.invokestatic 70, 3) := by decide +kernel
theorem dX3_copy_46 : decode cX3_copy 46 = .ok (.aload_n 0, 1) := by decide +kernel
theorem dX3_copy_47 : decode cX3_copy 47 = .ok (.aload_n 1, 1) := by decide +kernel
theorem dX3_copy_48 : decode cX3_copy 48 = .ok (.getfield 25, 3) := by decide +kernel
theorem dX3_copy_51 : decode cX3_copy 51 = .ok (.putfield 25, 3) := by decide +kernel
theorem dX3_copy_54 : decode cX3_copy 54 = .ok (.aload_n 0, 1) := by decide +kernel
theorem dX3_copy_55 : decode cX3_copy 55 = .ok (.aload_n 1, 1) := by decide +kernel
theorem dX3_copy_56 : decode cX3_copy 56 = .ok (.getfield 33, 3) := by decide +kernel
theorem dX3_copy_59 : decode cX3_copy 59 = .ok (.putfield 33, 3) := by decide +kernel
theorem dX3_copy_62 : decode cX3_copy 62 = .ok (.aload_n 0, 1) := by decide +kernel
theorem dX3_copy_63 : decode cX3_copy 63 = .ok (.aload_n 1, 1) := by decide +kernel
theorem dX3_copy_64 : decode cX3_copy 64 = .ok (.getfield 39, 3) := by decide +kernel
theorem dX3_copy_67 : decode cX3_copy 67 = .ok (.putfield 39, 3) := by decide +kernel
theorem dX3_copy_70 : decode cX3_copy 70 = .ok (.aload_n 0, 1) := by decide +kernel
theorem dX3_copy_71 : decode cX3_copy 71 = .ok (.aload_n 1, 1) := by decide +kernel
theorem dX3_copy_72 : decode cX3_copy 72 = .ok (.getfield 46, 3) := by decide +kernel
theorem dX3_copy_75 : decode cX3_copy 75 = .ok (.putfield 46, 3) := by decide +kernel
theorem dX3_copy_78 : decode cX3_copy 78 = .ok (.aload_n 0, 1) := by decide +kernel
theorem dX3_copy_79 : decode cX3_copy 79 = .ok (.aload_n 1, 1) := by decide +kernel
theorem dX3_copy_80 : decode cX3_copy 80 = .ok (.getfield 49, 3) := by decide +kernel
theorem dX3_copy_83 : decode cX3_copy 83 = .ok (.putfield 49, 3) := by decide +kernel
theorem dX3_copy_86 : decode cX3_copy 86 = .ok (.aload_n 0, 1) := by decide +kernel
theorem dX3_copy_87 : decode cX3_copy 87 = .ok (.aload_n 1, 1) := by decide +kernel
theorem dX3_copy_88 : decode cX3_copy 88 = .ok (.getfield 52, 3) := by decide +kernel
theorem dX3_copy_91 : decode cX3_copy 91 = .ok (.putfield 52, 3) := by decide +kernel
theorem dX3_copy_94 : decode cX3_copy 94 = .ok (.aload_n 0, 1) := by decide +kernel
theorem dX3_copy_95 : decode cX3_copy 95 = .ok (.aload_n 1, 1) := by decide +kernel
theorem dX3_copy_96 : decode cX3_copy 96 = .ok (.getfield 55, 3) := by decide +kernel
theorem dX3_copy_99 : decode cX3_copy 99 = .ok (.putfield 55, 3) := by decide +kernel
theorem dX3_copy_102 : decode cX3_copy 102 = .ok (.aload_n 0, 1) := by decide +kernel
theorem dX3_copy_103 : decode cX3_copy 103 = .ok (.aload_n 1, 1) := by decide +kernel
theorem dX3_copy_104 : decode cX3_copy 104 = .ok (.getfield 58, 3) := by decide +kernel
theorem dX3_copy_107 : decode cX3_copy 107 = .ok (.putfield 58, 3) := by decide +kernel
theorem dX3_copy_110 : decode cX3_copy 110 = .ok (.aload_n 0, 1) := by decide +kernel
theorem dX3_copy_111 : decode cX3_copy 111 = .ok (.aload_n 1, 1) := by decide +kernel
theorem dX3_copy_112 : decode cX3_copy 112 = .ok (.getfield 61, 3) := by decide +kernel
theorem dX3_copy_115 : decode cX3_copy 115 = .ok (.putfield 61, 3) := by decide +kernel
theorem dX3_copy_118 : decode cX3_copy 118 = .ok (.aload_n 0, 1) := by decide +kernel
theorem dX3_copy_119 : decode cX3_copy 119 = .ok (.aload_n 1, 1) := by decide +kernel
theorem dX3_copy_120 : decode cX3_copy 120 = .ok (.getfield 64, 3) := by decide +kernel
theorem dX3_copy_123 : decode cX3_copy 123 = .ok (.putfield 64, 3) := by decide +kernel
theorem dX3_copy_126 : decode cX3_copy 126 = .ok (.aload_n 0, 1) := by decide +kernel
theorem dX3_copy_127 : decode cX3_copy 127 = .ok (.aload_n 1, 1) := by decide +kernel
theorem dX3_copy_128 : decode cX3_copy 128 = .ok (.getfield 67, 3) := by decide +kernel
theorem dX3_copy_131 : decode cX3_copy 131 = .ok (.putfield 67, 3) := by decide +kernel
theorem dX3_copy_134 : decode cX3_copy 134 = .ok (.return_, 1) := by decide +kernel
theorem dX3_tell_0 : decode cX3_tell 0 = .ok (.iload_n 1, 1) := by decide +kernel
theorem dX3_tell_1 : decode cX3_tell 1 = .ok (.tableswitch 132 0 12 #[67, 72, 77, 82, 87, 92, 97, 102, 107, 112, 117, 122, 127], 67) := by decide +kernel
theorem dX3_tell_68 : decode cX3_tell 68 = .ok (.aload_n 0, 1) := by decide +kernel
theorem dX3_tell_69 : decode cX3_tell 69 = .ok (.getfield 33, 3) := by decide +kernel
theorem dX3_tell_72 : decode cX3_tell 72 = .ok (.ireturn, 1) := by decide +kernel
theorem dX3_tell_73 : decode cX3_tell 73 = .ok (.aload_n 0, 1) := by decide +kernel
theorem dX3_tell_74 : decode cX3_tell 74 = .ok (.getfield 39, 3) := by decide +kernel
theorem dX3_tell_77 : decode cX3_tell 77 = .ok (.ireturn, 1) := by decide +kernel
theorem dX3_tell_78 : decode cX3_tell 78 = .ok (.aload_n 0, 1) := by decide +kernel
theorem dX3_tell_79 : decode cX3_tell 79 = .ok (.getfield 46, 3) := by decide +kernel
theorem dX3_tell_82 : decode cX3_tell 82 = .ok (.ireturn, 1) := by decide +kernel
theorem dX3_tell_83 : decode cX3_tell 83 = .ok (.aload_n 0, 1) := by decide +kernel
theorem dX3_tell_84 : decode cX3_tell 84 = .ok (.getfield 49, 3) := by decide +kernel
theorem dX3_tell_87 : decode cX3_tell 87 = .ok (.ireturn, 1) := by decide +kernel
theorem dX3_tell_88 : decode cX3_tell 88 = .ok (.aload_n 0, 1) := by decide +kernel
theorem dX3_tell_89 : decode cX3_tell 89 = .ok (.getfield 52, 3) := by decide +kernel
theorem dX3_tell_92 : decode cX3_tell 92 = .ok (.ireturn, 1) := by decide +kernel
theorem dX3_tell_93 : decode cX3_tell 93 = .ok (.aload_n 0, 1) := by decide +kernel
theorem dX3_tell_94 : decode cX3_tell 94 = .ok (.getfield 55, 3) := by decide +kernel
theorem dX3_tell_97 : decode cX3_tell 97 = .ok (.ireturn, 1) := by decide +kernel
theorem dX3_tell_98 : decode cX3_tell 98 = .ok (.aload_n 0, 1) := by decide +kernel
theorem dX3_tell_99 : decode cX3_tell 99 = .ok (.getfield 58, 3) := by decide +kernel
theorem dX3_tell_102 : decode cX3_tell 102 = .ok (.ireturn, 1) := by decide +kernel
theorem dX3_tell_103 : decode cX3_tell 103 = .ok (.aload_n 0, 1) := by decide +kernel
theorem dX3_tell_104 : decode cX3_tell 104 = .ok (.getfield 61, 3) := by decide +kernel
theorem dX3_tell_107 : decode cX3_tell 107 = .ok (.ireturn, 1) := by decide +kernel
theorem dX3_tell_108 : decode cX3_tell 108 = .ok (.aload_n 0, 1) := by decide +kernel
theorem dX3_tell_109 : decode cX3_tell 109 = .ok (.getfield 64, 3) := by decide +kernel
theorem dX3_tell_112 : decode cX3_tell 112 = .ok (.ireturn, 1) := by decide +kernel
theorem dX3_tell_113 : decode cX3_tell 113 = .ok (.aload_n 0, 1) := by decide +kernel
theorem dX3_tell_114 : decode cX3_tell 114 = .ok (.getfield 67, 3) := by decide +kernel
theorem dX3_tell_117 : decode cX3_tell 117 = .ok (.ireturn, 1) := by decide +kernel
theorem dX3_tell_118 : decode cX3_tell 118 = .ok (.aload_n 0, 1) := by decide +kernel
theorem dX3_tell_119 : decode cX3_tell 119 = .ok (.invokevirtual 76, 3) := by decide +kernel
theorem dX3_tell_122 : decode cX3_tell 122 = .ok (.ireturn, 1) := by decide +kernel
theorem dX3_tell_123 : decode cX3_tell 123 = .ok (.aload_n 0, 1) := by decide +kernel
theorem dX3_tell_124 : decode cX3_tell 124 = .ok (.getfield 22, 3) := by decide +kernel
theorem dX3_tell_127 : decode cX3_tell 127 = .ok (.ireturn, 1) := by decide +kernel
theorem dX3_tell_128 : decode cX3_tell 128 = .ok (.aload_n 0, 1) := by decide +kernel
theorem dX3_tell_129 : decode cX3_tell 129 = .ok (.getfield 25, 3) := by decide +kernel
theorem dX3_tell_132 : decode cX3_tell 132 = .ok (.ireturn, 1) := by decide +kernel
theorem dX3_tell_133 : decode cX3_tell 133 = .ok (.iconst (-1), 1) := by decide +kernel
theorem dX3_tell_134 : decode cX3_tell 134 = .ok (.ireturn, 1) := by decide +kernel
theorem dX3_passes_0 : decode cX3_passes 0 = .ok (.sipush 999, 3) := by decide +kernel
theorem dX3_passes_3 : decode cX3_passes 3 = .ok (.istore_n 1, 1) := by decide +kernel
theorem dX3_passes_4 : decode cX3_passes 4 = .ok (.iconst 0, 1) := by decide +kernel
theorem dX3_passes_5 : decode cX3_passes 5 = .ok (.istore_n 2, 1) := by decide +kernel
theorem dX3_passes_6 : decode cX3_passes 6 = .ok (.iload_n 2, 1) := by decide +kernel
theorem dX3_passes_7 : decode cX3_passes 7 = .ok (.aload_n 0, 1) := by decide +kernel
theorem dX3_passes_8 : decode cX3_passes 8 = .ok (.getfield 22, 3) := by decide +kernel
theorem dX3_passes_11 : decode cX3_passes 11 = .ok (.if_icmp .ge 20, 3) := by decide +kernel
theorem dX3_passes_14 : decode cX3_passes 14 = .ok (.iload_n 1, 1) := by decide +kernel
theorem dX3_passes_15 : decode cX3_passes 15 = .ok (.aload_n 0, 1) := by decide +kernel
theorem dX3_passes_16 : decode cX3_passes 16 = .ok (.getfield 9, 3) := by decide +kernel
theorem dX3_passes_19 : decode cX3_passes 19 = .ok (.iload_n 2, 1) := by decide +kernel
theorem dX3_passes_20 : decode cX3_passes 20 = .ok (.iaload, 1) := by decide +kernel
theorem dX3_passes_21 : decode cX3_passes 21 = .ok (.invokestatic 80, 3) := by decide +kernel
theorem dX3_passes_24 : decode cX3_passes 24 = .ok (.istore_n 1, 1) := by decide +kernel
theorem dX3_passes_25 : decode cX3_passes 25 = .ok (.iinc 2 1, 3) := by decide +kernel
theorem dX3_passes_28 : decode cX3_passes 28 = .ok (.goto (-22), 3) := by decide +kernel
theorem dX3_passes_31 : decode cX3_passes 31 = .ok (.iload_n 1, 1) := by decide +kernel
theorem dX3_passes_32 : decode cX3_passes 32 = .ok (.ireturn, 1) := by decide +kernel
theorem dX3_sought_0 : decode cX3_sought 0 = .ok (.aload_n 1, 1) := by decide +kernel
theorem dX3_sought_1 : decode cX3_sought 1 = .ok (.getfield 28, 3) := by decide +kernel
theorem dX3_sought_4 : decode cX3_sought 4 = .ok (.aload_n 1, 1) := by decide +kernel
theorem dX3_sought_5 : decode cX3_sought 5 = .ok (.getfield 36, 3) := by decide +kernel
theorem dX3_sought_8 : decode cX3_sought 8 = .ok (.aload_n 0, 1) := by decide +kernel
theorem dX3_sought_9 : decode cX3_sought 9 = .ok (.invokevirtual 76, 3) := by decide +kernel
theorem dX3_sought_12 : decode cX3_sought 12 = .ok (.invokestatic 80, 3) := by decide +kernel
theorem dX3_sought_15 : decode cX3_sought 15 = .ok (.invokestatic 86, 3) := by decide +kernel
theorem dX3_sought_18 : decode cX3_sought 18 = .ok (.ireturn, 1) := by decide +kernel
theorem dX3_isNarrowed_0 : decode cX3_isNarrowed 0 = .ok (.aload_n 0, 1) := by decide +kernel
theorem dX3_isNarrowed_1 : decode cX3_isNarrowed 1 = .ok (.getfield 33, 3) := by decide +kernel
theorem dX3_isNarrowed_4 : decode cX3_isNarrowed 4 = .ok (.aload_n 0, 1) := by decide +kernel
theorem dX3_isNarrowed_5 : decode cX3_isNarrowed 5 = .ok (.getfield 39, 3) := by decide +kernel
theorem dX3_isNarrowed_8 : decode cX3_isNarrowed 8 = .ok (.if_icmp .ne 7, 3) := by decide +kernel
theorem dX3_isNarrowed_11 : decode cX3_isNarrowed 11 = .ok (.iconst 1, 1) := by decide +kernel
theorem dX3_isNarrowed_12 : decode cX3_isNarrowed 12 = .ok (.goto 4, 3) := by decide +kernel
theorem dX3_isNarrowed_15 : decode cX3_isNarrowed 15 = .ok (.iconst 0, 1) := by decide +kernel
theorem dX3_isNarrowed_16 : decode cX3_isNarrowed 16 = .ok (.ireturn, 1) := by decide +kernel
theorem dX3_probeSize_0 : decode cX3_probeSize 0 = .ok (.aload_n 0, 1) := by decide +kernel
theorem dX3_probeSize_1 : decode cX3_probeSize 1 = .ok (.getfield 33, 3) := by decide +kernel
theorem dX3_probeSize_4 : decode cX3_probeSize 4 = .ok (.aload_n 0, 1) := by decide +kernel
theorem dX3_probeSize_5 : decode cX3_probeSize 5 = .ok (.getfield 39, 3) := by decide +kernel
theorem dX3_probeSize_8 : decode cX3_probeSize 8 = .ok (.aload_n 0, 1) := by decide +kernel
theorem dX3_probeSize_9 : decode cX3_probeSize 9 = .ok (.getfield 33, 3) := by decide +kernel
theorem dX3_probeSize_12 : decode cX3_probeSize 12 = .ok (.isub, 1) := by decide +kernel
theorem dX3_probeSize_13 : decode cX3_probeSize 13 = .ok (.iconst 1, 1) := by decide +kernel
theorem dX3_probeSize_14 : decode cX3_probeSize 14 = .ok (.iadd, 1) := by decide +kernel
theorem dX3_probeSize_15 : decode cX3_probeSize 15 = .ok (.iconst 2, 1) := by decide +kernel
theorem dX3_probeSize_16 : decode cX3_probeSize 16 = .ok (.idiv, 1) := by decide +kernel
theorem dX3_probeSize_17 : decode cX3_probeSize 17 = .ok (.iadd, 1) := by decide +kernel
theorem dX3_probeSize_18 : decode cX3_probeSize 18 = .ok (.ireturn, 1) := by decide +kernel
theorem dX3_drawn_0 : decode cX3_drawn 0 = .ok (.ldc2_w 89, 3) := by decide +kernel
theorem dX3_drawn_3 : decode cX3_drawn 3 = .ok (.aload_n 2, 1) := by decide +kernel
theorem dX3_drawn_4 : decode cX3_drawn 4 = .ok (.getfield 91, 3) := by decide +kernel
theorem dX3_drawn_7 : decode cX3_drawn 7 = .ok (.i2l, 1) := by decide +kernel
theorem dX3_drawn_8 : decode cX3_drawn 8 = .ok (.lmul, 1) := by decide +kernel
theorem dX3_drawn_9 : decode cX3_drawn 9 = .ok (.ldc2_w 94, 3) := by decide +kernel
theorem dX3_drawn_12 : decode cX3_drawn 12 = .ok (.aload_n 0, 1) := by decide +kernel
theorem dX3_drawn_13 : decode cX3_drawn 13 = .ok (.getfield 18, 3) := by decide +kernel
theorem dX3_drawn_16 : decode cX3_drawn 16 = .ok (.i2l, 1) := by decide +kernel
theorem dX3_drawn_17 : decode cX3_drawn 17 = .ok (.lmul, 1) := by decide +kernel
theorem dX3_drawn_18 : decode cX3_drawn 18 = .ok (.ladd, 1) := by decide +kernel
theorem dX3_drawn_19 : decode cX3_drawn 19 = .ok (.ldc2_w 96, 3) := by decide +kernel
theorem dX3_drawn_22 : decode cX3_drawn 22 = .ok (.iload_n 1, 1) := by decide +kernel
theorem dX3_drawn_23 : decode cX3_drawn 23 = .ok (.i2l, 1) := by decide +kernel
theorem dX3_drawn_24 : decode cX3_drawn 24 = .ok (.lmul, 1) := by decide +kernel
theorem dX3_drawn_25 : decode cX3_drawn 25 = .ok (.ladd, 1) := by decide +kernel
theorem dX3_drawn_26 : decode cX3_drawn 26 = .ok (.lconst 1, 1) := by decide +kernel
theorem dX3_drawn_27 : decode cX3_drawn 27 = .ok (.ladd, 1) := by decide +kernel
theorem dX3_drawn_28 : decode cX3_drawn 28 = .ok (.lstore_n 3, 1) := by decide +kernel
theorem dX3_drawn_29 : decode cX3_drawn 29 = .ok (.lload_n 3, 1) := by decide +kernel
theorem dX3_drawn_30 : decode cX3_drawn 30 = .ok (.lload_n 3, 1) := by decide +kernel
theorem dX3_drawn_31 : decode cX3_drawn 31 = .ok (.lmul, 1) := by decide +kernel
theorem dX3_drawn_32 : decode cX3_drawn 32 = .ok (.ldc2_w 98, 3) := by decide +kernel
theorem dX3_drawn_35 : decode cX3_drawn 35 = .ok (.lrem, 1) := by decide +kernel
theorem dX3_drawn_36 : decode cX3_drawn 36 = .ok (.l2i, 1) := by decide +kernel
theorem dX3_drawn_37 : decode cX3_drawn 37 = .ok (.ireturn, 1) := by decide +kernel
theorem dX3_dropper_0 : decode cX3_dropper 0 = .ok (.iconst 0, 1) := by decide +kernel
theorem dX3_dropper_1 : decode cX3_dropper 1 = .ok (.istore_n 2, 1) := by decide +kernel
theorem dX3_dropper_2 : decode cX3_dropper 2 = .ok (.iload_n 2, 1) := by decide +kernel
theorem dX3_dropper_3 : decode cX3_dropper 3 = .ok (.aload_n 0, 1) := by decide +kernel
theorem dX3_dropper_4 : decode cX3_dropper 4 = .ok (.getfield 22, 3) := by decide +kernel
theorem dX3_dropper_7 : decode cX3_dropper 7 = .ok (.if_icmp .ge 21, 3) := by decide +kernel
theorem dX3_dropper_10 : decode cX3_dropper 10 = .ok (.aload_n 0, 1) := by decide +kernel
theorem dX3_dropper_11 : decode cX3_dropper 11 = .ok (.getfield 9, 3) := by decide +kernel
theorem dX3_dropper_14 : decode cX3_dropper 14 = .ok (.iload_n 2, 1) := by decide +kernel
theorem dX3_dropper_15 : decode cX3_dropper 15 = .ok (.iaload, 1) := by decide +kernel
theorem dX3_dropper_16 : decode cX3_dropper 16 = .ok (.iload_n 1, 1) := by decide +kernel
theorem dX3_dropper_17 : decode cX3_dropper 17 = .ok (.if_icmp .ge 5, 3) := by decide +kernel
theorem dX3_dropper_20 : decode cX3_dropper 20 = .ok (.iload_n 2, 1) := by decide +kernel
theorem dX3_dropper_21 : decode cX3_dropper 21 = .ok (.ireturn, 1) := by decide +kernel
theorem dX3_dropper_22 : decode cX3_dropper 22 = .ok (.iinc 2 1, 3) := by decide +kernel
theorem dX3_dropper_25 : decode cX3_dropper 25 = .ok (.goto (-23), 3) := by decide +kernel
theorem dX3_dropper_28 : decode cX3_dropper 28 = .ok (.bipush (-4), 2) := by decide +kernel
theorem dX3_dropper_30 : decode cX3_dropper 30 = .ok (.ireturn, 1) := by decide +kernel
theorem dX3_meeting_0 : decode cX3_meeting 0 = .ok (.aload_n 0, 1) := by decide +kernel
theorem dX3_meeting_1 : decode cX3_meeting 1 = .ok (.iload_n 1, 1) := by decide +kernel
theorem dX3_meeting_2 : decode cX3_meeting 2 = .ok (.invokevirtual 100, 3) := by decide +kernel
theorem dX3_meeting_5 : decode cX3_meeting 5 = .ok (.istore_n 2, 1) := by decide +kernel
theorem dX3_meeting_6 : decode cX3_meeting 6 = .ok (.iload_n 2, 1) := by decide +kernel
theorem dX3_meeting_7 : decode cX3_meeting 7 = .ok (.bipush (-4), 2) := by decide +kernel
theorem dX3_meeting_9 : decode cX3_meeting 9 = .ok (.if_icmp .ne 5, 3) := by decide +kernel
theorem dX3_meeting_12 : decode cX3_meeting 12 = .ok (.iconst 0, 1) := by decide +kernel
theorem dX3_meeting_13 : decode cX3_meeting 13 = .ok (.ireturn, 1) := by decide +kernel
theorem dX3_meeting_14 : decode cX3_meeting 14 = .ok (.aload_n 0, 1) := by decide +kernel
theorem dX3_meeting_15 : decode cX3_meeting 15 = .ok (.getfield 15, 3) := by decide +kernel
theorem dX3_meeting_18 : decode cX3_meeting 18 = .ok (.iload_n 2, 1) := by decide +kernel
theorem dX3_meeting_19 : decode cX3_meeting 19 = .ok (.iaload, 1) := by decide +kernel
theorem dX3_meeting_20 : decode cX3_meeting 20 = .ok (.tableswitch 59 0 2 #[28, 37, 53], 28) := by decide +kernel
theorem dX3_meeting_48 : decode cX3_meeting 48 = .ok (.iconst 2, 1) := by decide +kernel
theorem dX3_meeting_49 : decode cX3_meeting 49 = .ok (.aload_n 0, 1) := by decide +kernel
theorem dX3_meeting_50 : decode cX3_meeting 50 = .ok (.getfield 9, 3) := by decide +kernel
theorem dX3_meeting_53 : decode cX3_meeting 53 = .ok (.iload_n 2, 1) := by decide +kernel
theorem dX3_meeting_54 : decode cX3_meeting 54 = .ok (.iaload, 1) := by decide +kernel
theorem dX3_meeting_55 : decode cX3_meeting 55 = .ok (.iadd, 1) := by decide +kernel
theorem dX3_meeting_56 : decode cX3_meeting 56 = .ok (.ireturn, 1) := by decide +kernel
theorem dX3_meeting_57 : decode cX3_meeting 57 = .ok (.iconst 2, 1) := by decide +kernel
theorem dX3_meeting_58 : decode cX3_meeting 58 = .ok (.iconst 0, 1) := by decide +kernel
theorem dX3_meeting_59 : decode cX3_meeting 59 = .ok (.aload_n 0, 1) := by decide +kernel
theorem dX3_meeting_60 : decode cX3_meeting 60 = .ok (.getfield 9, 3) := by decide +kernel
theorem dX3_meeting_63 : decode cX3_meeting 63 = .ok (.iload_n 2, 1) := by decide +kernel
theorem dX3_meeting_64 : decode cX3_meeting 64 = .ok (.iaload, 1) := by decide +kernel
theorem dX3_meeting_65 : decode cX3_meeting 65 = .ok (.bipush 40, 2) := by decide +kernel
theorem dX3_meeting_67 : decode cX3_meeting 67 = .ok (.isub, 1) := by decide +kernel
theorem dX3_meeting_68 : decode cX3_meeting 68 = .ok (.invokestatic 86, 3) := by decide +kernel
theorem dX3_meeting_71 : decode cX3_meeting 71 = .ok (.iadd, 1) := by decide +kernel
theorem dX3_meeting_72 : decode cX3_meeting 72 = .ok (.ireturn, 1) := by decide +kernel
theorem dX3_meeting_73 : decode cX3_meeting 73 = .ok (.iconst 2, 1) := by decide +kernel
theorem dX3_meeting_74 : decode cX3_meeting 74 = .ok (.iload_n 1, 1) := by decide +kernel
theorem dX3_meeting_75 : decode cX3_meeting 75 = .ok (.iconst 2, 1) := by decide +kernel
theorem dX3_meeting_76 : decode cX3_meeting 76 = .ok (.idiv, 1) := by decide +kernel
theorem dX3_meeting_77 : decode cX3_meeting 77 = .ok (.iadd, 1) := by decide +kernel
theorem dX3_meeting_78 : decode cX3_meeting 78 = .ok (.ireturn, 1) := by decide +kernel
theorem dX3_meeting_79 : decode cX3_meeting 79 = .ok (.iconst 1, 1) := by decide +kernel
theorem dX3_meeting_80 : decode cX3_meeting 80 = .ok (.ireturn, 1) := by decide +kernel
theorem dX3_post_0 : decode cX3_post 0 = .ok (.aload_n 0, 1) := by decide +kernel
theorem dX3_post_1 : decode cX3_post 1 = .ok (.aload_n 0, 1) := by decide +kernel
theorem dX3_post_2 : decode cX3_post 2 = .ok (.getfield 61, 3) := by decide +kernel
theorem dX3_post_5 : decode cX3_post 5 = .ok (.aload_n 2, 1) := by decide +kernel
theorem dX3_post_6 : decode cX3_post 6 = .ok (.invokevirtual 104, 3) := by decide +kernel
theorem dX3_post_9 : decode cX3_post 9 = .ok (.bipush 100, 2) := by decide +kernel
theorem dX3_post_11 : decode cX3_post 11 = .ok (.irem, 1) := by decide +kernel
theorem dX3_post_12 : decode cX3_post 12 = .ok (.aload_n 0, 1) := by decide +kernel
theorem dX3_post_13 : decode cX3_post 13 = .ok (.getfield 25, 3) := by decide +kernel
theorem dX3_post_16 : decode cX3_post 16 = .ok (.if_icmp .ge 7, 3) := by decide +kernel
theorem dX3_post_19 : decode cX3_post 19 = .ok (.iconst 1, 1) := by decide +kernel
theorem dX3_post_20 : decode cX3_post 20 = .ok (.goto 4, 3) := by decide +kernel
theorem dX3_post_23 : decode cX3_post 23 = .ok (.iconst 0, 1) := by decide +kernel
theorem dX3_post_24 : decode cX3_post 24 = .ok (.istore_n 3, 1) := by decide +kernel
theorem dX3_post_25 : decode cX3_post 25 = .ok (.iload_n 3, 1) := by decide +kernel
theorem dX3_post_26 : decode cX3_post 26 = .ok (.ifCond .eq 7, 3) := by decide +kernel
theorem dX3_post_29 : decode cX3_post 29 = .ok (.iconst 1, 1) := by decide +kernel
theorem dX3_post_30 : decode cX3_post 30 = .ok (.goto 8, 3) := by decide +kernel
theorem dX3_post_33 : decode cX3_post 33 = .ok (.aload_n 0, 1) := by decide +kernel
theorem dX3_post_34 : decode cX3_post 34 = .ok (.iload_n 1, 1) := by decide +kernel
theorem dX3_post_35 : decode cX3_post 35 = .ok (.invokevirtual 108, 3) := by decide +kernel
theorem dX3_post_38 : decode cX3_post 38 = .ok (.istore 4, 2) := by decide +kernel
theorem dX3_post_40 : decode cX3_post 40 = .ok (.aload_n 0, 1) := by decide +kernel
theorem dX3_post_41 : decode cX3_post 41 = .ok (.dup, 1) := by decide +kernel
theorem dX3_post_42 : decode cX3_post 42 = .ok (.getfield 61, 3) := by decide +kernel
theorem dX3_post_45 : decode cX3_post 45 = .ok (.iconst 1, 1) := by decide +kernel
theorem dX3_post_46 : decode cX3_post 46 = .ok (.iadd, 1) := by decide +kernel
theorem dX3_post_47 : decode cX3_post 47 = .ok (.putfield 61, 3) := by decide +kernel
theorem dX3_post_50 : decode cX3_post 50 = .ok (.aload_n 0, 1) := by decide +kernel
theorem dX3_post_51 : decode cX3_post 51 = .ok (.iload 4, 2) := by decide +kernel
theorem dX3_post_53 : decode cX3_post 53 = .ok (.iload_n 1, 1) := by decide +kernel
theorem dX3_post_54 : decode cX3_post 54 = .ok (.aload_n 2, 1) := by decide +kernel
theorem dX3_post_55 : decode cX3_post 55 = .ok (.invokevirtual 111, 3) := by decide +kernel
theorem dX3_post_58 : decode cX3_post 58 = .ok (.ifCond .eq 16, 3) := by decide +kernel
theorem dX3_post_61 : decode cX3_post 61 = .ok (.aload_n 0, 1) := by decide +kernel
theorem dX3_post_62 : decode cX3_post 62 = .ok (.dup, 1) := by decide +kernel
theorem dX3_post_63 : decode cX3_post 63 = .ok (.getfield 64, 3) := by decide +kernel
theorem dX3_post_66 : decode cX3_post 66 = .ok (.iconst 1, 1) := by decide +kernel
theorem dX3_post_67 : decode cX3_post 67 = .ok (.iadd, 1) := by decide +kernel
theorem dX3_post_68 : decode cX3_post 68 = .ok (.putfield 64, 3) := by decide +kernel
theorem dX3_post_71 : decode cX3_post 71 = .ok (.goto 19, 3) := by decide +kernel
theorem dX3_post_74 : decode cX3_post 74 = .ok (.iload 4, 2) := by decide +kernel
theorem dX3_post_76 : decode cX3_post 76 = .ok (.iconst 2, 1) := by decide +kernel
theorem dX3_post_77 : decode cX3_post 77 = .ok (.if_icmp .lt 13, 3) := by decide +kernel
theorem dX3_post_80 : decode cX3_post 80 = .ok (.aload_n 0, 1) := by decide +kernel
theorem dX3_post_81 : decode cX3_post 81 = .ok (.dup, 1) := by decide +kernel
theorem dX3_post_82 : decode cX3_post 82 = .ok (.getfield 67, 3) := by decide +kernel
theorem dX3_post_85 : decode cX3_post 85 = .ok (.iconst 1, 1) := by decide +kernel
theorem dX3_post_86 : decode cX3_post 86 = .ok (.iadd, 1) := by decide +kernel
theorem dX3_post_87 : decode cX3_post 87 = .ok (.putfield 67, 3) := by decide +kernel
theorem dX3_post_90 : decode cX3_post 90 = .ok (.iload 4, 2) := by decide +kernel
theorem dX3_post_92 : decode cX3_post 92 = .ok (.ireturn, 1) := by decide +kernel
theorem dX3_isLost_0 : decode cX3_isLost 0 = .ok (.iload_n 1, 1) := by decide +kernel
theorem dX3_isLost_1 : decode cX3_isLost 1 = .ok (.iconst 1, 1) := by decide +kernel
theorem dX3_isLost_2 : decode cX3_isLost 2 = .ok (.if_icmp .eq 19, 3) := by decide +kernel
theorem dX3_isLost_5 : decode cX3_isLost 5 = .ok (.iload_n 1, 1) := by decide +kernel
theorem dX3_isLost_6 : decode cX3_isLost 6 = .ok (.iconst 2, 1) := by decide +kernel
theorem dX3_isLost_7 : decode cX3_isLost 7 = .ok (.if_icmp .lt 18, 3) := by decide +kernel
theorem dX3_isLost_10 : decode cX3_isLost 10 = .ok (.aload_n 3, 1) := by decide +kernel
theorem dX3_isLost_11 : decode cX3_isLost 11 = .ok (.iload_n 1, 1) := by decide +kernel
theorem dX3_isLost_12 : decode cX3_isLost 12 = .ok (.iconst 2, 1) := by decide +kernel
theorem dX3_isLost_13 : decode cX3_isLost 13 = .ok (.isub, 1) := by decide +kernel
theorem dX3_isLost_14 : decode cX3_isLost 14 = .ok (.iload_n 2, 1) := by decide +kernel
theorem dX3_isLost_15 : decode cX3_isLost 15 = .ok (.invokevirtual 115, 3) := by decide +kernel
theorem dX3_isLost_18 : decode cX3_isLost 18 = .ok (.ifCond .ne 7, 3) := by decide +kernel
theorem dX3_isLost_21 : decode cX3_isLost 21 = .ok (.iconst 1, 1) := by decide +kernel
theorem dX3_isLost_22 : decode cX3_isLost 22 = .ok (.goto 4, 3) := by decide +kernel
theorem dX3_isLost_25 : decode cX3_isLost 25 = .ok (.iconst 0, 1) := by decide +kernel
theorem dX3_isLost_26 : decode cX3_isLost 26 = .ok (.ireturn, 1) := by decide +kernel
theorem dX3_goOn_0 : decode cX3_goOn 0 = .ok (.iconst 0, 1) := by decide +kernel
theorem dX3_goOn_1 : decode cX3_goOn 1 = .ok (.istore_n 3, 1) := by decide +kernel
theorem dX3_goOn_2 : decode cX3_goOn 2 = .ok (.iload_n 3, 1) := by decide +kernel
theorem dX3_goOn_3 : decode cX3_goOn 3 = .ok (.iload_n 1, 1) := by decide +kernel
theorem dX3_goOn_4 : decode cX3_goOn 4 = .ok (.if_icmp .ge 14, 3) := by decide +kernel
theorem dX3_goOn_7 : decode cX3_goOn 7 = .ok (.aload_n 0, 1) := by decide +kernel
theorem dX3_goOn_8 : decode cX3_goOn 8 = .ok (.aload_n 2, 1) := by decide +kernel
theorem dX3_goOn_9 : decode cX3_goOn 9 = .ok (.invokevirtual 119, 3) := by decide +kernel
theorem dX3_goOn_12 : decode cX3_goOn 12 = .ok (.iinc 3 1, 3) := by decide +kernel
theorem dX3_goOn_15 : decode cX3_goOn 15 = .ok (.goto (-13), 3) := by decide +kernel
theorem dX3_goOn_18 : decode cX3_goOn 18 = .ok (.return_, 1) := by decide +kernel
theorem dX3_step_0 : decode cX3_step 0 = .ok (.aload_n 0, 1) := by decide +kernel
theorem dX3_step_1 : decode cX3_step 1 = .ok (.getfield 46, 3) := by decide +kernel
theorem dX3_step_4 : decode cX3_step 4 = .ok (.iconst 1, 1) := by decide +kernel
theorem dX3_step_5 : decode cX3_step 5 = .ok (.if_icmp .ne 7, 3) := by decide +kernel
theorem dX3_step_8 : decode cX3_step 8 = .ok (.iconst 1, 1) := by decide +kernel
theorem dX3_step_9 : decode cX3_step 9 = .ok (.goto 4, 3) := by decide +kernel
theorem dX3_step_12 : decode cX3_step 12 = .ok (.iconst 0, 1) := by decide +kernel
theorem dX3_step_13 : decode cX3_step 13 = .ok (.istore_n 2, 1) := by decide +kernel
theorem dX3_step_14 : decode cX3_step 14 = .ok (.aload_n 0, 1) := by decide +kernel
theorem dX3_step_15 : decode cX3_step 15 = .ok (.getfield 33, 3) := by decide +kernel
theorem dX3_step_18 : decode cX3_step 18 = .ok (.istore_n 3, 1) := by decide +kernel
theorem dX3_step_19 : decode cX3_step 19 = .ok (.aload_n 0, 1) := by decide +kernel
theorem dX3_step_20 : decode cX3_step 20 = .ok (.getfield 39, 3) := by decide +kernel
theorem dX3_step_23 : decode cX3_step 23 = .ok (.istore 4, 2) := by decide +kernel
theorem dX3_step_25 : decode cX3_step 25 = .ok (.aload_n 0, 1) := by decide +kernel
theorem dX3_step_26 : decode cX3_step 26 = .ok (.aload_n 1, 1) := by decide +kernel
theorem dX3_step_27 : decode cX3_step 27 = .ok (.invokevirtual 123, 3) := by decide +kernel
theorem dX3_step_30 : decode cX3_step 30 = .ok (.aload_n 0, 1) := by decide +kernel
theorem dX3_step_31 : decode cX3_step 31 = .ok (.getfield 33, 3) := by decide +kernel
theorem dX3_step_34 : decode cX3_step 34 = .ok (.iload_n 3, 1) := by decide +kernel
theorem dX3_step_35 : decode cX3_step 35 = .ok (.if_icmp .ne 12, 3) := by decide +kernel
theorem dX3_step_38 : decode cX3_step 38 = .ok (.aload_n 0, 1) := by decide +kernel
theorem dX3_step_39 : decode cX3_step 39 = .ok (.getfield 39, 3) := by decide +kernel
theorem dX3_step_42 : decode cX3_step 42 = .ok (.iload 4, 2) := by decide +kernel
theorem dX3_step_44 : decode cX3_step 44 = .ok (.if_icmp .eq 7, 3) := by decide +kernel
theorem dX3_step_47 : decode cX3_step 47 = .ok (.iconst 1, 1) := by decide +kernel
theorem dX3_step_48 : decode cX3_step 48 = .ok (.goto 4, 3) := by decide +kernel
theorem dX3_step_51 : decode cX3_step 51 = .ok (.iconst 0, 1) := by decide +kernel
theorem dX3_step_52 : decode cX3_step 52 = .ok (.istore 5, 2) := by decide +kernel
theorem dX3_step_54 : decode cX3_step 54 = .ok (.iload 5, 2) := by decide +kernel
theorem dX3_step_56 : decode cX3_step 56 = .ok (.ifCond .eq 8, 3) := by decide +kernel
theorem dX3_step_59 : decode cX3_step 59 = .ok (.aload_n 0, 1) := by decide +kernel
theorem dX3_step_60 : decode cX3_step 60 = .ok (.iconst 0, 1) := by decide +kernel
theorem dX3_step_61 : decode cX3_step 61 = .ok (.putfield 49, 3) := by decide +kernel
theorem dX3_step_64 : decode cX3_step 64 = .ok (.aload_n 0, 1) := by decide +kernel
theorem dX3_step_65 : decode cX3_step 65 = .ok (.getfield 33, 3) := by decide +kernel
theorem dX3_step_68 : decode cX3_step 68 = .ok (.aload_n 0, 1) := by decide +kernel
theorem dX3_step_69 : decode cX3_step 69 = .ok (.getfield 39, 3) := by decide +kernel
theorem dX3_step_72 : decode cX3_step 72 = .ok (.if_icmp .ge 20, 3) := by decide +kernel
theorem dX3_step_75 : decode cX3_step 75 = .ok (.iload 5, 2) := by decide +kernel
theorem dX3_step_77 : decode cX3_step 77 = .ok (.ifCond .ne 7, 3) := by decide +kernel
theorem dX3_step_80 : decode cX3_step 80 = .ok (.iload_n 2, 1) := by decide +kernel
theorem dX3_step_81 : decode cX3_step 81 = .ok (.ifCond .ne 11, 3) := by decide +kernel
theorem dX3_step_84 : decode cX3_step 84 = .ok (.aload_n 0, 1) := by decide +kernel
theorem dX3_step_85 : decode cX3_step 85 = .ok (.aload_n 1, 1) := by decide +kernel
theorem dX3_step_86 : decode cX3_step 86 = .ok (.invokevirtual 126, 3) := by decide +kernel
theorem dX3_step_89 : decode cX3_step 89 = .ok (.goto 12, 3) := by decide +kernel
theorem dX3_step_92 : decode cX3_step 92 = .ok (.iload_n 2, 1) := by decide +kernel
theorem dX3_step_93 : decode cX3_step 93 = .ok (.ifCond .eq 8, 3) := by decide +kernel
theorem dX3_step_96 : decode cX3_step 96 = .ok (.aload_n 0, 1) := by decide +kernel
theorem dX3_step_97 : decode cX3_step 97 = .ok (.aload_n 1, 1) := by decide +kernel
theorem dX3_step_98 : decode cX3_step 98 = .ok (.invokevirtual 129, 3) := by decide +kernel
theorem dX3_step_101 : decode cX3_step 101 = .ok (.aload_n 0, 1) := by decide +kernel
theorem dX3_step_102 : decode cX3_step 102 = .ok (.aload_n 0, 1) := by decide +kernel
theorem dX3_step_103 : decode cX3_step 103 = .ok (.invokevirtual 42, 3) := by decide +kernel
theorem dX3_step_106 : decode cX3_step 106 = .ok (.ifCond .eq 7, 3) := by decide +kernel
theorem dX3_step_109 : decode cX3_step 109 = .ok (.iconst 1, 1) := by decide +kernel
theorem dX3_step_110 : decode cX3_step 110 = .ok (.goto 4, 3) := by decide +kernel
theorem dX3_step_113 : decode cX3_step 113 = .ok (.iconst 0, 1) := by decide +kernel
theorem dX3_step_114 : decode cX3_step 114 = .ok (.putfield 46, 3) := by decide +kernel
theorem dX3_step_117 : decode cX3_step 117 = .ok (.aload_n 0, 1) := by decide +kernel
theorem dX3_step_118 : decode cX3_step 118 = .ok (.getfield 46, 3) := by decide +kernel
theorem dX3_step_121 : decode cX3_step 121 = .ok (.ifCond .ne 8, 3) := by decide +kernel
theorem dX3_step_124 : decode cX3_step 124 = .ok (.aload_n 0, 1) := by decide +kernel
theorem dX3_step_125 : decode cX3_step 125 = .ok (.iconst 0, 1) := by decide +kernel
theorem dX3_step_126 : decode cX3_step 126 = .ok (.putfield 55, 3) := by decide +kernel
theorem dX3_step_129 : decode cX3_step 129 = .ok (.return_, 1) := by decide +kernel
theorem dX3_checkLow_0 : decode cX3_checkLow 0 = .ok (.aload_n 0, 1) := by decide +kernel
theorem dX3_checkLow_1 : decode cX3_checkLow 1 = .ok (.getfield 33, 3) := by decide +kernel
theorem dX3_checkLow_4 : decode cX3_checkLow 4 = .ok (.istore_n 2, 1) := by decide +kernel
theorem dX3_checkLow_5 : decode cX3_checkLow 5 = .ok (.aload_n 0, 1) := by decide +kernel
theorem dX3_checkLow_6 : decode cX3_checkLow 6 = .ok (.iload_n 2, 1) := by decide +kernel
theorem dX3_checkLow_7 : decode cX3_checkLow 7 = .ok (.aload_n 1, 1) := by decide +kernel
theorem dX3_checkLow_8 : decode cX3_checkLow 8 = .ok (.invokevirtual 132, 3) := by decide +kernel
theorem dX3_checkLow_11 : decode cX3_checkLow 11 = .ok (.istore_n 3, 1) := by decide +kernel
theorem dX3_checkLow_12 : decode cX3_checkLow 12 = .ok (.aload_n 0, 1) := by decide +kernel
theorem dX3_checkLow_13 : decode cX3_checkLow 13 = .ok (.iload_n 3, 1) := by decide +kernel
theorem dX3_checkLow_14 : decode cX3_checkLow 14 = .ok (.iload_n 2, 1) := by decide +kernel
theorem dX3_checkLow_15 : decode cX3_checkLow 15 = .ok (.aload_n 1, 1) := by decide +kernel
theorem dX3_checkLow_16 : decode cX3_checkLow 16 = .ok (.invokevirtual 111, 3) := by decide +kernel
theorem dX3_checkLow_19 : decode cX3_checkLow 19 = .ok (.ifCond .eq 9, 3) := by decide +kernel
theorem dX3_checkLow_22 : decode cX3_checkLow 22 = .ok (.aload_n 0, 1) := by decide +kernel
theorem dX3_checkLow_23 : decode cX3_checkLow 23 = .ok (.aload_n 1, 1) := by decide +kernel
theorem dX3_checkLow_24 : decode cX3_checkLow 24 = .ok (.invokevirtual 135, 3) := by decide +kernel
theorem dX3_checkLow_27 : decode cX3_checkLow 27 = .ok (.return_, 1) := by decide +kernel
theorem dX3_checkLow_28 : decode cX3_checkLow 28 = .ok (.aload_n 0, 1) := by decide +kernel
theorem dX3_checkLow_29 : decode cX3_checkLow 29 = .ok (.iconst 0, 1) := by decide +kernel
theorem dX3_checkLow_30 : decode cX3_checkLow 30 = .ok (.putfield 52, 3) := by decide +kernel
theorem dX3_checkLow_33 : decode cX3_checkLow 33 = .ok (.iload_n 3, 1) := by decide +kernel
theorem dX3_checkLow_34 : decode cX3_checkLow 34 = .ok (.iconst 2, 1) := by decide +kernel
theorem dX3_checkLow_35 : decode cX3_checkLow 35 = .ok (.if_icmp .lt 36, 3) := by decide +kernel
theorem dX3_checkLow_38 : decode cX3_checkLow 38 = .ok (.iload_n 3, 1) := by decide +kernel
theorem dX3_checkLow_39 : decode cX3_checkLow 39 = .ok (.iconst 2, 1) := by decide +kernel
theorem dX3_checkLow_40 : decode cX3_checkLow 40 = .ok (.isub, 1) := by decide +kernel
theorem dX3_checkLow_41 : decode cX3_checkLow 41 = .ok (.istore 4, 2) := by decide +kernel
theorem dX3_checkLow_43 : decode cX3_checkLow 43 = .ok (.iload 4, 2) := by decide +kernel
theorem dX3_checkLow_45 : decode cX3_checkLow 45 = .ok (.aload_n 0, 1) := by decide +kernel
theorem dX3_checkLow_46 : decode cX3_checkLow 46 = .ok (.getfield 33, 3) := by decide +kernel
theorem dX3_checkLow_49 : decode cX3_checkLow 49 = .ok (.if_icmp .ge 16, 3) := by decide +kernel
theorem dX3_checkLow_52 : decode cX3_checkLow 52 = .ok (.aload_n 0, 1) := by decide +kernel
theorem dX3_checkLow_53 : decode cX3_checkLow 53 = .ok (.iload 4, 2) := by decide +kernel
theorem dX3_checkLow_55 : decode cX3_checkLow 55 = .ok (.aload_n 1, 1) := by decide +kernel
theorem dX3_checkLow_56 : decode cX3_checkLow 56 = .ok (.getfield 28, 3) := by decide +kernel
theorem dX3_checkLow_59 : decode cX3_checkLow 59 = .ok (.invokestatic 86, 3) := by decide +kernel
theorem dX3_checkLow_62 : decode cX3_checkLow 62 = .ok (.putfield 33, 3) := by decide +kernel
theorem dX3_checkLow_65 : decode cX3_checkLow 65 = .ok (.aload_n 0, 1) := by decide +kernel
theorem dX3_checkLow_66 : decode cX3_checkLow 66 = .ok (.iload 4, 2) := by decide +kernel
theorem dX3_checkLow_68 : decode cX3_checkLow 68 = .ok (.invokevirtual 138, 3) := by decide +kernel
theorem dX3_checkLow_71 : decode cX3_checkLow 71 = .ok (.return_, 1) := by decide +kernel
theorem dX3_miss_0 : decode cX3_miss 0 = .ok (.aload_n 0, 1) := by decide +kernel
theorem dX3_miss_1 : decode cX3_miss 1 = .ok (.dup, 1) := by decide +kernel
theorem dX3_miss_2 : decode cX3_miss 2 = .ok (.getfield 52, 3) := by decide +kernel
theorem dX3_miss_5 : decode cX3_miss 5 = .ok (.iconst 1, 1) := by decide +kernel
theorem dX3_miss_6 : decode cX3_miss 6 = .ok (.iadd, 1) := by decide +kernel
theorem dX3_miss_7 : decode cX3_miss 7 = .ok (.putfield 52, 3) := by decide +kernel
theorem dX3_miss_10 : decode cX3_miss 10 = .ok (.aload_n 0, 1) := by decide +kernel
theorem dX3_miss_11 : decode cX3_miss 11 = .ok (.getfield 52, 3) := by decide +kernel
theorem dX3_miss_14 : decode cX3_miss 14 = .ok (.iconst 3, 1) := by decide +kernel
theorem dX3_miss_15 : decode cX3_miss 15 = .ok (.if_icmp .ge 4, 3) := by decide +kernel
theorem dX3_miss_18 : decode cX3_miss 18 = .ok (.return_, 1) := by decide +kernel
theorem dX3_miss_19 : decode cX3_miss 19 = .ok (.aload_n 0, 1) := by decide +kernel
theorem dX3_miss_20 : decode cX3_miss 20 = .ok (.iconst 0, 1) := by decide +kernel
theorem dX3_miss_21 : decode cX3_miss 21 = .ok (.putfield 52, 3) := by decide +kernel
theorem dX3_miss_24 : decode cX3_miss 24 = .ok (.aload_n 0, 1) := by decide +kernel
theorem dX3_miss_25 : decode cX3_miss 25 = .ok (.getfield 33, 3) := by decide +kernel
theorem dX3_miss_28 : decode cX3_miss 28 = .ok (.aload_n 1, 1) := by decide +kernel
theorem dX3_miss_29 : decode cX3_miss 29 = .ok (.getfield 28, 3) := by decide +kernel
theorem dX3_miss_32 : decode cX3_miss 32 = .ok (.if_icmp .le 31, 3) := by decide +kernel
theorem dX3_miss_35 : decode cX3_miss 35 = .ok (.aload_n 0, 1) := by decide +kernel
theorem dX3_miss_36 : decode cX3_miss 36 = .ok (.dup, 1) := by decide +kernel
theorem dX3_miss_37 : decode cX3_miss 37 = .ok (.getfield 58, 3) := by decide +kernel
theorem dX3_miss_40 : decode cX3_miss 40 = .ok (.iconst 1, 1) := by decide +kernel
theorem dX3_miss_41 : decode cX3_miss 41 = .ok (.iadd, 1) := by decide +kernel
theorem dX3_miss_42 : decode cX3_miss 42 = .ok (.putfield 58, 3) := by decide +kernel
theorem dX3_miss_45 : decode cX3_miss 45 = .ok (.aload_n 0, 1) := by decide +kernel
theorem dX3_miss_46 : decode cX3_miss 46 = .ok (.aload_n 0, 1) := by decide +kernel
theorem dX3_miss_47 : decode cX3_miss 47 = .ok (.getfield 33, 3) := by decide +kernel
theorem dX3_miss_50 : decode cX3_miss 50 = .ok (.iconst 1, 1) := by decide +kernel
theorem dX3_miss_51 : decode cX3_miss 51 = .ok (.isub, 1) := by decide +kernel
theorem dX3_miss_52 : decode cX3_miss 52 = .ok (.putfield 39, 3) := by decide +kernel
theorem dX3_miss_55 : decode cX3_miss 55 = .ok (.aload_n 0, 1) := by decide +kernel
theorem dX3_miss_56 : decode cX3_miss 56 = .ok (.aload_n 1, 1) := by decide +kernel
theorem dX3_miss_57 : decode cX3_miss 57 = .ok (.getfield 28, 3) := by decide +kernel
theorem dX3_miss_60 : decode cX3_miss 60 = .ok (.putfield 33, 3) := by decide +kernel
theorem dX3_miss_63 : decode cX3_miss 63 = .ok (.return_, 1) := by decide +kernel
theorem dX3_search_0 : decode cX3_search 0 = .ok (.aload_n 0, 1) := by decide +kernel
theorem dX3_search_1 : decode cX3_search 1 = .ok (.invokevirtual 142, 3) := by decide +kernel
theorem dX3_search_4 : decode cX3_search 4 = .ok (.istore_n 2, 1) := by decide +kernel
theorem dX3_search_5 : decode cX3_search 5 = .ok (.aload_n 0, 1) := by decide +kernel
theorem dX3_search_6 : decode cX3_search 6 = .ok (.iload_n 2, 1) := by decide +kernel
theorem dX3_search_7 : decode cX3_search 7 = .ok (.aload_n 1, 1) := by decide +kernel
theorem dX3_search_8 : decode cX3_search 8 = .ok (.invokevirtual 132, 3) := by decide +kernel
theorem dX3_search_11 : decode cX3_search 11 = .ok (.istore_n 3, 1) := by decide +kernel
theorem dX3_search_12 : decode cX3_search 12 = .ok (.aload_n 0, 1) := by decide +kernel
theorem dX3_search_13 : decode cX3_search 13 = .ok (.iload_n 3, 1) := by decide +kernel
theorem dX3_search_14 : decode cX3_search 14 = .ok (.iload_n 2, 1) := by decide +kernel
theorem dX3_search_15 : decode cX3_search 15 = .ok (.aload_n 1, 1) := by decide +kernel
theorem dX3_search_16 : decode cX3_search 16 = .ok (.invokevirtual 111, 3) := by decide +kernel
theorem dX3_search_19 : decode cX3_search 19 = .ok (.ifCond .eq 34, 3) := by decide +kernel
theorem dX3_search_22 : decode cX3_search 22 = .ok (.aload_n 0, 1) := by decide +kernel
theorem dX3_search_23 : decode cX3_search 23 = .ok (.dup, 1) := by decide +kernel
theorem dX3_search_24 : decode cX3_search 24 = .ok (.getfield 49, 3) := by decide +kernel
theorem dX3_search_27 : decode cX3_search 27 = .ok (.iconst 1, 1) := by decide +kernel
theorem dX3_search_28 : decode cX3_search 28 = .ok (.iadd, 1) := by decide +kernel
theorem dX3_search_29 : decode cX3_search 29 = .ok (.putfield 49, 3) := by decide +kernel
theorem dX3_search_32 : decode cX3_search 32 = .ok (.aload_n 0, 1) := by decide +kernel
theorem dX3_search_33 : decode cX3_search 33 = .ok (.getfield 49, 3) := by decide +kernel
theorem dX3_search_36 : decode cX3_search 36 = .ok (.iconst 3, 1) := by decide +kernel
theorem dX3_search_37 : decode cX3_search 37 = .ok (.if_icmp .lt 15, 3) := by decide +kernel
theorem dX3_search_40 : decode cX3_search 40 = .ok (.aload_n 0, 1) := by decide +kernel
theorem dX3_search_41 : decode cX3_search 41 = .ok (.iload_n 2, 1) := by decide +kernel
theorem dX3_search_42 : decode cX3_search 42 = .ok (.iconst 1, 1) := by decide +kernel
theorem dX3_search_43 : decode cX3_search 43 = .ok (.isub, 1) := by decide +kernel
theorem dX3_search_44 : decode cX3_search 44 = .ok (.putfield 39, 3) := by decide +kernel
theorem dX3_search_47 : decode cX3_search 47 = .ok (.aload_n 0, 1) := by decide +kernel
theorem dX3_search_48 : decode cX3_search 48 = .ok (.iconst 0, 1) := by decide +kernel
theorem dX3_search_49 : decode cX3_search 49 = .ok (.putfield 49, 3) := by decide +kernel
theorem dX3_search_52 : decode cX3_search 52 = .ok (.return_, 1) := by decide +kernel
theorem dX3_search_53 : decode cX3_search 53 = .ok (.aload_n 0, 1) := by decide +kernel
theorem dX3_search_54 : decode cX3_search 54 = .ok (.iconst 0, 1) := by decide +kernel
theorem dX3_search_55 : decode cX3_search 55 = .ok (.putfield 49, 3) := by decide +kernel
theorem dX3_search_58 : decode cX3_search 58 = .ok (.iload_n 3, 1) := by decide +kernel
theorem dX3_search_59 : decode cX3_search 59 = .ok (.iconst 2, 1) := by decide +kernel
theorem dX3_search_60 : decode cX3_search 60 = .ok (.if_icmp .lt 13, 3) := by decide +kernel
theorem dX3_search_63 : decode cX3_search 63 = .ok (.aload_n 0, 1) := by decide +kernel
theorem dX3_search_64 : decode cX3_search 64 = .ok (.iload_n 3, 1) := by decide +kernel
theorem dX3_search_65 : decode cX3_search 65 = .ok (.iconst 2, 1) := by decide +kernel
theorem dX3_search_66 : decode cX3_search 66 = .ok (.isub, 1) := by decide +kernel
theorem dX3_search_67 : decode cX3_search 67 = .ok (.invokevirtual 138, 3) := by decide +kernel
theorem dX3_search_70 : decode cX3_search 70 = .ok (.goto 8, 3) := by decide +kernel
theorem dX3_search_73 : decode cX3_search 73 = .ok (.aload_n 0, 1) := by decide +kernel
theorem dX3_search_74 : decode cX3_search 74 = .ok (.iload_n 2, 1) := by decide +kernel
theorem dX3_search_75 : decode cX3_search 75 = .ok (.putfield 33, 3) := by decide +kernel
theorem dX3_search_78 : decode cX3_search 78 = .ok (.return_, 1) := by decide +kernel
theorem dX3_lowerHigh_0 : decode cX3_lowerHigh 0 = .ok (.iload_n 1, 1) := by decide +kernel
theorem dX3_lowerHigh_1 : decode cX3_lowerHigh 1 = .ok (.aload_n 0, 1) := by decide +kernel
theorem dX3_lowerHigh_2 : decode cX3_lowerHigh 2 = .ok (.getfield 39, 3) := by decide +kernel
theorem dX3_lowerHigh_5 : decode cX3_lowerHigh 5 = .ok (.if_icmp .ge 15, 3) := by decide +kernel
theorem dX3_lowerHigh_8 : decode cX3_lowerHigh 8 = .ok (.aload_n 0, 1) := by decide +kernel
theorem dX3_lowerHigh_9 : decode cX3_lowerHigh 9 = .ok (.iload_n 1, 1) := by decide +kernel
theorem dX3_lowerHigh_10 : decode cX3_lowerHigh 10 = .ok (.aload_n 0, 1) := by decide +kernel
theorem dX3_lowerHigh_11 : decode cX3_lowerHigh 11 = .ok (.getfield 33, 3) := by decide +kernel
theorem dX3_lowerHigh_14 : decode cX3_lowerHigh 14 = .ok (.invokestatic 86, 3) := by decide +kernel
theorem dX3_lowerHigh_17 : decode cX3_lowerHigh 17 = .ok (.putfield 39, 3) := by decide +kernel
theorem dX3_lowerHigh_20 : decode cX3_lowerHigh 20 = .ok (.return_, 1) := by decide +kernel
theorem dX3_growOlder_0 : decode cX3_growOlder 0 = .ok (.aload_n 0, 1) := by decide +kernel
theorem dX3_growOlder_1 : decode cX3_growOlder 1 = .ok (.dup, 1) := by decide +kernel
theorem dX3_growOlder_2 : decode cX3_growOlder 2 = .ok (.getfield 55, 3) := by decide +kernel
theorem dX3_growOlder_5 : decode cX3_growOlder 5 = .ok (.iconst 1, 1) := by decide +kernel
theorem dX3_growOlder_6 : decode cX3_growOlder 6 = .ok (.iadd, 1) := by decide +kernel
theorem dX3_growOlder_7 : decode cX3_growOlder 7 = .ok (.putfield 55, 3) := by decide +kernel
theorem dX3_growOlder_10 : decode cX3_growOlder 10 = .ok (.aload_n 0, 1) := by decide +kernel
theorem dX3_growOlder_11 : decode cX3_growOlder 11 = .ok (.getfield 55, 3) := by decide +kernel
theorem dX3_growOlder_14 : decode cX3_growOlder 14 = .ok (.aload_n 1, 1) := by decide +kernel
theorem dX3_growOlder_15 : decode cX3_growOlder 15 = .ok (.getfield 145, 3) := by decide +kernel
theorem dX3_growOlder_18 : decode cX3_growOlder 18 = .ok (.if_icmp .lt 16, 3) := by decide +kernel
theorem dX3_growOlder_21 : decode cX3_growOlder 21 = .ok (.aload_n 0, 1) := by decide +kernel
theorem dX3_growOlder_22 : decode cX3_growOlder 22 = .ok (.iconst 0, 1) := by decide +kernel
theorem dX3_growOlder_23 : decode cX3_growOlder 23 = .ok (.putfield 55, 3) := by decide +kernel
theorem dX3_growOlder_26 : decode cX3_growOlder 26 = .ok (.aload_n 0, 1) := by decide +kernel
theorem dX3_growOlder_27 : decode cX3_growOlder 27 = .ok (.aload_n 1, 1) := by decide +kernel
theorem dX3_growOlder_28 : decode cX3_growOlder 28 = .ok (.getfield 36, 3) := by decide +kernel
theorem dX3_growOlder_31 : decode cX3_growOlder 31 = .ok (.putfield 39, 3) := by decide +kernel
theorem dX3_growOlder_34 : decode cX3_growOlder 34 = .ok (.return_, 1) := by decide +kernel
theorem dX4_init_0 : decode cX4_init 0 = .ok (.aload_n 0, 1) := by decide +kernel
theorem dX4_init_1 : decode cX4_init 1 = .ok (.invokespecial 1, 3) := by decide +kernel
theorem dX4_init_4 : decode cX4_init 4 = .ok (.aload_n 0, 1) := by decide +kernel
theorem dX4_init_5 : decode cX4_init 5 = .ok (.new 7, 3) := by decide +kernel
theorem dX4_init_8 : decode cX4_init 8 = .ok (.dup, 1) := by decide +kernel
theorem dX4_init_9 : decode cX4_init 9 = .ok (.invokespecial 9, 3) := by decide +kernel
theorem dX4_init_12 : decode cX4_init 12 = .ok (.putfield 10, 3) := by decide +kernel
theorem dX4_init_15 : decode cX4_init 15 = .ok (.aload_n 0, 1) := by decide +kernel
theorem dX4_init_16 : decode cX4_init 16 = .ok (.new 16, 3) := by decide +kernel
theorem dX4_init_19 : decode cX4_init 19 = .ok (.dup, 1) := by decide +kernel
theorem dX4_init_20 : decode cX4_init 20 = .ok (.invokespecial 18, 3) := by decide +kernel
theorem dX4_init_23 : decode cX4_init 23 = .ok (.putfield 19, 3) := by decide +kernel
theorem dX4_init_26 : decode cX4_init 26 = .ok (.aload_n 0, 1) := by decide +kernel
theorem dX4_init_27 : decode cX4_init 27 = .ok (.new 16, 3) := by decide +kernel
theorem dX4_init_30 : decode cX4_init 30 = .ok (.dup, 1) := by decide +kernel
theorem dX4_init_31 : decode cX4_init 31 = .ok (.invokespecial 18, 3) := by decide +kernel
theorem dX4_init_34 : decode cX4_init 34 = .ok (.putfield 23, 3) := by decide +kernel
theorem dX4_init_37 : decode cX4_init 37 = .ok (.aload_n 0, 1) := by decide +kernel
theorem dX4_init_38 : decode cX4_init 38 = .ok (.iconst 4, 1) := by decide +kernel
theorem dX4_init_39 : decode cX4_init 39 = .ok (.anewarray 16, 3) := by decide +kernel
theorem dX4_init_42 : decode cX4_init 42 = .ok (.putfield 26, 3) := by decide +kernel
theorem dX4_init_45 : decode cX4_init 45 = .ok (.aload_n 0, 1) := by decide +kernel
theorem dX4_init_46 : decode cX4_init 46 = .ok (.new 30, 3) := by decide +kernel
theorem dX4_init_49 : decode cX4_init 49 = .ok (.dup, 1) := by decide +kernel
theorem dX4_init_50 : decode cX4_init 50 = .ok (.invokespecial 32, 3) := by decide +kernel
theorem dX4_init_53 : decode cX4_init 53 = .ok (.putfield 33, 3) := by decide +kernel
theorem dX4_init_56 : decode cX4_init 56 = .ok (.aload_n 0, 1) := by decide +kernel
theorem dX4_init_57 : decode cX4_init 57 = .ok (.new 37, 3) := by decide +kernel
theorem dX4_init_60 : decode cX4_init 60 = .ok (.dup, 1) := by decide +kernel
theorem dX4_init_61 : decode cX4_init 61 = .ok (.invokespecial 39, 3) := by decide +kernel
theorem dX4_init_64 : decode cX4_init 64 = .ok (.putfield 40, 3) := by decide +kernel
theorem dX4_init_67 : decode cX4_init 67 = .ok (.iconst 0, 1) := by decide +kernel
theorem dX4_init_68 : decode cX4_init 68 = .ok (.istore_n 1, 1) := by decide +kernel
theorem dX4_init_69 : decode cX4_init 69 = .ok (.iload_n 1, 1) := by decide +kernel
theorem dX4_init_70 : decode cX4_init 70 = .ok (.iconst 4, 1) := by decide +kernel
