theorem dX4_init_71 : decode cX4_init 71 = .ok (.if_icmp .ge 22, 3) := by decide +kernel
theorem dX4_init_74 : decode cX4_init 74 = .ok (.aload_n 0, 1) := by decide +kernel
theorem dX4_init_75 : decode cX4_init 75 = .ok (.getfield 26, 3) := by decide +kernel
theorem dX4_init_78 : decode cX4_init 78 = .ok (.iload_n 1, 1) := by decide +kernel
theorem dX4_init_79 : decode cX4_init 79 = .ok (.new 16, 3) := by decide +kernel
theorem dX4_init_82 : decode cX4_init 82 = .ok (.dup, 1) := by decide +kernel
theorem dX4_init_83 : decode cX4_init 83 = .ok (.invokespecial 18, 3) := by decide +kernel
theorem dX4_init_86 : decode cX4_init 86 = .ok (.aastore, 1) := by decide +kernel
theorem dX4_init_87 : decode cX4_init 87 = .ok (.iinc 1 1, 3) := by decide +kernel
theorem dX4_init_90 : decode cX4_init 90 = .ok (.goto (-21), 3) := by decide +kernel
theorem dX4_init_93 : decode cX4_init 93 = .ok (.iconst 0, 1) := by decide +kernel
theorem dX4_init_94 : decode cX4_init 94 = .ok (.istore_n 1, 1) := by decide +kernel
theorem dX4_init_95 : decode cX4_init 95 = .ok (.iload_n 1, 1) := by decide +kernel
theorem dX4_init_96 : decode cX4_init 96 = .ok (.ldc 44, 2) := by decide +kernel
theorem dX4_init_98 : decode cX4_init 98 = .ok (.invokevirtual 46, 3) := by decide +kernel
theorem dX4_init_101 : decode cX4_init 101 = .ok (.if_icmp .ge 22, 3) := by decide +kernel
theorem dX4_init_104 : decode cX4_init 104 = .ok (.aload_n 0, 1) := by decide +kernel
theorem dX4_init_105 : decode cX4_init 105 = .ok (.getfield 10, 3) := by decide +kernel
theorem dX4_init_108 : decode cX4_init 108 = .ok (.ldc 44, 2) := by decide +kernel
theorem dX4_init_110 : decode cX4_init 110 = .ok (.iload_n 1, 1) := by decide +kernel
theorem dX4_init_111 : decode cX4_init 111 = .ok (.invokevirtual 52, 3) := by decide +kernel
theorem dX4_init_114 : decode cX4_init 114 = .ok (.invokevirtual 56, 3) := by decide +kernel
theorem dX4_init_117 : decode cX4_init 117 = .ok (.iinc 1 1, 3) := by decide +kernel
theorem dX4_init_120 : decode cX4_init 120 = .ok (.goto (-25), 3) := by decide +kernel
theorem dX4_init_123 : decode cX4_init 123 = .ok (.aload_n 0, 1) := by decide +kernel
theorem dX4_init_124 : decode cX4_init 124 = .ok (.getfield 23, 3) := by decide +kernel
theorem dX4_init_127 : decode cX4_init 127 = .ok (.aload_n 0, 1) := by decide +kernel
theorem dX4_init_128 : decode cX4_init 128 = .ok (.getfield 10, 3) := by decide +kernel
theorem dX4_init_131 : decode cX4_init 131 = .ok (.invokevirtual 60, 3) := by decide +kernel
theorem dX4_init_134 : decode cX4_init 134 = .ok (.pop, 1) := by decide +kernel
theorem dX4_init_135 : decode cX4_init 135 = .ok (.aload_n 0, 1) := by decide +kernel
theorem dX4_init_136 : decode cX4_init 136 = .ok (.getfield 19, 3) := by decide +kernel
theorem dX4_init_139 : decode cX4_init 139 = .ok (.aload_n 0, 1) := by decide +kernel
theorem dX4_init_140 : decode cX4_init 140 = .ok (.getfield 23, 3) := by decide +kernel
theorem dX4_init_143 : decode cX4_init 143 = .ok (.invokevirtual 64, 3) := by decide +kernel
theorem dX4_init_146 : decode cX4_init 146 = .ok (.aload_n 0, 1) := by decide +kernel
theorem dX4_init_147 : decode cX4_init 147 = .ok (.getfield 10, 3) := by decide +kernel
theorem dX4_init_150 : decode cX4_init 150 = .ok (.iconst 0, 1) := by decide +kernel
theorem dX4_init_151 : decode cX4_init 151 = .ok (.putfield 68, 3) := by decide +kernel
theorem dX4_init_154 : decode cX4_init 154 = .ok (.return_, 1) := by decide +kernel
theorem dX4_write_0 : decode cX4_write 0 = .ok (.iload_n 1, 1) := by decide +kernel
theorem dX4_write_1 : decode cX4_write 1 = .ok (.bipush 32, 2) := by decide +kernel
theorem dX4_write_3 : decode cX4_write 3 = .ok (.if_icmp .lt 9, 3) := by decide +kernel
theorem dX4_write_6 : decode cX4_write 6 = .ok (.iload_n 1, 1) := by decide +kernel
theorem dX4_write_7 : decode cX4_write 7 = .ok (.bipush 126, 2) := by decide +kernel
theorem dX4_write_9 : decode cX4_write 9 = .ok (.if_icmp .le 5, 3) := by decide +kernel
theorem dX4_write_12 : decode cX4_write 12 = .ok (.iconst (-1), 1) := by decide +kernel
theorem dX4_write_13 : decode cX4_write 13 = .ok (.ireturn, 1) := by decide +kernel
theorem dX4_write_14 : decode cX4_write 14 = .ok (.aload_n 0, 1) := by decide +kernel
theorem dX4_write_15 : decode cX4_write 15 = .ok (.getfield 10, 3) := by decide +kernel
theorem dX4_write_18 : decode cX4_write 18 = .ok (.getfield 68, 3) := by decide +kernel
theorem dX4_write_21 : decode cX4_write 21 = .ok (.sipush 240, 3) := by decide +kernel
theorem dX4_write_24 : decode cX4_write 24 = .ok (.if_icmp .lt 6, 3) := by decide +kernel
theorem dX4_write_27 : decode cX4_write 27 = .ok (.bipush (-3), 2) := by decide +kernel
theorem dX4_write_29 : decode cX4_write 29 = .ok (.ireturn, 1) := by decide +kernel
theorem dX4_write_30 : decode cX4_write 30 = .ok (.aload_n 0, 1) := by decide +kernel
theorem dX4_write_31 : decode cX4_write 31 = .ok (.getfield 10, 3) := by decide +kernel
theorem dX4_write_34 : decode cX4_write 34 = .ok (.iload_n 1, 1) := by decide +kernel
theorem dX4_write_35 : decode cX4_write 35 = .ok (.i2c, 1) := by decide +kernel
theorem dX4_write_36 : decode cX4_write 36 = .ok (.invokevirtual 56, 3) := by decide +kernel
theorem dX4_write_39 : decode cX4_write 39 = .ok (.aload_n 0, 1) := by decide +kernel
theorem dX4_write_40 : decode cX4_write 40 = .ok (.getfield 10, 3) := by decide +kernel
theorem dX4_write_43 : decode cX4_write 43 = .ok (.getfield 68, 3) := by decide +kernel
theorem dX4_write_46 : decode cX4_write 46 = .ok (.ireturn, 1) := by decide +kernel
theorem dX4_wipe_0 : decode cX4_wipe 0 = .ok (.aload_n 0, 1) := by decide +kernel
theorem dX4_wipe_1 : decode cX4_wipe 1 = .ok (.getfield 10, 3) := by decide +kernel
theorem dX4_wipe_4 : decode cX4_wipe 4 = .ok (.getfield 68, 3) := by decide +kernel
theorem dX4_wipe_7 : decode cX4_wipe 7 = .ok (.istore_n 1, 1) := by decide +kernel
theorem dX4_wipe_8 : decode cX4_wipe 8 = .ok (.aload_n 0, 1) := by decide +kernel
theorem dX4_wipe_9 : decode cX4_wipe 9 = .ok (.getfield 10, 3) := by decide +kernel
theorem dX4_wipe_12 : decode cX4_wipe 12 = .ok (.iconst 0, 1) := by decide +kernel
theorem dX4_wipe_13 : decode cX4_wipe 13 = .ok (.putfield 68, 3) := by decide +kernel
theorem dX4_wipe_16 : decode cX4_wipe 16 = .ok (.iload_n 1, 1) := by decide +kernel
theorem dX4_wipe_17 : decode cX4_wipe 17 = .ok (.ireturn, 1) := by decide +kernel
theorem dX4_fault_0 : decode cX4_fault 0 = .ok (.aload_n 0, 1) := by decide +kernel
theorem dX4_fault_1 : decode cX4_fault 1 = .ok (.getfield 23, 3) := by decide +kernel
theorem dX4_fault_4 : decode cX4_fault 4 = .ok (.aload_n 0, 1) := by decide +kernel
theorem dX4_fault_5 : decode cX4_fault 5 = .ok (.getfield 10, 3) := by decide +kernel
theorem dX4_fault_8 : decode cX4_fault 8 = .ok (.invokevirtual 60, 3) := by decide +kernel
theorem dX4_fault_11 : decode cX4_fault 11 = .ok (.ireturn, 1) := by decide +kernel
theorem dX4_lay_0 : decode cX4_lay 0 = .ok (.aload_n 0, 1) := by decide +kernel
theorem dX4_lay_1 : decode cX4_lay 1 = .ok (.getfield 23, 3) := by decide +kernel
theorem dX4_lay_4 : decode cX4_lay 4 = .ok (.aload_n 0, 1) := by decide +kernel
theorem dX4_lay_5 : decode cX4_lay 5 = .ok (.getfield 10, 3) := by decide +kernel
theorem dX4_lay_8 : decode cX4_lay 8 = .ok (.invokevirtual 60, 3) := by decide +kernel
theorem dX4_lay_11 : decode cX4_lay 11 = .ok (.bipush (-4), 2) := by decide +kernel
theorem dX4_lay_13 : decode cX4_lay 13 = .ok (.if_icmp .ne 13, 3) := by decide +kernel
theorem dX4_lay_16 : decode cX4_lay 16 = .ok (.aload_n 0, 1) := by decide +kernel
theorem dX4_lay_17 : decode cX4_lay 17 = .ok (.getfield 23, 3) := by decide +kernel
theorem dX4_lay_20 : decode cX4_lay 20 = .ok (.getfield 71, 3) := by decide +kernel
theorem dX4_lay_23 : decode cX4_lay 23 = .ok (.ifCond .ne 6, 3) := by decide +kernel
theorem dX4_lay_26 : decode cX4_lay 26 = .ok (.bipush (-2), 2) := by decide +kernel
theorem dX4_lay_28 : decode cX4_lay 28 = .ok (.ireturn, 1) := by decide +kernel
theorem dX4_lay_29 : decode cX4_lay 29 = .ok (.aload_n 0, 1) := by decide +kernel
theorem dX4_lay_30 : decode cX4_lay 30 = .ok (.getfield 19, 3) := by decide +kernel
theorem dX4_lay_33 : decode cX4_lay 33 = .ok (.aload_n 0, 1) := by decide +kernel
theorem dX4_lay_34 : decode cX4_lay 34 = .ok (.getfield 23, 3) := by decide +kernel
theorem dX4_lay_37 : decode cX4_lay 37 = .ok (.invokevirtual 64, 3) := by decide +kernel
theorem dX4_lay_40 : decode cX4_lay 40 = .ok (.aload_n 0, 1) := by decide +kernel
theorem dX4_lay_41 : decode cX4_lay 41 = .ok (.iconst 0, 1) := by decide +kernel
theorem dX4_lay_42 : decode cX4_lay 42 = .ok (.putfield 74, 3) := by decide +kernel
theorem dX4_lay_45 : decode cX4_lay 45 = .ok (.aload_n 0, 1) := by decide +kernel
theorem dX4_lay_46 : decode cX4_lay 46 = .ok (.getfield 19, 3) := by decide +kernel
theorem dX4_lay_49 : decode cX4_lay 49 = .ok (.getfield 71, 3) := by decide +kernel
theorem dX4_lay_52 : decode cX4_lay 52 = .ok (.ireturn, 1) := by decide +kernel
theorem dX4_tick_0 : decode cX4_tick 0 = .ok (.iload_n 1, 1) := by decide +kernel
theorem dX4_tick_1 : decode cX4_tick 1 = .ok (.iconst 1, 1) := by decide +kernel
theorem dX4_tick_2 : decode cX4_tick 2 = .ok (.bipush 99, 2) := by decide +kernel
theorem dX4_tick_4 : decode cX4_tick 4 = .ok (.invokestatic 77, 3) := by decide +kernel
theorem dX4_tick_7 : decode cX4_tick 7 = .ok (.ifCond .ne 5, 3) := by decide +kernel
theorem dX4_tick_10 : decode cX4_tick 10 = .ok (.iconst (-1), 1) := by decide +kernel
theorem dX4_tick_11 : decode cX4_tick 11 = .ok (.ireturn, 1) := by decide +kernel
theorem dX4_tick_12 : decode cX4_tick 12 = .ok (.aload_n 0, 1) := by decide +kernel
theorem dX4_tick_13 : decode cX4_tick 13 = .ok (.getfield 19, 3) := by decide +kernel
theorem dX4_tick_16 : decode cX4_tick 16 = .ok (.getfield 81, 3) := by decide +kernel
theorem dX4_tick_19 : decode cX4_tick 19 = .ok (.iload_n 1, 1) := by decide +kernel
theorem dX4_tick_20 : decode cX4_tick 20 = .ok (.iadd, 1) := by decide +kernel
theorem dX4_tick_21 : decode cX4_tick 21 = .ok (.sipush 9999, 3) := by decide +kernel
theorem dX4_tick_24 : decode cX4_tick 24 = .ok (.if_icmp .le 6, 3) := by decide +kernel
theorem dX4_tick_27 : decode cX4_tick 27 = .ok (.bipush (-2), 2) := by decide +kernel
theorem dX4_tick_29 : decode cX4_tick 29 = .ok (.ireturn, 1) := by decide +kernel
theorem dX4_tick_30 : decode cX4_tick 30 = .ok (.aload_n 0, 1) := by decide +kernel
theorem dX4_tick_31 : decode cX4_tick 31 = .ok (.invokevirtual 84, 3) := by decide +kernel
theorem dX4_tick_34 : decode cX4_tick 34 = .ok (.aload_n 0, 1) := by decide +kernel
theorem dX4_tick_35 : decode cX4_tick 35 = .ok (.getfield 19, 3) := by decide +kernel
theorem dX4_tick_38 : decode cX4_tick 38 = .ok (.invokevirtual 87, 3) := by decide +kernel
theorem dX4_tick_41 : decode cX4_tick 41 = .ok (.istore_n 2, 1) := by decide +kernel
theorem dX4_tick_42 : decode cX4_tick 42 = .ok (.iconst 0, 1) := by decide +kernel
theorem dX4_tick_43 : decode cX4_tick 43 = .ok (.istore_n 3, 1) := by decide +kernel
theorem dX4_tick_44 : decode cX4_tick 44 = .ok (.iload_n 3, 1) := by decide +kernel
theorem dX4_tick_45 : decode cX4_tick 45 = .ok (.aload_n 0, 1) := by decide +kernel
theorem dX4_tick_46 : decode cX4_tick 46 = .ok (.getfield 19, 3) := by decide +kernel
theorem dX4_tick_49 : decode cX4_tick 49 = .ok (.getfield 71, 3) := by decide +kernel
theorem dX4_tick_52 : decode cX4_tick 52 = .ok (.if_icmp .ge 29, 3) := by decide +kernel
theorem dX4_tick_55 : decode cX4_tick 55 = .ok (.aload_n 0, 1) := by decide +kernel
theorem dX4_tick_56 : decode cX4_tick 56 = .ok (.getfield 19, 3) := by decide +kernel
theorem dX4_tick_59 : decode cX4_tick 59 = .ok (.getfield 90, 3) := by decide +kernel
theorem dX4_tick_62 : decode cX4_tick 62 = .ok (.iload_n 3, 1) := by decide +kernel
theorem dX4_tick_63 : decode cX4_tick 63 = .ok (.aaload, 1) := by decide +kernel
theorem dX4_tick_64 : decode cX4_tick 64 = .ok (.iload_n 1, 1) := by decide +kernel
theorem dX4_tick_65 : decode cX4_tick 65 = .ok (.aload_n 0, 1) := by decide +kernel
theorem dX4_tick_66 : decode cX4_tick 66 = .ok (.getfield 19, 3) := by decide +kernel
theorem dX4_tick_69 : decode cX4_tick 69 = .ok (.getfield 94, 3) := by decide +kernel
theorem dX4_tick_72 : decode cX4_tick 72 = .ok (.invokevirtual 97, 3) := by decide +kernel
theorem dX4_tick_75 : decode cX4_tick 75 = .ok (.iinc 3 1, 3) := by decide +kernel
theorem dX4_tick_78 : decode cX4_tick 78 = .ok (.goto (-34), 3) := by decide +kernel
theorem dX4_tick_81 : decode cX4_tick 81 = .ok (.aload_n 0, 1) := by decide +kernel
theorem dX4_tick_82 : decode cX4_tick 82 = .ok (.getfield 19, 3) := by decide +kernel
theorem dX4_tick_85 : decode cX4_tick 85 = .ok (.dup, 1) := by decide +kernel
theorem dX4_tick_86 : decode cX4_tick 86 = .ok (.getfield 81, 3) := by decide +kernel
theorem dX4_tick_89 : decode cX4_tick 89 = .ok (.iload_n 1, 1) := by decide +kernel
theorem dX4_tick_90 : decode cX4_tick 90 = .ok (.iadd, 1) := by decide +kernel
theorem dX4_tick_91 : decode cX4_tick 91 = .ok (.putfield 81, 3) := by decide +kernel
theorem dX4_tick_94 : decode cX4_tick 94 = .ok (.aload_n 0, 1) := by decide +kernel
theorem dX4_tick_95 : decode cX4_tick 95 = .ok (.getfield 19, 3) := by decide +kernel
theorem dX4_tick_98 : decode cX4_tick 98 = .ok (.invokevirtual 87, 3) := by decide +kernel
theorem dX4_tick_101 : decode cX4_tick 101 = .ok (.iload_n 2, 1) := by decide +kernel
theorem dX4_tick_102 : decode cX4_tick 102 = .ok (.isub, 1) := by decide +kernel
theorem dX4_tick_103 : decode cX4_tick 103 = .ok (.ireturn, 1) := by decide +kernel
theorem dX4_send_0 : decode cX4_send 0 = .ok (.aload_n 0, 1) := by decide +kernel
theorem dX4_send_1 : decode cX4_send 1 = .ok (.iload_n 1, 1) := by decide +kernel
theorem dX4_send_2 : decode cX4_send 2 = .ok (.invokevirtual 101, 3) := by decide +kernel
theorem dX4_send_5 : decode cX4_send 5 = .ok (.ifCond .eq 14, 3) := by decide +kernel
theorem dX4_send_8 : decode cX4_send 8 = .ok (.iload_n 2, 1) := by decide +kernel
theorem dX4_send_9 : decode cX4_send 9 = .ok (.iconst 1, 1) := by decide +kernel
theorem dX4_send_10 : decode cX4_send 10 = .ok (.sipush 999, 3) := by decide +kernel
theorem dX4_send_13 : decode cX4_send 13 = .ok (.invokestatic 77, 3) := by decide +kernel
theorem dX4_send_16 : decode cX4_send 16 = .ok (.ifCond .ne 5, 3) := by decide +kernel
theorem dX4_send_19 : decode cX4_send 19 = .ok (.iconst (-1), 1) := by decide +kernel
theorem dX4_send_20 : decode cX4_send 20 = .ok (.ireturn, 1) := by decide +kernel
theorem dX4_send_21 : decode cX4_send 21 = .ok (.aload_n 0, 1) := by decide +kernel
theorem dX4_send_22 : decode cX4_send 22 = .ok (.getfield 19, 3) := by decide +kernel
theorem dX4_send_25 : decode cX4_send 25 = .ok (.getfield 90, 3) := by decide +kernel
theorem dX4_send_28 : decode cX4_send 28 = .ok (.iload_n 1, 1) := by decide +kernel
theorem dX4_send_29 : decode cX4_send 29 = .ok (.aaload, 1) := by decide +kernel
theorem dX4_send_30 : decode cX4_send 30 = .ok (.getfield 105, 3) := by decide +kernel
theorem dX4_send_33 : decode cX4_send 33 = .ok (.ldc 108, 2) := by decide +kernel
theorem dX4_send_35 : decode cX4_send 35 = .ok (.if_icmp .lt 6, 3) := by decide +kernel
theorem dX4_send_38 : decode cX4_send 38 = .ok (.bipush (-2), 2) := by decide +kernel
theorem dX4_send_40 : decode cX4_send 40 = .ok (.ireturn, 1) := by decide +kernel
theorem dX4_send_41 : decode cX4_send 41 = .ok (.aload_n 0, 1) := by decide +kernel
theorem dX4_send_42 : decode cX4_send 42 = .ok (.invokevirtual 84, 3) := by decide +kernel
theorem dX4_send_45 : decode cX4_send 45 = .ok (.aload_n 0, 1) := by decide +kernel
theorem dX4_send_46 : decode cX4_send 46 = .ok (.getfield 19, 3) := by decide +kernel
theorem dX4_send_49 : decode cX4_send 49 = .ok (.getfield 90, 3) := by decide +kernel
theorem dX4_send_52 : decode cX4_send 52 = .ok (.iload_n 1, 1) := by decide +kernel
theorem dX4_send_53 : decode cX4_send 53 = .ok (.aaload, 1) := by decide +kernel
theorem dX4_send_54 : decode cX4_send 54 = .ok (.iload_n 2, 1) := by decide +kernel
theorem dX4_send_55 : decode cX4_send 55 = .ok (.aload_n 0, 1) := by decide +kernel
theorem dX4_send_56 : decode cX4_send 56 = .ok (.getfield 19, 3) := by decide +kernel
theorem dX4_send_59 : decode cX4_send 59 = .ok (.getfield 94, 3) := by decide +kernel
theorem dX4_send_62 : decode cX4_send 62 = .ok (.invokevirtual 109, 3) := by decide +kernel
theorem dX4_send_65 : decode cX4_send 65 = .ok (.ireturn, 1) := by decide +kernel
theorem dX4_limit_0 : decode cX4_limit 0 = .ok (.aload_n 0, 1) := by decide +kernel
theorem dX4_limit_1 : decode cX4_limit 1 = .ok (.iload_n 1, 1) := by decide +kernel
theorem dX4_limit_2 : decode cX4_limit 2 = .ok (.iload_n 2, 1) := by decide +kernel
theorem dX4_limit_3 : decode cX4_limit 3 = .ok (.invokevirtual 113, 3) := by decide +kernel
theorem dX4_limit_6 : decode cX4_limit 6 = .ok (.ifCond .eq 15, 3) := by decide +kernel
theorem dX4_limit_9 : decode cX4_limit 9 = .ok (.iload_n 3, 1) := by decide +kernel
theorem dX4_limit_10 : decode cX4_limit 10 = .ok (.bipush 20, 2) := by decide +kernel
theorem dX4_limit_12 : decode cX4_limit 12 = .ok (.sipush 999, 3) := by decide +kernel
theorem dX4_limit_15 : decode cX4_limit 15 = .ok (.invokestatic 77, 3) := by decide +kernel
theorem dX4_limit_18 : decode cX4_limit 18 = .ok (.ifCond .ne 5, 3) := by decide +kernel
theorem dX4_limit_21 : decode cX4_limit 21 = .ok (.iconst (-1), 1) := by decide +kernel
theorem dX4_limit_22 : decode cX4_limit 22 = .ok (.ireturn, 1) := by decide +kernel
theorem dX4_limit_23 : decode cX4_limit 23 = .ok (.aload_n 0, 1) := by decide +kernel
theorem dX4_limit_24 : decode cX4_limit 24 = .ok (.getfield 19, 3) := by decide +kernel
theorem dX4_limit_27 : decode cX4_limit 27 = .ok (.getfield 90, 3) := by decide +kernel
theorem dX4_limit_30 : decode cX4_limit 30 = .ok (.iload_n 1, 1) := by decide +kernel
theorem dX4_limit_31 : decode cX4_limit 31 = .ok (.aaload, 1) := by decide +kernel
theorem dX4_limit_32 : decode cX4_limit 32 = .ok (.getfield 117, 3) := by decide +kernel
theorem dX4_limit_35 : decode cX4_limit 35 = .ok (.iload_n 2, 1) := by decide +kernel
theorem dX4_limit_36 : decode cX4_limit 36 = .ok (.iaload, 1) := by decide +kernel
theorem dX4_limit_37 : decode cX4_limit 37 = .ok (.istore 4, 2) := by decide +kernel
theorem dX4_limit_39 : decode cX4_limit 39 = .ok (.iload 4, 2) := by decide +kernel
theorem dX4_limit_41 : decode cX4_limit 41 = .ok (.iload_n 3, 1) := by decide +kernel
theorem dX4_limit_42 : decode cX4_limit 42 = .ok (.if_icmp .ne 6, 3) := by decide +kernel
theorem dX4_limit_45 : decode cX4_limit 45 = .ok (.bipush (-2), 2) := by decide +kernel
theorem dX4_limit_47 : decode cX4_limit 47 = .ok (.ireturn, 1) := by decide +kernel
theorem dX4_limit_48 : decode cX4_limit 48 = .ok (.aload_n 0, 1) := by decide +kernel
theorem dX4_limit_49 : decode cX4_limit 49 = .ok (.invokevirtual 84, 3) := by decide +kernel
theorem dX4_limit_52 : decode cX4_limit 52 = .ok (.aload_n 0, 1) := by decide +kernel
theorem dX4_limit_53 : decode cX4_limit 53 = .ok (.getfield 19, 3) := by decide +kernel
theorem dX4_limit_56 : decode cX4_limit 56 = .ok (.getfield 90, 3) := by decide +kernel
theorem dX4_limit_59 : decode cX4_limit 59 = .ok (.iload_n 1, 1) := by decide +kernel
theorem dX4_limit_60 : decode cX4_limit 60 = .ok (.aaload, 1) := by decide +kernel
theorem dX4_limit_61 : decode cX4_limit 61 = .ok (.getfield 117, 3) := by decide +kernel
theorem dX4_limit_64 : decode cX4_limit 64 = .ok (.iload_n 2, 1) := by decide +kernel
theorem dX4_limit_65 : decode cX4_limit 65 = .ok (.iload_n 3, 1) := by decide +kernel
theorem dX4_limit_66 : decode cX4_limit 66 = .ok (.iastore, 1) := by decide +kernel
theorem dX4_limit_67 : decode cX4_limit 67 = .ok (.iload 4, 2) := by decide +kernel
theorem dX4_limit_69 : decode cX4_limit 69 = .ok (.ireturn, 1) := by decide +kernel
theorem dX4_kind_0 : decode cX4_kind 0 = .ok (.aload_n 0, 1) := by decide +kernel
theorem dX4_kind_1 : decode cX4_kind 1 = .ok (.iload_n 1, 1) := by decide +kernel
theorem dX4_kind_2 : decode cX4_kind 2 = .ok (.iload_n 2, 1) := by decide +kernel
theorem dX4_kind_3 : decode cX4_kind 3 = .ok (.invokevirtual 113, 3) := by decide +kernel
theorem dX4_kind_6 : decode cX4_kind 6 = .ok (.ifCond .eq 12, 3) := by decide +kernel
theorem dX4_kind_9 : decode cX4_kind 9 = .ok (.iload_n 3, 1) := by decide +kernel
theorem dX4_kind_10 : decode cX4_kind 10 = .ok (.iconst 0, 1) := by decide +kernel
theorem dX4_kind_11 : decode cX4_kind 11 = .ok (.iconst 3, 1) := by decide +kernel
theorem dX4_kind_12 : decode cX4_kind 12 = .ok (.invokestatic 77, 3) := by decide +kernel
theorem dX4_kind_15 : decode cX4_kind 15 = .ok (.ifCond .ne 5, 3) := by decide +kernel
theorem dX4_kind_18 : decode cX4_kind 18 = .ok (.iconst (-1), 1) := by decide +kernel
theorem dX4_kind_19 : decode cX4_kind 19 = .ok (.ireturn, 1) := by decide +kernel
theorem dX4_kind_20 : decode cX4_kind 20 = .ok (.aload_n 0, 1) := by decide +kernel
theorem dX4_kind_21 : decode cX4_kind 21 = .ok (.getfield 19, 3) := by decide +kernel
theorem dX4_kind_24 : decode cX4_kind 24 = .ok (.getfield 90, 3) := by decide +kernel
theorem dX4_kind_27 : decode cX4_kind 27 = .ok (.iload_n 1, 1) := by decide +kernel
theorem dX4_kind_28 : decode cX4_kind 28 = .ok (.aaload, 1) := by decide +kernel
theorem dX4_kind_29 : decode cX4_kind 29 = .ok (.getfield 121, 3) := by decide +kernel
theorem dX4_kind_32 : decode cX4_kind 32 = .ok (.iload_n 2, 1) := by decide +kernel
theorem dX4_kind_33 : decode cX4_kind 33 = .ok (.iaload, 1) := by decide +kernel
theorem dX4_kind_34 : decode cX4_kind 34 = .ok (.istore 4, 2) := by decide +kernel
theorem dX4_kind_36 : decode cX4_kind 36 = .ok (.iload 4, 2) := by decide +kernel
theorem dX4_kind_38 : decode cX4_kind 38 = .ok (.iload_n 3, 1) := by decide +kernel
theorem dX4_kind_39 : decode cX4_kind 39 = .ok (.if_icmp .ne 6, 3) := by decide +kernel
theorem dX4_kind_42 : decode cX4_kind 42 = .ok (.bipush (-2), 2) := by decide +kernel
theorem dX4_kind_44 : decode cX4_kind 44 = .ok (.ireturn, 1) := by decide +kernel
theorem dX4_kind_45 : decode cX4_kind 45 = .ok (.aload_n 0, 1) := by decide +kernel
theorem dX4_kind_46 : decode cX4_kind 46 = .ok (.invokevirtual 84, 3) := by decide +kernel
theorem dX4_kind_49 : decode cX4_kind 49 = .ok (.aload_n 0, 1) := by decide +kernel
theorem dX4_kind_50 : decode cX4_kind 50 = .ok (.getfield 19, 3) := by decide +kernel
theorem dX4_kind_53 : decode cX4_kind 53 = .ok (.getfield 90, 3) := by decide +kernel
theorem dX4_kind_56 : decode cX4_kind 56 = .ok (.iload_n 1, 1) := by decide +kernel
theorem dX4_kind_57 : decode cX4_kind 57 = .ok (.aaload, 1) := by decide +kernel
theorem dX4_kind_58 : decode cX4_kind 58 = .ok (.getfield 121, 3) := by decide +kernel
theorem dX4_kind_61 : decode cX4_kind 61 = .ok (.iload_n 2, 1) := by decide +kernel
theorem dX4_kind_62 : decode cX4_kind 62 = .ok (.iload_n 3, 1) := by decide +kernel
theorem dX4_kind_63 : decode cX4_kind 63 = .ok (.iastore, 1) := by decide +kernel
theorem dX4_kind_64 : decode cX4_kind 64 = .ok (.iload 4, 2) := by decide +kernel
theorem dX4_kind_66 : decode cX4_kind 66 = .ok (.ireturn, 1) := by decide +kernel
theorem dX4_loss_0 : decode cX4_loss 0 = .ok (.aload_n 0, 1) := by decide +kernel
theorem dX4_loss_1 : decode cX4_loss 1 = .ok (.iload_n 1, 1) := by decide +kernel
theorem dX4_loss_2 : decode cX4_loss 2 = .ok (.invokevirtual 101, 3) := by decide +kernel
theorem dX4_loss_5 : decode cX4_loss 5 = .ok (.ifCond .eq 13, 3) := by decide +kernel
theorem dX4_loss_8 : decode cX4_loss 8 = .ok (.iload_n 2, 1) := by decide +kernel
theorem dX4_loss_9 : decode cX4_loss 9 = .ok (.iconst 0, 1) := by decide +kernel
theorem dX4_loss_10 : decode cX4_loss 10 = .ok (.bipush 99, 2) := by decide +kernel
theorem dX4_loss_12 : decode cX4_loss 12 = .ok (.invokestatic 77, 3) := by decide +kernel
theorem dX4_loss_15 : decode cX4_loss 15 = .ok (.ifCond .ne 5, 3) := by decide +kernel
theorem dX4_loss_18 : decode cX4_loss 18 = .ok (.iconst (-1), 1) := by decide +kernel
theorem dX4_loss_19 : decode cX4_loss 19 = .ok (.ireturn, 1) := by decide +kernel
theorem dX4_loss_20 : decode cX4_loss 20 = .ok (.aload_n 0, 1) := by decide +kernel
theorem dX4_loss_21 : decode cX4_loss 21 = .ok (.getfield 19, 3) := by decide +kernel
theorem dX4_loss_24 : decode cX4_loss 24 = .ok (.getfield 90, 3) := by decide +kernel
theorem dX4_loss_27 : decode cX4_loss 27 = .ok (.iload_n 1, 1) := by decide +kernel
theorem dX4_loss_28 : decode cX4_loss 28 = .ok (.aaload, 1) := by decide +kernel
theorem dX4_loss_29 : decode cX4_loss 29 = .ok (.getfield 124, 3) := by decide +kernel
theorem dX4_loss_32 : decode cX4_loss 32 = .ok (.istore_n 3, 1) := by decide +kernel
theorem dX4_loss_33 : decode cX4_loss 33 = .ok (.iload_n 3, 1) := by decide +kernel
theorem dX4_loss_34 : decode cX4_loss 34 = .ok (.iload_n 2, 1) := by decide +kernel
theorem dX4_loss_35 : decode cX4_loss 35 = .ok (.if_icmp .ne 6, 3) := by decide +kernel
theorem dX4_loss_38 : decode cX4_loss 38 = .ok (.bipush (-2), 2) := by decide +kernel
theorem dX4_loss_40 : decode cX4_loss 40 = .ok (.ireturn, 1) := by decide +kernel
theorem dX4_loss_41 : decode cX4_loss 41 = .ok (.aload_n 0, 1) := by decide +kernel
theorem dX4_loss_42 : decode cX4_loss 42 = .ok (.invokevirtual 84, 3) := by decide +kernel
theorem dX4_loss_45 : decode cX4_loss 45 = .ok (.aload_n 0, 1) := by decide +kernel
theorem dX4_loss_46 : decode cX4_loss 46 = .ok (.getfield 19, 3) := by decide +kernel
theorem dX4_loss_49 : decode cX4_loss 49 = .ok (.getfield 90, 3) := by decide +kernel
theorem dX4_loss_52 : decode cX4_loss 52 = .ok (.iload_n 1, 1) := by decide +kernel
theorem dX4_loss_53 : decode cX4_loss 53 = .ok (.aaload, 1) := by decide +kernel
theorem dX4_loss_54 : decode cX4_loss 54 = .ok (.iload_n 2, 1) := by decide +kernel
theorem dX4_loss_55 : decode cX4_loss 55 = .ok (.putfield 124, 3) := by decide +kernel
theorem dX4_loss_58 : decode cX4_loss 58 = .ok (.iload_n 3, 1) := by decide +kernel
theorem dX4_loss_59 : decode cX4_loss 59 = .ok (.ireturn, 1) := by decide +kernel
theorem dX4_believe_0 : decode cX4_believe 0 = .ok (.iload_n 1, 1) := by decide +kernel
theorem dX4_believe_1 : decode cX4_believe 1 = .ok (.iconst 0, 1) := by decide +kernel
theorem dX4_believe_2 : decode cX4_believe 2 = .ok (.iconst 2, 1) := by decide +kernel
theorem dX4_believe_3 : decode cX4_believe 3 = .ok (.invokestatic 77, 3) := by decide +kernel
theorem dX4_believe_6 : decode cX4_believe 6 = .ok (.ifCond .ne 5, 3) := by decide +kernel
theorem dX4_believe_9 : decode cX4_believe 9 = .ok (.iconst (-1), 1) := by decide +kernel
theorem dX4_believe_10 : decode cX4_believe 10 = .ok (.ireturn, 1) := by decide +kernel
theorem dX4_believe_11 : decode cX4_believe 11 = .ok (.aload_n 0, 1) := by decide +kernel
theorem dX4_believe_12 : decode cX4_believe 12 = .ok (.getfield 19, 3) := by decide +kernel
theorem dX4_believe_15 : decode cX4_believe 15 = .ok (.getfield 94, 3) := by decide +kernel
theorem dX4_believe_18 : decode cX4_believe 18 = .ok (.getfield 127, 3) := by decide +kernel
theorem dX4_believe_21 : decode cX4_believe 21 = .ok (.istore_n 2, 1) := by decide +kernel
theorem dX4_believe_22 : decode cX4_believe 22 = .ok (.iload_n 2, 1) := by decide +kernel
theorem dX4_believe_23 : decode cX4_believe 23 = .ok (.iload_n 1, 1) := by decide +kernel
theorem dX4_believe_24 : decode cX4_believe 24 = .ok (.if_icmp .ne 6, 3) := by decide +kernel
theorem dX4_believe_27 : decode cX4_believe 27 = .ok (.bipush (-2), 2) := by decide +kernel
theorem dX4_believe_29 : decode cX4_believe 29 = .ok (.ireturn, 1) := by decide +kernel
theorem dX4_believe_30 : decode cX4_believe 30 = .ok (.aload_n 0, 1) := by decide +kernel
theorem dX4_believe_31 : decode cX4_believe 31 = .ok (.invokevirtual 84, 3) := by decide +kernel
theorem dX4_believe_34 : decode cX4_believe 34 = .ok (.aload_n 0, 1) := by decide +kernel
theorem dX4_believe_35 : decode cX4_believe 35 = .ok (.getfield 19, 3) := by decide +kernel
theorem dX4_believe_38 : decode cX4_believe 38 = .ok (.getfield 94, 3) := by decide +kernel
theorem dX4_believe_41 : decode cX4_believe 41 = .ok (.iload_n 1, 1) := by decide +kernel
theorem dX4_believe_42 : decode cX4_believe 42 = .ok (.putfield 127, 3) := by decide +kernel
theorem dX4_believe_45 : decode cX4_believe 45 = .ok (.iload_n 2, 1) := by decide +kernel
theorem dX4_believe_46 : decode cX4_believe 46 = .ok (.ireturn, 1) := by decide +kernel
theorem dX4_undo_0 : decode cX4_undo 0 = .ok (.aload_n 0, 1) := by decide +kernel
theorem dX4_undo_1 : decode cX4_undo 1 = .ok (.getfield 74, 3) := by decide +kernel
theorem dX4_undo_4 : decode cX4_undo 4 = .ok (.ifCond .ne 6, 3) := by decide +kernel
theorem dX4_undo_7 : decode cX4_undo 7 = .ok (.bipush (-2), 2) := by decide +kernel
theorem dX4_undo_9 : decode cX4_undo 9 = .ok (.ireturn, 1) := by decide +kernel
theorem dX4_undo_10 : decode cX4_undo 10 = .ok (.aload_n 0, 1) := by decide +kernel
theorem dX4_undo_11 : decode cX4_undo 11 = .ok (.aload_n 0, 1) := by decide +kernel
theorem dX4_undo_12 : decode cX4_undo 12 = .ok (.getfield 130, 3) := by decide +kernel
theorem dX4_undo_15 : decode cX4_undo 15 = .ok (.ifCond .ne 7, 3) := by decide +kernel
theorem dX4_undo_18 : decode cX4_undo 18 = .ok (.iconst 3, 1) := by decide +kernel
theorem dX4_undo_19 : decode cX4_undo 19 = .ok (.goto 9, 3) := by decide +kernel
theorem dX4_undo_22 : decode cX4_undo 22 = .ok (.aload_n 0, 1) := by decide +kernel
theorem dX4_undo_23 : decode cX4_undo 23 = .ok (.getfield 130, 3) := by decide +kernel
theorem dX4_undo_26 : decode cX4_undo 26 = .ok (.iconst 1, 1) := by decide +kernel
theorem dX4_undo_27 : decode cX4_undo 27 = .ok (.isub, 1) := by decide +kernel
theorem dX4_undo_28 : decode cX4_undo 28 = .ok (.putfield 130, 3) := by decide +kernel
theorem dX4_undo_31 : decode cX4_undo 31 = .ok (.aload_n 0, 1) := by decide +kernel
theorem dX4_undo_32 : decode cX4_undo 32 = .ok (.getfield 19, 3) := by decide +kernel
theorem dX4_undo_35 : decode cX4_undo 35 = .ok (.aload_n 0, 1) := by decide +kernel
theorem dX4_undo_36 : decode cX4_undo 36 = .ok (.getfield 26, 3) := by decide +kernel
theorem dX4_undo_39 : decode cX4_undo 39 = .ok (.aload_n 0, 1) := by decide +kernel
theorem dX4_undo_40 : decode cX4_undo 40 = .ok (.getfield 130, 3) := by decide +kernel
theorem dX4_undo_43 : decode cX4_undo 43 = .ok (.aaload, 1) := by decide +kernel
theorem dX4_undo_44 : decode cX4_undo 44 = .ok (.invokevirtual 64, 3) := by decide +kernel
theorem dX4_undo_47 : decode cX4_undo 47 = .ok (.aload_n 0, 1) := by decide +kernel
theorem dX4_undo_48 : decode cX4_undo 48 = .ok (.dup, 1) := by decide +kernel
theorem dX4_undo_49 : decode cX4_undo 49 = .ok (.getfield 74, 3) := by decide +kernel
theorem dX4_undo_52 : decode cX4_undo 52 = .ok (.iconst 1, 1) := by decide +kernel
theorem dX4_undo_53 : decode cX4_undo 53 = .ok (.isub, 1) := by decide +kernel
theorem dX4_undo_54 : decode cX4_undo 54 = .ok (.putfield 74, 3) := by decide +kernel
theorem dX4_undo_57 : decode cX4_undo 57 = .ok (.aload_n 0, 1) := by decide +kernel
theorem dX4_undo_58 : decode cX4_undo 58 = .ok (.getfield 74, 3) := by decide +kernel
theorem dX4_undo_61 : decode cX4_undo 61 = .ok (.ireturn, 1) := by decide +kernel
theorem dX4_way_0 : decode cX4_way 0 = .ok (.aload_n 0, 1) := by decide +kernel
theorem dX4_way_1 : decode cX4_way 1 = .ok (.iload_n 1, 1) := by decide +kernel
theorem dX4_way_2 : decode cX4_way 2 = .ok (.invokevirtual 101, 3) := by decide +kernel
theorem dX4_way_5 : decode cX4_way 5 = .ok (.ifCond .eq 19, 3) := by decide +kernel
theorem dX4_way_8 : decode cX4_way 8 = .ok (.aload_n 0, 1) := by decide +kernel
theorem dX4_way_9 : decode cX4_way 9 = .ok (.getfield 19, 3) := by decide +kernel
theorem dX4_way_12 : decode cX4_way 12 = .ok (.getfield 90, 3) := by decide +kernel
theorem dX4_way_15 : decode cX4_way 15 = .ok (.iload_n 1, 1) := by decide +kernel
theorem dX4_way_16 : decode cX4_way 16 = .ok (.aaload, 1) := by decide +kernel
theorem dX4_way_17 : decode cX4_way 17 = .ok (.iload_n 2, 1) := by decide +kernel
theorem dX4_way_18 : decode cX4_way 18 = .ok (.invokevirtual 133, 3) := by decide +kernel
theorem dX4_way_21 : decode cX4_way 21 = .ok (.goto 4, 3) := by decide +kernel
theorem dX4_way_24 : decode cX4_way 24 = .ok (.iconst (-1), 1) := by decide +kernel
theorem dX4_way_25 : decode cX4_way 25 = .ok (.ireturn, 1) := by decide +kernel
theorem dX4_hop_0 : decode cX4_hop 0 = .ok (.aload_n 0, 1) := by decide +kernel
theorem dX4_hop_1 : decode cX4_hop 1 = .ok (.iload_n 1, 1) := by decide +kernel
theorem dX4_hop_2 : decode cX4_hop 2 = .ok (.iload_n 2, 1) := by decide +kernel
theorem dX4_hop_3 : decode cX4_hop 3 = .ok (.invokevirtual 113, 3) := by decide +kernel
theorem dX4_hop_6 : decode cX4_hop 6 = .ok (.ifCond .eq 12, 3) := by decide +kernel
theorem dX4_hop_9 : decode cX4_hop 9 = .ok (.iload_n 3, 1) := by decide +kernel
theorem dX4_hop_10 : decode cX4_hop 10 = .ok (.iconst 0, 1) := by decide +kernel
theorem dX4_hop_11 : decode cX4_hop 11 = .ok (.iconst 1, 1) := by decide +kernel
theorem dX4_hop_12 : decode cX4_hop 12 = .ok (.invokestatic 77, 3) := by decide +kernel
theorem dX4_hop_15 : decode cX4_hop 15 = .ok (.ifCond .ne 5, 3) := by decide +kernel
theorem dX4_hop_18 : decode cX4_hop 18 = .ok (.iconst (-1), 1) := by decide +kernel
theorem dX4_hop_19 : decode cX4_hop 19 = .ok (.ireturn, 1) := by decide +kernel
theorem dX4_hop_20 : decode cX4_hop 20 = .ok (.iload_n 3, 1) := by decide +kernel
theorem dX4_hop_21 : decode cX4_hop 21 = .ok (.ifCond .ne 20, 3) := by decide +kernel
theorem dX4_hop_24 : decode cX4_hop 24 = .ok (.aload_n 0, 1) := by decide +kernel
theorem dX4_hop_25 : decode cX4_hop 25 = .ok (.getfield 19, 3) := by decide +kernel
theorem dX4_hop_28 : decode cX4_hop 28 = .ok (.getfield 90, 3) := by decide +kernel
theorem dX4_hop_31 : decode cX4_hop 31 = .ok (.iload_n 1, 1) := by decide +kernel
theorem dX4_hop_32 : decode cX4_hop 32 = .ok (.aaload, 1) := by decide +kernel
theorem dX4_hop_33 : decode cX4_hop 33 = .ok (.getfield 117, 3) := by decide +kernel
theorem dX4_hop_36 : decode cX4_hop 36 = .ok (.iload_n 2, 1) := by decide +kernel
theorem dX4_hop_37 : decode cX4_hop 37 = .ok (.iaload, 1) := by decide +kernel
theorem dX4_hop_38 : decode cX4_hop 38 = .ok (.goto 17, 3) := by decide +kernel
theorem dX4_hop_41 : decode cX4_hop 41 = .ok (.aload_n 0, 1) := by decide +kernel
theorem dX4_hop_42 : decode cX4_hop 42 = .ok (.getfield 19, 3) := by decide +kernel
theorem dX4_hop_45 : decode cX4_hop 45 = .ok (.getfield 90, 3) := by decide +kernel
theorem dX4_hop_48 : decode cX4_hop 48 = .ok (.iload_n 1, 1) := by decide +kernel
theorem dX4_hop_49 : decode cX4_hop 49 = .ok (.aaload, 1) := by decide +kernel
theorem dX4_hop_50 : decode cX4_hop 50 = .ok (.getfield 121, 3) := by decide +kernel
theorem dX4_hop_53 : decode cX4_hop 53 = .ok (.iload_n 2, 1) := by decide +kernel
theorem dX4_hop_54 : decode cX4_hop 54 = .ok (.iaload, 1) := by decide +kernel
theorem dX4_hop_55 : decode cX4_hop 55 = .ok (.ireturn, 1) := by decide +kernel
theorem dX4_probe_0 : decode cX4_probe 0 = .ok (.aload_n 0, 1) := by decide +kernel
theorem dX4_probe_1 : decode cX4_probe 1 = .ok (.iload_n 1, 1) := by decide +kernel
theorem dX4_probe_2 : decode cX4_probe 2 = .ok (.invokevirtual 101, 3) := by decide +kernel
theorem dX4_probe_5 : decode cX4_probe 5 = .ok (.ifCond .ne 5, 3) := by decide +kernel
theorem dX4_probe_8 : decode cX4_probe 8 = .ok (.iconst (-1), 1) := by decide +kernel
theorem dX4_probe_9 : decode cX4_probe 9 = .ok (.ireturn, 1) := by decide +kernel
theorem dX4_probe_10 : decode cX4_probe 10 = .ok (.aload_n 0, 1) := by decide +kernel
theorem dX4_probe_11 : decode cX4_probe 11 = .ok (.getfield 19, 3) := by decide +kernel
theorem dX4_probe_14 : decode cX4_probe 14 = .ok (.getfield 90, 3) := by decide +kernel
theorem dX4_probe_17 : decode cX4_probe 17 = .ok (.iload_n 1, 1) := by decide +kernel
theorem dX4_probe_18 : decode cX4_probe 18 = .ok (.aaload, 1) := by decide +kernel
theorem dX4_probe_19 : decode cX4_probe 19 = .ok (.invokevirtual 137, 3) := by decide +kernel
theorem dX4_probe_22 : decode cX4_probe 22 = .ok (.ifCond .eq 8, 3) := by decide +kernel
theorem dX4_probe_25 : decode cX4_probe 25 = .ok (.bipush (-4), 2) := by decide +kernel
theorem dX4_probe_27 : decode cX4_probe 27 = .ok (.goto 15, 3) := by decide +kernel
theorem dX4_probe_30 : decode cX4_probe 30 = .ok (.aload_n 0, 1) := by decide +kernel
theorem dX4_probe_31 : decode cX4_probe 31 = .ok (.getfield 19, 3) := by decide +kernel
theorem dX4_probe_34 : decode cX4_probe 34 = .ok (.getfield 90, 3) := by decide +kernel
theorem dX4_probe_37 : decode cX4_probe 37 = .ok (.iload_n 1, 1) := by decide +kernel
theorem dX4_probe_38 : decode cX4_probe 38 = .ok (.aaload, 1) := by decide +kernel
theorem dX4_probe_39 : decode cX4_probe 39 = .ok (.invokevirtual 141, 3) := by decide +kernel
theorem dX4_probe_42 : decode cX4_probe 42 = .ok (.ireturn, 1) := by decide +kernel
theorem dX4_padding_0 : decode cX4_padding 0 = .ok (.aload_n 0, 1) := by decide +kernel
theorem dX4_padding_1 : decode cX4_padding 1 = .ok (.iload_n 1, 1) := by decide +kernel
theorem dX4_padding_2 : decode cX4_padding 2 = .ok (.invokevirtual 101, 3) := by decide +kernel
theorem dX4_padding_5 : decode cX4_padding 5 = .ok (.ifCond .eq 14, 3) := by decide +kernel
theorem dX4_padding_8 : decode cX4_padding 8 = .ok (.iload_n 2, 1) := by decide +kernel
theorem dX4_padding_9 : decode cX4_padding 9 = .ok (.iconst 0, 1) := by decide +kernel
theorem dX4_padding_10 : decode cX4_padding 10 = .ok (.sipush 999, 3) := by decide +kernel
theorem dX4_padding_13 : decode cX4_padding 13 = .ok (.invokestatic 77, 3) := by decide +kernel
theorem dX4_padding_16 : decode cX4_padding 16 = .ok (.ifCond .ne 5, 3) := by decide +kernel
theorem dX4_padding_19 : decode cX4_padding 19 = .ok (.iconst (-1), 1) := by decide +kernel
theorem dX4_padding_20 : decode cX4_padding 20 = .ok (.ireturn, 1) := by decide +kernel
theorem dX4_padding_21 : decode cX4_padding 21 = .ok (.aload_n 0, 1) := by decide +kernel
theorem dX4_padding_22 : decode cX4_padding 22 = .ok (.getfield 19, 3) := by decide +kernel
theorem dX4_padding_25 : decode cX4_padding 25 = .ok (.getfield 90, 3) := by decide +kernel
theorem dX4_padding_28 : decode cX4_padding 28 = .ok (.iload_n 1, 1) := by decide +kernel
theorem dX4_padding_29 : decode cX4_padding 29 = .ok (.aaload, 1) := by decide +kernel
theorem dX4_padding_30 : decode cX4_padding 30 = .ok (.invokevirtual 137, 3) := by decide +kernel
theorem dX4_padding_33 : decode cX4_padding 33 = .ok (.ifCond .eq 6, 3) := by decide +kernel
theorem dX4_padding_36 : decode cX4_padding 36 = .ok (.bipush (-4), 2) := by decide +kernel
theorem dX4_padding_38 : decode cX4_padding 38 = .ok (.ireturn, 1) := by decide +kernel
theorem dX4_padding_39 : decode cX4_padding 39 = .ok (.aload_n 0, 1) := by decide +kernel
theorem dX4_padding_40 : decode cX4_padding 40 = .ok (.getfield 19, 3) := by decide +kernel
theorem dX4_padding_43 : decode cX4_padding 43 = .ok (.getfield 90, 3) := by decide +kernel
theorem dX4_padding_46 : decode cX4_padding 46 = .ok (.iload_n 1, 1) := by decide +kernel
theorem dX4_padding_47 : decode cX4_padding 47 = .ok (.aaload, 1) := by decide +kernel
theorem dX4_padding_48 : decode cX4_padding 48 = .ok (.invokevirtual 141, 3) := by decide +kernel
theorem dX4_padding_51 : decode cX4_padding 51 = .ok (.istore_n 3, 1) := by decide +kernel
theorem dX4_padding_52 : decode cX4_padding 52 = .ok (.iload_n 2, 1) := by decide +kernel
theorem dX4_padding_53 : decode cX4_padding 53 = .ok (.iload_n 3, 1) := by decide +kernel
theorem dX4_padding_54 : decode cX4_padding 54 = .ok (.if_icmp .le 8, 3) := by decide +kernel
theorem dX4_padding_57 : decode cX4_padding 57 = .ok (.bipush (-2), 2) := by decide +kernel
theorem dX4_padding_59 : decode cX4_padding 59 = .ok (.goto 6, 3) := by decide +kernel
theorem dX4_padding_62 : decode cX4_padding 62 = .ok (.iload_n 3, 1) := by decide +kernel
theorem dX4_padding_63 : decode cX4_padding 63 = .ok (.iload_n 2, 1) := by decide +kernel
theorem dX4_padding_64 : decode cX4_padding 64 = .ok (.isub, 1) := by decide +kernel
theorem dX4_padding_65 : decode cX4_padding 65 = .ok (.ireturn, 1) := by decide +kernel
theorem dX4_meets_0 : decode cX4_meets 0 = .ok (.aload_n 0, 1) := by decide +kernel
theorem dX4_meets_1 : decode cX4_meets 1 = .ok (.iload_n 1, 1) := by decide +kernel
theorem dX4_meets_2 : decode cX4_meets 2 = .ok (.invokevirtual 101, 3) := by decide +kernel
theorem dX4_meets_5 : decode cX4_meets 5 = .ok (.ifCond .eq 23, 3) := by decide +kernel
theorem dX4_meets_8 : decode cX4_meets 8 = .ok (.iload_n 2, 1) := by decide +kernel
theorem dX4_meets_9 : decode cX4_meets 9 = .ok (.iconst 1, 1) := by decide +kernel
theorem dX4_meets_10 : decode cX4_meets 10 = .ok (.sipush 999, 3) := by decide +kernel
theorem dX4_meets_13 : decode cX4_meets 13 = .ok (.invokestatic 77, 3) := by decide +kernel
theorem dX4_meets_16 : decode cX4_meets 16 = .ok (.ifCond .eq 12, 3) := by decide +kernel
theorem dX4_meets_19 : decode cX4_meets 19 = .ok (.iload_n 3, 1) := by decide +kernel
theorem dX4_meets_20 : decode cX4_meets 20 = .ok (.iconst 0, 1) := by decide +kernel
theorem dX4_meets_21 : decode cX4_meets 21 = .ok (.iconst 1, 1) := by decide +kernel
theorem dX4_meets_22 : decode cX4_meets 22 = .ok (.invokestatic 77, 3) := by decide +kernel
theorem dX4_meets_25 : decode cX4_meets 25 = .ok (.ifCond .ne 5, 3) := by decide +kernel
theorem dX4_meets_28 : decode cX4_meets 28 = .ok (.iconst (-1), 1) := by decide +kernel
theorem dX4_meets_29 : decode cX4_meets 29 = .ok (.ireturn, 1) := by decide +kernel
theorem dX4_meets_30 : decode cX4_meets 30 = .ok (.iload_n 3, 1) := by decide +kernel
theorem dX4_meets_31 : decode cX4_meets 31 = .ok (.ifCond .ne 19, 3) := by decide +kernel
theorem dX4_meets_34 : decode cX4_meets 34 = .ok (.aload_n 0, 1) := by decide +kernel
theorem dX4_meets_35 : decode cX4_meets 35 = .ok (.getfield 19, 3) := by decide +kernel
theorem dX4_meets_38 : decode cX4_meets 38 = .ok (.getfield 90, 3) := by decide +kernel
theorem dX4_meets_41 : decode cX4_meets 41 = .ok (.iload_n 1, 1) := by decide +kernel
theorem dX4_meets_42 : decode cX4_meets 42 = .ok (.aaload, 1) := by decide +kernel
theorem dX4_meets_43 : decode cX4_meets 43 = .ok (.iload_n 2, 1) := by decide +kernel
theorem dX4_meets_44 : decode cX4_meets 44 = .ok (.invokevirtual 144, 3) := by decide +kernel
theorem dX4_meets_47 : decode cX4_meets 47 = .ok (.goto 16, 3) := by decide +kernel
theorem dX4_meets_50 : decode cX4_meets 50 = .ok (.aload_n 0, 1) := by decide +kernel
theorem dX4_meets_51 : decode cX4_meets 51 = .ok (.getfield 19, 3) := by decide +kernel
theorem dX4_meets_54 : decode cX4_meets 54 = .ok (.getfield 90, 3) := by decide +kernel
theorem dX4_meets_57 : decode cX4_meets 57 = .ok (.iload_n 1, 1) := by decide +kernel
theorem dX4_meets_58 : decode cX4_meets 58 = .ok (.aaload, 1) := by decide +kernel
theorem dX4_meets_59 : decode cX4_meets 59 = .ok (.iload_n 2, 1) := by decide +kernel
theorem dX4_meets_60 : decode cX4_meets 60 = .ok (.invokevirtual 147, 3) := by decide +kernel
theorem dX4_meets_63 : decode cX4_meets 63 = .ok (.ireturn, 1) := by decide +kernel
theorem dX4_draw_0 : decode cX4_draw 0 = .ok (.aload_n 0, 1) := by decide +kernel
theorem dX4_draw_1 : decode cX4_draw 1 = .ok (.iload_n 1, 1) := by decide +kernel
theorem dX4_draw_2 : decode cX4_draw 2 = .ok (.invokevirtual 101, 3) := by decide +kernel
theorem dX4_draw_5 : decode cX4_draw 5 = .ok (.ifCond .eq 14, 3) := by decide +kernel
theorem dX4_draw_8 : decode cX4_draw 8 = .ok (.iload_n 2, 1) := by decide +kernel
theorem dX4_draw_9 : decode cX4_draw 9 = .ok (.iconst 0, 1) := by decide +kernel
theorem dX4_draw_10 : decode cX4_draw 10 = .ok (.sipush 9999, 3) := by decide +kernel
theorem dX4_draw_13 : decode cX4_draw 13 = .ok (.invokestatic 77, 3) := by decide +kernel
theorem dX4_draw_16 : decode cX4_draw 16 = .ok (.ifCond .ne 5, 3) := by decide +kernel
theorem dX4_draw_19 : decode cX4_draw 19 = .ok (.iconst (-1), 1) := by decide +kernel
theorem dX4_draw_20 : decode cX4_draw 20 = .ok (.ireturn, 1) := by decide +kernel
theorem dX4_draw_21 : decode cX4_draw 21 = .ok (.aload_n 0, 1) := by decide +kernel
theorem dX4_draw_22 : decode cX4_draw 22 = .ok (.getfield 19, 3) := by decide +kernel
theorem dX4_draw_25 : decode cX4_draw 25 = .ok (.getfield 90, 3) := by decide +kernel
theorem dX4_draw_28 : decode cX4_draw 28 = .ok (.iload_n 1, 1) := by decide +kernel
theorem dX4_draw_29 : decode cX4_draw 29 = .ok (.aaload, 1) := by decide +kernel
theorem dX4_draw_30 : decode cX4_draw 30 = .ok (.iload_n 2, 1) := by decide +kernel
theorem dX4_draw_31 : decode cX4_draw 31 = .ok (.aload_n 0, 1) := by decide +kernel
theorem dX4_draw_32 : decode cX4_draw 32 = .ok (.getfield 19, 3) := by decide +kernel
theorem dX4_draw_35 : decode cX4_draw 35 = .ok (.getfield 94, 3) := by decide +kernel
theorem dX4_draw_38 : decode cX4_draw 38 = .ok (.invokevirtual 150, 3) := by decide +kernel
theorem dX4_draw_41 : decode cX4_draw 41 = .ok (.ireturn, 1) := by decide +kernel
theorem dX4_ahead_0 : decode cX4_ahead 0 = .ok (.iload_n 1, 1) := by decide +kernel
theorem dX4_ahead_1 : decode cX4_ahead 1 = .ok (.iconst 1, 1) := by decide +kernel
theorem dX4_ahead_2 : decode cX4_ahead 2 = .ok (.bipush 99, 2) := by decide +kernel
theorem dX4_ahead_4 : decode cX4_ahead 4 = .ok (.invokestatic 77, 3) := by decide +kernel
theorem dX4_ahead_7 : decode cX4_ahead 7 = .ok (.ifCond .eq 20, 3) := by decide +kernel
theorem dX4_ahead_10 : decode cX4_ahead 10 = .ok (.aload_n 0, 1) := by decide +kernel
theorem dX4_ahead_11 : decode cX4_ahead 11 = .ok (.iload_n 2, 1) := by decide +kernel
theorem dX4_ahead_12 : decode cX4_ahead 12 = .ok (.invokevirtual 101, 3) := by decide +kernel
theorem dX4_ahead_15 : decode cX4_ahead 15 = .ok (.ifCond .eq 12, 3) := by decide +kernel
theorem dX4_ahead_18 : decode cX4_ahead 18 = .ok (.iload_n 3, 1) := by decide +kernel
theorem dX4_ahead_19 : decode cX4_ahead 19 = .ok (.iconst 0, 1) := by decide +kernel
theorem dX4_ahead_20 : decode cX4_ahead 20 = .ok (.iconst 4, 1) := by decide +kernel
theorem dX4_ahead_21 : decode cX4_ahead 21 = .ok (.invokestatic 77, 3) := by decide +kernel
theorem dX4_ahead_24 : decode cX4_ahead 24 = .ok (.ifCond .ne 5, 3) := by decide +kernel
theorem dX4_ahead_27 : decode cX4_ahead 27 = .ok (.iconst (-1), 1) := by decide +kernel
theorem dX4_ahead_28 : decode cX4_ahead 28 = .ok (.ireturn, 1) := by decide +kernel
theorem dX4_ahead_29 : decode cX4_ahead 29 = .ok (.aload_n 0, 1) := by decide +kernel
theorem dX4_ahead_30 : decode cX4_ahead 30 = .ok (.iload_n 2, 1) := by decide +kernel
theorem dX4_ahead_31 : decode cX4_ahead 31 = .ok (.aload_n 0, 1) := by decide +kernel
theorem dX4_ahead_32 : decode cX4_ahead 32 = .ok (.getfield 19, 3) := by decide +kernel
theorem dX4_ahead_35 : decode cX4_ahead 35 = .ok (.getfield 94, 3) := by decide +kernel
theorem dX4_ahead_38 : decode cX4_ahead 38 = .ok (.getfield 127, 3) := by decide +kernel
theorem dX4_ahead_41 : decode cX4_ahead 41 = .ok (.invokevirtual 153, 3) := by decide +kernel
theorem dX4_ahead_44 : decode cX4_ahead 44 = .ok (.aload_n 0, 1) := by decide +kernel
theorem dX4_ahead_45 : decode cX4_ahead 45 = .ok (.getfield 33, 3) := by decide +kernel
theorem dX4_ahead_48 : decode cX4_ahead 48 = .ok (.iload_n 1, 1) := by decide +kernel
theorem dX4_ahead_49 : decode cX4_ahead 49 = .ok (.aload_n 0, 1) := by decide +kernel
theorem dX4_ahead_50 : decode cX4_ahead 50 = .ok (.getfield 40, 3) := by decide +kernel
theorem dX4_ahead_53 : decode cX4_ahead 53 = .ok (.invokevirtual 97, 3) := by decide +kernel
theorem dX4_ahead_56 : decode cX4_ahead 56 = .ok (.iload_n 3, 1) := by decide +kernel
theorem dX4_ahead_57 : decode cX4_ahead 57 = .ok (.tableswitch 76 0 3 #[31, 39, 47, 55], 31) := by decide +kernel
theorem dX4_ahead_88 : decode cX4_ahead 88 = .ok (.aload_n 0, 1) := by decide +kernel
theorem dX4_ahead_89 : decode cX4_ahead 89 = .ok (.getfield 33, 3) := by decide +kernel
theorem dX4_ahead_92 : decode cX4_ahead 92 = .ok (.getfield 157, 3) := by decide +kernel
theorem dX4_ahead_95 : decode cX4_ahead 95 = .ok (.ireturn, 1) := by decide +kernel
theorem dX4_ahead_96 : decode cX4_ahead 96 = .ok (.aload_n 0, 1) := by decide +kernel
theorem dX4_ahead_97 : decode cX4_ahead 97 = .ok (.getfield 33, 3) := by decide +kernel
theorem dX4_ahead_100 : decode cX4_ahead 100 = .ok (.getfield 160, 3) := by decide +kernel
theorem dX4_ahead_103 : decode cX4_ahead 103 = .ok (.ireturn, 1) := by decide +kernel
theorem dX4_ahead_104 : decode cX4_ahead 104 = .ok (.aload_n 0, 1) := by decide +kernel
theorem dX4_ahead_105 : decode cX4_ahead 105 = .ok (.getfield 33, 3) := by decide +kernel
theorem dX4_ahead_108 : decode cX4_ahead 108 = .ok (.getfield 163, 3) := by decide +kernel
theorem dX4_ahead_111 : decode cX4_ahead 111 = .ok (.ireturn, 1) := by decide +kernel
theorem dX4_ahead_112 : decode cX4_ahead 112 = .ok (.aload_n 0, 1) := by decide +kernel
theorem dX4_ahead_113 : decode cX4_ahead 113 = .ok (.getfield 33, 3) := by decide +kernel
theorem dX4_ahead_116 : decode cX4_ahead 116 = .ok (.getfield 166, 3) := by decide +kernel
theorem dX4_ahead_119 : decode cX4_ahead 119 = .ok (.aload_n 0, 1) := by decide +kernel
theorem dX4_ahead_120 : decode cX4_ahead 120 = .ok (.getfield 19, 3) := by decide +kernel
theorem dX4_ahead_123 : decode cX4_ahead 123 = .ok (.getfield 90, 3) := by decide +kernel
theorem dX4_ahead_126 : decode cX4_ahead 126 = .ok (.iload_n 2, 1) := by decide +kernel
theorem dX4_ahead_127 : decode cX4_ahead 127 = .ok (.aaload, 1) := by decide +kernel
theorem dX4_ahead_128 : decode cX4_ahead 128 = .ok (.getfield 166, 3) := by decide +kernel
theorem dX4_ahead_131 : decode cX4_ahead 131 = .ok (.isub, 1) := by decide +kernel
theorem dX4_ahead_132 : decode cX4_ahead 132 = .ok (.ireturn, 1) := by decide +kernel
theorem dX4_ahead_133 : decode cX4_ahead 133 = .ok (.aload_n 0, 1) := by decide +kernel
theorem dX4_ahead_134 : decode cX4_ahead 134 = .ok (.getfield 33, 3) := by decide +kernel
theorem dX4_ahead_137 : decode cX4_ahead 137 = .ok (.getfield 169, 3) := by decide +kernel
theorem dX4_ahead_140 : decode cX4_ahead 140 = .ok (.aload_n 0, 1) := by decide +kernel
theorem dX4_ahead_141 : decode cX4_ahead 141 = .ok (.getfield 19, 3) := by decide +kernel
theorem dX4_ahead_144 : decode cX4_ahead 144 = .ok (.getfield 90, 3) := by decide +kernel
theorem dX4_ahead_147 : decode cX4_ahead 147 = .ok (.iload_n 2, 1) := by decide +kernel
theorem dX4_ahead_148 : decode cX4_ahead 148 = .ok (.aaload, 1) := by decide +kernel
theorem dX4_ahead_149 : decode cX4_ahead 149 = .ok (.getfield 169, 3) := by decide +kernel
theorem dX4_ahead_152 : decode cX4_ahead 152 = .ok (.isub, 1) := by decide +kernel
theorem dX4_ahead_153 : decode cX4_ahead 153 = .ok (.ireturn, 1) := by decide +kernel
theorem dX4_soon_0 : decode cX4_soon 0 = .ok (.aload_n 0, 1) := by decide +kernel
theorem dX4_soon_1 : decode cX4_soon 1 = .ok (.iload_n 1, 1) := by decide +kernel
theorem dX4_soon_2 : decode cX4_soon 2 = .ok (.invokevirtual 101, 3) := by decide +kernel
theorem dX4_soon_5 : decode cX4_soon 5 = .ok (.ifCond .eq 12, 3) := by decide +kernel
theorem dX4_soon_8 : decode cX4_soon 8 = .ok (.iload_n 2, 1) := by decide +kernel
theorem dX4_soon_9 : decode cX4_soon 9 = .ok (.iconst 0, 1) := by decide +kernel
theorem dX4_soon_10 : decode cX4_soon 10 = .ok (.iconst 2, 1) := by decide +kernel
theorem dX4_soon_11 : decode cX4_soon 11 = .ok (.invokestatic 77, 3) := by decide +kernel
theorem dX4_soon_14 : decode cX4_soon 14 = .ok (.ifCond .ne 5, 3) := by decide +kernel
theorem dX4_soon_17 : decode cX4_soon 17 = .ok (.iconst (-1), 1) := by decide +kernel
theorem dX4_soon_18 : decode cX4_soon 18 = .ok (.ireturn, 1) := by decide +kernel
theorem dX4_soon_19 : decode cX4_soon 19 = .ok (.aload_n 0, 1) := by decide +kernel
theorem dX4_soon_20 : decode cX4_soon 20 = .ok (.iload_n 1, 1) := by decide +kernel
theorem dX4_soon_21 : decode cX4_soon 21 = .ok (.iload_n 2, 1) := by decide +kernel
theorem dX4_soon_22 : decode cX4_soon 22 = .ok (.invokevirtual 172, 3) := by decide +kernel
theorem dX4_soon_25 : decode cX4_soon 25 = .ok (.ireturn, 1) := by decide +kernel
theorem dX4_best_0 : decode cX4_best 0 = .ok (.aload_n 0, 1) := by decide +kernel
theorem dX4_best_1 : decode cX4_best 1 = .ok (.iload_n 1, 1) := by decide +kernel
theorem dX4_best_2 : decode cX4_best 2 = .ok (.invokevirtual 101, 3) := by decide +kernel
theorem dX4_best_5 : decode cX4_best 5 = .ok (.ifCond .ne 5, 3) := by decide +kernel
theorem dX4_best_8 : decode cX4_best 8 = .ok (.iconst (-1), 1) := by decide +kernel
theorem dX4_best_9 : decode cX4_best 9 = .ok (.ireturn, 1) := by decide +kernel
theorem dX4_best_10 : decode cX4_best 10 = .ok (.bipush (-4), 2) := by decide +kernel
theorem dX4_best_12 : decode cX4_best 12 = .ok (.istore_n 2, 1) := by decide +kernel
theorem dX4_best_13 : decode cX4_best 13 = .ok (.bipush 100, 2) := by decide +kernel
theorem dX4_best_15 : decode cX4_best 15 = .ok (.istore_n 3, 1) := by decide +kernel
theorem dX4_best_16 : decode cX4_best 16 = .ok (.iconst 0, 1) := by decide +kernel
theorem dX4_best_17 : decode cX4_best 17 = .ok (.istore 4, 2) := by decide +kernel
theorem dX4_best_19 : decode cX4_best 19 = .ok (.iload 4, 2) := by decide +kernel
theorem dX4_best_21 : decode cX4_best 21 = .ok (.iconst 2, 1) := by decide +kernel
theorem dX4_best_22 : decode cX4_best 22 = .ok (.if_icmp .gt 37, 3) := by decide +kernel
theorem dX4_best_25 : decode cX4_best 25 = .ok (.aload_n 0, 1) := by decide +kernel
theorem dX4_best_26 : decode cX4_best 26 = .ok (.iload_n 1, 1) := by decide +kernel
theorem dX4_best_27 : decode cX4_best 27 = .ok (.iload 4, 2) := by decide +kernel
theorem dX4_best_29 : decode cX4_best 29 = .ok (.invokevirtual 172, 3) := by decide +kernel
theorem dX4_best_32 : decode cX4_best 32 = .ok (.istore 5, 2) := by decide +kernel
theorem dX4_best_34 : decode cX4_best 34 = .ok (.iload 5, 2) := by decide +kernel
theorem dX4_best_36 : decode cX4_best 36 = .ok (.bipush (-4), 2) := by decide +kernel
theorem dX4_best_38 : decode cX4_best 38 = .ok (.if_icmp .eq 15, 3) := by decide +kernel
theorem dX4_best_41 : decode cX4_best 41 = .ok (.iload 5, 2) := by decide +kernel
theorem dX4_best_43 : decode cX4_best 43 = .ok (.iload_n 3, 1) := by decide +kernel
theorem dX4_best_44 : decode cX4_best 44 = .ok (.if_icmp .ge 9, 3) := by decide +kernel
theorem dX4_best_47 : decode cX4_best 47 = .ok (.iload 5, 2) := by decide +kernel
theorem dX4_best_49 : decode cX4_best 49 = .ok (.istore_n 3, 1) := by decide +kernel
theorem dX4_best_50 : decode cX4_best 50 = .ok (.iload 4, 2) := by decide +kernel
theorem dX4_best_52 : decode cX4_best 52 = .ok (.istore_n 2, 1) := by decide +kernel
theorem dX4_best_53 : decode cX4_best 53 = .ok (.iinc 4 1, 3) := by decide +kernel
theorem dX4_best_56 : decode cX4_best 56 = .ok (.goto (-37), 3) := by decide +kernel
theorem dX4_best_59 : decode cX4_best 59 = .ok (.iload_n 2, 1) := by decide +kernel
theorem dX4_best_60 : decode cX4_best 60 = .ok (.ireturn, 1) := by decide +kernel
theorem dX4_count_0 : decode cX4_count 0 = .ok (.iload_n 1, 1) := by decide +kernel
theorem dX4_count_1 : decode cX4_count 1 = .ok (.tableswitch 168 0 11 #[63, 71, 79, 90, 101, 112, 123, 131, 139, 147, 155, 160], 63) := by decide +kernel
theorem dX4_count_64 : decode cX4_count 64 = .ok (.aload_n 0, 1) := by decide +kernel
theorem dX4_count_65 : decode cX4_count 65 = .ok (.getfield 19, 3) := by decide +kernel
theorem dX4_count_68 : decode cX4_count 68 = .ok (.getfield 71, 3) := by decide +kernel
theorem dX4_count_71 : decode cX4_count 71 = .ok (.ireturn, 1) := by decide +kernel
theorem dX4_count_72 : decode cX4_count 72 = .ok (.aload_n 0, 1) := by decide +kernel
theorem dX4_count_73 : decode cX4_count 73 = .ok (.getfield 19, 3) := by decide +kernel
theorem dX4_count_76 : decode cX4_count 76 = .ok (.getfield 81, 3) := by decide +kernel
theorem dX4_count_79 : decode cX4_count 79 = .ok (.ireturn, 1) := by decide +kernel
theorem dX4_count_80 : decode cX4_count 80 = .ok (.aload_n 0, 1) := by decide +kernel
theorem dX4_count_81 : decode cX4_count 81 = .ok (.getfield 19, 3) := by decide +kernel
theorem dX4_count_84 : decode cX4_count 84 = .ok (.getfield 94, 3) := by decide +kernel
theorem dX4_count_87 : decode cX4_count 87 = .ok (.getfield 176, 3) := by decide +kernel
theorem dX4_count_90 : decode cX4_count 90 = .ok (.ireturn, 1) := by decide +kernel
theorem dX4_count_91 : decode cX4_count 91 = .ok (.aload_n 0, 1) := by decide +kernel
theorem dX4_count_92 : decode cX4_count 92 = .ok (.getfield 19, 3) := by decide +kernel
theorem dX4_count_95 : decode cX4_count 95 = .ok (.getfield 94, 3) := by decide +kernel
theorem dX4_count_98 : decode cX4_count 98 = .ok (.getfield 179, 3) := by decide +kernel
theorem dX4_count_101 : decode cX4_count 101 = .ok (.ireturn, 1) := by decide +kernel
theorem dX4_count_102 : decode cX4_count 102 = .ok (.aload_n 0, 1) := by decide +kernel
theorem dX4_count_103 : decode cX4_count 103 = .ok (.getfield 19, 3) := by decide +kernel
theorem dX4_count_106 : decode cX4_count 106 = .ok (.getfield 94, 3) := by decide +kernel
theorem dX4_count_109 : decode cX4_count 109 = .ok (.getfield 182, 3) := by decide +kernel
theorem dX4_count_112 : decode cX4_count 112 = .ok (.ireturn, 1) := by decide +kernel
theorem dX4_count_113 : decode cX4_count 113 = .ok (.aload_n 0, 1) := by decide +kernel
theorem dX4_count_114 : decode cX4_count 114 = .ok (.getfield 19, 3) := by decide +kernel
theorem dX4_count_117 : decode cX4_count 117 = .ok (.getfield 94, 3) := by decide +kernel
theorem dX4_count_120 : decode cX4_count 120 = .ok (.getfield 127, 3) := by decide +kernel
theorem dX4_count_123 : decode cX4_count 123 = .ok (.ireturn, 1) := by decide +kernel
theorem dX4_count_124 : decode cX4_count 124 = .ok (.aload_n 0, 1) := by decide +kernel
theorem dX4_count_125 : decode cX4_count 125 = .ok (.getfield 19, 3) := by decide +kernel
theorem dX4_count_128 : decode cX4_count 128 = .ok (.invokevirtual 185, 3) := by decide +kernel
theorem dX4_count_131 : decode cX4_count 131 = .ok (.ireturn, 1) := by decide +kernel
theorem dX4_count_132 : decode cX4_count 132 = .ok (.aload_n 0, 1) := by decide +kernel
theorem dX4_count_133 : decode cX4_count 133 = .ok (.getfield 19, 3) := by decide +kernel
theorem dX4_count_136 : decode cX4_count 136 = .ok (.invokevirtual 188, 3) := by decide +kernel
theorem dX4_count_139 : decode cX4_count 139 = .ok (.ireturn, 1) := by decide +kernel
theorem dX4_count_140 : decode cX4_count 140 = .ok (.aload_n 0, 1) := by decide +kernel
theorem dX4_count_141 : decode cX4_count 141 = .ok (.getfield 19, 3) := by decide +kernel
theorem dX4_count_144 : decode cX4_count 144 = .ok (.invokevirtual 191, 3) := by decide +kernel
theorem dX4_count_147 : decode cX4_count 147 = .ok (.ireturn, 1) := by decide +kernel
theorem dX4_count_148 : decode cX4_count 148 = .ok (.aload_n 0, 1) := by decide +kernel
theorem dX4_count_149 : decode cX4_count 149 = .ok (.getfield 19, 3) := by decide +kernel
theorem dX4_count_152 : decode cX4_count 152 = .ok (.invokevirtual 87, 3) := by decide +kernel
theorem dX4_count_155 : decode cX4_count 155 = .ok (.ireturn, 1) := by decide +kernel
theorem dX4_count_156 : decode cX4_count 156 = .ok (.aload_n 0, 1) := by decide +kernel
theorem dX4_count_157 : decode cX4_count 157 = .ok (.getfield 74, 3) := by decide +kernel
theorem dX4_count_160 : decode cX4_count 160 = .ok (.ireturn, 1) := by decide +kernel
theorem dX4_count_161 : decode cX4_count 161 = .ok (.aload_n 0, 1) := by decide +kernel
theorem dX4_count_162 : decode cX4_count 162 = .ok (.getfield 10, 3) := by decide +kernel
theorem dX4_count_165 : decode cX4_count 165 = .ok (.getfield 68, 3) := by decide +kernel
theorem dX4_count_168 : decode cX4_count 168 = .ok (.ireturn, 1) := by decide +kernel
theorem dX4_count_169 : decode cX4_count 169 = .ok (.iconst (-1), 1) := by decide +kernel
theorem dX4_count_170 : decode cX4_count 170 = .ok (.ireturn, 1) := by decide +kernel
theorem dX4_isBetween_0 : decode cX4_isBetween 0 = .ok (.iload_n 0, 1) := by decide +kernel
theorem dX4_isBetween_1 : decode cX4_isBetween 1 = .ok (.iload_n 1, 1) := by decide +kernel
theorem dX4_isBetween_2 : decode cX4_isBetween 2 = .ok (.if_icmp .lt 12, 3) := by decide +kernel
theorem dX4_isBetween_5 : decode cX4_isBetween 5 = .ok (.iload_n 0, 1) := by decide +kernel
theorem dX4_isBetween_6 : decode cX4_isBetween 6 = .ok (.iload_n 2, 1) := by decide +kernel
theorem dX4_isBetween_7 : decode cX4_isBetween 7 = .ok (.if_icmp .gt 7, 3) := by decide +kernel
theorem dX4_isBetween_10 : decode cX4_isBetween 10 = .ok (.iconst 1, 1) := by decide +kernel
theorem dX4_isBetween_11 : decode cX4_isBetween 11 = .ok (.goto 4, 3) := by decide +kernel
theorem dX4_isBetween_14 : decode cX4_isBetween 14 = .ok (.iconst 0, 1) := by decide +kernel
theorem dX4_isBetween_15 : decode cX4_isBetween 15 = .ok (.ireturn, 1) := by decide +kernel
theorem dX4_isWay_0 : decode cX4_isWay 0 = .ok (.iload_n 1, 1) := by decide +kernel
theorem dX4_isWay_1 : decode cX4_isWay 1 = .ok (.ifCond .lt 18, 3) := by decide +kernel
theorem dX4_isWay_4 : decode cX4_isWay 4 = .ok (.iload_n 1, 1) := by decide +kernel
theorem dX4_isWay_5 : decode cX4_isWay 5 = .ok (.aload_n 0, 1) := by decide +kernel
theorem dX4_isWay_6 : decode cX4_isWay 6 = .ok (.getfield 19, 3) := by decide +kernel
theorem dX4_isWay_9 : decode cX4_isWay 9 = .ok (.getfield 71, 3) := by decide +kernel
theorem dX4_isWay_12 : decode cX4_isWay 12 = .ok (.if_icmp .ge 7, 3) := by decide +kernel
theorem dX4_isWay_15 : decode cX4_isWay 15 = .ok (.iconst 1, 1) := by decide +kernel
theorem dX4_isWay_16 : decode cX4_isWay 16 = .ok (.goto 4, 3) := by decide +kernel
theorem dX4_isWay_19 : decode cX4_isWay 19 = .ok (.iconst 0, 1) := by decide +kernel
theorem dX4_isWay_20 : decode cX4_isWay 20 = .ok (.ireturn, 1) := by decide +kernel
theorem dX4_isHop_0 : decode cX4_isHop 0 = .ok (.aload_n 0, 1) := by decide +kernel
theorem dX4_isHop_1 : decode cX4_isHop 1 = .ok (.iload_n 1, 1) := by decide +kernel
theorem dX4_isHop_2 : decode cX4_isHop 2 = .ok (.invokevirtual 101, 3) := by decide +kernel
theorem dX4_isHop_5 : decode cX4_isHop 5 = .ok (.ifCond .eq 27, 3) := by decide +kernel
theorem dX4_isHop_8 : decode cX4_isHop 8 = .ok (.iload_n 2, 1) := by decide +kernel
theorem dX4_isHop_9 : decode cX4_isHop 9 = .ok (.ifCond .lt 23, 3) := by decide +kernel
theorem dX4_isHop_12 : decode cX4_isHop 12 = .ok (.iload_n 2, 1) := by decide +kernel
theorem dX4_isHop_13 : decode cX4_isHop 13 = .ok (.aload_n 0, 1) := by decide +kernel
theorem dX4_isHop_14 : decode cX4_isHop 14 = .ok (.getfield 19, 3) := by decide +kernel
theorem dX4_isHop_17 : decode cX4_isHop 17 = .ok (.getfield 90, 3) := by decide +kernel
theorem dX4_isHop_20 : decode cX4_isHop 20 = .ok (.iload_n 1, 1) := by decide +kernel
theorem dX4_isHop_21 : decode cX4_isHop 21 = .ok (.aaload, 1) := by decide +kernel
theorem dX4_isHop_22 : decode cX4_isHop 22 = .ok (.getfield 194, 3) := by decide +kernel
theorem dX4_isHop_25 : decode cX4_isHop 25 = .ok (.if_icmp .ge 7, 3) := by decide +kernel
theorem dX4_isHop_28 : decode cX4_isHop 28 = .ok (.iconst 1, 1) := by decide +kernel
theorem dX4_isHop_29 : decode cX4_isHop 29 = .ok (.goto 4, 3) := by decide +kernel
theorem dX4_isHop_32 : decode cX4_isHop 32 = .ok (.iconst 0, 1) := by decide +kernel
theorem dX4_isHop_33 : decode cX4_isHop 33 = .ok (.ireturn, 1) := by decide +kernel
theorem dX4_remember_0 : decode cX4_remember 0 = .ok (.aload_n 0, 1) := by decide +kernel
theorem dX4_remember_1 : decode cX4_remember 1 = .ok (.getfield 26, 3) := by decide +kernel
theorem dX4_remember_4 : decode cX4_remember 4 = .ok (.aload_n 0, 1) := by decide +kernel
theorem dX4_remember_5 : decode cX4_remember 5 = .ok (.getfield 130, 3) := by decide +kernel
theorem dX4_remember_8 : decode cX4_remember 8 = .ok (.aaload, 1) := by decide +kernel
theorem dX4_remember_9 : decode cX4_remember 9 = .ok (.aload_n 0, 1) := by decide +kernel
theorem dX4_remember_10 : decode cX4_remember 10 = .ok (.getfield 19, 3) := by decide +kernel
theorem dX4_remember_13 : decode cX4_remember 13 = .ok (.invokevirtual 64, 3) := by decide +kernel
theorem dX4_remember_16 : decode cX4_remember 16 = .ok (.aload_n 0, 1) := by decide +kernel
theorem dX4_remember_17 : decode cX4_remember 17 = .ok (.aload_n 0, 1) := by decide +kernel
theorem dX4_remember_18 : decode cX4_remember 18 = .ok (.getfield 130, 3) := by decide +kernel
theorem dX4_remember_21 : decode cX4_remember 21 = .ok (.iconst 3, 1) := by decide +kernel
theorem dX4_remember_22 : decode cX4_remember 22 = .ok (.if_icmp .ne 7, 3) := by decide +kernel
theorem dX4_remember_25 : decode cX4_remember 25 = .ok (.iconst 0, 1) := by decide +kernel
theorem dX4_remember_26 : decode cX4_remember 26 = .ok (.goto 9, 3) := by decide +kernel
theorem dX4_remember_29 : decode cX4_remember 29 = .ok (.aload_n 0, 1) := by decide +kernel
theorem dX4_remember_30 : decode cX4_remember 30 = .ok (.getfield 130, 3) := by decide +kernel
theorem dX4_remember_33 : decode cX4_remember 33 = .ok (.iconst 1, 1) := by decide +kernel
theorem dX4_remember_34 : decode cX4_remember 34 = .ok (.iadd, 1) := by decide +kernel
theorem dX4_remember_35 : decode cX4_remember 35 = .ok (.putfield 130, 3) := by decide +kernel
theorem dX4_remember_38 : decode cX4_remember 38 = .ok (.aload_n 0, 1) := by decide +kernel
theorem dX4_remember_39 : decode cX4_remember 39 = .ok (.getfield 74, 3) := by decide +kernel
theorem dX4_remember_42 : decode cX4_remember 42 = .ok (.iconst 4, 1) := by decide +kernel
theorem dX4_remember_43 : decode cX4_remember 43 = .ok (.if_icmp .ge 13, 3) := by decide +kernel
theorem dX4_remember_46 : decode cX4_remember 46 = .ok (.aload_n 0, 1) := by decide +kernel
theorem dX4_remember_47 : decode cX4_remember 47 = .ok (.dup, 1) := by decide +kernel
theorem dX4_remember_48 : decode cX4_remember 48 = .ok (.getfield 74, 3) := by decide +kernel
theorem dX4_remember_51 : decode cX4_remember 51 = .ok (.iconst 1, 1) := by decide +kernel
theorem dX4_remember_52 : decode cX4_remember 52 = .ok (.iadd, 1) := by decide +kernel
theorem dX4_remember_53 : decode cX4_remember 53 = .ok (.putfield 74, 3) := by decide +kernel
theorem dX4_remember_56 : decode cX4_remember 56 = .ok (.return_, 1) := by decide +kernel
theorem dX4_startTrial_0 : decode cX4_startTrial 0 = .ok (.aload_n 0, 1) := by decide +kernel
theorem dX4_startTrial_1 : decode cX4_startTrial 1 = .ok (.getfield 33, 3) := by decide +kernel
theorem dX4_startTrial_4 : decode cX4_startTrial 4 = .ok (.aload_n 0, 1) := by decide +kernel
theorem dX4_startTrial_5 : decode cX4_startTrial 5 = .ok (.getfield 19, 3) := by decide +kernel
theorem dX4_startTrial_8 : decode cX4_startTrial 8 = .ok (.getfield 90, 3) := by decide +kernel
theorem dX4_startTrial_11 : decode cX4_startTrial 11 = .ok (.iload_n 1, 1) := by decide +kernel
theorem dX4_startTrial_12 : decode cX4_startTrial 12 = .ok (.aaload, 1) := by decide +kernel
theorem dX4_startTrial_13 : decode cX4_startTrial 13 = .ok (.invokevirtual 197, 3) := by decide +kernel
theorem dX4_startTrial_16 : decode cX4_startTrial 16 = .ok (.aload_n 0, 1) := by decide +kernel
theorem dX4_startTrial_17 : decode cX4_startTrial 17 = .ok (.getfield 40, 3) := by decide +kernel
theorem dX4_startTrial_20 : decode cX4_startTrial 20 = .ok (.aload_n 0, 1) := by decide +kernel
theorem dX4_startTrial_21 : decode cX4_startTrial 21 = .ok (.getfield 19, 3) := by decide +kernel
theorem dX4_startTrial_24 : decode cX4_startTrial 24 = .ok (.getfield 94, 3) := by decide +kernel
theorem dX4_startTrial_27 : decode cX4_startTrial 27 = .ok (.invokevirtual 200, 3) := by decide +kernel
theorem dX4_startTrial_30 : decode cX4_startTrial 30 = .ok (.aload_n 0, 1) := by decide +kernel
theorem dX4_startTrial_31 : decode cX4_startTrial 31 = .ok (.getfield 40, 3) := by decide +kernel
theorem dX4_startTrial_34 : decode cX4_startTrial 34 = .ok (.iload_n 2, 1) := by decide +kernel
theorem dX4_startTrial_35 : decode cX4_startTrial 35 = .ok (.putfield 127, 3) := by decide +kernel
theorem dX4_startTrial_38 : decode cX4_startTrial 38 = .ok (.return_, 1) := by decide +kernel
theorem dX4_ticksUntilFound_0 : decode cX4_ticksUntilFound 0 = .ok (.aload_n 0, 1) := by decide +kernel
theorem dX4_ticksUntilFound_1 : decode cX4_ticksUntilFound 1 = .ok (.iload_n 1, 1) := by decide +kernel
theorem dX4_ticksUntilFound_2 : decode cX4_ticksUntilFound 2 = .ok (.iload_n 2, 1) := by decide +kernel
theorem dX4_ticksUntilFound_3 : decode cX4_ticksUntilFound 3 = .ok (.invokevirtual 153, 3) := by decide +kernel
theorem dX4_ticksUntilFound_6 : decode cX4_ticksUntilFound 6 = .ok (.aload_n 0, 1) := by decide +kernel
theorem dX4_ticksUntilFound_7 : decode cX4_ticksUntilFound 7 = .ok (.getfield 33, 3) := by decide +kernel
theorem dX4_ticksUntilFound_10 : decode cX4_ticksUntilFound 10 = .ok (.aload_n 0, 1) := by decide +kernel
theorem dX4_ticksUntilFound_11 : decode cX4_ticksUntilFound 11 = .ok (.getfield 40, 3) := by decide +kernel
theorem dX4_ticksUntilFound_14 : decode cX4_ticksUntilFound 14 = .ok (.invokevirtual 203, 3) := by decide +kernel
theorem dX4_ticksUntilFound_17 : decode cX4_ticksUntilFound 17 = .ok (.istore_n 3, 1) := by decide +kernel
theorem dX4_ticksUntilFound_18 : decode cX4_ticksUntilFound 18 = .ok (.iconst 1, 1) := by decide +kernel
theorem dX4_ticksUntilFound_19 : decode cX4_ticksUntilFound 19 = .ok (.istore 4, 2) := by decide +kernel
theorem dX4_ticksUntilFound_21 : decode cX4_ticksUntilFound 21 = .ok (.iload 4, 2) := by decide +kernel
theorem dX4_ticksUntilFound_23 : decode cX4_ticksUntilFound 23 = .ok (.bipush 99, 2) := by decide +kernel
theorem dX4_ticksUntilFound_25 : decode cX4_ticksUntilFound 25 = .ok (.if_icmp .gt 34, 3) := by decide +kernel
theorem dX4_ticksUntilFound_28 : decode cX4_ticksUntilFound 28 = .ok (.aload_n 0, 1) := by decide +kernel
theorem dX4_ticksUntilFound_29 : decode cX4_ticksUntilFound 29 = .ok (.getfield 33, 3) := by decide +kernel
theorem dX4_ticksUntilFound_32 : decode cX4_ticksUntilFound 32 = .ok (.aload_n 0, 1) := by decide +kernel
theorem dX4_ticksUntilFound_33 : decode cX4_ticksUntilFound 33 = .ok (.getfield 40, 3) := by decide +kernel
theorem dX4_ticksUntilFound_36 : decode cX4_ticksUntilFound 36 = .ok (.invokevirtual 207, 3) := by decide +kernel
theorem dX4_ticksUntilFound_39 : decode cX4_ticksUntilFound 39 = .ok (.aload_n 0, 1) := by decide +kernel
theorem dX4_ticksUntilFound_40 : decode cX4_ticksUntilFound 40 = .ok (.getfield 33, 3) := by decide +kernel
theorem dX4_ticksUntilFound_43 : decode cX4_ticksUntilFound 43 = .ok (.getfield 157, 3) := by decide +kernel
theorem dX4_ticksUntilFound_46 : decode cX4_ticksUntilFound 46 = .ok (.iload_n 3, 1) := by decide +kernel
theorem dX4_ticksUntilFound_47 : decode cX4_ticksUntilFound 47 = .ok (.if_icmp .ne 6, 3) := by decide +kernel
theorem dX4_ticksUntilFound_50 : decode cX4_ticksUntilFound 50 = .ok (.iload 4, 2) := by decide +kernel
theorem dX4_ticksUntilFound_52 : decode cX4_ticksUntilFound 52 = .ok (.ireturn, 1) := by decide +kernel
theorem dX4_ticksUntilFound_53 : decode cX4_ticksUntilFound 53 = .ok (.iinc 4 1, 3) := by decide +kernel
theorem dX4_ticksUntilFound_56 : decode cX4_ticksUntilFound 56 = .ok (.goto (-35), 3) := by decide +kernel
theorem dX4_ticksUntilFound_59 : decode cX4_ticksUntilFound 59 = .ok (.bipush (-4), 2) := by decide +kernel
theorem dX4_ticksUntilFound_61 : decode cX4_ticksUntilFound 61 = .ok (.ireturn, 1) := by decide +kernel
theorem dX5_init_0 : decode cX5_init 0 = .ok (.aload_n 0, 1) := by decide +kernel
theorem dX5_init_1 : decode cX5_init 1 = .ok (.invokespecial 1, 3) := by decide +kernel
theorem dX5_init_4 : decode cX5_init 4 = .ok (.aload_n 0, 1) := by decide +kernel
theorem dX5_init_5 : decode cX5_init 5 = .ok (.bipush 103, 2) := by decide +kernel
theorem dX5_init_7 : decode cX5_init 7 = .ok (.newarray .int, 2) := by decide +kernel
theorem dX5_init_9 : decode cX5_init 9 = .ok (.putfield 7, 3) := by decide +kernel
theorem dX5_init_12 : decode cX5_init 12 = .ok (.aload_n 0, 1) := by decide +kernel
theorem dX5_init_13 : decode cX5_init 13 = .ok (.bipush 103, 2) := by decide +kernel
theorem dX5_init_15 : decode cX5_init 15 = .ok (.newarray .int, 2) := by decide +kernel
theorem dX5_init_17 : decode cX5_init 17 = .ok (.putfield 13, 3) := by decide +kernel
theorem dX5_init_20 : decode cX5_init 20 = .ok (.aload_n 0, 1) := by decide +kernel
theorem dX5_init_21 : decode cX5_init 21 = .ok (.bipush 103, 2) := by decide +kernel
theorem dX5_init_23 : decode cX5_init 23 = .ok (.newarray .int, 2) := by decide +kernel
theorem dX5_init_25 : decode cX5_init 25 = .ok (.putfield 16, 3) := by decide +kernel
theorem dX5_init_28 : decode cX5_init 28 = .ok (.aload_n 0, 1) := by decide +kernel
theorem dX5_init_29 : decode cX5_init 29 = .ok (.sipush 412, 3) := by decide +kernel
theorem dX5_init_32 : decode cX5_init 32 = .ok (.newarray .int, 2) := by decide +kernel
theorem dX5_init_34 : decode cX5_init 34 = .ok (.putfield 19, 3) := by decide +kernel
theorem dX5_init_37 : decode cX5_init 37 = .ok (.aload_n 0, 1) := by decide +kernel
theorem dX5_init_38 : decode cX5_init 38 = .ok (.sipush 240, 3) := by decide +kernel
theorem dX5_init_41 : decode cX5_init 41 = .ok (.newarray .int, 2) := by decide +kernel
theorem dX5_init_43 : decode cX5_init 43 = .ok (.putfield 22, 3) := by decide +kernel
theorem dX5_init_46 : decode cX5_init 46 = .ok (.aload_n 0, 1) := by decide +kernel
theorem dX5_init_47 : decode cX5_init 47 = .ok (.invokevirtual 25, 3) := by decide +kernel
theorem dX5_init_50 : decode cX5_init 50 = .ok (.aload_n 0, 1) := by decide +kernel
theorem dX5_init_51 : decode cX5_init 51 = .ok (.invokevirtual 28, 3) := by decide +kernel
theorem dX5_init_54 : decode cX5_init 54 = .ok (.pop, 1) := by decide +kernel
theorem dX5_init_55 : decode cX5_init 55 = .ok (.aload_n 0, 1) := by decide +kernel
theorem dX5_init_56 : decode cX5_init 56 = .ok (.sipush 700, 3) := by decide +kernel
theorem dX5_init_59 : decode cX5_init 59 = .ok (.iconst 0, 1) := by decide +kernel
theorem dX5_init_60 : decode cX5_init 60 = .ok (.invokevirtual 32, 3) := by decide +kernel
theorem dX5_init_63 : decode cX5_init 63 = .ok (.pop, 1) := by decide +kernel
theorem dX5_init_64 : decode cX5_init 64 = .ok (.aload_n 0, 1) := by decide +kernel
theorem dX5_init_65 : decode cX5_init 65 = .ok (.sipush 333, 3) := by decide +kernel
theorem dX5_init_68 : decode cX5_init 68 = .ok (.iconst 3, 1) := by decide +kernel
theorem dX5_init_69 : decode cX5_init 69 = .ok (.invokevirtual 32, 3) := by decide +kernel
theorem dX5_init_72 : decode cX5_init 72 = .ok (.pop, 1) := by decide +kernel
theorem dX5_init_73 : decode cX5_init 73 = .ok (.aload_n 0, 1) := by decide +kernel
theorem dX5_init_74 : decode cX5_init 74 = .ok (.invokevirtual 28, 3) := by decide +kernel
theorem dX5_init_77 : decode cX5_init 77 = .ok (.pop, 1) := by decide +kernel
theorem dX5_init_78 : decode cX5_init 78 = .ok (.aload_n 0, 1) := by decide +kernel
theorem dX5_init_79 : decode cX5_init 79 = .ok (.sipush 500, 3) := by decide +kernel
theorem dX5_init_82 : decode cX5_init 82 = .ok (.iconst 1, 1) := by decide +kernel
theorem dX5_init_83 : decode cX5_init 83 = .ok (.invokevirtual 32, 3) := by decide +kernel
theorem dX5_init_86 : decode cX5_init 86 = .ok (.pop, 1) := by decide +kernel
theorem dX5_init_87 : decode cX5_init 87 = .ok (.aload_n 0, 1) := by decide +kernel
theorem dX5_init_88 : decode cX5_init 88 = .ok (.sipush 900, 3) := by decide +kernel
theorem dX5_init_91 : decode cX5_init 91 = .ok (.iconst 0, 1) := by decide +kernel
theorem dX5_init_92 : decode cX5_init 92 = .ok (.invokevirtual 32, 3) := by decide +kernel
theorem dX5_init_95 : decode cX5_init 95 = .ok (.pop, 1) := by decide +kernel
theorem dX5_init_96 : decode cX5_init 96 = .ok (.aload_n 0, 1) := by decide +kernel
theorem dX5_init_97 : decode cX5_init 97 = .ok (.getfield 13, 3) := by decide +kernel
theorem dX5_init_100 : decode cX5_init 100 = .ok (.iconst 1, 1) := by decide +kernel
theorem dX5_init_101 : decode cX5_init 101 = .ok (.bipush 10, 2) := by decide +kernel
theorem dX5_init_103 : decode cX5_init 103 = .ok (.invokestatic 36, 3) := by decide +kernel
theorem dX5_init_106 : decode cX5_init 106 = .ok (.bipush 10, 2) := by decide +kernel
theorem dX5_init_108 : decode cX5_init 108 = .ok (.iastore, 1) := by decide +kernel
theorem dX5_init_109 : decode cX5_init 109 = .ok (.aload_n 0, 1) := by decide +kernel
theorem dX5_init_110 : decode cX5_init 110 = .ok (.invokevirtual 28, 3) := by decide +kernel
theorem dX5_init_113 : decode cX5_init 113 = .ok (.pop, 1) := by decide +kernel
theorem dX5_init_114 : decode cX5_init 114 = .ok (.aload_n 0, 1) := by decide +kernel
theorem dX5_init_115 : decode cX5_init 115 = .ok (.sipush 640, 3) := by decide +kernel
theorem dX5_init_118 : decode cX5_init 118 = .ok (.iconst 2, 1) := by decide +kernel
theorem dX5_init_119 : decode cX5_init 119 = .ok (.invokevirtual 32, 3) := by decide +kernel
theorem dX5_init_122 : decode cX5_init 122 = .ok (.pop, 1) := by decide +kernel
theorem dX5_init_123 : decode cX5_init 123 = .ok (.aload_n 0, 1) := by decide +kernel
theorem dX5_init_124 : decode cX5_init 124 = .ok (.invokevirtual 40, 3) := by decide +kernel
theorem dX5_init_127 : decode cX5_init 127 = .ok (.return_, 1) := by decide +kernel
theorem dX5_in_0 : decode cX5_in 0 = .ok (.iload_n 0, 1) := by decide +kernel
theorem dX5_in_1 : decode cX5_in 1 = .ok (.iload_n 1, 1) := by decide +kernel
theorem dX5_in_2 : decode cX5_in 2 = .ok (.if_icmp .lt 12, 3) := by decide +kernel
theorem dX5_in_5 : decode cX5_in 5 = .ok (.iload_n 0, 1) := by decide +kernel
theorem dX5_in_6 : decode cX5_in 6 = .ok (.iload_n 2, 1) := by decide +kernel
theorem dX5_in_7 : decode cX5_in 7 = .ok (.if_icmp .gt 7, 3) := by decide +kernel
theorem dX5_in_10 : decode cX5_in 10 = .ok (.iconst 1, 1) := by decide +kernel
theorem dX5_in_11 : decode cX5_in 11 = .ok (.goto 4, 3) := by decide +kernel
theorem dX5_in_14 : decode cX5_in 14 = .ok (.iconst 0, 1) := by decide +kernel
theorem dX5_in_15 : decode cX5_in 15 = .ok (.ireturn, 1) := by decide +kernel
theorem dX5_lesser_0 : decode cX5_lesser 0 = .ok (.iload_n 0, 1) := by decide +kernel
theorem dX5_lesser_1 : decode cX5_lesser 1 = .ok (.iload_n 1, 1) := by decide +kernel
theorem dX5_lesser_2 : decode cX5_lesser 2 = .ok (.if_icmp .ge 7, 3) := by decide +kernel
theorem dX5_lesser_5 : decode cX5_lesser 5 = .ok (.iload_n 0, 1) := by decide +kernel
theorem dX5_lesser_6 : decode cX5_lesser 6 = .ok (.goto 4, 3) := by decide +kernel
theorem dX5_lesser_9 : decode cX5_lesser 9 = .ok (.iload_n 1, 1) := by decide +kernel
theorem dX5_lesser_10 : decode cX5_lesser 10 = .ok (.ireturn, 1) := by decide +kernel
theorem dX5_greater_0 : decode cX5_greater 0 = .ok (.iload_n 0, 1) := by decide +kernel
theorem dX5_greater_1 : decode cX5_greater 1 = .ok (.iload_n 1, 1) := by decide +kernel
theorem dX5_greater_2 : decode cX5_greater 2 = .ok (.if_icmp .le 7, 3) := by decide +kernel
theorem dX5_greater_5 : decode cX5_greater 5 = .ok (.iload_n 0, 1) := by decide +kernel
theorem dX5_greater_6 : decode cX5_greater 6 = .ok (.goto 4, 3) := by decide +kernel
theorem dX5_greater_9 : decode cX5_greater 9 = .ok (.iload_n 1, 1) := by decide +kernel
theorem dX5_greater_10 : decode cX5_greater 10 = .ok (.ireturn, 1) := by decide +kernel
theorem dX5_at_0 : decode cX5_at 0 = .ok (.bipush 7, 2) := by decide +kernel
theorem dX5_at_2 : decode cX5_at 2 = .ok (.bipush 24, 2) := by decide +kernel
theorem dX5_at_4 : decode cX5_at 4 = .ok (.iload_n 0, 1) := by decide +kernel
theorem dX5_at_5 : decode cX5_at 5 = .ok (.imul, 1) := by decide +kernel
theorem dX5_at_6 : decode cX5_at 6 = .ok (.iadd, 1) := by decide +kernel
theorem dX5_at_7 : decode cX5_at 7 = .ok (.iload_n 1, 1) := by decide +kernel
theorem dX5_at_8 : decode cX5_at 8 = .ok (.iadd, 1) := by decide +kernel
theorem dX5_at_9 : decode cX5_at 9 = .ok (.ireturn, 1) := by decide +kernel
theorem dX5_copies_0 : decode cX5_copies 0 = .ok (.iconst 0, 1) := by decide +kernel
theorem dX5_copies_1 : decode cX5_copies 1 = .ok (.istore 4, 2) := by decide +kernel
theorem dX5_copies_3 : decode cX5_copies 3 = .ok (.iload 4, 2) := by decide +kernel
theorem dX5_copies_5 : decode cX5_copies 5 = .ok (.bipush 103, 2) := by decide +kernel
theorem dX5_copies_7 : decode cX5_copies 7 = .ok (.if_icmp .ge 21, 3) := by decide +kernel
theorem dX5_copies_10 : decode cX5_copies 10 = .ok (.aload_n 2, 1) := by decide +kernel
theorem dX5_copies_11 : decode cX5_copies 11 = .ok (.iload_n 3, 1) := by decide +kernel
theorem dX5_copies_12 : decode cX5_copies 12 = .ok (.iload 4, 2) := by decide +kernel
theorem dX5_copies_14 : decode cX5_copies 14 = .ok (.iadd, 1) := by decide +kernel
theorem dX5_copies_15 : decode cX5_copies 15 = .ok (.aload_n 0, 1) := by decide +kernel
theorem dX5_copies_16 : decode cX5_copies 16 = .ok (.iload_n 1, 1) := by decide +kernel
theorem dX5_copies_17 : decode cX5_copies 17 = .ok (.iload 4, 2) := by decide +kernel
theorem dX5_copies_19 : decode cX5_copies 19 = .ok (.iadd, 1) := by decide +kernel
theorem dX5_copies_20 : decode cX5_copies 20 = .ok (.iaload, 1) := by decide +kernel
theorem dX5_copies_21 : decode cX5_copies 21 = .ok (.iastore, 1) := by decide +kernel
theorem dX5_copies_22 : decode cX5_copies 22 = .ok (.iinc 4 1, 3) := by decide +kernel
theorem dX5_copies_25 : decode cX5_copies 25 = .ok (.goto (-22), 3) := by decide +kernel
theorem dX5_copies_28 : decode cX5_copies 28 = .ok (.return_, 1) := by decide +kernel
theorem dX5_begins_0 : decode cX5_begins 0 = .ok (.iconst 0, 1) := by decide +kernel
theorem dX5_begins_1 : decode cX5_begins 1 = .ok (.istore_n 1, 1) := by decide +kernel
theorem dX5_begins_2 : decode cX5_begins 2 = .ok (.iload_n 1, 1) := by decide +kernel
theorem dX5_begins_3 : decode cX5_begins 3 = .ok (.bipush 103, 2) := by decide +kernel
theorem dX5_begins_5 : decode cX5_begins 5 = .ok (.if_icmp .ge 16, 3) := by decide +kernel
theorem dX5_begins_8 : decode cX5_begins 8 = .ok (.aload_n 0, 1) := by decide +kernel
theorem dX5_begins_9 : decode cX5_begins 9 = .ok (.getfield 13, 3) := by decide +kernel
theorem dX5_begins_12 : decode cX5_begins 12 = .ok (.iload_n 1, 1) := by decide +kernel
theorem dX5_begins_13 : decode cX5_begins 13 = .ok (.iconst 0, 1) := by decide +kernel
theorem dX5_begins_14 : decode cX5_begins 14 = .ok (.iastore, 1) := by decide +kernel
theorem dX5_begins_15 : decode cX5_begins 15 = .ok (.iinc 1 1, 3) := by decide +kernel
theorem dX5_begins_18 : decode cX5_begins 18 = .ok (.goto (-16), 3) := by decide +kernel
theorem dX5_begins_21 : decode cX5_begins 21 = .ok (.aload_n 0, 1) := by decide +kernel
theorem dX5_begins_22 : decode cX5_begins 22 = .ok (.getfield 13, 3) := by decide +kernel
theorem dX5_begins_25 : decode cX5_begins 25 = .ok (.iconst 2, 1) := by decide +kernel
theorem dX5_begins_26 : decode cX5_begins 26 = .ok (.bipush 60, 2) := by decide +kernel
theorem dX5_begins_28 : decode cX5_begins 28 = .ok (.iastore, 1) := by decide +kernel
theorem dX5_begins_29 : decode cX5_begins 29 = .ok (.aload_n 0, 1) := by decide +kernel
theorem dX5_begins_30 : decode cX5_begins 30 = .ok (.getfield 13, 3) := by decide +kernel
theorem dX5_begins_33 : decode cX5_begins 33 = .ok (.iconst 3, 1) := by decide +kernel
theorem dX5_begins_34 : decode cX5_begins 34 = .ok (.sipush 900, 3) := by decide +kernel
theorem dX5_begins_37 : decode cX5_begins 37 = .ok (.iastore, 1) := by decide +kernel
theorem dX5_begins_38 : decode cX5_begins 38 = .ok (.aload_n 0, 1) := by decide +kernel
theorem dX5_begins_39 : decode cX5_begins 39 = .ok (.getfield 13, 3) := by decide +kernel
theorem dX5_begins_42 : decode cX5_begins 42 = .ok (.iconst 4, 1) := by decide +kernel
theorem dX5_begins_43 : decode cX5_begins 43 = .ok (.bipush 20, 2) := by decide +kernel
theorem dX5_begins_45 : decode cX5_begins 45 = .ok (.iastore, 1) := by decide +kernel
theorem dX5_begins_46 : decode cX5_begins 46 = .ok (.aload_n 0, 1) := by decide +kernel
theorem dX5_begins_47 : decode cX5_begins 47 = .ok (.getfield 13, 3) := by decide +kernel
theorem dX5_begins_50 : decode cX5_begins 50 = .ok (.iconst 5, 1) := by decide +kernel
theorem dX5_begins_51 : decode cX5_begins 51 = .ok (.iconst 1, 1) := by decide +kernel
theorem dX5_begins_52 : decode cX5_begins 52 = .ok (.iastore, 1) := by decide +kernel
theorem dX5_begins_53 : decode cX5_begins 53 = .ok (.return_, 1) := by decide +kernel
theorem dX5_addsWay_0 : decode cX5_addsWay 0 = .ok (.aload_n 0, 1) := by decide +kernel
theorem dX5_addsWay_1 : decode cX5_addsWay 1 = .ok (.getfield 13, 3) := by decide +kernel
theorem dX5_addsWay_4 : decode cX5_addsWay 4 = .ok (.iconst 0, 1) := by decide +kernel
theorem dX5_addsWay_5 : decode cX5_addsWay 5 = .ok (.iaload, 1) := by decide +kernel
theorem dX5_addsWay_6 : decode cX5_addsWay 6 = .ok (.iconst 4, 1) := by decide +kernel
theorem dX5_addsWay_7 : decode cX5_addsWay 7 = .ok (.if_icmp .ge 7, 3) := by decide +kernel
theorem dX5_addsWay_10 : decode cX5_addsWay 10 = .ok (.iconst 1, 1) := by decide +kernel
theorem dX5_addsWay_11 : decode cX5_addsWay 11 = .ok (.goto 4, 3) := by decide +kernel
theorem dX5_addsWay_14 : decode cX5_addsWay 14 = .ok (.iconst 0, 1) := by decide +kernel
theorem dX5_addsWay_15 : decode cX5_addsWay 15 = .ok (.istore_n 1, 1) := by decide +kernel
theorem dX5_addsWay_16 : decode cX5_addsWay 16 = .ok (.aload_n 0, 1) := by decide +kernel
theorem dX5_addsWay_17 : decode cX5_addsWay 17 = .ok (.getfield 13, 3) := by decide +kernel
theorem dX5_addsWay_20 : decode cX5_addsWay 20 = .ok (.iconst 0, 1) := by decide +kernel
theorem dX5_addsWay_21 : decode cX5_addsWay 21 = .ok (.dup2, 1) := by decide +kernel
theorem dX5_addsWay_22 : decode cX5_addsWay 22 = .ok (.iaload, 1) := by decide +kernel
theorem dX5_addsWay_23 : decode cX5_addsWay 23 = .ok (.iload_n 1, 1) := by decide +kernel
theorem dX5_addsWay_24 : decode cX5_addsWay 24 = .ok (.ifCond .eq 7, 3) := by decide +kernel
theorem dX5_addsWay_27 : decode cX5_addsWay 27 = .ok (.iconst 1, 1) := by decide +kernel
theorem dX5_addsWay_28 : decode cX5_addsWay 28 = .ok (.goto 4, 3) := by decide +kernel
theorem dX5_addsWay_31 : decode cX5_addsWay 31 = .ok (.iconst 0, 1) := by decide +kernel
theorem dX5_addsWay_32 : decode cX5_addsWay 32 = .ok (.iadd, 1) := by decide +kernel
theorem dX5_addsWay_33 : decode cX5_addsWay 33 = .ok (.iastore, 1) := by decide +kernel
theorem dX5_addsWay_34 : decode cX5_addsWay 34 = .ok (.iload_n 1, 1) := by decide +kernel
theorem dX5_addsWay_35 : decode cX5_addsWay 35 = .ok (.ireturn, 1) := by decide +kernel
theorem dX5_addsHop_0 : decode cX5_addsHop 0 = .ok (.aload_n 0, 1) := by decide +kernel
theorem dX5_addsHop_1 : decode cX5_addsHop 1 = .ok (.getfield 13, 3) := by decide +kernel
theorem dX5_addsHop_4 : decode cX5_addsHop 4 = .ok (.iconst 0, 1) := by decide +kernel
theorem dX5_addsHop_5 : decode cX5_addsHop 5 = .ok (.iaload, 1) := by decide +kernel
theorem dX5_addsHop_6 : decode cX5_addsHop 6 = .ok (.iconst 1, 1) := by decide +kernel
theorem dX5_addsHop_7 : decode cX5_addsHop 7 = .ok (.isub, 1) := by decide +kernel
theorem dX5_addsHop_8 : decode cX5_addsHop 8 = .ok (.istore_n 3, 1) := by decide +kernel
theorem dX5_addsHop_9 : decode cX5_addsHop 9 = .ok (.iload_n 3, 1) := by decide +kernel
theorem dX5_addsHop_10 : decode cX5_addsHop 10 = .ok (.ifCond .lt 19, 3) := by decide +kernel
theorem dX5_addsHop_13 : decode cX5_addsHop 13 = .ok (.aload_n 0, 1) := by decide +kernel
theorem dX5_addsHop_14 : decode cX5_addsHop 14 = .ok (.getfield 13, 3) := by decide +kernel
theorem dX5_addsHop_17 : decode cX5_addsHop 17 = .ok (.iload_n 3, 1) := by decide +kernel
theorem dX5_addsHop_18 : decode cX5_addsHop 18 = .ok (.bipush 11, 2) := by decide +kernel
theorem dX5_addsHop_20 : decode cX5_addsHop 20 = .ok (.invokestatic 36, 3) := by decide +kernel
theorem dX5_addsHop_23 : decode cX5_addsHop 23 = .ok (.iaload, 1) := by decide +kernel
theorem dX5_addsHop_24 : decode cX5_addsHop 24 = .ok (.bipush 6, 2) := by decide +kernel
theorem dX5_addsHop_26 : decode cX5_addsHop 26 = .ok (.if_icmp .ne 5, 3) := by decide +kernel
theorem dX5_addsHop_29 : decode cX5_addsHop 29 = .ok (.iconst 0, 1) := by decide +kernel
theorem dX5_addsHop_30 : decode cX5_addsHop 30 = .ok (.ireturn, 1) := by decide +kernel
theorem dX5_addsHop_31 : decode cX5_addsHop 31 = .ok (.aload_n 0, 1) := by decide +kernel
theorem dX5_addsHop_32 : decode cX5_addsHop 32 = .ok (.getfield 13, 3) := by decide +kernel
theorem dX5_addsHop_35 : decode cX5_addsHop 35 = .ok (.iload_n 3, 1) := by decide +kernel
theorem dX5_addsHop_36 : decode cX5_addsHop 36 = .ok (.bipush 11, 2) := by decide +kernel
theorem dX5_addsHop_38 : decode cX5_addsHop 38 = .ok (.invokestatic 36, 3) := by decide +kernel
theorem dX5_addsHop_41 : decode cX5_addsHop 41 = .ok (.iaload, 1) := by decide +kernel
theorem dX5_addsHop_42 : decode cX5_addsHop 42 = .ok (.istore 4, 2) := by decide +kernel
theorem dX5_addsHop_44 : decode cX5_addsHop 44 = .ok (.aload_n 0, 1) := by decide +kernel
theorem dX5_addsHop_45 : decode cX5_addsHop 45 = .ok (.getfield 13, 3) := by decide +kernel
theorem dX5_addsHop_48 : decode cX5_addsHop 48 = .ok (.iload_n 3, 1) := by decide +kernel
theorem dX5_addsHop_49 : decode cX5_addsHop 49 = .ok (.bipush 12, 2) := by decide +kernel
theorem dX5_addsHop_51 : decode cX5_addsHop 51 = .ok (.iload 4, 2) := by decide +kernel
theorem dX5_addsHop_53 : decode cX5_addsHop 53 = .ok (.iadd, 1) := by decide +kernel
theorem dX5_addsHop_54 : decode cX5_addsHop 54 = .ok (.invokestatic 36, 3) := by decide +kernel
theorem dX5_addsHop_57 : decode cX5_addsHop 57 = .ok (.iload_n 1, 1) := by decide +kernel
theorem dX5_addsHop_58 : decode cX5_addsHop 58 = .ok (.iastore, 1) := by decide +kernel
theorem dX5_addsHop_59 : decode cX5_addsHop 59 = .ok (.aload_n 0, 1) := by decide +kernel
theorem dX5_addsHop_60 : decode cX5_addsHop 60 = .ok (.getfield 13, 3) := by decide +kernel
theorem dX5_addsHop_63 : decode cX5_addsHop 63 = .ok (.iload_n 3, 1) := by decide +kernel
theorem dX5_addsHop_64 : decode cX5_addsHop 64 = .ok (.bipush 18, 2) := by decide +kernel
theorem dX5_addsHop_66 : decode cX5_addsHop 66 = .ok (.iload 4, 2) := by decide +kernel
theorem dX5_addsHop_68 : decode cX5_addsHop 68 = .ok (.iadd, 1) := by decide +kernel
theorem dX5_addsHop_69 : decode cX5_addsHop 69 = .ok (.invokestatic 36, 3) := by decide +kernel
theorem dX5_addsHop_72 : decode cX5_addsHop 72 = .ok (.iload_n 2, 1) := by decide +kernel
theorem dX5_addsHop_73 : decode cX5_addsHop 73 = .ok (.iastore, 1) := by decide +kernel
theorem dX5_addsHop_74 : decode cX5_addsHop 74 = .ok (.aload_n 0, 1) := by decide +kernel
theorem dX5_addsHop_75 : decode cX5_addsHop 75 = .ok (.getfield 13, 3) := by decide +kernel
theorem dX5_addsHop_78 : decode cX5_addsHop 78 = .ok (.iload_n 3, 1) := by decide +kernel
theorem dX5_addsHop_79 : decode cX5_addsHop 79 = .ok (.bipush 11, 2) := by decide +kernel
theorem dX5_addsHop_81 : decode cX5_addsHop 81 = .ok (.invokestatic 36, 3) := by decide +kernel
theorem dX5_addsHop_84 : decode cX5_addsHop 84 = .ok (.dup2, 1) := by decide +kernel
theorem dX5_addsHop_85 : decode cX5_addsHop 85 = .ok (.iaload, 1) := by decide +kernel
theorem dX5_addsHop_86 : decode cX5_addsHop 86 = .ok (.iconst 1, 1) := by decide +kernel
theorem dX5_addsHop_87 : decode cX5_addsHop 87 = .ok (.iadd, 1) := by decide +kernel
theorem dX5_addsHop_88 : decode cX5_addsHop 88 = .ok (.iastore, 1) := by decide +kernel
theorem dX5_addsHop_89 : decode cX5_addsHop 89 = .ok (.iconst 1, 1) := by decide +kernel
theorem dX5_addsHop_90 : decode cX5_addsHop 90 = .ok (.ireturn, 1) := by decide +kernel
theorem dX5_takes_0 : decode cX5_takes 0 = .ok (.iconst 0, 1) := by decide +kernel
theorem dX5_takes_1 : decode cX5_takes 1 = .ok (.istore_n 1, 1) := by decide +kernel
theorem dX5_takes_2 : decode cX5_takes 2 = .ok (.iload_n 1, 1) := by decide +kernel
theorem dX5_takes_3 : decode cX5_takes 3 = .ok (.aload_n 0, 1) := by decide +kernel
theorem dX5_takes_4 : decode cX5_takes 4 = .ok (.getfield 13, 3) := by decide +kernel
theorem dX5_takes_7 : decode cX5_takes 7 = .ok (.iconst 0, 1) := by decide +kernel
theorem dX5_takes_8 : decode cX5_takes 8 = .ok (.iaload, 1) := by decide +kernel
theorem dX5_takes_9 : decode cX5_takes 9 = .ok (.if_icmp .ge 71, 3) := by decide +kernel
theorem dX5_takes_12 : decode cX5_takes 12 = .ok (.aload_n 0, 1) := by decide +kernel
theorem dX5_takes_13 : decode cX5_takes 13 = .ok (.getfield 13, 3) := by decide +kernel
theorem dX5_takes_16 : decode cX5_takes 16 = .ok (.iload_n 1, 1) := by decide +kernel
theorem dX5_takes_17 : decode cX5_takes 17 = .ok (.iconst 0, 1) := by decide +kernel
theorem dX5_takes_18 : decode cX5_takes 18 = .ok (.invokestatic 36, 3) := by decide +kernel
theorem dX5_takes_21 : decode cX5_takes 21 = .ok (.aload_n 0, 1) := by decide +kernel
theorem dX5_takes_22 : decode cX5_takes 22 = .ok (.getfield 13, 3) := by decide +kernel
theorem dX5_takes_25 : decode cX5_takes 25 = .ok (.iconst 2, 1) := by decide +kernel
theorem dX5_takes_26 : decode cX5_takes 26 = .ok (.iaload, 1) := by decide +kernel
theorem dX5_takes_27 : decode cX5_takes 27 = .ok (.iastore, 1) := by decide +kernel
theorem dX5_takes_28 : decode cX5_takes 28 = .ok (.aload_n 0, 1) := by decide +kernel
theorem dX5_takes_29 : decode cX5_takes 29 = .ok (.getfield 13, 3) := by decide +kernel
theorem dX5_takes_32 : decode cX5_takes 32 = .ok (.iload_n 1, 1) := by decide +kernel
theorem dX5_takes_33 : decode cX5_takes 33 = .ok (.iconst 1, 1) := by decide +kernel
theorem dX5_takes_34 : decode cX5_takes 34 = .ok (.invokestatic 36, 3) := by decide +kernel
theorem dX5_takes_37 : decode cX5_takes 37 = .ok (.aload_n 0, 1) := by decide +kernel
theorem dX5_takes_38 : decode cX5_takes 38 = .ok (.getfield 13, 3) := by decide +kernel
theorem dX5_takes_41 : decode cX5_takes 41 = .ok (.iconst 3, 1) := by decide +kernel
theorem dX5_takes_42 : decode cX5_takes 42 = .ok (.iaload, 1) := by decide +kernel
theorem dX5_takes_43 : decode cX5_takes 43 = .ok (.iastore, 1) := by decide +kernel
theorem dX5_takes_44 : decode cX5_takes 44 = .ok (.aload_n 0, 1) := by decide +kernel
theorem dX5_takes_45 : decode cX5_takes 45 = .ok (.getfield 13, 3) := by decide +kernel
theorem dX5_takes_48 : decode cX5_takes 48 = .ok (.iload_n 1, 1) := by decide +kernel
theorem dX5_takes_49 : decode cX5_takes 49 = .ok (.iconst 2, 1) := by decide +kernel
theorem dX5_takes_50 : decode cX5_takes 50 = .ok (.invokestatic 36, 3) := by decide +kernel
theorem dX5_takes_53 : decode cX5_takes 53 = .ok (.aload_n 0, 1) := by decide +kernel
theorem dX5_takes_54 : decode cX5_takes 54 = .ok (.getfield 13, 3) := by decide +kernel
theorem dX5_takes_57 : decode cX5_takes 57 = .ok (.iconst 2, 1) := by decide +kernel
theorem dX5_takes_58 : decode cX5_takes 58 = .ok (.iaload, 1) := by decide +kernel
theorem dX5_takes_59 : decode cX5_takes 59 = .ok (.aload_n 0, 1) := by decide +kernel
theorem dX5_takes_60 : decode cX5_takes 60 = .ok (.getfield 13, 3) := by decide +kernel
theorem dX5_takes_63 : decode cX5_takes 63 = .ok (.iconst 3, 1) := by decide +kernel
theorem dX5_takes_64 : decode cX5_takes 64 = .ok (.iaload, 1) := by decide +kernel
theorem dX5_takes_65 : decode cX5_takes 65 = .ok (.if_icmp .ne 7, 3) := by decide +kernel
theorem dX5_takes_68 : decode cX5_takes 68 = .ok (.iconst 1, 1) := by decide +kernel
theorem dX5_takes_69 : decode cX5_takes 69 = .ok (.goto 4, 3) := by decide +kernel
theorem dX5_takes_72 : decode cX5_takes 72 = .ok (.iconst 0, 1) := by decide +kernel
theorem dX5_takes_73 : decode cX5_takes 73 = .ok (.iastore, 1) := by decide +kernel
theorem dX5_takes_74 : decode cX5_takes 74 = .ok (.iinc 1 1, 3) := by decide +kernel
theorem dX5_takes_77 : decode cX5_takes 77 = .ok (.goto (-75), 3) := by decide +kernel
theorem dX5_takes_80 : decode cX5_takes 80 = .ok (.aload_n 0, 1) := by decide +kernel
theorem dX5_takes_81 : decode cX5_takes 81 = .ok (.getfield 13, 3) := by decide +kernel
theorem dX5_takes_84 : decode cX5_takes 84 = .ok (.iconst 0, 1) := by decide +kernel
theorem dX5_takes_85 : decode cX5_takes 85 = .ok (.aload_n 0, 1) := by decide +kernel
theorem dX5_takes_86 : decode cX5_takes 86 = .ok (.getfield 7, 3) := by decide +kernel
theorem dX5_takes_89 : decode cX5_takes 89 = .ok (.iconst 0, 1) := by decide +kernel
theorem dX5_takes_90 : decode cX5_takes 90 = .ok (.invokestatic 43, 3) := by decide +kernel
theorem dX5_takes_93 : decode cX5_takes 93 = .ok (.aload_n 0, 1) := by decide +kernel
theorem dX5_takes_94 : decode cX5_takes 94 = .ok (.iconst 0, 1) := by decide +kernel
theorem dX5_takes_95 : decode cX5_takes 95 = .ok (.putfield 47, 3) := by decide +kernel
theorem dX5_takes_98 : decode cX5_takes 98 = .ok (.return_, 1) := by decide +kernel
theorem dX5_isAt_0 : decode cX5_isAt 0 = .ok (.aload_n 0, 1) := by decide +kernel
theorem dX5_isAt_1 : decode cX5_isAt 1 = .ok (.getfield 51, 3) := by decide +kernel
theorem dX5_isAt_4 : decode cX5_isAt 4 = .ok (.aload_n 0, 1) := by decide +kernel
theorem dX5_isAt_5 : decode cX5_isAt 5 = .ok (.getfield 54, 3) := by decide +kernel
theorem dX5_isAt_8 : decode cX5_isAt 8 = .ok (.if_icmp .ge 24, 3) := by decide +kernel
theorem dX5_isAt_11 : decode cX5_isAt 11 = .ok (.aload_n 0, 1) := by decide +kernel
theorem dX5_isAt_12 : decode cX5_isAt 12 = .ok (.getfield 22, 3) := by decide +kernel
theorem dX5_isAt_15 : decode cX5_isAt 15 = .ok (.aload_n 0, 1) := by decide +kernel
theorem dX5_isAt_16 : decode cX5_isAt 16 = .ok (.getfield 51, 3) := by decide +kernel
theorem dX5_isAt_19 : decode cX5_isAt 19 = .ok (.iaload, 1) := by decide +kernel
theorem dX5_isAt_20 : decode cX5_isAt 20 = .ok (.iload_n 1, 1) := by decide +kernel
theorem dX5_isAt_21 : decode cX5_isAt 21 = .ok (.iload_n 2, 1) := by decide +kernel
theorem dX5_isAt_22 : decode cX5_isAt 22 = .ok (.invokestatic 57, 3) := by decide +kernel
theorem dX5_isAt_25 : decode cX5_isAt 25 = .ok (.ifCond .eq 7, 3) := by decide +kernel
theorem dX5_isAt_28 : decode cX5_isAt 28 = .ok (.iconst 1, 1) := by decide +kernel
theorem dX5_isAt_29 : decode cX5_isAt 29 = .ok (.goto 4, 3) := by decide +kernel
theorem dX5_isAt_32 : decode cX5_isAt 32 = .ok (.iconst 0, 1) := by decide +kernel
theorem dX5_isAt_33 : decode cX5_isAt 33 = .ok (.ireturn, 1) := by decide +kernel
theorem dX5_takesSign_0 : decode cX5_takesSign 0 = .ok (.aload_n 0, 1) := by decide +kernel
theorem dX5_takesSign_1 : decode cX5_takesSign 1 = .ok (.iload_n 1, 1) := by decide +kernel
theorem dX5_takesSign_2 : decode cX5_takesSign 2 = .ok (.iload_n 1, 1) := by decide +kernel
theorem dX5_takesSign_3 : decode cX5_takesSign 3 = .ok (.invokevirtual 61, 3) := by decide +kernel
theorem dX5_takesSign_6 : decode cX5_takesSign 6 = .ok (.istore_n 2, 1) := by decide +kernel
theorem dX5_takesSign_7 : decode cX5_takesSign 7 = .ok (.aload_n 0, 1) := by decide +kernel
theorem dX5_takesSign_8 : decode cX5_takesSign 8 = .ok (.dup, 1) := by decide +kernel
theorem dX5_takesSign_9 : decode cX5_takesSign 9 = .ok (.getfield 51, 3) := by decide +kernel
theorem dX5_takesSign_12 : decode cX5_takesSign 12 = .ok (.iload_n 2, 1) := by decide +kernel
theorem dX5_takesSign_13 : decode cX5_takesSign 13 = .ok (.ifCond .eq 7, 3) := by decide +kernel
theorem dX5_takesSign_16 : decode cX5_takesSign 16 = .ok (.iconst 1, 1) := by decide +kernel
theorem dX5_takesSign_17 : decode cX5_takesSign 17 = .ok (.goto 4, 3) := by decide +kernel
theorem dX5_takesSign_20 : decode cX5_takesSign 20 = .ok (.iconst 0, 1) := by decide +kernel
theorem dX5_takesSign_21 : decode cX5_takesSign 21 = .ok (.iadd, 1) := by decide +kernel
theorem dX5_takesSign_22 : decode cX5_takesSign 22 = .ok (.putfield 51, 3) := by decide +kernel
theorem dX5_takesSign_25 : decode cX5_takesSign 25 = .ok (.iload_n 2, 1) := by decide +kernel
theorem dX5_takesSign_26 : decode cX5_takesSign 26 = .ok (.ireturn, 1) := by decide +kernel
theorem dX5_takesWord_0 : decode cX5_takesWord 0 = .ok (.lconst 0, 1) := by decide +kernel
theorem dX5_takesWord_1 : decode cX5_takesWord 1 = .ok (.lstore_n 1, 1) := by decide +kernel
theorem dX5_takesWord_2 : decode cX5_takesWord 2 = .ok (.iconst 0, 1) := by decide +kernel
theorem dX5_takesWord_3 : decode cX5_takesWord 3 = .ok (.istore_n 3, 1) := by decide +kernel
theorem dX5_takesWord_4 : decode cX5_takesWord 4 = .ok (.aload_n 0, 1) := by decide +kernel
theorem dX5_takesWord_5 : decode cX5_takesWord 5 = .ok (.bipush 97, 2) := by decide +kernel
theorem dX5_takesWord_7 : decode cX5_takesWord 7 = .ok (.bipush 122, 2) := by decide +kernel
theorem dX5_takesWord_9 : decode cX5_takesWord 9 = .ok (.invokevirtual 61, 3) := by decide +kernel
theorem dX5_takesWord_12 : decode cX5_takesWord 12 = .ok (.ifCond .eq 64, 3) := by decide +kernel
theorem dX5_takesWord_15 : decode cX5_takesWord 15 = .ok (.iload_n 3, 1) := by decide +kernel
theorem dX5_takesWord_16 : decode cX5_takesWord 16 = .ok (.bipush 8, 2) := by decide +kernel
theorem dX5_takesWord_18 : decode cX5_takesWord 18 = .ok (.if_icmp .ge 26, 3) := by decide +kernel
theorem dX5_takesWord_21 : decode cX5_takesWord 21 = .ok (.ldc2_w 64, 3) := by decide +kernel
theorem dX5_takesWord_24 : decode cX5_takesWord 24 = .ok (.lload_n 1, 1) := by decide +kernel
theorem dX5_takesWord_25 : decode cX5_takesWord 25 = .ok (.lmul, 1) := by decide +kernel
theorem dX5_takesWord_26 : decode cX5_takesWord 26 = .ok (.aload_n 0, 1) := by decide +kernel
theorem dX5_takesWord_27 : decode cX5_takesWord 27 = .ok (.getfield 22, 3) := by decide +kernel
theorem dX5_takesWord_30 : decode cX5_takesWord 30 = .ok (.aload_n 0, 1) := by decide +kernel
theorem dX5_takesWord_31 : decode cX5_takesWord 31 = .ok (.getfield 51, 3) := by decide +kernel
theorem dX5_takesWord_34 : decode cX5_takesWord 34 = .ok (.iaload, 1) := by decide +kernel
theorem dX5_takesWord_35 : decode cX5_takesWord 35 = .ok (.i2l, 1) := by decide +kernel
theorem dX5_takesWord_36 : decode cX5_takesWord 36 = .ok (.ladd, 1) := by decide +kernel
theorem dX5_takesWord_37 : decode cX5_takesWord 37 = .ok (.ldc2_w 66, 3) := by decide +kernel
theorem dX5_takesWord_40 : decode cX5_takesWord 40 = .ok (.lsub, 1) := by decide +kernel
theorem dX5_takesWord_41 : decode cX5_takesWord 41 = .ok (.goto 6, 3) := by decide +kernel
theorem dX5_takesWord_44 : decode cX5_takesWord 44 = .ok (.ldc2_w 68, 3) := by decide +kernel
theorem dX5_takesWord_47 : decode cX5_takesWord 47 = .ok (.lstore_n 1, 1) := by decide +kernel
theorem dX5_takesWord_48 : decode cX5_takesWord 48 = .ok (.lload_n 1, 1) := by decide +kernel
theorem dX5_takesWord_49 : decode cX5_takesWord 49 = .ok (.lconst 0, 1) := by decide +kernel
theorem dX5_takesWord_50 : decode cX5_takesWord 50 = .ok (.lcmp, 1) := by decide +kernel
theorem dX5_takesWord_51 : decode cX5_takesWord 51 = .ok (.ifCond .ge 8, 3) := by decide +kernel
theorem dX5_takesWord_54 : decode cX5_takesWord 54 = .ok (.bipush 9, 2) := by decide +kernel
theorem dX5_takesWord_56 : decode cX5_takesWord 56 = .ok (.goto 6, 3) := by decide +kernel
theorem dX5_takesWord_59 : decode cX5_takesWord 59 = .ok (.iload_n 3, 1) := by decide +kernel
theorem dX5_takesWord_60 : decode cX5_takesWord 60 = .ok (.iconst 1, 1) := by decide +kernel
theorem dX5_takesWord_61 : decode cX5_takesWord 61 = .ok (.iadd, 1) := by decide +kernel
theorem dX5_takesWord_62 : decode cX5_takesWord 62 = .ok (.istore_n 3, 1) := by decide +kernel
theorem dX5_takesWord_63 : decode cX5_takesWord 63 = .ok (.aload_n 0, 1) := by decide +kernel
theorem dX5_takesWord_64 : decode cX5_takesWord 64 = .ok (.dup, 1) := by decide +kernel
theorem dX5_takesWord_65 : decode cX5_takesWord 65 = .ok (.getfield 51, 3) := by decide +kernel
theorem dX5_takesWord_68 : decode cX5_takesWord 68 = .ok (.iconst 1, 1) := by decide +kernel
theorem dX5_takesWord_69 : decode cX5_takesWord 69 = .ok (.iadd, 1) := by decide +kernel
theorem dX5_takesWord_70 : decode cX5_takesWord 70 = .ok (.putfield 51, 3) := by decide +kernel
theorem dX5_takesWord_73 : decode cX5_takesWord 73 = .ok (.goto (-69), 3) := by decide +kernel
theorem dX5_takesWord_76 : decode cX5_takesWord 76 = .ok (.lload_n 1, 1) := by decide +kernel
theorem dX5_takesWord_77 : decode cX5_takesWord 77 = .ok (.lreturn, 1) := by decide +kernel
theorem dX5_takesNumber_0 : decode cX5_takesNumber 0 = .ok (.aload_n 0, 1) := by decide +kernel
theorem dX5_takesNumber_1 : decode cX5_takesNumber 1 = .ok (.bipush 32, 2) := by decide +kernel
theorem dX5_takesNumber_3 : decode cX5_takesNumber 3 = .ok (.invokevirtual 70, 3) := by decide +kernel
theorem dX5_takesNumber_6 : decode cX5_takesNumber 6 = .ok (.ifCond .ne 6, 3) := by decide +kernel
theorem dX5_takesNumber_9 : decode cX5_takesNumber 9 = .ok (.bipush (-4), 2) := by decide +kernel
theorem dX5_takesNumber_11 : decode cX5_takesNumber 11 = .ok (.ireturn, 1) := by decide +kernel
theorem dX5_takesNumber_12 : decode cX5_takesNumber 12 = .ok (.aload_n 0, 1) := by decide +kernel
theorem dX5_takesNumber_13 : decode cX5_takesNumber 13 = .ok (.getfield 51, 3) := by decide +kernel
theorem dX5_takesNumber_16 : decode cX5_takesNumber 16 = .ok (.istore_n 3, 1) := by decide +kernel
theorem dX5_takesNumber_17 : decode cX5_takesNumber 17 = .ok (.iconst 0, 1) := by decide +kernel
theorem dX5_takesNumber_18 : decode cX5_takesNumber 18 = .ok (.istore 4, 2) := by decide +kernel
theorem dX5_takesNumber_20 : decode cX5_takesNumber 20 = .ok (.aload_n 0, 1) := by decide +kernel
theorem dX5_takesNumber_21 : decode cX5_takesNumber 21 = .ok (.getfield 51, 3) := by decide +kernel
theorem dX5_takesNumber_24 : decode cX5_takesNumber 24 = .ok (.iload_n 3, 1) := by decide +kernel
theorem dX5_takesNumber_25 : decode cX5_takesNumber 25 = .ok (.iconst 4, 1) := by decide +kernel
theorem dX5_takesNumber_26 : decode cX5_takesNumber 26 = .ok (.iadd, 1) := by decide +kernel
theorem dX5_takesNumber_27 : decode cX5_takesNumber 27 = .ok (.if_icmp .ge 47, 3) := by decide +kernel
theorem dX5_takesNumber_30 : decode cX5_takesNumber 30 = .ok (.aload_n 0, 1) := by decide +kernel
theorem dX5_takesNumber_31 : decode cX5_takesNumber 31 = .ok (.bipush 48, 2) := by decide +kernel
theorem dX5_takesNumber_33 : decode cX5_takesNumber 33 = .ok (.bipush 57, 2) := by decide +kernel
theorem dX5_takesNumber_35 : decode cX5_takesNumber 35 = .ok (.invokevirtual 61, 3) := by decide +kernel
theorem dX5_takesNumber_38 : decode cX5_takesNumber 38 = .ok (.ifCond .eq 36, 3) := by decide +kernel
theorem dX5_takesNumber_41 : decode cX5_takesNumber 41 = .ok (.bipush 10, 2) := by decide +kernel
theorem dX5_takesNumber_43 : decode cX5_takesNumber 43 = .ok (.iload 4, 2) := by decide +kernel
theorem dX5_takesNumber_45 : decode cX5_takesNumber 45 = .ok (.imul, 1) := by decide +kernel
theorem dX5_takesNumber_46 : decode cX5_takesNumber 46 = .ok (.aload_n 0, 1) := by decide +kernel
theorem dX5_takesNumber_47 : decode cX5_takesNumber 47 = .ok (.getfield 22, 3) := by decide +kernel
theorem dX5_takesNumber_50 : decode cX5_takesNumber 50 = .ok (.aload_n 0, 1) := by decide +kernel
theorem dX5_takesNumber_51 : decode cX5_takesNumber 51 = .ok (.getfield 51, 3) := by decide +kernel
theorem dX5_takesNumber_54 : decode cX5_takesNumber 54 = .ok (.iaload, 1) := by decide +kernel
theorem dX5_takesNumber_55 : decode cX5_takesNumber 55 = .ok (.iadd, 1) := by decide +kernel
theorem dX5_takesNumber_56 : decode cX5_takesNumber 56 = .ok (.bipush 48, 2) := by decide +kernel
theorem dX5_takesNumber_58 : decode cX5_takesNumber 58 = .ok (.isub, 1) := by decide +kernel
theorem dX5_takesNumber_59 : decode cX5_takesNumber 59 = .ok (.istore 4, 2) := by decide +kernel
theorem dX5_takesNumber_61 : decode cX5_takesNumber 61 = .ok (.aload_n 0, 1) := by decide +kernel
theorem dX5_takesNumber_62 : decode cX5_takesNumber 62 = .ok (.dup, 1) := by decide +kernel
theorem dX5_takesNumber_63 : decode cX5_takesNumber 63 = .ok (.getfield 51, 3) := by decide +kernel
theorem dX5_takesNumber_66 : decode cX5_takesNumber 66 = .ok (.iconst 1, 1) := by decide +kernel
theorem dX5_takesNumber_67 : decode cX5_takesNumber 67 = .ok (.iadd, 1) := by decide +kernel
theorem dX5_takesNumber_68 : decode cX5_takesNumber 68 = .ok (.putfield 51, 3) := by decide +kernel
theorem dX5_takesNumber_71 : decode cX5_takesNumber 71 = .ok (.goto (-51), 3) := by decide +kernel
theorem dX5_takesNumber_74 : decode cX5_takesNumber 74 = .ok (.aload_n 0, 1) := by decide +kernel
theorem dX5_takesNumber_75 : decode cX5_takesNumber 75 = .ok (.getfield 51, 3) := by decide +kernel
theorem dX5_takesNumber_78 : decode cX5_takesNumber 78 = .ok (.iload_n 3, 1) := by decide +kernel
theorem dX5_takesNumber_79 : decode cX5_takesNumber 79 = .ok (.if_icmp .le 18, 3) := by decide +kernel
theorem dX5_takesNumber_82 : decode cX5_takesNumber 82 = .ok (.iload 4, 2) := by decide +kernel
theorem dX5_takesNumber_84 : decode cX5_takesNumber 84 = .ok (.iload_n 1, 1) := by decide +kernel
theorem dX5_takesNumber_85 : decode cX5_takesNumber 85 = .ok (.iload_n 2, 1) := by decide +kernel
theorem dX5_takesNumber_86 : decode cX5_takesNumber 86 = .ok (.invokestatic 57, 3) := by decide +kernel
theorem dX5_takesNumber_89 : decode cX5_takesNumber 89 = .ok (.ifCond .eq 8, 3) := by decide +kernel
theorem dX5_takesNumber_92 : decode cX5_takesNumber 92 = .ok (.iload 4, 2) := by decide +kernel
theorem dX5_takesNumber_94 : decode cX5_takesNumber 94 = .ok (.goto 5, 3) := by decide +kernel
theorem dX5_takesNumber_97 : decode cX5_takesNumber 97 = .ok (.bipush (-4), 2) := by decide +kernel
theorem dX5_takesNumber_99 : decode cX5_takesNumber 99 = .ok (.ireturn, 1) := by decide +kernel
theorem dX5_puts_0 : decode cX5_puts 0 = .ok (.aload_n 0, 1) := by decide +kernel
theorem dX5_puts_1 : decode cX5_puts 1 = .ok (.iload_n 2, 1) := by decide +kernel
theorem dX5_puts_2 : decode cX5_puts 2 = .ok (.iload_n 3, 1) := by decide +kernel
theorem dX5_puts_3 : decode cX5_puts 3 = .ok (.invokevirtual 74, 3) := by decide +kernel
theorem dX5_puts_6 : decode cX5_puts 6 = .ok (.istore 4, 2) := by decide +kernel
theorem dX5_puts_8 : decode cX5_puts 8 = .ok (.aload_n 0, 1) := by decide +kernel
theorem dX5_puts_9 : decode cX5_puts 9 = .ok (.getfield 13, 3) := by decide +kernel
theorem dX5_puts_12 : decode cX5_puts 12 = .ok (.iload_n 1, 1) := by decide +kernel
theorem dX5_puts_13 : decode cX5_puts 13 = .ok (.iload 4, 2) := by decide +kernel
theorem dX5_puts_15 : decode cX5_puts 15 = .ok (.bipush (-4), 2) := by decide +kernel
theorem dX5_puts_17 : decode cX5_puts 17 = .ok (.if_icmp .ne 12, 3) := by decide +kernel
theorem dX5_puts_20 : decode cX5_puts 20 = .ok (.aload_n 0, 1) := by decide +kernel
theorem dX5_puts_21 : decode cX5_puts 21 = .ok (.getfield 13, 3) := by decide +kernel
theorem dX5_puts_24 : decode cX5_puts 24 = .ok (.iload_n 1, 1) := by decide +kernel
theorem dX5_puts_25 : decode cX5_puts 25 = .ok (.iaload, 1) := by decide +kernel
theorem dX5_puts_26 : decode cX5_puts 26 = .ok (.goto 5, 3) := by decide +kernel
theorem dX5_puts_29 : decode cX5_puts 29 = .ok (.iload 4, 2) := by decide +kernel
theorem dX5_puts_31 : decode cX5_puts 31 = .ok (.iastore, 1) := by decide +kernel
theorem dX5_puts_32 : decode cX5_puts 32 = .ok (.iload 4, 2) := by decide +kernel
theorem dX5_puts_34 : decode cX5_puts 34 = .ok (.bipush (-4), 2) := by decide +kernel
theorem dX5_puts_36 : decode cX5_puts 36 = .ok (.if_icmp .eq 7, 3) := by decide +kernel
theorem dX5_puts_39 : decode cX5_puts 39 = .ok (.iconst 1, 1) := by decide +kernel
theorem dX5_puts_40 : decode cX5_puts 40 = .ok (.goto 4, 3) := by decide +kernel
theorem dX5_puts_43 : decode cX5_puts 43 = .ok (.iconst 0, 1) := by decide +kernel
theorem dX5_puts_44 : decode cX5_puts 44 = .ok (.ireturn, 1) := by decide +kernel
theorem dX5_takesHop_0 : decode cX5_takesHop 0 = .ok (.aload_n 0, 1) := by decide +kernel
theorem dX5_takesHop_1 : decode cX5_takesHop 1 = .ok (.bipush 20, 2) := by decide +kernel
theorem dX5_takesHop_3 : decode cX5_takesHop 3 = .ok (.sipush 999, 3) := by decide +kernel
theorem dX5_takesHop_6 : decode cX5_takesHop 6 = .ok (.invokevirtual 74, 3) := by decide +kernel
theorem dX5_takesHop_9 : decode cX5_takesHop 9 = .ok (.istore_n 1, 1) := by decide +kernel
theorem dX5_takesHop_10 : decode cX5_takesHop 10 = .ok (.iload_n 1, 1) := by decide +kernel
theorem dX5_takesHop_11 : decode cX5_takesHop 11 = .ok (.bipush (-4), 2) := by decide +kernel
theorem dX5_takesHop_13 : decode cX5_takesHop 13 = .ok (.if_icmp .eq 12, 3) := by decide +kernel
theorem dX5_takesHop_16 : decode cX5_takesHop 16 = .ok (.aload_n 0, 1) := by decide +kernel
theorem dX5_takesHop_17 : decode cX5_takesHop 17 = .ok (.bipush 32, 2) := by decide +kernel
theorem dX5_takesHop_19 : decode cX5_takesHop 19 = .ok (.invokevirtual 70, 3) := by decide +kernel
theorem dX5_takesHop_22 : decode cX5_takesHop 22 = .ok (.ifCond .ne 5, 3) := by decide +kernel
theorem dX5_takesHop_25 : decode cX5_takesHop 25 = .ok (.iconst 0, 1) := by decide +kernel
theorem dX5_takesHop_26 : decode cX5_takesHop 26 = .ok (.ireturn, 1) := by decide +kernel
theorem dX5_takesHop_27 : decode cX5_takesHop 27 = .ok (.aload_n 0, 1) := by decide +kernel
theorem dX5_takesHop_28 : decode cX5_takesHop 28 = .ok (.invokevirtual 77, 3) := by decide +kernel
theorem dX5_takesHop_31 : decode cX5_takesHop 31 = .ok (.lstore_n 2, 1) := by decide +kernel
theorem dX5_takesHop_32 : decode cX5_takesHop 32 = .ok (.lload_n 2, 1) := by decide +kernel
theorem dX5_takesHop_33 : decode cX5_takesHop 33 = .ok (.ldc2_w 81, 3) := by decide +kernel
theorem dX5_takesHop_36 : decode cX5_takesHop 36 = .ok (.lcmp, 1) := by decide +kernel
theorem dX5_takesHop_37 : decode cX5_takesHop 37 = .ok (.ifCond .ne 7, 3) := by decide +kernel
theorem dX5_takesHop_40 : decode cX5_takesHop 40 = .ok (.iconst 0, 1) := by decide +kernel
theorem dX5_takesHop_41 : decode cX5_takesHop 41 = .ok (.goto 41, 3) := by decide +kernel
theorem dX5_takesHop_44 : decode cX5_takesHop 44 = .ok (.lload_n 2, 1) := by decide +kernel
theorem dX5_takesHop_45 : decode cX5_takesHop 45 = .ok (.ldc2_w 83, 3) := by decide +kernel
theorem dX5_takesHop_48 : decode cX5_takesHop 48 = .ok (.lcmp, 1) := by decide +kernel
theorem dX5_takesHop_49 : decode cX5_takesHop 49 = .ok (.ifCond .ne 7, 3) := by decide +kernel
theorem dX5_takesHop_52 : decode cX5_takesHop 52 = .ok (.iconst 1, 1) := by decide +kernel
theorem dX5_takesHop_53 : decode cX5_takesHop 53 = .ok (.goto 29, 3) := by decide +kernel
theorem dX5_takesHop_56 : decode cX5_takesHop 56 = .ok (.lload_n 2, 1) := by decide +kernel
theorem dX5_takesHop_57 : decode cX5_takesHop 57 = .ok (.ldc2_w 85, 3) := by decide +kernel
theorem dX5_takesHop_60 : decode cX5_takesHop 60 = .ok (.lcmp, 1) := by decide +kernel
theorem dX5_takesHop_61 : decode cX5_takesHop 61 = .ok (.ifCond .ne 7, 3) := by decide +kernel
theorem dX5_takesHop_64 : decode cX5_takesHop 64 = .ok (.iconst 2, 1) := by decide +kernel
theorem dX5_takesHop_65 : decode cX5_takesHop 65 = .ok (.goto 17, 3) := by decide +kernel
theorem dX5_takesHop_68 : decode cX5_takesHop 68 = .ok (.lload_n 2, 1) := by decide +kernel
