theorem dX5_takesHop_69 : decode cX5_takesHop 69 = .ok (.ldc2_w 87, 3) := by decide +kernel
theorem dX5_takesHop_72 : decode cX5_takesHop 72 = .ok (.lcmp, 1) := by decide +kernel
theorem dX5_takesHop_73 : decode cX5_takesHop 73 = .ok (.ifCond .ne 7, 3) := by decide +kernel
theorem dX5_takesHop_76 : decode cX5_takesHop 76 = .ok (.iconst 3, 1) := by decide +kernel
theorem dX5_takesHop_77 : decode cX5_takesHop 77 = .ok (.goto 5, 3) := by decide +kernel
theorem dX5_takesHop_80 : decode cX5_takesHop 80 = .ok (.bipush (-4), 2) := by decide +kernel
theorem dX5_takesHop_82 : decode cX5_takesHop 82 = .ok (.istore 4, 2) := by decide +kernel
theorem dX5_takesHop_84 : decode cX5_takesHop 84 = .ok (.iload 4, 2) := by decide +kernel
theorem dX5_takesHop_86 : decode cX5_takesHop 86 = .ok (.bipush (-4), 2) := by decide +kernel
theorem dX5_takesHop_88 : decode cX5_takesHop 88 = .ok (.if_icmp .eq 17, 3) := by decide +kernel
theorem dX5_takesHop_91 : decode cX5_takesHop 91 = .ok (.aload_n 0, 1) := by decide +kernel
theorem dX5_takesHop_92 : decode cX5_takesHop 92 = .ok (.iload_n 1, 1) := by decide +kernel
theorem dX5_takesHop_93 : decode cX5_takesHop 93 = .ok (.iload 4, 2) := by decide +kernel
theorem dX5_takesHop_95 : decode cX5_takesHop 95 = .ok (.invokevirtual 32, 3) := by decide +kernel
theorem dX5_takesHop_98 : decode cX5_takesHop 98 = .ok (.ifCond .eq 7, 3) := by decide +kernel
theorem dX5_takesHop_101 : decode cX5_takesHop 101 = .ok (.iconst 1, 1) := by decide +kernel
theorem dX5_takesHop_102 : decode cX5_takesHop 102 = .ok (.goto 4, 3) := by decide +kernel
theorem dX5_takesHop_105 : decode cX5_takesHop 105 = .ok (.iconst 0, 1) := by decide +kernel
theorem dX5_takesHop_106 : decode cX5_takesHop 106 = .ok (.ireturn, 1) := by decide +kernel
theorem dX5_takesBelief_0 : decode cX5_takesBelief 0 = .ok (.aload_n 0, 1) := by decide +kernel
theorem dX5_takesBelief_1 : decode cX5_takesBelief 1 = .ok (.bipush 32, 2) := by decide +kernel
theorem dX5_takesBelief_3 : decode cX5_takesBelief 3 = .ok (.invokevirtual 70, 3) := by decide +kernel
theorem dX5_takesBelief_6 : decode cX5_takesBelief 6 = .ok (.ifCond .ne 5, 3) := by decide +kernel
theorem dX5_takesBelief_9 : decode cX5_takesBelief 9 = .ok (.iconst 0, 1) := by decide +kernel
theorem dX5_takesBelief_10 : decode cX5_takesBelief 10 = .ok (.ireturn, 1) := by decide +kernel
theorem dX5_takesBelief_11 : decode cX5_takesBelief 11 = .ok (.aload_n 0, 1) := by decide +kernel
theorem dX5_takesBelief_12 : decode cX5_takesBelief 12 = .ok (.invokevirtual 77, 3) := by decide +kernel
theorem dX5_takesBelief_15 : decode cX5_takesBelief 15 = .ok (.lstore_n 1, 1) := by decide +kernel
theorem dX5_takesBelief_16 : decode cX5_takesBelief 16 = .ok (.lload_n 1, 1) := by decide +kernel
theorem dX5_takesBelief_17 : decode cX5_takesBelief 17 = .ok (.ldc2_w 89, 3) := by decide +kernel
theorem dX5_takesBelief_20 : decode cX5_takesBelief 20 = .ok (.lcmp, 1) := by decide +kernel
theorem dX5_takesBelief_21 : decode cX5_takesBelief 21 = .ok (.ifCond .ne 7, 3) := by decide +kernel
theorem dX5_takesBelief_24 : decode cX5_takesBelief 24 = .ok (.iconst 0, 1) := by decide +kernel
theorem dX5_takesBelief_25 : decode cX5_takesBelief 25 = .ok (.goto 29, 3) := by decide +kernel
theorem dX5_takesBelief_28 : decode cX5_takesBelief 28 = .ok (.lload_n 1, 1) := by decide +kernel
theorem dX5_takesBelief_29 : decode cX5_takesBelief 29 = .ok (.ldc2_w 91, 3) := by decide +kernel
theorem dX5_takesBelief_32 : decode cX5_takesBelief 32 = .ok (.lcmp, 1) := by decide +kernel
theorem dX5_takesBelief_33 : decode cX5_takesBelief 33 = .ok (.ifCond .ne 7, 3) := by decide +kernel
theorem dX5_takesBelief_36 : decode cX5_takesBelief 36 = .ok (.iconst 1, 1) := by decide +kernel
theorem dX5_takesBelief_37 : decode cX5_takesBelief 37 = .ok (.goto 17, 3) := by decide +kernel
theorem dX5_takesBelief_40 : decode cX5_takesBelief 40 = .ok (.lload_n 1, 1) := by decide +kernel
theorem dX5_takesBelief_41 : decode cX5_takesBelief 41 = .ok (.ldc2_w 93, 3) := by decide +kernel
theorem dX5_takesBelief_44 : decode cX5_takesBelief 44 = .ok (.lcmp, 1) := by decide +kernel
theorem dX5_takesBelief_45 : decode cX5_takesBelief 45 = .ok (.ifCond .ne 7, 3) := by decide +kernel
theorem dX5_takesBelief_48 : decode cX5_takesBelief 48 = .ok (.iconst 2, 1) := by decide +kernel
theorem dX5_takesBelief_49 : decode cX5_takesBelief 49 = .ok (.goto 5, 3) := by decide +kernel
theorem dX5_takesBelief_52 : decode cX5_takesBelief 52 = .ok (.bipush (-4), 2) := by decide +kernel
theorem dX5_takesBelief_54 : decode cX5_takesBelief 54 = .ok (.istore_n 3, 1) := by decide +kernel
theorem dX5_takesBelief_55 : decode cX5_takesBelief 55 = .ok (.aload_n 0, 1) := by decide +kernel
theorem dX5_takesBelief_56 : decode cX5_takesBelief 56 = .ok (.getfield 13, 3) := by decide +kernel
theorem dX5_takesBelief_59 : decode cX5_takesBelief 59 = .ok (.iconst 5, 1) := by decide +kernel
theorem dX5_takesBelief_60 : decode cX5_takesBelief 60 = .ok (.iload_n 3, 1) := by decide +kernel
theorem dX5_takesBelief_61 : decode cX5_takesBelief 61 = .ok (.bipush (-4), 2) := by decide +kernel
theorem dX5_takesBelief_63 : decode cX5_takesBelief 63 = .ok (.if_icmp .ne 12, 3) := by decide +kernel
theorem dX5_takesBelief_66 : decode cX5_takesBelief 66 = .ok (.aload_n 0, 1) := by decide +kernel
theorem dX5_takesBelief_67 : decode cX5_takesBelief 67 = .ok (.getfield 13, 3) := by decide +kernel
theorem dX5_takesBelief_70 : decode cX5_takesBelief 70 = .ok (.iconst 5, 1) := by decide +kernel
theorem dX5_takesBelief_71 : decode cX5_takesBelief 71 = .ok (.iaload, 1) := by decide +kernel
theorem dX5_takesBelief_72 : decode cX5_takesBelief 72 = .ok (.goto 4, 3) := by decide +kernel
theorem dX5_takesBelief_75 : decode cX5_takesBelief 75 = .ok (.iload_n 3, 1) := by decide +kernel
theorem dX5_takesBelief_76 : decode cX5_takesBelief 76 = .ok (.iastore, 1) := by decide +kernel
theorem dX5_takesBelief_77 : decode cX5_takesBelief 77 = .ok (.iload_n 3, 1) := by decide +kernel
theorem dX5_takesBelief_78 : decode cX5_takesBelief 78 = .ok (.bipush (-4), 2) := by decide +kernel
theorem dX5_takesBelief_80 : decode cX5_takesBelief 80 = .ok (.if_icmp .eq 7, 3) := by decide +kernel
theorem dX5_takesBelief_83 : decode cX5_takesBelief 83 = .ok (.iconst 1, 1) := by decide +kernel
theorem dX5_takesBelief_84 : decode cX5_takesBelief 84 = .ok (.goto 4, 3) := by decide +kernel
theorem dX5_takesBelief_87 : decode cX5_takesBelief 87 = .ok (.iconst 0, 1) := by decide +kernel
theorem dX5_takesBelief_88 : decode cX5_takesBelief 88 = .ok (.ireturn, 1) := by decide +kernel
theorem dX5_takesLoss_0 : decode cX5_takesLoss 0 = .ok (.aload_n 0, 1) := by decide +kernel
theorem dX5_takesLoss_1 : decode cX5_takesLoss 1 = .ok (.getfield 13, 3) := by decide +kernel
theorem dX5_takesLoss_4 : decode cX5_takesLoss 4 = .ok (.iconst 0, 1) := by decide +kernel
theorem dX5_takesLoss_5 : decode cX5_takesLoss 5 = .ok (.iaload, 1) := by decide +kernel
theorem dX5_takesLoss_6 : decode cX5_takesLoss 6 = .ok (.ifCond .le 30, 3) := by decide +kernel
theorem dX5_takesLoss_9 : decode cX5_takesLoss 9 = .ok (.aload_n 0, 1) := by decide +kernel
theorem dX5_takesLoss_10 : decode cX5_takesLoss 10 = .ok (.aload_n 0, 1) := by decide +kernel
theorem dX5_takesLoss_11 : decode cX5_takesLoss 11 = .ok (.getfield 13, 3) := by decide +kernel
theorem dX5_takesLoss_14 : decode cX5_takesLoss 14 = .ok (.iconst 0, 1) := by decide +kernel
theorem dX5_takesLoss_15 : decode cX5_takesLoss 15 = .ok (.iaload, 1) := by decide +kernel
theorem dX5_takesLoss_16 : decode cX5_takesLoss 16 = .ok (.iconst 1, 1) := by decide +kernel
theorem dX5_takesLoss_17 : decode cX5_takesLoss 17 = .ok (.isub, 1) := by decide +kernel
theorem dX5_takesLoss_18 : decode cX5_takesLoss 18 = .ok (.bipush 10, 2) := by decide +kernel
theorem dX5_takesLoss_20 : decode cX5_takesLoss 20 = .ok (.invokestatic 36, 3) := by decide +kernel
theorem dX5_takesLoss_23 : decode cX5_takesLoss 23 = .ok (.iconst 0, 1) := by decide +kernel
theorem dX5_takesLoss_24 : decode cX5_takesLoss 24 = .ok (.bipush 99, 2) := by decide +kernel
theorem dX5_takesLoss_26 : decode cX5_takesLoss 26 = .ok (.invokevirtual 95, 3) := by decide +kernel
theorem dX5_takesLoss_29 : decode cX5_takesLoss 29 = .ok (.ifCond .eq 7, 3) := by decide +kernel
theorem dX5_takesLoss_32 : decode cX5_takesLoss 32 = .ok (.iconst 1, 1) := by decide +kernel
theorem dX5_takesLoss_33 : decode cX5_takesLoss 33 = .ok (.goto 4, 3) := by decide +kernel
theorem dX5_takesLoss_36 : decode cX5_takesLoss 36 = .ok (.iconst 0, 1) := by decide +kernel
theorem dX5_takesLoss_37 : decode cX5_takesLoss 37 = .ok (.ireturn, 1) := by decide +kernel
theorem dX5_takesItem_0 : decode cX5_takesItem 0 = .ok (.aload_n 0, 1) := by decide +kernel
theorem dX5_takesItem_1 : decode cX5_takesItem 1 = .ok (.invokevirtual 77, 3) := by decide +kernel
theorem dX5_takesItem_4 : decode cX5_takesItem 4 = .ok (.lstore_n 1, 1) := by decide +kernel
theorem dX5_takesItem_5 : decode cX5_takesItem 5 = .ok (.iconst 0, 1) := by decide +kernel
theorem dX5_takesItem_6 : decode cX5_takesItem 6 = .ok (.istore_n 3, 1) := by decide +kernel
theorem dX5_takesItem_7 : decode cX5_takesItem 7 = .ok (.lload_n 1, 1) := by decide +kernel
theorem dX5_takesItem_8 : decode cX5_takesItem 8 = .ok (.ldc2_w 98, 3) := by decide +kernel
theorem dX5_takesItem_11 : decode cX5_takesItem 11 = .ok (.lcmp, 1) := by decide +kernel
theorem dX5_takesItem_12 : decode cX5_takesItem 12 = .ok (.ifCond .ne 11, 3) := by decide +kernel
theorem dX5_takesItem_15 : decode cX5_takesItem 15 = .ok (.aload_n 0, 1) := by decide +kernel
theorem dX5_takesItem_16 : decode cX5_takesItem 16 = .ok (.invokevirtual 28, 3) := by decide +kernel
theorem dX5_takesItem_19 : decode cX5_takesItem 19 = .ok (.istore_n 3, 1) := by decide +kernel
theorem dX5_takesItem_20 : decode cX5_takesItem 20 = .ok (.goto 135, 3) := by decide +kernel
theorem dX5_takesItem_23 : decode cX5_takesItem 23 = .ok (.lload_n 1, 1) := by decide +kernel
theorem dX5_takesItem_24 : decode cX5_takesItem 24 = .ok (.ldc2_w 100, 3) := by decide +kernel
theorem dX5_takesItem_27 : decode cX5_takesItem 27 = .ok (.lcmp, 1) := by decide +kernel
theorem dX5_takesItem_28 : decode cX5_takesItem 28 = .ok (.ifCond .ne 11, 3) := by decide +kernel
theorem dX5_takesItem_31 : decode cX5_takesItem 31 = .ok (.aload_n 0, 1) := by decide +kernel
theorem dX5_takesItem_32 : decode cX5_takesItem 32 = .ok (.invokevirtual 102, 3) := by decide +kernel
theorem dX5_takesItem_35 : decode cX5_takesItem 35 = .ok (.istore_n 3, 1) := by decide +kernel
theorem dX5_takesItem_36 : decode cX5_takesItem 36 = .ok (.goto 119, 3) := by decide +kernel
theorem dX5_takesItem_39 : decode cX5_takesItem 39 = .ok (.lload_n 1, 1) := by decide +kernel
theorem dX5_takesItem_40 : decode cX5_takesItem 40 = .ok (.ldc2_w 105, 3) := by decide +kernel
theorem dX5_takesItem_43 : decode cX5_takesItem 43 = .ok (.lcmp, 1) := by decide +kernel
theorem dX5_takesItem_44 : decode cX5_takesItem 44 = .ok (.ifCond .ne 11, 3) := by decide +kernel
theorem dX5_takesItem_47 : decode cX5_takesItem 47 = .ok (.aload_n 0, 1) := by decide +kernel
theorem dX5_takesItem_48 : decode cX5_takesItem 48 = .ok (.invokevirtual 107, 3) := by decide +kernel
theorem dX5_takesItem_51 : decode cX5_takesItem 51 = .ok (.istore_n 3, 1) := by decide +kernel
theorem dX5_takesItem_52 : decode cX5_takesItem 52 = .ok (.goto 103, 3) := by decide +kernel
theorem dX5_takesItem_55 : decode cX5_takesItem 55 = .ok (.lload_n 1, 1) := by decide +kernel
theorem dX5_takesItem_56 : decode cX5_takesItem 56 = .ok (.ldc2_w 110, 3) := by decide +kernel
theorem dX5_takesItem_59 : decode cX5_takesItem 59 = .ok (.lcmp, 1) := by decide +kernel
theorem dX5_takesItem_60 : decode cX5_takesItem 60 = .ok (.ifCond .ne 17, 3) := by decide +kernel
theorem dX5_takesItem_63 : decode cX5_takesItem 63 = .ok (.aload_n 0, 1) := by decide +kernel
theorem dX5_takesItem_64 : decode cX5_takesItem 64 = .ok (.iconst 2, 1) := by decide +kernel
theorem dX5_takesItem_65 : decode cX5_takesItem 65 = .ok (.bipush 20, 2) := by decide +kernel
theorem dX5_takesItem_67 : decode cX5_takesItem 67 = .ok (.sipush 200, 3) := by decide +kernel
theorem dX5_takesItem_70 : decode cX5_takesItem 70 = .ok (.invokevirtual 95, 3) := by decide +kernel
theorem dX5_takesItem_73 : decode cX5_takesItem 73 = .ok (.istore_n 3, 1) := by decide +kernel
theorem dX5_takesItem_74 : decode cX5_takesItem 74 = .ok (.goto 81, 3) := by decide +kernel
theorem dX5_takesItem_77 : decode cX5_takesItem 77 = .ok (.lload_n 1, 1) := by decide +kernel
theorem dX5_takesItem_78 : decode cX5_takesItem 78 = .ok (.ldc2_w 112, 3) := by decide +kernel
theorem dX5_takesItem_81 : decode cX5_takesItem 81 = .ok (.lcmp, 1) := by decide +kernel
theorem dX5_takesItem_82 : decode cX5_takesItem 82 = .ok (.ifCond .ne 18, 3) := by decide +kernel
theorem dX5_takesItem_85 : decode cX5_takesItem 85 = .ok (.aload_n 0, 1) := by decide +kernel
theorem dX5_takesItem_86 : decode cX5_takesItem 86 = .ok (.iconst 3, 1) := by decide +kernel
theorem dX5_takesItem_87 : decode cX5_takesItem 87 = .ok (.sipush 200, 3) := by decide +kernel
theorem dX5_takesItem_90 : decode cX5_takesItem 90 = .ok (.sipush 999, 3) := by decide +kernel
theorem dX5_takesItem_93 : decode cX5_takesItem 93 = .ok (.invokevirtual 95, 3) := by decide +kernel
theorem dX5_takesItem_96 : decode cX5_takesItem 96 = .ok (.istore_n 3, 1) := by decide +kernel
theorem dX5_takesItem_97 : decode cX5_takesItem 97 = .ok (.goto 58, 3) := by decide +kernel
theorem dX5_takesItem_100 : decode cX5_takesItem 100 = .ok (.lload_n 1, 1) := by decide +kernel
theorem dX5_takesItem_101 : decode cX5_takesItem 101 = .ok (.ldc2_w 114, 3) := by decide +kernel
theorem dX5_takesItem_104 : decode cX5_takesItem 104 = .ok (.lcmp, 1) := by decide +kernel
theorem dX5_takesItem_105 : decode cX5_takesItem 105 = .ok (.ifCond .ne 15, 3) := by decide +kernel
theorem dX5_takesItem_108 : decode cX5_takesItem 108 = .ok (.aload_n 0, 1) := by decide +kernel
theorem dX5_takesItem_109 : decode cX5_takesItem 109 = .ok (.iconst 4, 1) := by decide +kernel
theorem dX5_takesItem_110 : decode cX5_takesItem 110 = .ok (.iconst 1, 1) := by decide +kernel
theorem dX5_takesItem_111 : decode cX5_takesItem 111 = .ok (.bipush 99, 2) := by decide +kernel
theorem dX5_takesItem_113 : decode cX5_takesItem 113 = .ok (.invokevirtual 95, 3) := by decide +kernel
theorem dX5_takesItem_116 : decode cX5_takesItem 116 = .ok (.istore_n 3, 1) := by decide +kernel
theorem dX5_takesItem_117 : decode cX5_takesItem 117 = .ok (.goto 38, 3) := by decide +kernel
theorem dX5_takesItem_120 : decode cX5_takesItem 120 = .ok (.lload_n 1, 1) := by decide +kernel
theorem dX5_takesItem_121 : decode cX5_takesItem 121 = .ok (.ldc2_w 116, 3) := by decide +kernel
theorem dX5_takesItem_124 : decode cX5_takesItem 124 = .ok (.lcmp, 1) := by decide +kernel
theorem dX5_takesItem_125 : decode cX5_takesItem 125 = .ok (.ifCond .ne 11, 3) := by decide +kernel
theorem dX5_takesItem_128 : decode cX5_takesItem 128 = .ok (.aload_n 0, 1) := by decide +kernel
theorem dX5_takesItem_129 : decode cX5_takesItem 129 = .ok (.invokevirtual 118, 3) := by decide +kernel
theorem dX5_takesItem_132 : decode cX5_takesItem 132 = .ok (.istore_n 3, 1) := by decide +kernel
theorem dX5_takesItem_133 : decode cX5_takesItem 133 = .ok (.goto 22, 3) := by decide +kernel
theorem dX5_takesItem_136 : decode cX5_takesItem 136 = .ok (.lload_n 1, 1) := by decide +kernel
theorem dX5_takesItem_137 : decode cX5_takesItem 137 = .ok (.ldc2_w 121, 3) := by decide +kernel
theorem dX5_takesItem_140 : decode cX5_takesItem 140 = .ok (.lcmp, 1) := by decide +kernel
theorem dX5_takesItem_141 : decode cX5_takesItem 141 = .ok (.ifCond .ne 14, 3) := by decide +kernel
theorem dX5_takesItem_144 : decode cX5_takesItem 144 = .ok (.aload_n 0, 1) := by decide +kernel
theorem dX5_takesItem_145 : decode cX5_takesItem 145 = .ok (.bipush 6, 2) := by decide +kernel
theorem dX5_takesItem_147 : decode cX5_takesItem 147 = .ok (.iconst 0, 1) := by decide +kernel
theorem dX5_takesItem_148 : decode cX5_takesItem 148 = .ok (.sipush 9999, 3) := by decide +kernel
theorem dX5_takesItem_151 : decode cX5_takesItem 151 = .ok (.invokevirtual 95, 3) := by decide +kernel
theorem dX5_takesItem_154 : decode cX5_takesItem 154 = .ok (.istore_n 3, 1) := by decide +kernel
theorem dX5_takesItem_155 : decode cX5_takesItem 155 = .ok (.iload_n 3, 1) := by decide +kernel
theorem dX5_takesItem_156 : decode cX5_takesItem 156 = .ok (.ifCond .eq 16, 3) := by decide +kernel
theorem dX5_takesItem_159 : decode cX5_takesItem 159 = .ok (.aload_n 0, 1) := by decide +kernel
theorem dX5_takesItem_160 : decode cX5_takesItem 160 = .ok (.bipush 59, 2) := by decide +kernel
theorem dX5_takesItem_162 : decode cX5_takesItem 162 = .ok (.invokevirtual 70, 3) := by decide +kernel
theorem dX5_takesItem_165 : decode cX5_takesItem 165 = .ok (.ifCond .eq 7, 3) := by decide +kernel
theorem dX5_takesItem_168 : decode cX5_takesItem 168 = .ok (.iconst 1, 1) := by decide +kernel
theorem dX5_takesItem_169 : decode cX5_takesItem 169 = .ok (.goto 4, 3) := by decide +kernel
theorem dX5_takesItem_172 : decode cX5_takesItem 172 = .ok (.iconst 0, 1) := by decide +kernel
theorem dX5_takesItem_173 : decode cX5_takesItem 173 = .ok (.ireturn, 1) := by decide +kernel
theorem dX5_reads_0 : decode cX5_reads 0 = .ok (.aload_n 0, 1) := by decide +kernel
theorem dX5_reads_1 : decode cX5_reads 1 = .ok (.invokevirtual 25, 3) := by decide +kernel
theorem dX5_reads_4 : decode cX5_reads 4 = .ok (.aload_n 0, 1) := by decide +kernel
theorem dX5_reads_5 : decode cX5_reads 5 = .ok (.iconst 0, 1) := by decide +kernel
theorem dX5_reads_6 : decode cX5_reads 6 = .ok (.putfield 51, 3) := by decide +kernel
theorem dX5_reads_9 : decode cX5_reads 9 = .ok (.aload_n 0, 1) := by decide +kernel
theorem dX5_reads_10 : decode cX5_reads 10 = .ok (.getfield 51, 3) := by decide +kernel
theorem dX5_reads_13 : decode cX5_reads 13 = .ok (.aload_n 0, 1) := by decide +kernel
theorem dX5_reads_14 : decode cX5_reads 14 = .ok (.getfield 54, 3) := by decide +kernel
theorem dX5_reads_17 : decode cX5_reads 17 = .ok (.if_icmp .ge 20, 3) := by decide +kernel
theorem dX5_reads_20 : decode cX5_reads 20 = .ok (.aload_n 0, 1) := by decide +kernel
theorem dX5_reads_21 : decode cX5_reads 21 = .ok (.getfield 51, 3) := by decide +kernel
theorem dX5_reads_24 : decode cX5_reads 24 = .ok (.istore_n 1, 1) := by decide +kernel
theorem dX5_reads_25 : decode cX5_reads 25 = .ok (.aload_n 0, 1) := by decide +kernel
theorem dX5_reads_26 : decode cX5_reads 26 = .ok (.invokevirtual 123, 3) := by decide +kernel
theorem dX5_reads_29 : decode cX5_reads 29 = .ok (.ifCond .ne 5, 3) := by decide +kernel
theorem dX5_reads_32 : decode cX5_reads 32 = .ok (.iload_n 1, 1) := by decide +kernel
theorem dX5_reads_33 : decode cX5_reads 33 = .ok (.ireturn, 1) := by decide +kernel
theorem dX5_reads_34 : decode cX5_reads 34 = .ok (.goto (-25), 3) := by decide +kernel
theorem dX5_reads_37 : decode cX5_reads 37 = .ok (.bipush (-4), 2) := by decide +kernel
theorem dX5_reads_39 : decode cX5_reads 39 = .ok (.ireturn, 1) := by decide +kernel
theorem dX5_write_0 : decode cX5_write 0 = .ok (.iload_n 1, 1) := by decide +kernel
theorem dX5_write_1 : decode cX5_write 1 = .ok (.bipush 32, 2) := by decide +kernel
theorem dX5_write_3 : decode cX5_write 3 = .ok (.bipush 126, 2) := by decide +kernel
theorem dX5_write_5 : decode cX5_write 5 = .ok (.invokestatic 57, 3) := by decide +kernel
theorem dX5_write_8 : decode cX5_write 8 = .ok (.ifCond .ne 5, 3) := by decide +kernel
theorem dX5_write_11 : decode cX5_write 11 = .ok (.iconst (-1), 1) := by decide +kernel
theorem dX5_write_12 : decode cX5_write 12 = .ok (.ireturn, 1) := by decide +kernel
theorem dX5_write_13 : decode cX5_write 13 = .ok (.aload_n 0, 1) := by decide +kernel
theorem dX5_write_14 : decode cX5_write 14 = .ok (.getfield 54, 3) := by decide +kernel
theorem dX5_write_17 : decode cX5_write 17 = .ok (.sipush 240, 3) := by decide +kernel
theorem dX5_write_20 : decode cX5_write 20 = .ok (.if_icmp .ne 6, 3) := by decide +kernel
theorem dX5_write_23 : decode cX5_write 23 = .ok (.bipush (-3), 2) := by decide +kernel
theorem dX5_write_25 : decode cX5_write 25 = .ok (.ireturn, 1) := by decide +kernel
theorem dX5_write_26 : decode cX5_write 26 = .ok (.aload_n 0, 1) := by decide +kernel
theorem dX5_write_27 : decode cX5_write 27 = .ok (.getfield 22, 3) := by decide +kernel
theorem dX5_write_30 : decode cX5_write 30 = .ok (.aload_n 0, 1) := by decide +kernel
theorem dX5_write_31 : decode cX5_write 31 = .ok (.getfield 54, 3) := by decide +kernel
theorem dX5_write_34 : decode cX5_write 34 = .ok (.iload_n 1, 1) := by decide +kernel
theorem dX5_write_35 : decode cX5_write 35 = .ok (.iastore, 1) := by decide +kernel
theorem dX5_write_36 : decode cX5_write 36 = .ok (.aload_n 0, 1) := by decide +kernel
theorem dX5_write_37 : decode cX5_write 37 = .ok (.dup, 1) := by decide +kernel
theorem dX5_write_38 : decode cX5_write 38 = .ok (.getfield 54, 3) := by decide +kernel
theorem dX5_write_41 : decode cX5_write 41 = .ok (.iconst 1, 1) := by decide +kernel
theorem dX5_write_42 : decode cX5_write 42 = .ok (.iadd, 1) := by decide +kernel
theorem dX5_write_43 : decode cX5_write 43 = .ok (.putfield 54, 3) := by decide +kernel
theorem dX5_write_46 : decode cX5_write 46 = .ok (.aload_n 0, 1) := by decide +kernel
theorem dX5_write_47 : decode cX5_write 47 = .ok (.getfield 54, 3) := by decide +kernel
theorem dX5_write_50 : decode cX5_write 50 = .ok (.ireturn, 1) := by decide +kernel
theorem dX5_wipe_0 : decode cX5_wipe 0 = .ok (.aload_n 0, 1) := by decide +kernel
theorem dX5_wipe_1 : decode cX5_wipe 1 = .ok (.getfield 54, 3) := by decide +kernel
theorem dX5_wipe_4 : decode cX5_wipe 4 = .ok (.istore_n 1, 1) := by decide +kernel
theorem dX5_wipe_5 : decode cX5_wipe 5 = .ok (.aload_n 0, 1) := by decide +kernel
theorem dX5_wipe_6 : decode cX5_wipe 6 = .ok (.iconst 0, 1) := by decide +kernel
theorem dX5_wipe_7 : decode cX5_wipe 7 = .ok (.putfield 54, 3) := by decide +kernel
theorem dX5_wipe_10 : decode cX5_wipe 10 = .ok (.iload_n 1, 1) := by decide +kernel
theorem dX5_wipe_11 : decode cX5_wipe 11 = .ok (.ireturn, 1) := by decide +kernel
theorem dX5_fault_0 : decode cX5_fault 0 = .ok (.aload_n 0, 1) := by decide +kernel
theorem dX5_fault_1 : decode cX5_fault 1 = .ok (.invokevirtual 126, 3) := by decide +kernel
theorem dX5_fault_4 : decode cX5_fault 4 = .ok (.ireturn, 1) := by decide +kernel
theorem dX5_lay_0 : decode cX5_lay 0 = .ok (.aload_n 0, 1) := by decide +kernel
theorem dX5_lay_1 : decode cX5_lay 1 = .ok (.invokevirtual 126, 3) := by decide +kernel
theorem dX5_lay_4 : decode cX5_lay 4 = .ok (.bipush (-4), 2) := by decide +kernel
theorem dX5_lay_6 : decode cX5_lay 6 = .ok (.if_icmp .ne 12, 3) := by decide +kernel
theorem dX5_lay_9 : decode cX5_lay 9 = .ok (.aload_n 0, 1) := by decide +kernel
theorem dX5_lay_10 : decode cX5_lay 10 = .ok (.getfield 13, 3) := by decide +kernel
theorem dX5_lay_13 : decode cX5_lay 13 = .ok (.iconst 0, 1) := by decide +kernel
theorem dX5_lay_14 : decode cX5_lay 14 = .ok (.iaload, 1) := by decide +kernel
theorem dX5_lay_15 : decode cX5_lay 15 = .ok (.ifCond .ne 6, 3) := by decide +kernel
theorem dX5_lay_18 : decode cX5_lay 18 = .ok (.bipush (-2), 2) := by decide +kernel
theorem dX5_lay_20 : decode cX5_lay 20 = .ok (.ireturn, 1) := by decide +kernel
theorem dX5_lay_21 : decode cX5_lay 21 = .ok (.aload_n 0, 1) := by decide +kernel
theorem dX5_lay_22 : decode cX5_lay 22 = .ok (.invokevirtual 40, 3) := by decide +kernel
theorem dX5_lay_25 : decode cX5_lay 25 = .ok (.aload_n 0, 1) := by decide +kernel
theorem dX5_lay_26 : decode cX5_lay 26 = .ok (.getfield 7, 3) := by decide +kernel
theorem dX5_lay_29 : decode cX5_lay 29 = .ok (.iconst 0, 1) := by decide +kernel
theorem dX5_lay_30 : decode cX5_lay 30 = .ok (.iaload, 1) := by decide +kernel
theorem dX5_lay_31 : decode cX5_lay 31 = .ok (.ireturn, 1) := by decide +kernel
theorem dX5_drawn_0 : decode cX5_drawn 0 = .ok (.ldc2_w 130, 3) := by decide +kernel
theorem dX5_drawn_3 : decode cX5_drawn 3 = .ok (.aload_n 0, 1) := by decide +kernel
theorem dX5_drawn_4 : decode cX5_drawn 4 = .ok (.bipush 6, 2) := by decide +kernel
theorem dX5_drawn_6 : decode cX5_drawn 6 = .ok (.iaload, 1) := by decide +kernel
theorem dX5_drawn_7 : decode cX5_drawn 7 = .ok (.i2l, 1) := by decide +kernel
theorem dX5_drawn_8 : decode cX5_drawn 8 = .ok (.lmul, 1) := by decide +kernel
theorem dX5_drawn_9 : decode cX5_drawn 9 = .ok (.ldc2_w 132, 3) := by decide +kernel
theorem dX5_drawn_12 : decode cX5_drawn 12 = .ok (.iload_n 1, 1) := by decide +kernel
theorem dX5_drawn_13 : decode cX5_drawn 13 = .ok (.i2l, 1) := by decide +kernel
theorem dX5_drawn_14 : decode cX5_drawn 14 = .ok (.lmul, 1) := by decide +kernel
theorem dX5_drawn_15 : decode cX5_drawn 15 = .ok (.ladd, 1) := by decide +kernel
theorem dX5_drawn_16 : decode cX5_drawn 16 = .ok (.ldc2_w 134, 3) := by decide +kernel
theorem dX5_drawn_19 : decode cX5_drawn 19 = .ok (.iload_n 2, 1) := by decide +kernel
theorem dX5_drawn_20 : decode cX5_drawn 20 = .ok (.i2l, 1) := by decide +kernel
theorem dX5_drawn_21 : decode cX5_drawn 21 = .ok (.lmul, 1) := by decide +kernel
theorem dX5_drawn_22 : decode cX5_drawn 22 = .ok (.ladd, 1) := by decide +kernel
theorem dX5_drawn_23 : decode cX5_drawn 23 = .ok (.lconst 1, 1) := by decide +kernel
theorem dX5_drawn_24 : decode cX5_drawn 24 = .ok (.ladd, 1) := by decide +kernel
theorem dX5_drawn_25 : decode cX5_drawn 25 = .ok (.lstore_n 3, 1) := by decide +kernel
theorem dX5_drawn_26 : decode cX5_drawn 26 = .ok (.lload_n 3, 1) := by decide +kernel
theorem dX5_drawn_27 : decode cX5_drawn 27 = .ok (.lload_n 3, 1) := by decide +kernel
theorem dX5_drawn_28 : decode cX5_drawn 28 = .ok (.lmul, 1) := by decide +kernel
theorem dX5_drawn_29 : decode cX5_drawn 29 = .ok (.ldc2_w 136, 3) := by decide +kernel
theorem dX5_drawn_32 : decode cX5_drawn 32 = .ok (.lrem, 1) := by decide +kernel
theorem dX5_drawn_33 : decode cX5_drawn 33 = .ok (.l2i, 1) := by decide +kernel
theorem dX5_drawn_34 : decode cX5_drawn 34 = .ok (.ireturn, 1) := by decide +kernel
theorem dX5_dropper_0 : decode cX5_dropper 0 = .ok (.iconst 0, 1) := by decide +kernel
theorem dX5_dropper_1 : decode cX5_dropper 1 = .ok (.istore_n 3, 1) := by decide +kernel
theorem dX5_dropper_2 : decode cX5_dropper 2 = .ok (.iload_n 3, 1) := by decide +kernel
theorem dX5_dropper_3 : decode cX5_dropper 3 = .ok (.aload_n 0, 1) := by decide +kernel
theorem dX5_dropper_4 : decode cX5_dropper 4 = .ok (.iload_n 1, 1) := by decide +kernel
theorem dX5_dropper_5 : decode cX5_dropper 5 = .ok (.bipush 11, 2) := by decide +kernel
theorem dX5_dropper_7 : decode cX5_dropper 7 = .ok (.invokestatic 36, 3) := by decide +kernel
theorem dX5_dropper_10 : decode cX5_dropper 10 = .ok (.iaload, 1) := by decide +kernel
theorem dX5_dropper_11 : decode cX5_dropper 11 = .ok (.if_icmp .ge 23, 3) := by decide +kernel
theorem dX5_dropper_14 : decode cX5_dropper 14 = .ok (.aload_n 0, 1) := by decide +kernel
theorem dX5_dropper_15 : decode cX5_dropper 15 = .ok (.iload_n 1, 1) := by decide +kernel
theorem dX5_dropper_16 : decode cX5_dropper 16 = .ok (.bipush 12, 2) := by decide +kernel
theorem dX5_dropper_18 : decode cX5_dropper 18 = .ok (.iload_n 3, 1) := by decide +kernel
theorem dX5_dropper_19 : decode cX5_dropper 19 = .ok (.iadd, 1) := by decide +kernel
theorem dX5_dropper_20 : decode cX5_dropper 20 = .ok (.invokestatic 36, 3) := by decide +kernel
theorem dX5_dropper_23 : decode cX5_dropper 23 = .ok (.iaload, 1) := by decide +kernel
theorem dX5_dropper_24 : decode cX5_dropper 24 = .ok (.iload_n 2, 1) := by decide +kernel
theorem dX5_dropper_25 : decode cX5_dropper 25 = .ok (.if_icmp .lt 9, 3) := by decide +kernel
theorem dX5_dropper_28 : decode cX5_dropper 28 = .ok (.iinc 3 1, 3) := by decide +kernel
theorem dX5_dropper_31 : decode cX5_dropper 31 = .ok (.goto (-29), 3) := by decide +kernel
theorem dX5_dropper_34 : decode cX5_dropper 34 = .ok (.iload_n 3, 1) := by decide +kernel
theorem dX5_dropper_35 : decode cX5_dropper 35 = .ok (.aload_n 0, 1) := by decide +kernel
theorem dX5_dropper_36 : decode cX5_dropper 36 = .ok (.iload_n 1, 1) := by decide +kernel
theorem dX5_dropper_37 : decode cX5_dropper 37 = .ok (.bipush 11, 2) := by decide +kernel
theorem dX5_dropper_39 : decode cX5_dropper 39 = .ok (.invokestatic 36, 3) := by decide +kernel
theorem dX5_dropper_42 : decode cX5_dropper 42 = .ok (.iaload, 1) := by decide +kernel
theorem dX5_dropper_43 : decode cX5_dropper 43 = .ok (.if_icmp .ge 7, 3) := by decide +kernel
theorem dX5_dropper_46 : decode cX5_dropper 46 = .ok (.iload_n 3, 1) := by decide +kernel
theorem dX5_dropper_47 : decode cX5_dropper 47 = .ok (.goto 5, 3) := by decide +kernel
theorem dX5_dropper_50 : decode cX5_dropper 50 = .ok (.bipush (-4), 2) := by decide +kernel
theorem dX5_dropper_52 : decode cX5_dropper 52 = .ok (.ireturn, 1) := by decide +kernel
theorem dX5_met_0 : decode cX5_met 0 = .ok (.aload_n 0, 1) := by decide +kernel
theorem dX5_met_1 : decode cX5_met 1 = .ok (.iload_n 1, 1) := by decide +kernel
theorem dX5_met_2 : decode cX5_met 2 = .ok (.iload_n 2, 1) := by decide +kernel
theorem dX5_met_3 : decode cX5_met 3 = .ok (.invokestatic 138, 3) := by decide +kernel
theorem dX5_met_6 : decode cX5_met 6 = .ok (.istore_n 3, 1) := by decide +kernel
theorem dX5_met_7 : decode cX5_met 7 = .ok (.iload_n 3, 1) := by decide +kernel
theorem dX5_met_8 : decode cX5_met 8 = .ok (.bipush (-4), 2) := by decide +kernel
theorem dX5_met_10 : decode cX5_met 10 = .ok (.if_icmp .ne 5, 3) := by decide +kernel
theorem dX5_met_13 : decode cX5_met 13 = .ok (.iconst 0, 1) := by decide +kernel
theorem dX5_met_14 : decode cX5_met 14 = .ok (.ireturn, 1) := by decide +kernel
theorem dX5_met_15 : decode cX5_met 15 = .ok (.aload_n 0, 1) := by decide +kernel
theorem dX5_met_16 : decode cX5_met 16 = .ok (.iload_n 1, 1) := by decide +kernel
theorem dX5_met_17 : decode cX5_met 17 = .ok (.bipush 12, 2) := by decide +kernel
theorem dX5_met_19 : decode cX5_met 19 = .ok (.iload_n 3, 1) := by decide +kernel
theorem dX5_met_20 : decode cX5_met 20 = .ok (.iadd, 1) := by decide +kernel
theorem dX5_met_21 : decode cX5_met 21 = .ok (.invokestatic 36, 3) := by decide +kernel
theorem dX5_met_24 : decode cX5_met 24 = .ok (.iaload, 1) := by decide +kernel
theorem dX5_met_25 : decode cX5_met 25 = .ok (.istore 4, 2) := by decide +kernel
theorem dX5_met_27 : decode cX5_met 27 = .ok (.aload_n 0, 1) := by decide +kernel
theorem dX5_met_28 : decode cX5_met 28 = .ok (.iload_n 1, 1) := by decide +kernel
theorem dX5_met_29 : decode cX5_met 29 = .ok (.bipush 18, 2) := by decide +kernel
theorem dX5_met_31 : decode cX5_met 31 = .ok (.iload_n 3, 1) := by decide +kernel
theorem dX5_met_32 : decode cX5_met 32 = .ok (.iadd, 1) := by decide +kernel
theorem dX5_met_33 : decode cX5_met 33 = .ok (.invokestatic 36, 3) := by decide +kernel
theorem dX5_met_36 : decode cX5_met 36 = .ok (.iaload, 1) := by decide +kernel
theorem dX5_met_37 : decode cX5_met 37 = .ok (.tableswitch 50 0 2 #[27, 32, 44], 27) := by decide +kernel
theorem dX5_met_64 : decode cX5_met 64 = .ok (.iconst 2, 1) := by decide +kernel
theorem dX5_met_65 : decode cX5_met 65 = .ok (.iload 4, 2) := by decide +kernel
theorem dX5_met_67 : decode cX5_met 67 = .ok (.iadd, 1) := by decide +kernel
theorem dX5_met_68 : decode cX5_met 68 = .ok (.ireturn, 1) := by decide +kernel
theorem dX5_met_69 : decode cX5_met 69 = .ok (.iconst 2, 1) := by decide +kernel
theorem dX5_met_70 : decode cX5_met 70 = .ok (.iconst 0, 1) := by decide +kernel
theorem dX5_met_71 : decode cX5_met 71 = .ok (.iload 4, 2) := by decide +kernel
theorem dX5_met_73 : decode cX5_met 73 = .ok (.bipush 40, 2) := by decide +kernel
theorem dX5_met_75 : decode cX5_met 75 = .ok (.isub, 1) := by decide +kernel
theorem dX5_met_76 : decode cX5_met 76 = .ok (.invokestatic 142, 3) := by decide +kernel
theorem dX5_met_79 : decode cX5_met 79 = .ok (.iadd, 1) := by decide +kernel
theorem dX5_met_80 : decode cX5_met 80 = .ok (.ireturn, 1) := by decide +kernel
theorem dX5_met_81 : decode cX5_met 81 = .ok (.iconst 2, 1) := by decide +kernel
theorem dX5_met_82 : decode cX5_met 82 = .ok (.iload_n 2, 1) := by decide +kernel
theorem dX5_met_83 : decode cX5_met 83 = .ok (.iconst 2, 1) := by decide +kernel
theorem dX5_met_84 : decode cX5_met 84 = .ok (.idiv, 1) := by decide +kernel
theorem dX5_met_85 : decode cX5_met 85 = .ok (.iadd, 1) := by decide +kernel
theorem dX5_met_86 : decode cX5_met 86 = .ok (.ireturn, 1) := by decide +kernel
theorem dX5_met_87 : decode cX5_met 87 = .ok (.iconst 1, 1) := by decide +kernel
theorem dX5_met_88 : decode cX5_met 88 = .ok (.ireturn, 1) := by decide +kernel
theorem dX5_isBelieved_0 : decode cX5_isBelieved 0 = .ok (.aload_n 0, 1) := by decide +kernel
theorem dX5_isBelieved_1 : decode cX5_isBelieved 1 = .ok (.iconst 5, 1) := by decide +kernel
theorem dX5_isBelieved_2 : decode cX5_isBelieved 2 = .ok (.iaload, 1) := by decide +kernel
theorem dX5_isBelieved_3 : decode cX5_isBelieved 3 = .ok (.ifCond .eq 22, 3) := by decide +kernel
theorem dX5_isBelieved_6 : decode cX5_isBelieved 6 = .ok (.aload_n 0, 1) := by decide +kernel
theorem dX5_isBelieved_7 : decode cX5_isBelieved 7 = .ok (.iconst 5, 1) := by decide +kernel
theorem dX5_isBelieved_8 : decode cX5_isBelieved 8 = .ok (.iaload, 1) := by decide +kernel
theorem dX5_isBelieved_9 : decode cX5_isBelieved 9 = .ok (.iconst 1, 1) := by decide +kernel
theorem dX5_isBelieved_10 : decode cX5_isBelieved 10 = .ok (.if_icmp .ne 19, 3) := by decide +kernel
theorem dX5_isBelieved_13 : decode cX5_isBelieved 13 = .ok (.iload_n 1, 1) := by decide +kernel
theorem dX5_isBelieved_14 : decode cX5_isBelieved 14 = .ok (.aload_n 0, 1) := by decide +kernel
theorem dX5_isBelieved_15 : decode cX5_isBelieved 15 = .ok (.iconst 2, 1) := by decide +kernel
theorem dX5_isBelieved_16 : decode cX5_isBelieved 16 = .ok (.iaload, 1) := by decide +kernel
theorem dX5_isBelieved_17 : decode cX5_isBelieved 17 = .ok (.if_icmp .lt 12, 3) := by decide +kernel
theorem dX5_isBelieved_20 : decode cX5_isBelieved 20 = .ok (.iload_n 1, 1) := by decide +kernel
theorem dX5_isBelieved_21 : decode cX5_isBelieved 21 = .ok (.iload_n 2, 1) := by decide +kernel
theorem dX5_isBelieved_22 : decode cX5_isBelieved 22 = .ok (.if_icmp .ge 7, 3) := by decide +kernel
theorem dX5_isBelieved_25 : decode cX5_isBelieved 25 = .ok (.iconst 1, 1) := by decide +kernel
theorem dX5_isBelieved_26 : decode cX5_isBelieved 26 = .ok (.goto 4, 3) := by decide +kernel
theorem dX5_isBelieved_29 : decode cX5_isBelieved 29 = .ok (.iconst 0, 1) := by decide +kernel
theorem dX5_isBelieved_30 : decode cX5_isBelieved 30 = .ok (.ireturn, 1) := by decide +kernel
theorem dX5_sends_0 : decode cX5_sends 0 = .ok (.aload_n 1, 1) := by decide +kernel
theorem dX5_sends_1 : decode cX5_sends 1 = .ok (.iload_n 2, 1) := by decide +kernel
theorem dX5_sends_2 : decode cX5_sends 2 = .ok (.aload_n 1, 1) := by decide +kernel
theorem dX5_sends_3 : decode cX5_sends 3 = .ok (.iload_n 2, 1) := by decide +kernel
theorem dX5_sends_4 : decode cX5_sends 4 = .ok (.bipush 7, 2) := by decide +kernel
theorem dX5_sends_6 : decode cX5_sends 6 = .ok (.invokestatic 36, 3) := by decide +kernel
theorem dX5_sends_9 : decode cX5_sends 9 = .ok (.iaload, 1) := by decide +kernel
theorem dX5_sends_10 : decode cX5_sends 10 = .ok (.invokestatic 145, 3) := by decide +kernel
theorem dX5_sends_13 : decode cX5_sends 13 = .ok (.bipush 100, 2) := by decide +kernel
theorem dX5_sends_15 : decode cX5_sends 15 = .ok (.irem, 1) := by decide +kernel
theorem dX5_sends_16 : decode cX5_sends 16 = .ok (.aload_n 1, 1) := by decide +kernel
theorem dX5_sends_17 : decode cX5_sends 17 = .ok (.iload_n 2, 1) := by decide +kernel
theorem dX5_sends_18 : decode cX5_sends 18 = .ok (.bipush 10, 2) := by decide +kernel
theorem dX5_sends_20 : decode cX5_sends 20 = .ok (.invokestatic 36, 3) := by decide +kernel
theorem dX5_sends_23 : decode cX5_sends 23 = .ok (.iaload, 1) := by decide +kernel
theorem dX5_sends_24 : decode cX5_sends 24 = .ok (.if_icmp .ge 7, 3) := by decide +kernel
theorem dX5_sends_27 : decode cX5_sends 27 = .ok (.iconst 1, 1) := by decide +kernel
theorem dX5_sends_28 : decode cX5_sends 28 = .ok (.goto 4, 3) := by decide +kernel
theorem dX5_sends_31 : decode cX5_sends 31 = .ok (.iconst 0, 1) := by decide +kernel
theorem dX5_sends_32 : decode cX5_sends 32 = .ok (.istore 4, 2) := by decide +kernel
theorem dX5_sends_34 : decode cX5_sends 34 = .ok (.aload_n 0, 1) := by decide +kernel
theorem dX5_sends_35 : decode cX5_sends 35 = .ok (.iload 4, 2) := by decide +kernel
theorem dX5_sends_37 : decode cX5_sends 37 = .ok (.ifCond .eq 7, 3) := by decide +kernel
theorem dX5_sends_40 : decode cX5_sends 40 = .ok (.iconst 1, 1) := by decide +kernel
theorem dX5_sends_41 : decode cX5_sends 41 = .ok (.goto 9, 3) := by decide +kernel
theorem dX5_sends_44 : decode cX5_sends 44 = .ok (.aload_n 1, 1) := by decide +kernel
theorem dX5_sends_45 : decode cX5_sends 45 = .ok (.iload_n 2, 1) := by decide +kernel
theorem dX5_sends_46 : decode cX5_sends 46 = .ok (.iload_n 3, 1) := by decide +kernel
theorem dX5_sends_47 : decode cX5_sends 47 = .ok (.invokestatic 148, 3) := by decide +kernel
theorem dX5_sends_50 : decode cX5_sends 50 = .ok (.putfield 151, 3) := by decide +kernel
theorem dX5_sends_53 : decode cX5_sends 53 = .ok (.aload_n 0, 1) := by decide +kernel
theorem dX5_sends_54 : decode cX5_sends 54 = .ok (.aload_n 0, 1) := by decide +kernel
theorem dX5_sends_55 : decode cX5_sends 55 = .ok (.getfield 151, 3) := by decide +kernel
theorem dX5_sends_58 : decode cX5_sends 58 = .ok (.iconst 1, 1) := by decide +kernel
theorem dX5_sends_59 : decode cX5_sends 59 = .ok (.if_icmp .le 21, 3) := by decide +kernel
theorem dX5_sends_62 : decode cX5_sends 62 = .ok (.aload_n 1, 1) := by decide +kernel
theorem dX5_sends_63 : decode cX5_sends 63 = .ok (.aload_n 0, 1) := by decide +kernel
theorem dX5_sends_64 : decode cX5_sends 64 = .ok (.getfield 151, 3) := by decide +kernel
theorem dX5_sends_67 : decode cX5_sends 67 = .ok (.iconst 2, 1) := by decide +kernel
theorem dX5_sends_68 : decode cX5_sends 68 = .ok (.isub, 1) := by decide +kernel
theorem dX5_sends_69 : decode cX5_sends 69 = .ok (.iload_n 3, 1) := by decide +kernel
theorem dX5_sends_70 : decode cX5_sends 70 = .ok (.invokestatic 154, 3) := by decide +kernel
theorem dX5_sends_73 : decode cX5_sends 73 = .ok (.ifCond .eq 7, 3) := by decide +kernel
theorem dX5_sends_76 : decode cX5_sends 76 = .ok (.iconst 1, 1) := by decide +kernel
theorem dX5_sends_77 : decode cX5_sends 77 = .ok (.goto 4, 3) := by decide +kernel
theorem dX5_sends_80 : decode cX5_sends 80 = .ok (.iconst 0, 1) := by decide +kernel
theorem dX5_sends_81 : decode cX5_sends 81 = .ok (.putfield 158, 3) := by decide +kernel
theorem dX5_sends_84 : decode cX5_sends 84 = .ok (.aload_n 1, 1) := by decide +kernel
theorem dX5_sends_85 : decode cX5_sends 85 = .ok (.iload_n 2, 1) := by decide +kernel
theorem dX5_sends_86 : decode cX5_sends 86 = .ok (.bipush 7, 2) := by decide +kernel
theorem dX5_sends_88 : decode cX5_sends 88 = .ok (.invokestatic 36, 3) := by decide +kernel
theorem dX5_sends_91 : decode cX5_sends 91 = .ok (.dup2, 1) := by decide +kernel
theorem dX5_sends_92 : decode cX5_sends 92 = .ok (.iaload, 1) := by decide +kernel
theorem dX5_sends_93 : decode cX5_sends 93 = .ok (.iconst 1, 1) := by decide +kernel
theorem dX5_sends_94 : decode cX5_sends 94 = .ok (.iadd, 1) := by decide +kernel
theorem dX5_sends_95 : decode cX5_sends 95 = .ok (.iastore, 1) := by decide +kernel
theorem dX5_sends_96 : decode cX5_sends 96 = .ok (.aload_n 1, 1) := by decide +kernel
theorem dX5_sends_97 : decode cX5_sends 97 = .ok (.iload_n 2, 1) := by decide +kernel
theorem dX5_sends_98 : decode cX5_sends 98 = .ok (.bipush 9, 2) := by decide +kernel
theorem dX5_sends_100 : decode cX5_sends 100 = .ok (.invokestatic 36, 3) := by decide +kernel
theorem dX5_sends_103 : decode cX5_sends 103 = .ok (.dup2, 1) := by decide +kernel
theorem dX5_sends_104 : decode cX5_sends 104 = .ok (.iaload, 1) := by decide +kernel
theorem dX5_sends_105 : decode cX5_sends 105 = .ok (.aload_n 0, 1) := by decide +kernel
theorem dX5_sends_106 : decode cX5_sends 106 = .ok (.getfield 158, 3) := by decide +kernel
theorem dX5_sends_109 : decode cX5_sends 109 = .ok (.ifCond .eq 7, 3) := by decide +kernel
theorem dX5_sends_112 : decode cX5_sends 112 = .ok (.iconst 1, 1) := by decide +kernel
theorem dX5_sends_113 : decode cX5_sends 113 = .ok (.goto 4, 3) := by decide +kernel
theorem dX5_sends_116 : decode cX5_sends 116 = .ok (.iconst 0, 1) := by decide +kernel
theorem dX5_sends_117 : decode cX5_sends 117 = .ok (.iadd, 1) := by decide +kernel
theorem dX5_sends_118 : decode cX5_sends 118 = .ok (.iastore, 1) := by decide +kernel
theorem dX5_sends_119 : decode cX5_sends 119 = .ok (.aload_n 1, 1) := by decide +kernel
theorem dX5_sends_120 : decode cX5_sends 120 = .ok (.iload_n 2, 1) := by decide +kernel
theorem dX5_sends_121 : decode cX5_sends 121 = .ok (.bipush 8, 2) := by decide +kernel
theorem dX5_sends_123 : decode cX5_sends 123 = .ok (.invokestatic 36, 3) := by decide +kernel
theorem dX5_sends_126 : decode cX5_sends 126 = .ok (.dup2, 1) := by decide +kernel
theorem dX5_sends_127 : decode cX5_sends 127 = .ok (.iaload, 1) := by decide +kernel
theorem dX5_sends_128 : decode cX5_sends 128 = .ok (.aload_n 0, 1) := by decide +kernel
theorem dX5_sends_129 : decode cX5_sends 129 = .ok (.invokevirtual 162, 3) := by decide +kernel
theorem dX5_sends_132 : decode cX5_sends 132 = .ok (.ifCond .eq 7, 3) := by decide +kernel
theorem dX5_sends_135 : decode cX5_sends 135 = .ok (.iconst 1, 1) := by decide +kernel
theorem dX5_sends_136 : decode cX5_sends 136 = .ok (.goto 4, 3) := by decide +kernel
theorem dX5_sends_139 : decode cX5_sends 139 = .ok (.iconst 0, 1) := by decide +kernel
theorem dX5_sends_140 : decode cX5_sends 140 = .ok (.iadd, 1) := by decide +kernel
theorem dX5_sends_141 : decode cX5_sends 141 = .ok (.iastore, 1) := by decide +kernel
theorem dX5_sends_142 : decode cX5_sends 142 = .ok (.return_, 1) := by decide +kernel
theorem dX5_isGone_0 : decode cX5_isGone 0 = .ok (.aload_n 0, 1) := by decide +kernel
theorem dX5_isGone_1 : decode cX5_isGone 1 = .ok (.getfield 151, 3) := by decide +kernel
theorem dX5_isGone_4 : decode cX5_isGone 4 = .ok (.ifCond .le 14, 3) := by decide +kernel
theorem dX5_isGone_7 : decode cX5_isGone 7 = .ok (.aload_n 0, 1) := by decide +kernel
theorem dX5_isGone_8 : decode cX5_isGone 8 = .ok (.getfield 158, 3) := by decide +kernel
theorem dX5_isGone_11 : decode cX5_isGone 11 = .ok (.ifCond .ne 7, 3) := by decide +kernel
theorem dX5_isGone_14 : decode cX5_isGone 14 = .ok (.iconst 1, 1) := by decide +kernel
theorem dX5_isGone_15 : decode cX5_isGone 15 = .ok (.goto 4, 3) := by decide +kernel
theorem dX5_isGone_18 : decode cX5_isGone 18 = .ok (.iconst 0, 1) := by decide +kernel
theorem dX5_isGone_19 : decode cX5_isGone 19 = .ok (.ireturn, 1) := by decide +kernel
theorem dX5_feels_0 : decode cX5_feels 0 = .ok (.aload_n 1, 1) := by decide +kernel
theorem dX5_feels_1 : decode cX5_feels 1 = .ok (.iload_n 2, 1) := by decide +kernel
theorem dX5_feels_2 : decode cX5_feels 2 = .ok (.iconst 0, 1) := by decide +kernel
theorem dX5_feels_3 : decode cX5_feels 3 = .ok (.invokestatic 36, 3) := by decide +kernel
theorem dX5_feels_6 : decode cX5_feels 6 = .ok (.iaload, 1) := by decide +kernel
theorem dX5_feels_7 : decode cX5_feels 7 = .ok (.istore_n 3, 1) := by decide +kernel
theorem dX5_feels_8 : decode cX5_feels 8 = .ok (.aload_n 0, 1) := by decide +kernel
theorem dX5_feels_9 : decode cX5_feels 9 = .ok (.aload_n 1, 1) := by decide +kernel
theorem dX5_feels_10 : decode cX5_feels 10 = .ok (.iload_n 2, 1) := by decide +kernel
theorem dX5_feels_11 : decode cX5_feels 11 = .ok (.iload_n 3, 1) := by decide +kernel
theorem dX5_feels_12 : decode cX5_feels 12 = .ok (.invokevirtual 165, 3) := by decide +kernel
theorem dX5_feels_15 : decode cX5_feels 15 = .ok (.aload_n 0, 1) := by decide +kernel
theorem dX5_feels_16 : decode cX5_feels 16 = .ok (.invokevirtual 162, 3) := by decide +kernel
theorem dX5_feels_19 : decode cX5_feels 19 = .ok (.ifCond .eq 73, 3) := by decide +kernel
theorem dX5_feels_22 : decode cX5_feels 22 = .ok (.aload_n 1, 1) := by decide +kernel
theorem dX5_feels_23 : decode cX5_feels 23 = .ok (.iload_n 2, 1) := by decide +kernel
theorem dX5_feels_24 : decode cX5_feels 24 = .ok (.iconst 4, 1) := by decide +kernel
theorem dX5_feels_25 : decode cX5_feels 25 = .ok (.invokestatic 36, 3) := by decide +kernel
theorem dX5_feels_28 : decode cX5_feels 28 = .ok (.dup2, 1) := by decide +kernel
theorem dX5_feels_29 : decode cX5_feels 29 = .ok (.iaload, 1) := by decide +kernel
theorem dX5_feels_30 : decode cX5_feels 30 = .ok (.iconst 1, 1) := by decide +kernel
theorem dX5_feels_31 : decode cX5_feels 31 = .ok (.iadd, 1) := by decide +kernel
theorem dX5_feels_32 : decode cX5_feels 32 = .ok (.iastore, 1) := by decide +kernel
theorem dX5_feels_33 : decode cX5_feels 33 = .ok (.aload_n 1, 1) := by decide +kernel
theorem dX5_feels_34 : decode cX5_feels 34 = .ok (.iload_n 2, 1) := by decide +kernel
theorem dX5_feels_35 : decode cX5_feels 35 = .ok (.iconst 4, 1) := by decide +kernel
theorem dX5_feels_36 : decode cX5_feels 36 = .ok (.invokestatic 36, 3) := by decide +kernel
theorem dX5_feels_39 : decode cX5_feels 39 = .ok (.iaload, 1) := by decide +kernel
theorem dX5_feels_40 : decode cX5_feels 40 = .ok (.iconst 3, 1) := by decide +kernel
theorem dX5_feels_41 : decode cX5_feels 41 = .ok (.if_icmp .ne 50, 3) := by decide +kernel
theorem dX5_feels_44 : decode cX5_feels 44 = .ok (.aload_n 1, 1) := by decide +kernel
theorem dX5_feels_45 : decode cX5_feels 45 = .ok (.iload_n 2, 1) := by decide +kernel
theorem dX5_feels_46 : decode cX5_feels 46 = .ok (.iconst 4, 1) := by decide +kernel
theorem dX5_feels_47 : decode cX5_feels 47 = .ok (.invokestatic 36, 3) := by decide +kernel
theorem dX5_feels_50 : decode cX5_feels 50 = .ok (.iconst 0, 1) := by decide +kernel
theorem dX5_feels_51 : decode cX5_feels 51 = .ok (.iastore, 1) := by decide +kernel
theorem dX5_feels_52 : decode cX5_feels 52 = .ok (.iload_n 3, 1) := by decide +kernel
theorem dX5_feels_53 : decode cX5_feels 53 = .ok (.aload_n 1, 1) := by decide +kernel
theorem dX5_feels_54 : decode cX5_feels 54 = .ok (.iconst 2, 1) := by decide +kernel
theorem dX5_feels_55 : decode cX5_feels 55 = .ok (.iaload, 1) := by decide +kernel
theorem dX5_feels_56 : decode cX5_feels 56 = .ok (.if_icmp .le 35, 3) := by decide +kernel
theorem dX5_feels_59 : decode cX5_feels 59 = .ok (.aload_n 1, 1) := by decide +kernel
theorem dX5_feels_60 : decode cX5_feels 60 = .ok (.iload_n 2, 1) := by decide +kernel
theorem dX5_feels_61 : decode cX5_feels 61 = .ok (.bipush 6, 2) := by decide +kernel
theorem dX5_feels_63 : decode cX5_feels 63 = .ok (.invokestatic 36, 3) := by decide +kernel
theorem dX5_feels_66 : decode cX5_feels 66 = .ok (.dup2, 1) := by decide +kernel
theorem dX5_feels_67 : decode cX5_feels 67 = .ok (.iaload, 1) := by decide +kernel
theorem dX5_feels_68 : decode cX5_feels 68 = .ok (.iconst 1, 1) := by decide +kernel
theorem dX5_feels_69 : decode cX5_feels 69 = .ok (.iadd, 1) := by decide +kernel
theorem dX5_feels_70 : decode cX5_feels 70 = .ok (.iastore, 1) := by decide +kernel
theorem dX5_feels_71 : decode cX5_feels 71 = .ok (.aload_n 1, 1) := by decide +kernel
theorem dX5_feels_72 : decode cX5_feels 72 = .ok (.iload_n 2, 1) := by decide +kernel
theorem dX5_feels_73 : decode cX5_feels 73 = .ok (.iconst 1, 1) := by decide +kernel
theorem dX5_feels_74 : decode cX5_feels 74 = .ok (.invokestatic 36, 3) := by decide +kernel
theorem dX5_feels_77 : decode cX5_feels 77 = .ok (.iload_n 3, 1) := by decide +kernel
theorem dX5_feels_78 : decode cX5_feels 78 = .ok (.iconst 1, 1) := by decide +kernel
theorem dX5_feels_79 : decode cX5_feels 79 = .ok (.isub, 1) := by decide +kernel
theorem dX5_feels_80 : decode cX5_feels 80 = .ok (.iastore, 1) := by decide +kernel
theorem dX5_feels_81 : decode cX5_feels 81 = .ok (.aload_n 1, 1) := by decide +kernel
theorem dX5_feels_82 : decode cX5_feels 82 = .ok (.iload_n 2, 1) := by decide +kernel
theorem dX5_feels_83 : decode cX5_feels 83 = .ok (.iconst 0, 1) := by decide +kernel
theorem dX5_feels_84 : decode cX5_feels 84 = .ok (.invokestatic 36, 3) := by decide +kernel
theorem dX5_feels_87 : decode cX5_feels 87 = .ok (.aload_n 1, 1) := by decide +kernel
theorem dX5_feels_88 : decode cX5_feels 88 = .ok (.iconst 2, 1) := by decide +kernel
theorem dX5_feels_89 : decode cX5_feels 89 = .ok (.iaload, 1) := by decide +kernel
theorem dX5_feels_90 : decode cX5_feels 90 = .ok (.iastore, 1) := by decide +kernel
theorem dX5_feels_91 : decode cX5_feels 91 = .ok (.return_, 1) := by decide +kernel
theorem dX5_feels_92 : decode cX5_feels 92 = .ok (.aload_n 1, 1) := by decide +kernel
theorem dX5_feels_93 : decode cX5_feels 93 = .ok (.iload_n 2, 1) := by decide +kernel
theorem dX5_feels_94 : decode cX5_feels 94 = .ok (.iconst 4, 1) := by decide +kernel
theorem dX5_feels_95 : decode cX5_feels 95 = .ok (.invokestatic 36, 3) := by decide +kernel
theorem dX5_feels_98 : decode cX5_feels 98 = .ok (.iconst 0, 1) := by decide +kernel
theorem dX5_feels_99 : decode cX5_feels 99 = .ok (.iastore, 1) := by decide +kernel
theorem dX5_feels_100 : decode cX5_feels 100 = .ok (.aload_n 0, 1) := by decide +kernel
theorem dX5_feels_101 : decode cX5_feels 101 = .ok (.getfield 158, 3) := by decide +kernel
theorem dX5_feels_104 : decode cX5_feels 104 = .ok (.ifCond .eq 59, 3) := by decide +kernel
theorem dX5_feels_107 : decode cX5_feels 107 = .ok (.aload_n 0, 1) := by decide +kernel
theorem dX5_feels_108 : decode cX5_feels 108 = .ok (.getfield 151, 3) := by decide +kernel
theorem dX5_feels_111 : decode cX5_feels 111 = .ok (.iconst 2, 1) := by decide +kernel
theorem dX5_feels_112 : decode cX5_feels 112 = .ok (.isub, 1) := by decide +kernel
theorem dX5_feels_113 : decode cX5_feels 113 = .ok (.istore 4, 2) := by decide +kernel
theorem dX5_feels_115 : decode cX5_feels 115 = .ok (.aload_n 1, 1) := by decide +kernel
theorem dX5_feels_116 : decode cX5_feels 116 = .ok (.iload_n 2, 1) := by decide +kernel
theorem dX5_feels_117 : decode cX5_feels 117 = .ok (.iconst 0, 1) := by decide +kernel
theorem dX5_feels_118 : decode cX5_feels 118 = .ok (.invokestatic 36, 3) := by decide +kernel
theorem dX5_feels_121 : decode cX5_feels 121 = .ok (.aload_n 1, 1) := by decide +kernel
theorem dX5_feels_122 : decode cX5_feels 122 = .ok (.iconst 2, 1) := by decide +kernel
theorem dX5_feels_123 : decode cX5_feels 123 = .ok (.iaload, 1) := by decide +kernel
theorem dX5_feels_124 : decode cX5_feels 124 = .ok (.iload_n 3, 1) := by decide +kernel
theorem dX5_feels_125 : decode cX5_feels 125 = .ok (.iload 4, 2) := by decide +kernel
theorem dX5_feels_127 : decode cX5_feels 127 = .ok (.invokestatic 169, 3) := by decide +kernel
theorem dX5_feels_130 : decode cX5_feels 130 = .ok (.invokestatic 142, 3) := by decide +kernel
theorem dX5_feels_133 : decode cX5_feels 133 = .ok (.iastore, 1) := by decide +kernel
theorem dX5_feels_134 : decode cX5_feels 134 = .ok (.aload_n 1, 1) := by decide +kernel
theorem dX5_feels_135 : decode cX5_feels 135 = .ok (.iload_n 2, 1) := by decide +kernel
theorem dX5_feels_136 : decode cX5_feels 136 = .ok (.iconst 1, 1) := by decide +kernel
theorem dX5_feels_137 : decode cX5_feels 137 = .ok (.invokestatic 36, 3) := by decide +kernel
theorem dX5_feels_140 : decode cX5_feels 140 = .ok (.aload_n 1, 1) := by decide +kernel
theorem dX5_feels_141 : decode cX5_feels 141 = .ok (.iload_n 2, 1) := by decide +kernel
theorem dX5_feels_142 : decode cX5_feels 142 = .ok (.iconst 0, 1) := by decide +kernel
theorem dX5_feels_143 : decode cX5_feels 143 = .ok (.invokestatic 36, 3) := by decide +kernel
theorem dX5_feels_146 : decode cX5_feels 146 = .ok (.iaload, 1) := by decide +kernel
theorem dX5_feels_147 : decode cX5_feels 147 = .ok (.aload_n 1, 1) := by decide +kernel
theorem dX5_feels_148 : decode cX5_feels 148 = .ok (.iload_n 2, 1) := by decide +kernel
theorem dX5_feels_149 : decode cX5_feels 149 = .ok (.iconst 1, 1) := by decide +kernel
theorem dX5_feels_150 : decode cX5_feels 150 = .ok (.invokestatic 36, 3) := by decide +kernel
theorem dX5_feels_153 : decode cX5_feels 153 = .ok (.iaload, 1) := by decide +kernel
theorem dX5_feels_154 : decode cX5_feels 154 = .ok (.iload 4, 2) := by decide +kernel
theorem dX5_feels_156 : decode cX5_feels 156 = .ok (.invokestatic 169, 3) := by decide +kernel
theorem dX5_feels_159 : decode cX5_feels 159 = .ok (.invokestatic 142, 3) := by decide +kernel
theorem dX5_feels_162 : decode cX5_feels 162 = .ok (.iastore, 1) := by decide +kernel
theorem dX5_feels_163 : decode cX5_feels 163 = .ok (.return_, 1) := by decide +kernel
theorem dX5_probed_0 : decode cX5_probed 0 = .ok (.aload_n 0, 1) := by decide +kernel
theorem dX5_probed_1 : decode cX5_probed 1 = .ok (.iload_n 1, 1) := by decide +kernel
theorem dX5_probed_2 : decode cX5_probed 2 = .ok (.iconst 0, 1) := by decide +kernel
theorem dX5_probed_3 : decode cX5_probed 3 = .ok (.invokestatic 36, 3) := by decide +kernel
theorem dX5_probed_6 : decode cX5_probed 6 = .ok (.iaload, 1) := by decide +kernel
theorem dX5_probed_7 : decode cX5_probed 7 = .ok (.istore_n 2, 1) := by decide +kernel
theorem dX5_probed_8 : decode cX5_probed 8 = .ok (.iload_n 2, 1) := by decide +kernel
theorem dX5_probed_9 : decode cX5_probed 9 = .ok (.aload_n 0, 1) := by decide +kernel
theorem dX5_probed_10 : decode cX5_probed 10 = .ok (.iload_n 1, 1) := by decide +kernel
theorem dX5_probed_11 : decode cX5_probed 11 = .ok (.iconst 1, 1) := by decide +kernel
theorem dX5_probed_12 : decode cX5_probed 12 = .ok (.invokestatic 36, 3) := by decide +kernel
theorem dX5_probed_15 : decode cX5_probed 15 = .ok (.iaload, 1) := by decide +kernel
theorem dX5_probed_16 : decode cX5_probed 16 = .ok (.iload_n 2, 1) := by decide +kernel
theorem dX5_probed_17 : decode cX5_probed 17 = .ok (.isub, 1) := by decide +kernel
theorem dX5_probed_18 : decode cX5_probed 18 = .ok (.iconst 1, 1) := by decide +kernel
theorem dX5_probed_19 : decode cX5_probed 19 = .ok (.iadd, 1) := by decide +kernel
theorem dX5_probed_20 : decode cX5_probed 20 = .ok (.iconst 2, 1) := by decide +kernel
theorem dX5_probed_21 : decode cX5_probed 21 = .ok (.idiv, 1) := by decide +kernel
theorem dX5_probed_22 : decode cX5_probed 22 = .ok (.iadd, 1) := by decide +kernel
theorem dX5_probed_23 : decode cX5_probed 23 = .ok (.ireturn, 1) := by decide +kernel
theorem dX5_probes_0 : decode cX5_probes 0 = .ok (.aload_n 1, 1) := by decide +kernel
theorem dX5_probes_1 : decode cX5_probes 1 = .ok (.iload_n 2, 1) := by decide +kernel
theorem dX5_probes_2 : decode cX5_probes 2 = .ok (.invokestatic 172, 3) := by decide +kernel
theorem dX5_probes_5 : decode cX5_probes 5 = .ok (.istore_n 3, 1) := by decide +kernel
theorem dX5_probes_6 : decode cX5_probes 6 = .ok (.aload_n 0, 1) := by decide +kernel
theorem dX5_probes_7 : decode cX5_probes 7 = .ok (.aload_n 1, 1) := by decide +kernel
theorem dX5_probes_8 : decode cX5_probes 8 = .ok (.iload_n 2, 1) := by decide +kernel
theorem dX5_probes_9 : decode cX5_probes 9 = .ok (.iload_n 3, 1) := by decide +kernel
theorem dX5_probes_10 : decode cX5_probes 10 = .ok (.invokevirtual 165, 3) := by decide +kernel
theorem dX5_probes_13 : decode cX5_probes 13 = .ok (.aload_n 0, 1) := by decide +kernel
theorem dX5_probes_14 : decode cX5_probes 14 = .ok (.invokevirtual 162, 3) := by decide +kernel
theorem dX5_probes_17 : decode cX5_probes 17 = .ok (.ifCond .eq 44, 3) := by decide +kernel
theorem dX5_probes_20 : decode cX5_probes 20 = .ok (.aload_n 1, 1) := by decide +kernel
theorem dX5_probes_21 : decode cX5_probes 21 = .ok (.iload_n 2, 1) := by decide +kernel
theorem dX5_probes_22 : decode cX5_probes 22 = .ok (.iconst 3, 1) := by decide +kernel
theorem dX5_probes_23 : decode cX5_probes 23 = .ok (.invokestatic 36, 3) := by decide +kernel
theorem dX5_probes_26 : decode cX5_probes 26 = .ok (.dup2, 1) := by decide +kernel
theorem dX5_probes_27 : decode cX5_probes 27 = .ok (.iaload, 1) := by decide +kernel
theorem dX5_probes_28 : decode cX5_probes 28 = .ok (.iconst 1, 1) := by decide +kernel
theorem dX5_probes_29 : decode cX5_probes 29 = .ok (.iadd, 1) := by decide +kernel
theorem dX5_probes_30 : decode cX5_probes 30 = .ok (.iastore, 1) := by decide +kernel
theorem dX5_probes_31 : decode cX5_probes 31 = .ok (.aload_n 1, 1) := by decide +kernel
theorem dX5_probes_32 : decode cX5_probes 32 = .ok (.iload_n 2, 1) := by decide +kernel
theorem dX5_probes_33 : decode cX5_probes 33 = .ok (.iconst 3, 1) := by decide +kernel
theorem dX5_probes_34 : decode cX5_probes 34 = .ok (.invokestatic 36, 3) := by decide +kernel
theorem dX5_probes_37 : decode cX5_probes 37 = .ok (.iaload, 1) := by decide +kernel
theorem dX5_probes_38 : decode cX5_probes 38 = .ok (.iconst 3, 1) := by decide +kernel
theorem dX5_probes_39 : decode cX5_probes 39 = .ok (.if_icmp .ne 21, 3) := by decide +kernel
theorem dX5_probes_42 : decode cX5_probes 42 = .ok (.aload_n 1, 1) := by decide +kernel
theorem dX5_probes_43 : decode cX5_probes 43 = .ok (.iload_n 2, 1) := by decide +kernel
theorem dX5_probes_44 : decode cX5_probes 44 = .ok (.iconst 1, 1) := by decide +kernel
theorem dX5_probes_45 : decode cX5_probes 45 = .ok (.invokestatic 36, 3) := by decide +kernel
theorem dX5_probes_48 : decode cX5_probes 48 = .ok (.iload_n 3, 1) := by decide +kernel
theorem dX5_probes_49 : decode cX5_probes 49 = .ok (.iconst 1, 1) := by decide +kernel
theorem dX5_probes_50 : decode cX5_probes 50 = .ok (.isub, 1) := by decide +kernel
theorem dX5_probes_51 : decode cX5_probes 51 = .ok (.iastore, 1) := by decide +kernel
theorem dX5_probes_52 : decode cX5_probes 52 = .ok (.aload_n 1, 1) := by decide +kernel
theorem dX5_probes_53 : decode cX5_probes 53 = .ok (.iload_n 2, 1) := by decide +kernel
theorem dX5_probes_54 : decode cX5_probes 54 = .ok (.iconst 3, 1) := by decide +kernel
theorem dX5_probes_55 : decode cX5_probes 55 = .ok (.invokestatic 36, 3) := by decide +kernel
theorem dX5_probes_58 : decode cX5_probes 58 = .ok (.iconst 0, 1) := by decide +kernel
theorem dX5_probes_59 : decode cX5_probes 59 = .ok (.iastore, 1) := by decide +kernel
theorem dX5_probes_60 : decode cX5_probes 60 = .ok (.return_, 1) := by decide +kernel
theorem dX5_probes_61 : decode cX5_probes 61 = .ok (.aload_n 1, 1) := by decide +kernel
theorem dX5_probes_62 : decode cX5_probes 62 = .ok (.iload_n 2, 1) := by decide +kernel
theorem dX5_probes_63 : decode cX5_probes 63 = .ok (.iconst 3, 1) := by decide +kernel
theorem dX5_probes_64 : decode cX5_probes 64 = .ok (.invokestatic 36, 3) := by decide +kernel
theorem dX5_probes_67 : decode cX5_probes 67 = .ok (.iconst 0, 1) := by decide +kernel
theorem dX5_probes_68 : decode cX5_probes 68 = .ok (.iastore, 1) := by decide +kernel
theorem dX5_probes_69 : decode cX5_probes 69 = .ok (.aload_n 0, 1) := by decide +kernel
theorem dX5_probes_70 : decode cX5_probes 70 = .ok (.getfield 158, 3) := by decide +kernel
theorem dX5_probes_73 : decode cX5_probes 73 = .ok (.ifCond .eq 39, 3) := by decide +kernel
theorem dX5_probes_76 : decode cX5_probes 76 = .ok (.aload_n 1, 1) := by decide +kernel
theorem dX5_probes_77 : decode cX5_probes 77 = .ok (.iload_n 2, 1) := by decide +kernel
theorem dX5_probes_78 : decode cX5_probes 78 = .ok (.iconst 1, 1) := by decide +kernel
theorem dX5_probes_79 : decode cX5_probes 79 = .ok (.invokestatic 36, 3) := by decide +kernel
theorem dX5_probes_82 : decode cX5_probes 82 = .ok (.aload_n 1, 1) := by decide +kernel
theorem dX5_probes_83 : decode cX5_probes 83 = .ok (.iload_n 2, 1) := by decide +kernel
theorem dX5_probes_84 : decode cX5_probes 84 = .ok (.iconst 0, 1) := by decide +kernel
theorem dX5_probes_85 : decode cX5_probes 85 = .ok (.invokestatic 36, 3) := by decide +kernel
theorem dX5_probes_88 : decode cX5_probes 88 = .ok (.iaload, 1) := by decide +kernel
theorem dX5_probes_89 : decode cX5_probes 89 = .ok (.aload_n 1, 1) := by decide +kernel
theorem dX5_probes_90 : decode cX5_probes 90 = .ok (.iload_n 2, 1) := by decide +kernel
theorem dX5_probes_91 : decode cX5_probes 91 = .ok (.iconst 1, 1) := by decide +kernel
theorem dX5_probes_92 : decode cX5_probes 92 = .ok (.invokestatic 36, 3) := by decide +kernel
theorem dX5_probes_95 : decode cX5_probes 95 = .ok (.iaload, 1) := by decide +kernel
theorem dX5_probes_96 : decode cX5_probes 96 = .ok (.aload_n 0, 1) := by decide +kernel
theorem dX5_probes_97 : decode cX5_probes 97 = .ok (.getfield 151, 3) := by decide +kernel
theorem dX5_probes_100 : decode cX5_probes 100 = .ok (.iconst 2, 1) := by decide +kernel
theorem dX5_probes_101 : decode cX5_probes 101 = .ok (.isub, 1) := by decide +kernel
theorem dX5_probes_102 : decode cX5_probes 102 = .ok (.invokestatic 169, 3) := by decide +kernel
theorem dX5_probes_105 : decode cX5_probes 105 = .ok (.invokestatic 142, 3) := by decide +kernel
theorem dX5_probes_108 : decode cX5_probes 108 = .ok (.iastore, 1) := by decide +kernel
theorem dX5_probes_109 : decode cX5_probes 109 = .ok (.goto 11, 3) := by decide +kernel
theorem dX5_probes_112 : decode cX5_probes 112 = .ok (.aload_n 1, 1) := by decide +kernel
theorem dX5_probes_113 : decode cX5_probes 113 = .ok (.iload_n 2, 1) := by decide +kernel
theorem dX5_probes_114 : decode cX5_probes 114 = .ok (.iconst 0, 1) := by decide +kernel
theorem dX5_probes_115 : decode cX5_probes 115 = .ok (.invokestatic 36, 3) := by decide +kernel
theorem dX5_probes_118 : decode cX5_probes 118 = .ok (.iload_n 3, 1) := by decide +kernel
theorem dX5_probes_119 : decode cX5_probes 119 = .ok (.iastore, 1) := by decide +kernel
theorem dX5_probes_120 : decode cX5_probes 120 = .ok (.return_, 1) := by decide +kernel
theorem dX5_ticks_0 : decode cX5_ticks 0 = .ok (.aload_n 1, 1) := by decide +kernel
theorem dX5_ticks_1 : decode cX5_ticks 1 = .ok (.iload_n 2, 1) := by decide +kernel
theorem dX5_ticks_2 : decode cX5_ticks 2 = .ok (.iconst 0, 1) := by decide +kernel
theorem dX5_ticks_3 : decode cX5_ticks 3 = .ok (.invokestatic 36, 3) := by decide +kernel
theorem dX5_ticks_6 : decode cX5_ticks 6 = .ok (.iaload, 1) := by decide +kernel
theorem dX5_ticks_7 : decode cX5_ticks 7 = .ok (.istore_n 3, 1) := by decide +kernel
theorem dX5_ticks_8 : decode cX5_ticks 8 = .ok (.aload_n 1, 1) := by decide +kernel
theorem dX5_ticks_9 : decode cX5_ticks 9 = .ok (.iload_n 2, 1) := by decide +kernel
theorem dX5_ticks_10 : decode cX5_ticks 10 = .ok (.iconst 1, 1) := by decide +kernel
theorem dX5_ticks_11 : decode cX5_ticks 11 = .ok (.invokestatic 36, 3) := by decide +kernel
theorem dX5_ticks_14 : decode cX5_ticks 14 = .ok (.iaload, 1) := by decide +kernel
theorem dX5_ticks_15 : decode cX5_ticks 15 = .ok (.istore 4, 2) := by decide +kernel
theorem dX5_ticks_17 : decode cX5_ticks 17 = .ok (.aload_n 1, 1) := by decide +kernel
theorem dX5_ticks_18 : decode cX5_ticks 18 = .ok (.iload_n 2, 1) := by decide +kernel
theorem dX5_ticks_19 : decode cX5_ticks 19 = .ok (.iconst 2, 1) := by decide +kernel
theorem dX5_ticks_20 : decode cX5_ticks 20 = .ok (.invokestatic 36, 3) := by decide +kernel
theorem dX5_ticks_23 : decode cX5_ticks 23 = .ok (.iaload, 1) := by decide +kernel
theorem dX5_ticks_24 : decode cX5_ticks 24 = .ok (.iconst 1, 1) := by decide +kernel
theorem dX5_ticks_25 : decode cX5_ticks 25 = .ok (.if_icmp .ne 7, 3) := by decide +kernel
theorem dX5_ticks_28 : decode cX5_ticks 28 = .ok (.iconst 1, 1) := by decide +kernel
theorem dX5_ticks_29 : decode cX5_ticks 29 = .ok (.goto 4, 3) := by decide +kernel
theorem dX5_ticks_32 : decode cX5_ticks 32 = .ok (.iconst 0, 1) := by decide +kernel
theorem dX5_ticks_33 : decode cX5_ticks 33 = .ok (.istore 5, 2) := by decide +kernel
theorem dX5_ticks_35 : decode cX5_ticks 35 = .ok (.aload_n 0, 1) := by decide +kernel
theorem dX5_ticks_36 : decode cX5_ticks 36 = .ok (.aload_n 1, 1) := by decide +kernel
theorem dX5_ticks_37 : decode cX5_ticks 37 = .ok (.iload_n 2, 1) := by decide +kernel
theorem dX5_ticks_38 : decode cX5_ticks 38 = .ok (.invokevirtual 176, 3) := by decide +kernel
theorem dX5_ticks_41 : decode cX5_ticks 41 = .ok (.aload_n 1, 1) := by decide +kernel
theorem dX5_ticks_42 : decode cX5_ticks 42 = .ok (.iload_n 2, 1) := by decide +kernel
theorem dX5_ticks_43 : decode cX5_ticks 43 = .ok (.iconst 0, 1) := by decide +kernel
theorem dX5_ticks_44 : decode cX5_ticks 44 = .ok (.invokestatic 36, 3) := by decide +kernel
theorem dX5_ticks_47 : decode cX5_ticks 47 = .ok (.iaload, 1) := by decide +kernel
theorem dX5_ticks_48 : decode cX5_ticks 48 = .ok (.iload_n 3, 1) := by decide +kernel
theorem dX5_ticks_49 : decode cX5_ticks 49 = .ok (.if_icmp .ne 15, 3) := by decide +kernel
theorem dX5_ticks_52 : decode cX5_ticks 52 = .ok (.aload_n 1, 1) := by decide +kernel
theorem dX5_ticks_53 : decode cX5_ticks 53 = .ok (.iload_n 2, 1) := by decide +kernel
theorem dX5_ticks_54 : decode cX5_ticks 54 = .ok (.iconst 1, 1) := by decide +kernel
theorem dX5_ticks_55 : decode cX5_ticks 55 = .ok (.invokestatic 36, 3) := by decide +kernel
theorem dX5_ticks_58 : decode cX5_ticks 58 = .ok (.iaload, 1) := by decide +kernel
theorem dX5_ticks_59 : decode cX5_ticks 59 = .ok (.iload 4, 2) := by decide +kernel
theorem dX5_ticks_61 : decode cX5_ticks 61 = .ok (.if_icmp .eq 7, 3) := by decide +kernel
theorem dX5_ticks_64 : decode cX5_ticks 64 = .ok (.iconst 1, 1) := by decide +kernel
theorem dX5_ticks_65 : decode cX5_ticks 65 = .ok (.goto 4, 3) := by decide +kernel
theorem dX5_ticks_68 : decode cX5_ticks 68 = .ok (.iconst 0, 1) := by decide +kernel
theorem dX5_ticks_69 : decode cX5_ticks 69 = .ok (.istore 6, 2) := by decide +kernel
theorem dX5_ticks_71 : decode cX5_ticks 71 = .ok (.iload 6, 2) := by decide +kernel
theorem dX5_ticks_73 : decode cX5_ticks 73 = .ok (.ifCond .eq 11, 3) := by decide +kernel
theorem dX5_ticks_76 : decode cX5_ticks 76 = .ok (.aload_n 1, 1) := by decide +kernel
theorem dX5_ticks_77 : decode cX5_ticks 77 = .ok (.iload_n 2, 1) := by decide +kernel
theorem dX5_ticks_78 : decode cX5_ticks 78 = .ok (.iconst 3, 1) := by decide +kernel
theorem dX5_ticks_79 : decode cX5_ticks 79 = .ok (.invokestatic 36, 3) := by decide +kernel
theorem dX5_ticks_82 : decode cX5_ticks 82 = .ok (.iconst 0, 1) := by decide +kernel
theorem dX5_ticks_83 : decode cX5_ticks 83 = .ok (.iastore, 1) := by decide +kernel
theorem dX5_ticks_84 : decode cX5_ticks 84 = .ok (.aload_n 1, 1) := by decide +kernel
theorem dX5_ticks_85 : decode cX5_ticks 85 = .ok (.iload_n 2, 1) := by decide +kernel
theorem dX5_ticks_86 : decode cX5_ticks 86 = .ok (.iconst 0, 1) := by decide +kernel
theorem dX5_ticks_87 : decode cX5_ticks 87 = .ok (.invokestatic 36, 3) := by decide +kernel
theorem dX5_ticks_90 : decode cX5_ticks 90 = .ok (.iaload, 1) := by decide +kernel
theorem dX5_ticks_91 : decode cX5_ticks 91 = .ok (.aload_n 1, 1) := by decide +kernel
theorem dX5_ticks_92 : decode cX5_ticks 92 = .ok (.iload_n 2, 1) := by decide +kernel
theorem dX5_ticks_93 : decode cX5_ticks 93 = .ok (.iconst 1, 1) := by decide +kernel
theorem dX5_ticks_94 : decode cX5_ticks 94 = .ok (.invokestatic 36, 3) := by decide +kernel
theorem dX5_ticks_97 : decode cX5_ticks 97 = .ok (.iaload, 1) := by decide +kernel
theorem dX5_ticks_98 : decode cX5_ticks 98 = .ok (.if_icmp .ge 22, 3) := by decide +kernel
theorem dX5_ticks_101 : decode cX5_ticks 101 = .ok (.iload 5, 2) := by decide +kernel
theorem dX5_ticks_103 : decode cX5_ticks 103 = .ok (.ifCond .eq 8, 3) := by decide +kernel
theorem dX5_ticks_106 : decode cX5_ticks 106 = .ok (.iload 6, 2) := by decide +kernel
theorem dX5_ticks_108 : decode cX5_ticks 108 = .ok (.ifCond .eq 12, 3) := by decide +kernel
theorem dX5_ticks_111 : decode cX5_ticks 111 = .ok (.aload_n 0, 1) := by decide +kernel
theorem dX5_ticks_112 : decode cX5_ticks 112 = .ok (.aload_n 1, 1) := by decide +kernel
theorem dX5_ticks_113 : decode cX5_ticks 113 = .ok (.iload_n 2, 1) := by decide +kernel
theorem dX5_ticks_114 : decode cX5_ticks 114 = .ok (.invokevirtual 180, 3) := by decide +kernel
theorem dX5_ticks_117 : decode cX5_ticks 117 = .ok (.goto 50, 3) := by decide +kernel
theorem dX5_ticks_120 : decode cX5_ticks 120 = .ok (.iload 5, 2) := by decide +kernel
theorem dX5_ticks_122 : decode cX5_ticks 122 = .ok (.ifCond .eq 45, 3) := by decide +kernel
theorem dX5_ticks_125 : decode cX5_ticks 125 = .ok (.aload_n 1, 1) := by decide +kernel
theorem dX5_ticks_126 : decode cX5_ticks 126 = .ok (.iload_n 2, 1) := by decide +kernel
theorem dX5_ticks_127 : decode cX5_ticks 127 = .ok (.iconst 5, 1) := by decide +kernel
theorem dX5_ticks_128 : decode cX5_ticks 128 = .ok (.invokestatic 36, 3) := by decide +kernel
theorem dX5_ticks_131 : decode cX5_ticks 131 = .ok (.dup2, 1) := by decide +kernel
theorem dX5_ticks_132 : decode cX5_ticks 132 = .ok (.iaload, 1) := by decide +kernel
theorem dX5_ticks_133 : decode cX5_ticks 133 = .ok (.iconst 1, 1) := by decide +kernel
theorem dX5_ticks_134 : decode cX5_ticks 134 = .ok (.iadd, 1) := by decide +kernel
theorem dX5_ticks_135 : decode cX5_ticks 135 = .ok (.iastore, 1) := by decide +kernel
theorem dX5_ticks_136 : decode cX5_ticks 136 = .ok (.aload_n 1, 1) := by decide +kernel
theorem dX5_ticks_137 : decode cX5_ticks 137 = .ok (.iload_n 2, 1) := by decide +kernel
theorem dX5_ticks_138 : decode cX5_ticks 138 = .ok (.iconst 5, 1) := by decide +kernel
theorem dX5_ticks_139 : decode cX5_ticks 139 = .ok (.invokestatic 36, 3) := by decide +kernel
theorem dX5_ticks_142 : decode cX5_ticks 142 = .ok (.iaload, 1) := by decide +kernel
theorem dX5_ticks_143 : decode cX5_ticks 143 = .ok (.aload_n 1, 1) := by decide +kernel
theorem dX5_ticks_144 : decode cX5_ticks 144 = .ok (.iconst 4, 1) := by decide +kernel
theorem dX5_ticks_145 : decode cX5_ticks 145 = .ok (.iaload, 1) := by decide +kernel
theorem dX5_ticks_146 : decode cX5_ticks 146 = .ok (.if_icmp .ne 21, 3) := by decide +kernel
theorem dX5_ticks_149 : decode cX5_ticks 149 = .ok (.aload_n 1, 1) := by decide +kernel
theorem dX5_ticks_150 : decode cX5_ticks 150 = .ok (.iload_n 2, 1) := by decide +kernel
theorem dX5_ticks_151 : decode cX5_ticks 151 = .ok (.iconst 5, 1) := by decide +kernel
theorem dX5_ticks_152 : decode cX5_ticks 152 = .ok (.invokestatic 36, 3) := by decide +kernel
theorem dX5_ticks_155 : decode cX5_ticks 155 = .ok (.iconst 0, 1) := by decide +kernel
theorem dX5_ticks_156 : decode cX5_ticks 156 = .ok (.iastore, 1) := by decide +kernel
theorem dX5_ticks_157 : decode cX5_ticks 157 = .ok (.aload_n 1, 1) := by decide +kernel
theorem dX5_ticks_158 : decode cX5_ticks 158 = .ok (.iload_n 2, 1) := by decide +kernel
theorem dX5_ticks_159 : decode cX5_ticks 159 = .ok (.iconst 1, 1) := by decide +kernel
theorem dX5_ticks_160 : decode cX5_ticks 160 = .ok (.invokestatic 36, 3) := by decide +kernel
theorem dX5_ticks_163 : decode cX5_ticks 163 = .ok (.aload_n 1, 1) := by decide +kernel
theorem dX5_ticks_164 : decode cX5_ticks 164 = .ok (.iconst 3, 1) := by decide +kernel
theorem dX5_ticks_165 : decode cX5_ticks 165 = .ok (.iaload, 1) := by decide +kernel
theorem dX5_ticks_166 : decode cX5_ticks 166 = .ok (.iastore, 1) := by decide +kernel
theorem dX5_ticks_167 : decode cX5_ticks 167 = .ok (.aload_n 1, 1) := by decide +kernel
theorem dX5_ticks_168 : decode cX5_ticks 168 = .ok (.iload_n 2, 1) := by decide +kernel
theorem dX5_ticks_169 : decode cX5_ticks 169 = .ok (.iconst 0, 1) := by decide +kernel
theorem dX5_ticks_170 : decode cX5_ticks 170 = .ok (.invokestatic 36, 3) := by decide +kernel
theorem dX5_ticks_173 : decode cX5_ticks 173 = .ok (.iaload, 1) := by decide +kernel
theorem dX5_ticks_174 : decode cX5_ticks 174 = .ok (.aload_n 1, 1) := by decide +kernel
theorem dX5_ticks_175 : decode cX5_ticks 175 = .ok (.iload_n 2, 1) := by decide +kernel
theorem dX5_ticks_176 : decode cX5_ticks 176 = .ok (.iconst 1, 1) := by decide +kernel
theorem dX5_ticks_177 : decode cX5_ticks 177 = .ok (.invokestatic 36, 3) := by decide +kernel
theorem dX5_ticks_180 : decode cX5_ticks 180 = .ok (.iaload, 1) := by decide +kernel
theorem dX5_ticks_181 : decode cX5_ticks 181 = .ok (.if_icmp .ne 7, 3) := by decide +kernel
theorem dX5_ticks_184 : decode cX5_ticks 184 = .ok (.iconst 1, 1) := by decide +kernel
theorem dX5_ticks_185 : decode cX5_ticks 185 = .ok (.goto 4, 3) := by decide +kernel
theorem dX5_ticks_188 : decode cX5_ticks 188 = .ok (.iconst 0, 1) := by decide +kernel
theorem dX5_ticks_189 : decode cX5_ticks 189 = .ok (.istore 7, 2) := by decide +kernel
theorem dX5_ticks_191 : decode cX5_ticks 191 = .ok (.aload_n 1, 1) := by decide +kernel
theorem dX5_ticks_192 : decode cX5_ticks 192 = .ok (.iload_n 2, 1) := by decide +kernel
theorem dX5_ticks_193 : decode cX5_ticks 193 = .ok (.iconst 2, 1) := by decide +kernel
theorem dX5_ticks_194 : decode cX5_ticks 194 = .ok (.invokestatic 36, 3) := by decide +kernel
theorem dX5_ticks_197 : decode cX5_ticks 197 = .ok (.iload 7, 2) := by decide +kernel
theorem dX5_ticks_199 : decode cX5_ticks 199 = .ok (.ifCond .eq 7, 3) := by decide +kernel
theorem dX5_ticks_202 : decode cX5_ticks 202 = .ok (.iconst 1, 1) := by decide +kernel
theorem dX5_ticks_203 : decode cX5_ticks 203 = .ok (.goto 4, 3) := by decide +kernel
theorem dX5_ticks_206 : decode cX5_ticks 206 = .ok (.iconst 0, 1) := by decide +kernel
theorem dX5_ticks_207 : decode cX5_ticks 207 = .ok (.iastore, 1) := by decide +kernel
theorem dX5_ticks_208 : decode cX5_ticks 208 = .ok (.aload_n 1, 1) := by decide +kernel
theorem dX5_ticks_209 : decode cX5_ticks 209 = .ok (.iload_n 2, 1) := by decide +kernel
theorem dX5_ticks_210 : decode cX5_ticks 210 = .ok (.iconst 5, 1) := by decide +kernel
theorem dX5_ticks_211 : decode cX5_ticks 211 = .ok (.invokestatic 36, 3) := by decide +kernel
theorem dX5_ticks_214 : decode cX5_ticks 214 = .ok (.iload 7, 2) := by decide +kernel
theorem dX5_ticks_216 : decode cX5_ticks 216 = .ok (.ifCond .eq 13, 3) := by decide +kernel
theorem dX5_ticks_219 : decode cX5_ticks 219 = .ok (.aload_n 1, 1) := by decide +kernel
theorem dX5_ticks_220 : decode cX5_ticks 220 = .ok (.iload_n 2, 1) := by decide +kernel
theorem dX5_ticks_221 : decode cX5_ticks 221 = .ok (.iconst 5, 1) := by decide +kernel
theorem dX5_ticks_222 : decode cX5_ticks 222 = .ok (.invokestatic 36, 3) := by decide +kernel
theorem dX5_ticks_225 : decode cX5_ticks 225 = .ok (.iaload, 1) := by decide +kernel
theorem dX5_ticks_226 : decode cX5_ticks 226 = .ok (.goto 4, 3) := by decide +kernel
theorem dX5_ticks_229 : decode cX5_ticks 229 = .ok (.iconst 0, 1) := by decide +kernel
theorem dX5_ticks_230 : decode cX5_ticks 230 = .ok (.iastore, 1) := by decide +kernel
theorem dX5_ticks_231 : decode cX5_ticks 231 = .ok (.return_, 1) := by decide +kernel
theorem dX5_keeps_0 : decode cX5_keeps 0 = .ok (.aload_n 0, 1) := by decide +kernel
theorem dX5_keeps_1 : decode cX5_keeps 1 = .ok (.getfield 47, 3) := by decide +kernel
theorem dX5_keeps_4 : decode cX5_keeps 4 = .ok (.iconst 4, 1) := by decide +kernel
theorem dX5_keeps_5 : decode cX5_keeps 5 = .ok (.if_icmp .ne 43, 3) := by decide +kernel
theorem dX5_keeps_8 : decode cX5_keeps 8 = .ok (.iconst 0, 1) := by decide +kernel
theorem dX5_keeps_9 : decode cX5_keeps 9 = .ok (.istore_n 1, 1) := by decide +kernel
theorem dX5_keeps_10 : decode cX5_keeps 10 = .ok (.iload_n 1, 1) := by decide +kernel
theorem dX5_keeps_11 : decode cX5_keeps 11 = .ok (.sipush 309, 3) := by decide +kernel
theorem dX5_keeps_14 : decode cX5_keeps 14 = .ok (.if_icmp .ge 24, 3) := by decide +kernel
theorem dX5_keeps_17 : decode cX5_keeps 17 = .ok (.aload_n 0, 1) := by decide +kernel
theorem dX5_keeps_18 : decode cX5_keeps 18 = .ok (.getfield 19, 3) := by decide +kernel
theorem dX5_keeps_21 : decode cX5_keeps 21 = .ok (.iload_n 1, 1) := by decide +kernel
theorem dX5_keeps_22 : decode cX5_keeps 22 = .ok (.aload_n 0, 1) := by decide +kernel
theorem dX5_keeps_23 : decode cX5_keeps 23 = .ok (.getfield 19, 3) := by decide +kernel
theorem dX5_keeps_26 : decode cX5_keeps 26 = .ok (.iload_n 1, 1) := by decide +kernel
theorem dX5_keeps_27 : decode cX5_keeps 27 = .ok (.bipush 103, 2) := by decide +kernel
theorem dX5_keeps_29 : decode cX5_keeps 29 = .ok (.iadd, 1) := by decide +kernel
theorem dX5_keeps_30 : decode cX5_keeps 30 = .ok (.iaload, 1) := by decide +kernel
theorem dX5_keeps_31 : decode cX5_keeps 31 = .ok (.iastore, 1) := by decide +kernel
theorem dX5_keeps_32 : decode cX5_keeps 32 = .ok (.iinc 1 1, 3) := by decide +kernel
theorem dX5_keeps_35 : decode cX5_keeps 35 = .ok (.goto (-25), 3) := by decide +kernel
theorem dX5_keeps_38 : decode cX5_keeps 38 = .ok (.aload_n 0, 1) := by decide +kernel
theorem dX5_keeps_39 : decode cX5_keeps 39 = .ok (.dup, 1) := by decide +kernel
theorem dX5_keeps_40 : decode cX5_keeps 40 = .ok (.getfield 47, 3) := by decide +kernel
theorem dX5_keeps_43 : decode cX5_keeps 43 = .ok (.iconst 1, 1) := by decide +kernel
theorem dX5_keeps_44 : decode cX5_keeps 44 = .ok (.isub, 1) := by decide +kernel
theorem dX5_keeps_45 : decode cX5_keeps 45 = .ok (.putfield 47, 3) := by decide +kernel
theorem dX5_keeps_48 : decode cX5_keeps 48 = .ok (.aload_n 0, 1) := by decide +kernel
theorem dX5_keeps_49 : decode cX5_keeps 49 = .ok (.getfield 7, 3) := by decide +kernel
theorem dX5_keeps_52 : decode cX5_keeps 52 = .ok (.iconst 0, 1) := by decide +kernel
theorem dX5_keeps_53 : decode cX5_keeps 53 = .ok (.aload_n 0, 1) := by decide +kernel
theorem dX5_keeps_54 : decode cX5_keeps 54 = .ok (.getfield 19, 3) := by decide +kernel
theorem dX5_keeps_57 : decode cX5_keeps 57 = .ok (.bipush 103, 2) := by decide +kernel
theorem dX5_keeps_59 : decode cX5_keeps 59 = .ok (.aload_n 0, 1) := by decide +kernel
theorem dX5_keeps_60 : decode cX5_keeps 60 = .ok (.getfield 47, 3) := by decide +kernel
theorem dX5_keeps_63 : decode cX5_keeps 63 = .ok (.imul, 1) := by decide +kernel
theorem dX5_keeps_64 : decode cX5_keeps 64 = .ok (.invokestatic 43, 3) := by decide +kernel
theorem dX5_keeps_67 : decode cX5_keeps 67 = .ok (.aload_n 0, 1) := by decide +kernel
theorem dX5_keeps_68 : decode cX5_keeps 68 = .ok (.dup, 1) := by decide +kernel
theorem dX5_keeps_69 : decode cX5_keeps 69 = .ok (.getfield 47, 3) := by decide +kernel
theorem dX5_keeps_72 : decode cX5_keeps 72 = .ok (.iconst 1, 1) := by decide +kernel
theorem dX5_keeps_73 : decode cX5_keeps 73 = .ok (.iadd, 1) := by decide +kernel
theorem dX5_keeps_74 : decode cX5_keeps 74 = .ok (.putfield 47, 3) := by decide +kernel
theorem dX5_keeps_77 : decode cX5_keeps 77 = .ok (.return_, 1) := by decide +kernel
theorem dX5_undo_0 : decode cX5_undo 0 = .ok (.aload_n 0, 1) := by decide +kernel
theorem dX5_undo_1 : decode cX5_undo 1 = .ok (.getfield 47, 3) := by decide +kernel
theorem dX5_undo_4 : decode cX5_undo 4 = .ok (.ifCond .ne 6, 3) := by decide +kernel
theorem dX5_undo_7 : decode cX5_undo 7 = .ok (.bipush (-2), 2) := by decide +kernel
theorem dX5_undo_9 : decode cX5_undo 9 = .ok (.ireturn, 1) := by decide +kernel
theorem dX5_undo_10 : decode cX5_undo 10 = .ok (.aload_n 0, 1) := by decide +kernel
theorem dX5_undo_11 : decode cX5_undo 11 = .ok (.dup, 1) := by decide +kernel
theorem dX5_undo_12 : decode cX5_undo 12 = .ok (.getfield 47, 3) := by decide +kernel
theorem dX5_undo_15 : decode cX5_undo 15 = .ok (.iconst 1, 1) := by decide +kernel
theorem dX5_undo_16 : decode cX5_undo 16 = .ok (.isub, 1) := by decide +kernel
theorem dX5_undo_17 : decode cX5_undo 17 = .ok (.putfield 47, 3) := by decide +kernel
theorem dX5_undo_20 : decode cX5_undo 20 = .ok (.aload_n 0, 1) := by decide +kernel
theorem dX5_undo_21 : decode cX5_undo 21 = .ok (.getfield 19, 3) := by decide +kernel
theorem dX5_undo_24 : decode cX5_undo 24 = .ok (.bipush 103, 2) := by decide +kernel
theorem dX5_undo_26 : decode cX5_undo 26 = .ok (.aload_n 0, 1) := by decide +kernel
theorem dX5_undo_27 : decode cX5_undo 27 = .ok (.getfield 47, 3) := by decide +kernel
theorem dX5_undo_30 : decode cX5_undo 30 = .ok (.imul, 1) := by decide +kernel
theorem dX5_undo_31 : decode cX5_undo 31 = .ok (.aload_n 0, 1) := by decide +kernel
theorem dX5_undo_32 : decode cX5_undo 32 = .ok (.getfield 7, 3) := by decide +kernel
theorem dX5_undo_35 : decode cX5_undo 35 = .ok (.iconst 0, 1) := by decide +kernel
theorem dX5_undo_36 : decode cX5_undo 36 = .ok (.invokestatic 43, 3) := by decide +kernel
theorem dX5_undo_39 : decode cX5_undo 39 = .ok (.aload_n 0, 1) := by decide +kernel
theorem dX5_undo_40 : decode cX5_undo 40 = .ok (.getfield 47, 3) := by decide +kernel
theorem dX5_undo_43 : decode cX5_undo 43 = .ok (.ireturn, 1) := by decide +kernel
theorem dX5_sumOf_0 : decode cX5_sumOf 0 = .ok (.iconst 0, 1) := by decide +kernel
theorem dX5_sumOf_1 : decode cX5_sumOf 1 = .ok (.istore_n 2, 1) := by decide +kernel
theorem dX5_sumOf_2 : decode cX5_sumOf 2 = .ok (.iconst 0, 1) := by decide +kernel
theorem dX5_sumOf_3 : decode cX5_sumOf 3 = .ok (.istore_n 3, 1) := by decide +kernel
theorem dX5_sumOf_4 : decode cX5_sumOf 4 = .ok (.iload_n 3, 1) := by decide +kernel
theorem dX5_sumOf_5 : decode cX5_sumOf 5 = .ok (.aload_n 0, 1) := by decide +kernel
theorem dX5_sumOf_6 : decode cX5_sumOf 6 = .ok (.getfield 7, 3) := by decide +kernel
theorem dX5_sumOf_9 : decode cX5_sumOf 9 = .ok (.iconst 0, 1) := by decide +kernel
theorem dX5_sumOf_10 : decode cX5_sumOf 10 = .ok (.iaload, 1) := by decide +kernel
theorem dX5_sumOf_11 : decode cX5_sumOf 11 = .ok (.if_icmp .ge 22, 3) := by decide +kernel
theorem dX5_sumOf_14 : decode cX5_sumOf 14 = .ok (.iload_n 2, 1) := by decide +kernel
theorem dX5_sumOf_15 : decode cX5_sumOf 15 = .ok (.aload_n 0, 1) := by decide +kernel
theorem dX5_sumOf_16 : decode cX5_sumOf 16 = .ok (.getfield 7, 3) := by decide +kernel
theorem dX5_sumOf_19 : decode cX5_sumOf 19 = .ok (.iload_n 3, 1) := by decide +kernel
theorem dX5_sumOf_20 : decode cX5_sumOf 20 = .ok (.iload_n 1, 1) := by decide +kernel
theorem dX5_sumOf_21 : decode cX5_sumOf 21 = .ok (.invokestatic 36, 3) := by decide +kernel
theorem dX5_sumOf_24 : decode cX5_sumOf 24 = .ok (.iaload, 1) := by decide +kernel
theorem dX5_sumOf_25 : decode cX5_sumOf 25 = .ok (.iadd, 1) := by decide +kernel
theorem dX5_sumOf_26 : decode cX5_sumOf 26 = .ok (.istore_n 2, 1) := by decide +kernel
theorem dX5_sumOf_27 : decode cX5_sumOf 27 = .ok (.iinc 3 1, 3) := by decide +kernel
theorem dX5_sumOf_30 : decode cX5_sumOf 30 = .ok (.goto (-26), 3) := by decide +kernel
theorem dX5_sumOf_33 : decode cX5_sumOf 33 = .ok (.iload_n 2, 1) := by decide +kernel
theorem dX5_sumOf_34 : decode cX5_sumOf 34 = .ok (.ireturn, 1) := by decide +kernel
theorem dX5_tick_0 : decode cX5_tick 0 = .ok (.iload_n 1, 1) := by decide +kernel
theorem dX5_tick_1 : decode cX5_tick 1 = .ok (.iconst 1, 1) := by decide +kernel
theorem dX5_tick_2 : decode cX5_tick 2 = .ok (.bipush 99, 2) := by decide +kernel
theorem dX5_tick_4 : decode cX5_tick 4 = .ok (.invokestatic 57, 3) := by decide +kernel
theorem dX5_tick_7 : decode cX5_tick 7 = .ok (.ifCond .ne 5, 3) := by decide +kernel
theorem dX5_tick_10 : decode cX5_tick 10 = .ok (.iconst (-1), 1) := by decide +kernel
theorem dX5_tick_11 : decode cX5_tick 11 = .ok (.ireturn, 1) := by decide +kernel
theorem dX5_tick_12 : decode cX5_tick 12 = .ok (.aload_n 0, 1) := by decide +kernel
theorem dX5_tick_13 : decode cX5_tick 13 = .ok (.getfield 7, 3) := by decide +kernel
theorem dX5_tick_16 : decode cX5_tick 16 = .ok (.iconst 1, 1) := by decide +kernel
theorem dX5_tick_17 : decode cX5_tick 17 = .ok (.iaload, 1) := by decide +kernel
theorem dX5_tick_18 : decode cX5_tick 18 = .ok (.iload_n 1, 1) := by decide +kernel
theorem dX5_tick_19 : decode cX5_tick 19 = .ok (.iadd, 1) := by decide +kernel
theorem dX5_tick_20 : decode cX5_tick 20 = .ok (.sipush 9999, 3) := by decide +kernel
theorem dX5_tick_23 : decode cX5_tick 23 = .ok (.if_icmp .le 6, 3) := by decide +kernel
theorem dX5_tick_26 : decode cX5_tick 26 = .ok (.bipush (-2), 2) := by decide +kernel
theorem dX5_tick_28 : decode cX5_tick 28 = .ok (.ireturn, 1) := by decide +kernel
theorem dX5_tick_29 : decode cX5_tick 29 = .ok (.aload_n 0, 1) := by decide +kernel
theorem dX5_tick_30 : decode cX5_tick 30 = .ok (.invokevirtual 183, 3) := by decide +kernel
theorem dX5_tick_33 : decode cX5_tick 33 = .ok (.aload_n 0, 1) := by decide +kernel
theorem dX5_tick_34 : decode cX5_tick 34 = .ok (.bipush 8, 2) := by decide +kernel
theorem dX5_tick_36 : decode cX5_tick 36 = .ok (.invokevirtual 186, 3) := by decide +kernel
theorem dX5_tick_39 : decode cX5_tick 39 = .ok (.istore_n 2, 1) := by decide +kernel
theorem dX5_tick_40 : decode cX5_tick 40 = .ok (.iconst 0, 1) := by decide +kernel
theorem dX5_tick_41 : decode cX5_tick 41 = .ok (.istore_n 3, 1) := by decide +kernel
theorem dX5_tick_42 : decode cX5_tick 42 = .ok (.iload_n 3, 1) := by decide +kernel
theorem dX5_tick_43 : decode cX5_tick 43 = .ok (.iload_n 1, 1) := by decide +kernel
theorem dX5_tick_44 : decode cX5_tick 44 = .ok (.if_icmp .ge 39, 3) := by decide +kernel
theorem dX5_tick_47 : decode cX5_tick 47 = .ok (.iconst 0, 1) := by decide +kernel
theorem dX5_tick_48 : decode cX5_tick 48 = .ok (.istore 4, 2) := by decide +kernel
theorem dX5_tick_50 : decode cX5_tick 50 = .ok (.iload 4, 2) := by decide +kernel
theorem dX5_tick_52 : decode cX5_tick 52 = .ok (.aload_n 0, 1) := by decide +kernel
theorem dX5_tick_53 : decode cX5_tick 53 = .ok (.getfield 7, 3) := by decide +kernel
theorem dX5_tick_56 : decode cX5_tick 56 = .ok (.iconst 0, 1) := by decide +kernel
theorem dX5_tick_57 : decode cX5_tick 57 = .ok (.iaload, 1) := by decide +kernel
theorem dX5_tick_58 : decode cX5_tick 58 = .ok (.if_icmp .ge 19, 3) := by decide +kernel
theorem dX5_tick_61 : decode cX5_tick 61 = .ok (.aload_n 0, 1) := by decide +kernel
theorem dX5_tick_62 : decode cX5_tick 62 = .ok (.aload_n 0, 1) := by decide +kernel
theorem dX5_tick_63 : decode cX5_tick 63 = .ok (.getfield 7, 3) := by decide +kernel
theorem dX5_tick_66 : decode cX5_tick 66 = .ok (.iload 4, 2) := by decide +kernel
theorem dX5_tick_68 : decode cX5_tick 68 = .ok (.invokevirtual 190, 3) := by decide +kernel
theorem dX5_tick_71 : decode cX5_tick 71 = .ok (.iinc 4 1, 3) := by decide +kernel
theorem dX5_tick_74 : decode cX5_tick 74 = .ok (.goto (-24), 3) := by decide +kernel
theorem dX5_tick_77 : decode cX5_tick 77 = .ok (.iinc 3 1, 3) := by decide +kernel
theorem dX5_tick_80 : decode cX5_tick 80 = .ok (.goto (-38), 3) := by decide +kernel
theorem dX5_tick_83 : decode cX5_tick 83 = .ok (.aload_n 0, 1) := by decide +kernel
theorem dX5_tick_84 : decode cX5_tick 84 = .ok (.getfield 7, 3) := by decide +kernel
theorem dX5_tick_87 : decode cX5_tick 87 = .ok (.iconst 1, 1) := by decide +kernel
theorem dX5_tick_88 : decode cX5_tick 88 = .ok (.dup2, 1) := by decide +kernel
theorem dX5_tick_89 : decode cX5_tick 89 = .ok (.iaload, 1) := by decide +kernel
theorem dX5_tick_90 : decode cX5_tick 90 = .ok (.iload_n 1, 1) := by decide +kernel
theorem dX5_tick_91 : decode cX5_tick 91 = .ok (.iadd, 1) := by decide +kernel
theorem dX5_tick_92 : decode cX5_tick 92 = .ok (.iastore, 1) := by decide +kernel
theorem dX5_tick_93 : decode cX5_tick 93 = .ok (.aload_n 0, 1) := by decide +kernel
theorem dX5_tick_94 : decode cX5_tick 94 = .ok (.bipush 8, 2) := by decide +kernel
theorem dX5_tick_96 : decode cX5_tick 96 = .ok (.invokevirtual 186, 3) := by decide +kernel
theorem dX5_tick_99 : decode cX5_tick 99 = .ok (.iload_n 2, 1) := by decide +kernel
theorem dX5_tick_100 : decode cX5_tick 100 = .ok (.isub, 1) := by decide +kernel
theorem dX5_tick_101 : decode cX5_tick 101 = .ok (.ireturn, 1) := by decide +kernel
theorem dX5_isWay_0 : decode cX5_isWay 0 = .ok (.iload_n 1, 1) := by decide +kernel
theorem dX5_isWay_1 : decode cX5_isWay 1 = .ok (.iconst 0, 1) := by decide +kernel
theorem dX5_isWay_2 : decode cX5_isWay 2 = .ok (.aload_n 0, 1) := by decide +kernel
theorem dX5_isWay_3 : decode cX5_isWay 3 = .ok (.getfield 7, 3) := by decide +kernel
theorem dX5_isWay_6 : decode cX5_isWay 6 = .ok (.iconst 0, 1) := by decide +kernel
theorem dX5_isWay_7 : decode cX5_isWay 7 = .ok (.iaload, 1) := by decide +kernel
theorem dX5_isWay_8 : decode cX5_isWay 8 = .ok (.iconst 1, 1) := by decide +kernel
theorem dX5_isWay_9 : decode cX5_isWay 9 = .ok (.isub, 1) := by decide +kernel
theorem dX5_isWay_10 : decode cX5_isWay 10 = .ok (.invokestatic 57, 3) := by decide +kernel
theorem dX5_isWay_13 : decode cX5_isWay 13 = .ok (.ireturn, 1) := by decide +kernel
theorem dX5_isHop_0 : decode cX5_isHop 0 = .ok (.aload_n 0, 1) := by decide +kernel
theorem dX5_isHop_1 : decode cX5_isHop 1 = .ok (.iload_n 1, 1) := by decide +kernel
theorem dX5_isHop_2 : decode cX5_isHop 2 = .ok (.invokevirtual 193, 3) := by decide +kernel
theorem dX5_isHop_5 : decode cX5_isHop 5 = .ok (.ifCond .eq 28, 3) := by decide +kernel
theorem dX5_isHop_8 : decode cX5_isHop 8 = .ok (.iload_n 2, 1) := by decide +kernel
theorem dX5_isHop_9 : decode cX5_isHop 9 = .ok (.iconst 0, 1) := by decide +kernel
theorem dX5_isHop_10 : decode cX5_isHop 10 = .ok (.aload_n 0, 1) := by decide +kernel
theorem dX5_isHop_11 : decode cX5_isHop 11 = .ok (.getfield 7, 3) := by decide +kernel
theorem dX5_isHop_14 : decode cX5_isHop 14 = .ok (.iload_n 1, 1) := by decide +kernel
theorem dX5_isHop_15 : decode cX5_isHop 15 = .ok (.bipush 11, 2) := by decide +kernel
theorem dX5_isHop_17 : decode cX5_isHop 17 = .ok (.invokestatic 36, 3) := by decide +kernel
theorem dX5_isHop_20 : decode cX5_isHop 20 = .ok (.iaload, 1) := by decide +kernel
theorem dX5_isHop_21 : decode cX5_isHop 21 = .ok (.iconst 1, 1) := by decide +kernel
theorem dX5_isHop_22 : decode cX5_isHop 22 = .ok (.isub, 1) := by decide +kernel
theorem dX5_isHop_23 : decode cX5_isHop 23 = .ok (.invokestatic 57, 3) := by decide +kernel
theorem dX5_isHop_26 : decode cX5_isHop 26 = .ok (.ifCond .eq 7, 3) := by decide +kernel
theorem dX5_isHop_29 : decode cX5_isHop 29 = .ok (.iconst 1, 1) := by decide +kernel
theorem dX5_isHop_30 : decode cX5_isHop 30 = .ok (.goto 4, 3) := by decide +kernel
theorem dX5_isHop_33 : decode cX5_isHop 33 = .ok (.iconst 0, 1) := by decide +kernel
theorem dX5_isHop_34 : decode cX5_isHop 34 = .ok (.ireturn, 1) := by decide +kernel
theorem dX5_send_0 : decode cX5_send 0 = .ok (.aload_n 0, 1) := by decide +kernel
theorem dX5_send_1 : decode cX5_send 1 = .ok (.iload_n 1, 1) := by decide +kernel
theorem dX5_send_2 : decode cX5_send 2 = .ok (.invokevirtual 193, 3) := by decide +kernel
theorem dX5_send_5 : decode cX5_send 5 = .ok (.ifCond .eq 14, 3) := by decide +kernel
theorem dX5_send_8 : decode cX5_send 8 = .ok (.iload_n 2, 1) := by decide +kernel
theorem dX5_send_9 : decode cX5_send 9 = .ok (.iconst 1, 1) := by decide +kernel
theorem dX5_send_10 : decode cX5_send 10 = .ok (.sipush 999, 3) := by decide +kernel
theorem dX5_send_13 : decode cX5_send 13 = .ok (.invokestatic 57, 3) := by decide +kernel
theorem dX5_send_16 : decode cX5_send 16 = .ok (.ifCond .ne 5, 3) := by decide +kernel
theorem dX5_send_19 : decode cX5_send 19 = .ok (.iconst (-1), 1) := by decide +kernel
theorem dX5_send_20 : decode cX5_send 20 = .ok (.ireturn, 1) := by decide +kernel
theorem dX5_send_21 : decode cX5_send 21 = .ok (.aload_n 0, 1) := by decide +kernel
theorem dX5_send_22 : decode cX5_send 22 = .ok (.getfield 7, 3) := by decide +kernel
theorem dX5_send_25 : decode cX5_send 25 = .ok (.iload_n 1, 1) := by decide +kernel
theorem dX5_send_26 : decode cX5_send 26 = .ok (.bipush 7, 2) := by decide +kernel
theorem dX5_send_28 : decode cX5_send 28 = .ok (.invokestatic 36, 3) := by decide +kernel
theorem dX5_send_31 : decode cX5_send 31 = .ok (.iaload, 1) := by decide +kernel
theorem dX5_send_32 : decode cX5_send 32 = .ok (.ldc 196, 2) := by decide +kernel
theorem dX5_send_34 : decode cX5_send 34 = .ok (.if_icmp .lt 6, 3) := by decide +kernel
theorem dX5_send_37 : decode cX5_send 37 = .ok (.bipush (-2), 2) := by decide +kernel
theorem dX5_send_39 : decode cX5_send 39 = .ok (.ireturn, 1) := by decide +kernel
theorem dX5_send_40 : decode cX5_send 40 = .ok (.aload_n 0, 1) := by decide +kernel
theorem dX5_send_41 : decode cX5_send 41 = .ok (.invokevirtual 183, 3) := by decide +kernel
theorem dX5_send_44 : decode cX5_send 44 = .ok (.aload_n 0, 1) := by decide +kernel
theorem dX5_send_45 : decode cX5_send 45 = .ok (.aload_n 0, 1) := by decide +kernel
theorem dX5_send_46 : decode cX5_send 46 = .ok (.getfield 7, 3) := by decide +kernel
theorem dX5_send_49 : decode cX5_send 49 = .ok (.iload_n 1, 1) := by decide +kernel
theorem dX5_send_50 : decode cX5_send 50 = .ok (.iload_n 2, 1) := by decide +kernel
theorem dX5_send_51 : decode cX5_send 51 = .ok (.invokevirtual 165, 3) := by decide +kernel
theorem dX5_send_54 : decode cX5_send 54 = .ok (.aload_n 0, 1) := by decide +kernel
theorem dX5_send_55 : decode cX5_send 55 = .ok (.getfield 151, 3) := by decide +kernel
theorem dX5_send_58 : decode cX5_send 58 = .ok (.ireturn, 1) := by decide +kernel
theorem dX5_changed_0 : decode cX5_changed 0 = .ok (.aload_n 0, 1) := by decide +kernel
theorem dX5_changed_1 : decode cX5_changed 1 = .ok (.getfield 7, 3) := by decide +kernel
theorem dX5_changed_4 : decode cX5_changed 4 = .ok (.iload_n 1, 1) := by decide +kernel
theorem dX5_changed_5 : decode cX5_changed 5 = .ok (.iaload, 1) := by decide +kernel
theorem dX5_changed_6 : decode cX5_changed 6 = .ok (.istore_n 3, 1) := by decide +kernel
theorem dX5_changed_7 : decode cX5_changed 7 = .ok (.iload_n 3, 1) := by decide +kernel
theorem dX5_changed_8 : decode cX5_changed 8 = .ok (.iload_n 2, 1) := by decide +kernel
theorem dX5_changed_9 : decode cX5_changed 9 = .ok (.if_icmp .ne 6, 3) := by decide +kernel
theorem dX5_changed_12 : decode cX5_changed 12 = .ok (.bipush (-2), 2) := by decide +kernel
theorem dX5_changed_14 : decode cX5_changed 14 = .ok (.ireturn, 1) := by decide +kernel
theorem dX5_changed_15 : decode cX5_changed 15 = .ok (.aload_n 0, 1) := by decide +kernel
theorem dX5_changed_16 : decode cX5_changed 16 = .ok (.invokevirtual 183, 3) := by decide +kernel
theorem dX5_changed_19 : decode cX5_changed 19 = .ok (.aload_n 0, 1) := by decide +kernel
theorem dX5_changed_20 : decode cX5_changed 20 = .ok (.getfield 7, 3) := by decide +kernel
theorem dX5_changed_23 : decode cX5_changed 23 = .ok (.iload_n 1, 1) := by decide +kernel
theorem dX5_changed_24 : decode cX5_changed 24 = .ok (.iload_n 2, 1) := by decide +kernel
theorem dX5_changed_25 : decode cX5_changed 25 = .ok (.iastore, 1) := by decide +kernel
theorem dX5_changed_26 : decode cX5_changed 26 = .ok (.iload_n 3, 1) := by decide +kernel
theorem dX5_changed_27 : decode cX5_changed 27 = .ok (.ireturn, 1) := by decide +kernel
theorem dX5_limit_0 : decode cX5_limit 0 = .ok (.aload_n 0, 1) := by decide +kernel
theorem dX5_limit_1 : decode cX5_limit 1 = .ok (.iload_n 1, 1) := by decide +kernel
theorem dX5_limit_2 : decode cX5_limit 2 = .ok (.iload_n 2, 1) := by decide +kernel
theorem dX5_limit_3 : decode cX5_limit 3 = .ok (.invokevirtual 197, 3) := by decide +kernel
theorem dX5_limit_6 : decode cX5_limit 6 = .ok (.ifCond .eq 31, 3) := by decide +kernel
theorem dX5_limit_9 : decode cX5_limit 9 = .ok (.iload_n 3, 1) := by decide +kernel
theorem dX5_limit_10 : decode cX5_limit 10 = .ok (.bipush 20, 2) := by decide +kernel
theorem dX5_limit_12 : decode cX5_limit 12 = .ok (.sipush 999, 3) := by decide +kernel
theorem dX5_limit_15 : decode cX5_limit 15 = .ok (.invokestatic 57, 3) := by decide +kernel
theorem dX5_limit_18 : decode cX5_limit 18 = .ok (.ifCond .eq 19, 3) := by decide +kernel
theorem dX5_limit_21 : decode cX5_limit 21 = .ok (.aload_n 0, 1) := by decide +kernel
theorem dX5_limit_22 : decode cX5_limit 22 = .ok (.iload_n 1, 1) := by decide +kernel
theorem dX5_limit_23 : decode cX5_limit 23 = .ok (.bipush 12, 2) := by decide +kernel
theorem dX5_limit_25 : decode cX5_limit 25 = .ok (.iload_n 2, 1) := by decide +kernel
theorem dX5_limit_26 : decode cX5_limit 26 = .ok (.iadd, 1) := by decide +kernel
theorem dX5_limit_27 : decode cX5_limit 27 = .ok (.invokestatic 36, 3) := by decide +kernel
theorem dX5_limit_30 : decode cX5_limit 30 = .ok (.iload_n 3, 1) := by decide +kernel
theorem dX5_limit_31 : decode cX5_limit 31 = .ok (.invokevirtual 200, 3) := by decide +kernel
theorem dX5_limit_34 : decode cX5_limit 34 = .ok (.goto 4, 3) := by decide +kernel
theorem dX5_limit_37 : decode cX5_limit 37 = .ok (.iconst (-1), 1) := by decide +kernel
theorem dX5_limit_38 : decode cX5_limit 38 = .ok (.ireturn, 1) := by decide +kernel
theorem dX5_kind_0 : decode cX5_kind 0 = .ok (.aload_n 0, 1) := by decide +kernel
theorem dX5_kind_1 : decode cX5_kind 1 = .ok (.iload_n 1, 1) := by decide +kernel
theorem dX5_kind_2 : decode cX5_kind 2 = .ok (.iload_n 2, 1) := by decide +kernel
theorem dX5_kind_3 : decode cX5_kind 3 = .ok (.invokevirtual 197, 3) := by decide +kernel
theorem dX5_kind_6 : decode cX5_kind 6 = .ok (.ifCond .eq 28, 3) := by decide +kernel
theorem dX5_kind_9 : decode cX5_kind 9 = .ok (.iload_n 3, 1) := by decide +kernel
theorem dX5_kind_10 : decode cX5_kind 10 = .ok (.iconst 0, 1) := by decide +kernel
theorem dX5_kind_11 : decode cX5_kind 11 = .ok (.iconst 3, 1) := by decide +kernel
theorem dX5_kind_12 : decode cX5_kind 12 = .ok (.invokestatic 57, 3) := by decide +kernel
theorem dX5_kind_15 : decode cX5_kind 15 = .ok (.ifCond .eq 19, 3) := by decide +kernel
theorem dX5_kind_18 : decode cX5_kind 18 = .ok (.aload_n 0, 1) := by decide +kernel
theorem dX5_kind_19 : decode cX5_kind 19 = .ok (.iload_n 1, 1) := by decide +kernel
theorem dX5_kind_20 : decode cX5_kind 20 = .ok (.bipush 18, 2) := by decide +kernel
theorem dX5_kind_22 : decode cX5_kind 22 = .ok (.iload_n 2, 1) := by decide +kernel
theorem dX5_kind_23 : decode cX5_kind 23 = .ok (.iadd, 1) := by decide +kernel
theorem dX5_kind_24 : decode cX5_kind 24 = .ok (.invokestatic 36, 3) := by decide +kernel
theorem dX5_kind_27 : decode cX5_kind 27 = .ok (.iload_n 3, 1) := by decide +kernel
theorem dX5_kind_28 : decode cX5_kind 28 = .ok (.invokevirtual 200, 3) := by decide +kernel
theorem dX5_kind_31 : decode cX5_kind 31 = .ok (.goto 4, 3) := by decide +kernel
theorem dX5_kind_34 : decode cX5_kind 34 = .ok (.iconst (-1), 1) := by decide +kernel
theorem dX5_kind_35 : decode cX5_kind 35 = .ok (.ireturn, 1) := by decide +kernel
theorem dX5_loss_0 : decode cX5_loss 0 = .ok (.aload_n 0, 1) := by decide +kernel
theorem dX5_loss_1 : decode cX5_loss 1 = .ok (.iload_n 1, 1) := by decide +kernel
theorem dX5_loss_2 : decode cX5_loss 2 = .ok (.invokevirtual 193, 3) := by decide +kernel
theorem dX5_loss_5 : decode cX5_loss 5 = .ok (.ifCond .eq 27, 3) := by decide +kernel
theorem dX5_loss_8 : decode cX5_loss 8 = .ok (.iload_n 2, 1) := by decide +kernel
theorem dX5_loss_9 : decode cX5_loss 9 = .ok (.iconst 0, 1) := by decide +kernel
theorem dX5_loss_10 : decode cX5_loss 10 = .ok (.bipush 99, 2) := by decide +kernel
theorem dX5_loss_12 : decode cX5_loss 12 = .ok (.invokestatic 57, 3) := by decide +kernel
theorem dX5_loss_15 : decode cX5_loss 15 = .ok (.ifCond .eq 17, 3) := by decide +kernel
theorem dX5_loss_18 : decode cX5_loss 18 = .ok (.aload_n 0, 1) := by decide +kernel
theorem dX5_loss_19 : decode cX5_loss 19 = .ok (.iload_n 1, 1) := by decide +kernel
theorem dX5_loss_20 : decode cX5_loss 20 = .ok (.bipush 10, 2) := by decide +kernel
theorem dX5_loss_22 : decode cX5_loss 22 = .ok (.invokestatic 36, 3) := by decide +kernel
theorem dX5_loss_25 : decode cX5_loss 25 = .ok (.iload_n 2, 1) := by decide +kernel
theorem dX5_loss_26 : decode cX5_loss 26 = .ok (.invokevirtual 200, 3) := by decide +kernel
theorem dX5_loss_29 : decode cX5_loss 29 = .ok (.goto 4, 3) := by decide +kernel
theorem dX5_loss_32 : decode cX5_loss 32 = .ok (.iconst (-1), 1) := by decide +kernel
theorem dX5_loss_33 : decode cX5_loss 33 = .ok (.ireturn, 1) := by decide +kernel
theorem dX5_believe_0 : decode cX5_believe 0 = .ok (.iload_n 1, 1) := by decide +kernel
theorem dX5_believe_1 : decode cX5_believe 1 = .ok (.iconst 0, 1) := by decide +kernel
theorem dX5_believe_2 : decode cX5_believe 2 = .ok (.iconst 2, 1) := by decide +kernel
theorem dX5_believe_3 : decode cX5_believe 3 = .ok (.invokestatic 57, 3) := by decide +kernel
theorem dX5_believe_6 : decode cX5_believe 6 = .ok (.ifCond .eq 12, 3) := by decide +kernel
theorem dX5_believe_9 : decode cX5_believe 9 = .ok (.aload_n 0, 1) := by decide +kernel
theorem dX5_believe_10 : decode cX5_believe 10 = .ok (.iconst 5, 1) := by decide +kernel
theorem dX5_believe_11 : decode cX5_believe 11 = .ok (.iload_n 1, 1) := by decide +kernel
theorem dX5_believe_12 : decode cX5_believe 12 = .ok (.invokevirtual 200, 3) := by decide +kernel
theorem dX5_believe_15 : decode cX5_believe 15 = .ok (.goto 4, 3) := by decide +kernel
theorem dX5_believe_18 : decode cX5_believe 18 = .ok (.iconst (-1), 1) := by decide +kernel
theorem dX5_believe_19 : decode cX5_believe 19 = .ok (.ireturn, 1) := by decide +kernel
theorem dX5_passes_0 : decode cX5_passes 0 = .ok (.sipush 999, 3) := by decide +kernel
theorem dX5_passes_3 : decode cX5_passes 3 = .ok (.istore_n 2, 1) := by decide +kernel
theorem dX5_passes_4 : decode cX5_passes 4 = .ok (.iconst 0, 1) := by decide +kernel
theorem dX5_passes_5 : decode cX5_passes 5 = .ok (.istore_n 3, 1) := by decide +kernel
theorem dX5_passes_6 : decode cX5_passes 6 = .ok (.iload_n 3, 1) := by decide +kernel
theorem dX5_passes_7 : decode cX5_passes 7 = .ok (.aload_n 0, 1) := by decide +kernel
theorem dX5_passes_8 : decode cX5_passes 8 = .ok (.iload_n 1, 1) := by decide +kernel
theorem dX5_passes_9 : decode cX5_passes 9 = .ok (.bipush 11, 2) := by decide +kernel
theorem dX5_passes_11 : decode cX5_passes 11 = .ok (.invokestatic 36, 3) := by decide +kernel
theorem dX5_passes_14 : decode cX5_passes 14 = .ok (.iaload, 1) := by decide +kernel
theorem dX5_passes_15 : decode cX5_passes 15 = .ok (.if_icmp .ge 24, 3) := by decide +kernel
theorem dX5_passes_18 : decode cX5_passes 18 = .ok (.iload_n 2, 1) := by decide +kernel
theorem dX5_passes_19 : decode cX5_passes 19 = .ok (.aload_n 0, 1) := by decide +kernel
theorem dX5_passes_20 : decode cX5_passes 20 = .ok (.iload_n 1, 1) := by decide +kernel
theorem dX5_passes_21 : decode cX5_passes 21 = .ok (.bipush 12, 2) := by decide +kernel
theorem dX5_passes_23 : decode cX5_passes 23 = .ok (.iload_n 3, 1) := by decide +kernel
theorem dX5_passes_24 : decode cX5_passes 24 = .ok (.iadd, 1) := by decide +kernel
theorem dX5_passes_25 : decode cX5_passes 25 = .ok (.invokestatic 36, 3) := by decide +kernel
theorem dX5_passes_28 : decode cX5_passes 28 = .ok (.iaload, 1) := by decide +kernel
theorem dX5_passes_29 : decode cX5_passes 29 = .ok (.invokestatic 169, 3) := by decide +kernel
theorem dX5_passes_32 : decode cX5_passes 32 = .ok (.istore_n 2, 1) := by decide +kernel
theorem dX5_passes_33 : decode cX5_passes 33 = .ok (.iinc 3 1, 3) := by decide +kernel
theorem dX5_passes_36 : decode cX5_passes 36 = .ok (.goto (-30), 3) := by decide +kernel
theorem dX5_passes_39 : decode cX5_passes 39 = .ok (.iload_n 2, 1) := by decide +kernel
theorem dX5_passes_40 : decode cX5_passes 40 = .ok (.ireturn, 1) := by decide +kernel
theorem dX5_way_0 : decode cX5_way 0 = .ok (.aload_n 0, 1) := by decide +kernel
theorem dX5_way_1 : decode cX5_way 1 = .ok (.iload_n 1, 1) := by decide +kernel
theorem dX5_way_2 : decode cX5_way 2 = .ok (.invokevirtual 193, 3) := by decide +kernel
theorem dX5_way_5 : decode cX5_way 5 = .ok (.ifCond .eq 13, 3) := by decide +kernel
theorem dX5_way_8 : decode cX5_way 8 = .ok (.iload_n 2, 1) := by decide +kernel
theorem dX5_way_9 : decode cX5_way 9 = .ok (.iconst 0, 1) := by decide +kernel
theorem dX5_way_10 : decode cX5_way 10 = .ok (.bipush 12, 2) := by decide +kernel
theorem dX5_way_12 : decode cX5_way 12 = .ok (.invokestatic 57, 3) := by decide +kernel
theorem dX5_way_15 : decode cX5_way 15 = .ok (.ifCond .ne 5, 3) := by decide +kernel
theorem dX5_way_18 : decode cX5_way 18 = .ok (.iconst (-1), 1) := by decide +kernel
theorem dX5_way_19 : decode cX5_way 19 = .ok (.ireturn, 1) := by decide +kernel
theorem dX5_way_20 : decode cX5_way 20 = .ok (.iload_n 2, 1) := by decide +kernel
theorem dX5_way_21 : decode cX5_way 21 = .ok (.bipush 10, 2) := by decide +kernel
theorem dX5_way_23 : decode cX5_way 23 = .ok (.if_icmp .ge 16, 3) := by decide +kernel
theorem dX5_way_26 : decode cX5_way 26 = .ok (.aload_n 0, 1) := by decide +kernel
theorem dX5_way_27 : decode cX5_way 27 = .ok (.getfield 7, 3) := by decide +kernel
theorem dX5_way_30 : decode cX5_way 30 = .ok (.iload_n 1, 1) := by decide +kernel
theorem dX5_way_31 : decode cX5_way 31 = .ok (.iload_n 2, 1) := by decide +kernel
theorem dX5_way_32 : decode cX5_way 32 = .ok (.invokestatic 36, 3) := by decide +kernel
theorem dX5_way_35 : decode cX5_way 35 = .ok (.iaload, 1) := by decide +kernel
theorem dX5_way_36 : decode cX5_way 36 = .ok (.goto 51, 3) := by decide +kernel
theorem dX5_way_39 : decode cX5_way 39 = .ok (.iload_n 2, 1) := by decide +kernel
theorem dX5_way_40 : decode cX5_way 40 = .ok (.bipush 10, 2) := by decide +kernel
theorem dX5_way_42 : decode cX5_way 42 = .ok (.if_icmp .ne 14, 3) := by decide +kernel
theorem dX5_way_45 : decode cX5_way 45 = .ok (.aload_n 0, 1) := by decide +kernel
theorem dX5_way_46 : decode cX5_way 46 = .ok (.getfield 7, 3) := by decide +kernel
theorem dX5_way_49 : decode cX5_way 49 = .ok (.iload_n 1, 1) := by decide +kernel
theorem dX5_way_50 : decode cX5_way 50 = .ok (.invokestatic 203, 3) := by decide +kernel
theorem dX5_way_53 : decode cX5_way 53 = .ok (.goto 34, 3) := by decide +kernel
theorem dX5_way_56 : decode cX5_way 56 = .ok (.iload_n 2, 1) := by decide +kernel
theorem dX5_way_57 : decode cX5_way 57 = .ok (.bipush 11, 2) := by decide +kernel
theorem dX5_way_59 : decode cX5_way 59 = .ok (.if_icmp .ne 17, 3) := by decide +kernel
theorem dX5_way_62 : decode cX5_way 62 = .ok (.aload_n 0, 1) := by decide +kernel
theorem dX5_way_63 : decode cX5_way 63 = .ok (.getfield 7, 3) := by decide +kernel
theorem dX5_way_66 : decode cX5_way 66 = .ok (.iload_n 1, 1) := by decide +kernel
theorem dX5_way_67 : decode cX5_way 67 = .ok (.bipush 11, 2) := by decide +kernel
theorem dX5_way_69 : decode cX5_way 69 = .ok (.invokestatic 36, 3) := by decide +kernel
theorem dX5_way_72 : decode cX5_way 72 = .ok (.iaload, 1) := by decide +kernel
theorem dX5_way_73 : decode cX5_way 73 = .ok (.goto 14, 3) := by decide +kernel
theorem dX5_way_76 : decode cX5_way 76 = .ok (.aload_n 0, 1) := by decide +kernel
theorem dX5_way_77 : decode cX5_way 77 = .ok (.getfield 7, 3) := by decide +kernel
theorem dX5_way_80 : decode cX5_way 80 = .ok (.iload_n 1, 1) := by decide +kernel
theorem dX5_way_81 : decode cX5_way 81 = .ok (.bipush 10, 2) := by decide +kernel
theorem dX5_way_83 : decode cX5_way 83 = .ok (.invokestatic 36, 3) := by decide +kernel
theorem dX5_way_86 : decode cX5_way 86 = .ok (.iaload, 1) := by decide +kernel
theorem dX5_way_87 : decode cX5_way 87 = .ok (.ireturn, 1) := by decide +kernel
theorem dX5_hop_0 : decode cX5_hop 0 = .ok (.aload_n 0, 1) := by decide +kernel
theorem dX5_hop_1 : decode cX5_hop 1 = .ok (.iload_n 1, 1) := by decide +kernel
theorem dX5_hop_2 : decode cX5_hop 2 = .ok (.iload_n 2, 1) := by decide +kernel
theorem dX5_hop_3 : decode cX5_hop 3 = .ok (.invokevirtual 197, 3) := by decide +kernel
theorem dX5_hop_6 : decode cX5_hop 6 = .ok (.ifCond .eq 37, 3) := by decide +kernel
theorem dX5_hop_9 : decode cX5_hop 9 = .ok (.iload_n 3, 1) := by decide +kernel
theorem dX5_hop_10 : decode cX5_hop 10 = .ok (.iconst 0, 1) := by decide +kernel
theorem dX5_hop_11 : decode cX5_hop 11 = .ok (.iconst 1, 1) := by decide +kernel
theorem dX5_hop_12 : decode cX5_hop 12 = .ok (.invokestatic 57, 3) := by decide +kernel
theorem dX5_hop_15 : decode cX5_hop 15 = .ok (.ifCond .eq 28, 3) := by decide +kernel
theorem dX5_hop_18 : decode cX5_hop 18 = .ok (.aload_n 0, 1) := by decide +kernel
theorem dX5_hop_19 : decode cX5_hop 19 = .ok (.getfield 7, 3) := by decide +kernel
theorem dX5_hop_22 : decode cX5_hop 22 = .ok (.iload_n 1, 1) := by decide +kernel
theorem dX5_hop_23 : decode cX5_hop 23 = .ok (.iload_n 3, 1) := by decide +kernel
theorem dX5_hop_24 : decode cX5_hop 24 = .ok (.ifCond .ne 8, 3) := by decide +kernel
theorem dX5_hop_27 : decode cX5_hop 27 = .ok (.bipush 12, 2) := by decide +kernel
theorem dX5_hop_29 : decode cX5_hop 29 = .ok (.goto 5, 3) := by decide +kernel
theorem dX5_hop_32 : decode cX5_hop 32 = .ok (.bipush 18, 2) := by decide +kernel
theorem dX5_hop_34 : decode cX5_hop 34 = .ok (.iload_n 2, 1) := by decide +kernel
theorem dX5_hop_35 : decode cX5_hop 35 = .ok (.iadd, 1) := by decide +kernel
theorem dX5_hop_36 : decode cX5_hop 36 = .ok (.invokestatic 36, 3) := by decide +kernel
theorem dX5_hop_39 : decode cX5_hop 39 = .ok (.iaload, 1) := by decide +kernel
theorem dX5_hop_40 : decode cX5_hop 40 = .ok (.goto 4, 3) := by decide +kernel
theorem dX5_hop_43 : decode cX5_hop 43 = .ok (.iconst (-1), 1) := by decide +kernel
theorem dX5_hop_44 : decode cX5_hop 44 = .ok (.ireturn, 1) := by decide +kernel
theorem dX5_probe_0 : decode cX5_probe 0 = .ok (.aload_n 0, 1) := by decide +kernel
theorem dX5_probe_1 : decode cX5_probe 1 = .ok (.iload_n 1, 1) := by decide +kernel
theorem dX5_probe_2 : decode cX5_probe 2 = .ok (.invokevirtual 193, 3) := by decide +kernel
theorem dX5_probe_5 : decode cX5_probe 5 = .ok (.ifCond .ne 5, 3) := by decide +kernel
theorem dX5_probe_8 : decode cX5_probe 8 = .ok (.iconst (-1), 1) := by decide +kernel
theorem dX5_probe_9 : decode cX5_probe 9 = .ok (.ireturn, 1) := by decide +kernel
theorem dX5_probe_10 : decode cX5_probe 10 = .ok (.aload_n 0, 1) := by decide +kernel
theorem dX5_probe_11 : decode cX5_probe 11 = .ok (.getfield 7, 3) := by decide +kernel
theorem dX5_probe_14 : decode cX5_probe 14 = .ok (.iload_n 1, 1) := by decide +kernel
theorem dX5_probe_15 : decode cX5_probe 15 = .ok (.iconst 0, 1) := by decide +kernel
theorem dX5_probe_16 : decode cX5_probe 16 = .ok (.invokestatic 36, 3) := by decide +kernel
theorem dX5_probe_19 : decode cX5_probe 19 = .ok (.iaload, 1) := by decide +kernel
theorem dX5_probe_20 : decode cX5_probe 20 = .ok (.aload_n 0, 1) := by decide +kernel
theorem dX5_probe_21 : decode cX5_probe 21 = .ok (.getfield 7, 3) := by decide +kernel
theorem dX5_probe_24 : decode cX5_probe 24 = .ok (.iload_n 1, 1) := by decide +kernel
theorem dX5_probe_25 : decode cX5_probe 25 = .ok (.iconst 1, 1) := by decide +kernel
theorem dX5_probe_26 : decode cX5_probe 26 = .ok (.invokestatic 36, 3) := by decide +kernel
theorem dX5_probe_29 : decode cX5_probe 29 = .ok (.iaload, 1) := by decide +kernel
theorem dX5_probe_30 : decode cX5_probe 30 = .ok (.if_icmp .ne 8, 3) := by decide +kernel
theorem dX5_probe_33 : decode cX5_probe 33 = .ok (.bipush (-4), 2) := by decide +kernel
theorem dX5_probe_35 : decode cX5_probe 35 = .ok (.goto 11, 3) := by decide +kernel
theorem dX5_probe_38 : decode cX5_probe 38 = .ok (.aload_n 0, 1) := by decide +kernel
theorem dX5_probe_39 : decode cX5_probe 39 = .ok (.getfield 7, 3) := by decide +kernel
theorem dX5_probe_42 : decode cX5_probe 42 = .ok (.iload_n 1, 1) := by decide +kernel
theorem dX5_probe_43 : decode cX5_probe 43 = .ok (.invokestatic 172, 3) := by decide +kernel
theorem dX5_probe_46 : decode cX5_probe 46 = .ok (.ireturn, 1) := by decide +kernel
theorem dX5_padding_0 : decode cX5_padding 0 = .ok (.aload_n 0, 1) := by decide +kernel
theorem dX5_padding_1 : decode cX5_padding 1 = .ok (.iload_n 1, 1) := by decide +kernel
theorem dX5_padding_2 : decode cX5_padding 2 = .ok (.invokevirtual 193, 3) := by decide +kernel
theorem dX5_padding_5 : decode cX5_padding 5 = .ok (.ifCond .eq 14, 3) := by decide +kernel
theorem dX5_padding_8 : decode cX5_padding 8 = .ok (.iload_n 2, 1) := by decide +kernel
theorem dX5_padding_9 : decode cX5_padding 9 = .ok (.iconst 0, 1) := by decide +kernel
theorem dX5_padding_10 : decode cX5_padding 10 = .ok (.sipush 999, 3) := by decide +kernel
theorem dX5_padding_13 : decode cX5_padding 13 = .ok (.invokestatic 57, 3) := by decide +kernel
theorem dX5_padding_16 : decode cX5_padding 16 = .ok (.ifCond .ne 5, 3) := by decide +kernel
theorem dX5_padding_19 : decode cX5_padding 19 = .ok (.iconst (-1), 1) := by decide +kernel
theorem dX5_padding_20 : decode cX5_padding 20 = .ok (.ireturn, 1) := by decide +kernel
theorem dX5_padding_21 : decode cX5_padding 21 = .ok (.aload_n 0, 1) := by decide +kernel
theorem dX5_padding_22 : decode cX5_padding 22 = .ok (.getfield 7, 3) := by decide +kernel
theorem dX5_padding_25 : decode cX5_padding 25 = .ok (.iload_n 1, 1) := by decide +kernel
theorem dX5_padding_26 : decode cX5_padding 26 = .ok (.iconst 0, 1) := by decide +kernel
theorem dX5_padding_27 : decode cX5_padding 27 = .ok (.invokestatic 36, 3) := by decide +kernel
theorem dX5_padding_30 : decode cX5_padding 30 = .ok (.iaload, 1) := by decide +kernel
theorem dX5_padding_31 : decode cX5_padding 31 = .ok (.aload_n 0, 1) := by decide +kernel
theorem dX5_padding_32 : decode cX5_padding 32 = .ok (.getfield 7, 3) := by decide +kernel
theorem dX5_padding_35 : decode cX5_padding 35 = .ok (.iload_n 1, 1) := by decide +kernel
theorem dX5_padding_36 : decode cX5_padding 36 = .ok (.iconst 1, 1) := by decide +kernel
theorem dX5_padding_37 : decode cX5_padding 37 = .ok (.invokestatic 36, 3) := by decide +kernel
theorem dX5_padding_40 : decode cX5_padding 40 = .ok (.iaload, 1) := by decide +kernel
theorem dX5_padding_41 : decode cX5_padding 41 = .ok (.if_icmp .ne 6, 3) := by decide +kernel
theorem dX5_padding_44 : decode cX5_padding 44 = .ok (.bipush (-4), 2) := by decide +kernel
theorem dX5_padding_46 : decode cX5_padding 46 = .ok (.ireturn, 1) := by decide +kernel
theorem dX5_padding_47 : decode cX5_padding 47 = .ok (.aload_n 0, 1) := by decide +kernel
theorem dX5_padding_48 : decode cX5_padding 48 = .ok (.getfield 7, 3) := by decide +kernel
theorem dX5_padding_51 : decode cX5_padding 51 = .ok (.iload_n 1, 1) := by decide +kernel
theorem dX5_padding_52 : decode cX5_padding 52 = .ok (.invokestatic 172, 3) := by decide +kernel
theorem dX5_padding_55 : decode cX5_padding 55 = .ok (.istore_n 3, 1) := by decide +kernel
theorem dX5_padding_56 : decode cX5_padding 56 = .ok (.iload_n 2, 1) := by decide +kernel
theorem dX5_padding_57 : decode cX5_padding 57 = .ok (.iload_n 3, 1) := by decide +kernel
theorem dX5_padding_58 : decode cX5_padding 58 = .ok (.if_icmp .le 8, 3) := by decide +kernel
theorem dX5_padding_61 : decode cX5_padding 61 = .ok (.bipush (-2), 2) := by decide +kernel
theorem dX5_padding_63 : decode cX5_padding 63 = .ok (.goto 6, 3) := by decide +kernel
theorem dX5_padding_66 : decode cX5_padding 66 = .ok (.iload_n 3, 1) := by decide +kernel
theorem dX5_padding_67 : decode cX5_padding 67 = .ok (.iload_n 2, 1) := by decide +kernel
