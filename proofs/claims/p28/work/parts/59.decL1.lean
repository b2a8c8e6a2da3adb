theorem dL_cell_0 : decode cL_cell 0 = .ok (.iload_n 1, 1) := by decide +kernel
theorem dL_cell_1 : decode cL_cell 1 = .ok (.aload_n 0, 1) := by decide +kernel
theorem dL_cell_2 : decode cL_cell 2 = .ok (.arraylength, 1) := by decide +kernel
theorem dL_cell_3 : decode cL_cell 3 = .ok (.if_icmp .ge 9, 3) := by decide +kernel
theorem dL_cell_6 : decode cL_cell 6 = .ok (.aload_n 0, 1) := by decide +kernel
theorem dL_cell_7 : decode cL_cell 7 = .ok (.iload_n 1, 1) := by decide +kernel
theorem dL_cell_8 : decode cL_cell 8 = .ok (.iaload, 1) := by decide +kernel
theorem dL_cell_9 : decode cL_cell 9 = .ok (.goto 10, 3) := by decide +kernel
theorem dL_cell_12 : decode cL_cell 12 = .ok (.ldc 7, 2) := by decide +kernel
theorem dL_cell_14 : decode cL_cell 14 = .ok (.iload_n 1, 1) := by decide +kernel
theorem dL_cell_15 : decode cL_cell 15 = .ok (.imul, 1) := by decide +kernel
theorem dL_cell_16 : decode cL_cell 16 = .ok (.ldc 8, 2) := by decide +kernel
theorem dL_cell_18 : decode cL_cell 18 = .ok (.iadd, 1) := by decide +kernel
theorem dL_cell_19 : decode cL_cell 19 = .ok (.ireturn, 1) := by decide +kernel
theorem dL_low_0 : decode cL_low 0 = .ok (.iload_n 0, 1) := by decide +kernel
theorem dL_low_1 : decode cL_low 1 = .ok (.ldc 9, 2) := by decide +kernel
theorem dL_low_3 : decode cL_low 3 = .ok (.iand, 1) := by decide +kernel
theorem dL_low_4 : decode cL_low 4 = .ok (.iload_n 1, 1) := by decide +kernel
theorem dL_low_5 : decode cL_low 5 = .ok (.irem, 1) := by decide +kernel
theorem dL_low_6 : decode cL_low 6 = .ok (.ireturn, 1) := by decide +kernel
theorem dL_up_0 : decode cL_up 0 = .ok (.aload_n 0, 1) := by decide +kernel
theorem dL_up_1 : decode cL_up 1 = .ok (.bipush 16, 2) := by decide +kernel
theorem dL_up_3 : decode cL_up 3 = .ok (.iload_n 1, 1) := by decide +kernel
theorem dL_up_4 : decode cL_up 4 = .ok (.iadd, 1) := by decide +kernel
theorem dL_up_5 : decode cL_up 5 = .ok (.iaload, 1) := by decide +kernel
theorem dL_up_6 : decode cL_up 6 = .ok (.aload_n 0, 1) := by decide +kernel
theorem dL_up_7 : decode cL_up 7 = .ok (.bipush 24, 2) := by decide +kernel
theorem dL_up_9 : decode cL_up 9 = .ok (.iload_n 1, 1) := by decide +kernel
theorem dL_up_10 : decode cL_up 10 = .ok (.iadd, 1) := by decide +kernel
theorem dL_up_11 : decode cL_up 11 = .ok (.iaload, 1) := by decide +kernel
theorem dL_up_12 : decode cL_up 12 = .ok (.iadd, 1) := by decide +kernel
theorem dL_up_13 : decode cL_up 13 = .ok (.ifCond .ne 7, 3) := by decide +kernel
theorem dL_up_16 : decode cL_up 16 = .ok (.iconst 1, 1) := by decide +kernel
theorem dL_up_17 : decode cL_up 17 = .ok (.goto 4, 3) := by decide +kernel
theorem dL_up_20 : decode cL_up 20 = .ok (.iconst 0, 1) := by decide +kernel
theorem dL_up_21 : decode cL_up 21 = .ok (.ireturn, 1) := by decide +kernel
theorem dL_wireOf_0 : decode cL_wireOf 0 = .ok (.aload_n 0, 1) := by decide +kernel
theorem dL_wireOf_1 : decode cL_wireOf 1 = .ok (.iload_n 1, 1) := by decide +kernel
theorem dL_wireOf_2 : decode cL_wireOf 2 = .ok (.iaload, 1) := by decide +kernel
theorem dL_wireOf_3 : decode cL_wireOf 3 = .ok (.sipush 256, 3) := by decide +kernel
theorem dL_wireOf_6 : decode cL_wireOf 6 = .ok (.idiv, 1) := by decide +kernel
theorem dL_wireOf_7 : decode cL_wireOf 7 = .ok (.bipush 8, 2) := by decide +kernel
theorem dL_wireOf_9 : decode cL_wireOf 9 = .ok (.irem, 1) := by decide +kernel
theorem dL_wireOf_10 : decode cL_wireOf 10 = .ok (.ireturn, 1) := by decide +kernel
theorem dL_away_0 : decode cL_away 0 = .ok (.aload_n 0, 1) := by decide +kernel
theorem dL_away_1 : decode cL_away 1 = .ok (.bipush 32, 2) := by decide +kernel
theorem dL_away_3 : decode cL_away 3 = .ok (.iload_n 2, 1) := by decide +kernel
theorem dL_away_4 : decode cL_away 4 = .ok (.iadd, 1) := by decide +kernel
theorem dL_away_5 : decode cL_away 5 = .ok (.dup2, 1) := by decide +kernel
theorem dL_away_6 : decode cL_away 6 = .ok (.iaload, 1) := by decide +kernel
theorem dL_away_7 : decode cL_away 7 = .ok (.iconst 1, 1) := by decide +kernel
theorem dL_away_8 : decode cL_away 8 = .ok (.isub, 1) := by decide +kernel
theorem dL_away_9 : decode cL_away 9 = .ok (.iastore, 1) := by decide +kernel
theorem dL_away_10 : decode cL_away 10 = .ok (.aload_n 0, 1) := by decide +kernel
theorem dL_away_11 : decode cL_away 11 = .ok (.bipush 40, 2) := by decide +kernel
theorem dL_away_13 : decode cL_away 13 = .ok (.iload_n 2, 1) := by decide +kernel
theorem dL_away_14 : decode cL_away 14 = .ok (.iadd, 1) := by decide +kernel
theorem dL_away_15 : decode cL_away 15 = .ok (.iconst (-1), 1) := by decide +kernel
theorem dL_away_16 : decode cL_away 16 = .ok (.iastore, 1) := by decide +kernel
theorem dL_away_17 : decode cL_away 17 = .ok (.aload_n 0, 1) := by decide +kernel
theorem dL_away_18 : decode cL_away 18 = .ok (.bipush 48, 2) := by decide +kernel
theorem dL_away_20 : decode cL_away 20 = .ok (.iload_n 2, 1) := by decide +kernel
theorem dL_away_21 : decode cL_away 21 = .ok (.iadd, 1) := by decide +kernel
theorem dL_away_22 : decode cL_away 22 = .ok (.iconst 0, 1) := by decide +kernel
theorem dL_away_23 : decode cL_away 23 = .ok (.iastore, 1) := by decide +kernel
theorem dL_away_24 : decode cL_away 24 = .ok (.iconst 0, 1) := by decide +kernel
theorem dL_away_25 : decode cL_away 25 = .ok (.istore_n 3, 1) := by decide +kernel
theorem dL_away_26 : decode cL_away 26 = .ok (.iload_n 3, 1) := by decide +kernel
theorem dL_away_27 : decode cL_away 27 = .ok (.iconst 3, 1) := by decide +kernel
theorem dL_away_28 : decode cL_away 28 = .ok (.if_icmp .ge 28, 3) := by decide +kernel
theorem dL_away_31 : decode cL_away 31 = .ok (.aload_n 1, 1) := by decide +kernel
theorem dL_away_32 : decode cL_away 32 = .ok (.bipush 8, 2) := by decide +kernel
theorem dL_away_34 : decode cL_away 34 = .ok (.iload_n 3, 1) := by decide +kernel
theorem dL_away_35 : decode cL_away 35 = .ok (.imul, 1) := by decide +kernel
theorem dL_away_36 : decode cL_away 36 = .ok (.iload_n 2, 1) := by decide +kernel
theorem dL_away_37 : decode cL_away 37 = .ok (.iadd, 1) := by decide +kernel
theorem dL_away_38 : decode cL_away 38 = .ok (.aload_n 1, 1) := by decide +kernel
theorem dL_away_39 : decode cL_away 39 = .ok (.bipush 8, 2) := by decide +kernel
theorem dL_away_41 : decode cL_away 41 = .ok (.iload_n 3, 1) := by decide +kernel
theorem dL_away_42 : decode cL_away 42 = .ok (.imul, 1) := by decide +kernel
theorem dL_away_43 : decode cL_away 43 = .ok (.bipush 8, 2) := by decide +kernel
theorem dL_away_45 : decode cL_away 45 = .ok (.iadd, 1) := by decide +kernel
theorem dL_away_46 : decode cL_away 46 = .ok (.iload_n 2, 1) := by decide +kernel
theorem dL_away_47 : decode cL_away 47 = .ok (.iadd, 1) := by decide +kernel
theorem dL_away_48 : decode cL_away 48 = .ok (.iaload, 1) := by decide +kernel
theorem dL_away_49 : decode cL_away 49 = .ok (.iastore, 1) := by decide +kernel
theorem dL_away_50 : decode cL_away 50 = .ok (.iinc 3 1, 3) := by decide +kernel
theorem dL_away_53 : decode cL_away 53 = .ok (.goto (-27), 3) := by decide +kernel
theorem dL_away_56 : decode cL_away 56 = .ok (.return_, 1) := by decide +kernel
theorem dL_fails_0 : decode cL_fails 0 = .ok (.aload_n 2, 1) := by decide +kernel
theorem dL_fails_1 : decode cL_fails 1 = .ok (.iload 5, 2) := by decide +kernel
theorem dL_fails_3 : decode cL_fails 3 = .ok (.dup2, 1) := by decide +kernel
theorem dL_fails_4 : decode cL_fails 4 = .ok (.iaload, 1) := by decide +kernel
theorem dL_fails_5 : decode cL_fails 5 = .ok (.sipush 2048, 3) := by decide +kernel
theorem dL_fails_8 : decode cL_fails 8 = .ok (.iadd, 1) := by decide +kernel
theorem dL_fails_9 : decode cL_fails 9 = .ok (.iastore, 1) := by decide +kernel
theorem dL_fails_10 : decode cL_fails 10 = .ok (.aload_n 1, 1) := by decide +kernel
theorem dL_fails_11 : decode cL_fails 11 = .ok (.bipush 16, 2) := by decide +kernel
theorem dL_fails_13 : decode cL_fails 13 = .ok (.iload 5, 2) := by decide +kernel
theorem dL_fails_15 : decode cL_fails 15 = .ok (.iadd, 1) := by decide +kernel
theorem dL_fails_16 : decode cL_fails 16 = .ok (.dup2, 1) := by decide +kernel
theorem dL_fails_17 : decode cL_fails 17 = .ok (.iaload, 1) := by decide +kernel
theorem dL_fails_18 : decode cL_fails 18 = .ok (.iconst 1, 1) := by decide +kernel
theorem dL_fails_19 : decode cL_fails 19 = .ok (.iadd, 1) := by decide +kernel
theorem dL_fails_20 : decode cL_fails 20 = .ok (.iastore, 1) := by decide +kernel
theorem dL_fails_21 : decode cL_fails 21 = .ok (.aload_n 0, 1) := by decide +kernel
theorem dL_fails_22 : decode cL_fails 22 = .ok (.bipush 40, 2) := by decide +kernel
theorem dL_fails_24 : decode cL_fails 24 = .ok (.iload 5, 2) := by decide +kernel
theorem dL_fails_26 : decode cL_fails 26 = .ok (.iadd, 1) := by decide +kernel
theorem dL_fails_27 : decode cL_fails 27 = .ok (.iconst (-1), 1) := by decide +kernel
theorem dL_fails_28 : decode cL_fails 28 = .ok (.iastore, 1) := by decide +kernel
theorem dL_fails_29 : decode cL_fails 29 = .ok (.aload_n 0, 1) := by decide +kernel
theorem dL_fails_30 : decode cL_fails 30 = .ok (.bipush 48, 2) := by decide +kernel
theorem dL_fails_32 : decode cL_fails 32 = .ok (.iload 5, 2) := by decide +kernel
theorem dL_fails_34 : decode cL_fails 34 = .ok (.iadd, 1) := by decide +kernel
theorem dL_fails_35 : decode cL_fails 35 = .ok (.iconst 0, 1) := by decide +kernel
theorem dL_fails_36 : decode cL_fails 36 = .ok (.iastore, 1) := by decide +kernel
theorem dL_fails_37 : decode cL_fails 37 = .ok (.aload_n 2, 1) := by decide +kernel
theorem dL_fails_38 : decode cL_fails 38 = .ok (.iload 5, 2) := by decide +kernel
theorem dL_fails_40 : decode cL_fails 40 = .ok (.iaload, 1) := by decide +kernel
theorem dL_fails_41 : decode cL_fails 41 = .ok (.sipush 2048, 3) := by decide +kernel
theorem dL_fails_44 : decode cL_fails 44 = .ok (.idiv, 1) := by decide +kernel
theorem dL_fails_45 : decode cL_fails 45 = .ok (.aload 4, 2) := by decide +kernel
theorem dL_fails_47 : decode cL_fails 47 = .ok (.iconst 4, 1) := by decide +kernel
theorem dL_fails_48 : decode cL_fails 48 = .ok (.iaload, 1) := by decide +kernel
theorem dL_fails_49 : decode cL_fails 49 = .ok (.if_icmp .lt 33, 3) := by decide +kernel
theorem dL_fails_52 : decode cL_fails 52 = .ok (.aload_n 1, 1) := by decide +kernel
theorem dL_fails_53 : decode cL_fails 53 = .ok (.iload 5, 2) := by decide +kernel
theorem dL_fails_55 : decode cL_fails 55 = .ok (.dup2, 1) := by decide +kernel
theorem dL_fails_56 : decode cL_fails 56 = .ok (.iaload, 1) := by decide +kernel
theorem dL_fails_57 : decode cL_fails 57 = .ok (.iconst 1, 1) := by decide +kernel
theorem dL_fails_58 : decode cL_fails 58 = .ok (.iadd, 1) := by decide +kernel
theorem dL_fails_59 : decode cL_fails 59 = .ok (.iastore, 1) := by decide +kernel
theorem dL_fails_60 : decode cL_fails 60 = .ok (.aload_n 3, 1) := by decide +kernel
theorem dL_fails_61 : decode cL_fails 61 = .ok (.bipush 18, 2) := by decide +kernel
theorem dL_fails_63 : decode cL_fails 63 = .ok (.aload_n 2, 1) := by decide +kernel
theorem dL_fails_64 : decode cL_fails 64 = .ok (.iload 5, 2) := by decide +kernel
theorem dL_fails_66 : decode cL_fails 66 = .ok (.invokestatic 10, 3) := by decide +kernel
theorem dL_fails_69 : decode cL_fails 69 = .ok (.iadd, 1) := by decide +kernel
theorem dL_fails_70 : decode cL_fails 70 = .ok (.dup2, 1) := by decide +kernel
theorem dL_fails_71 : decode cL_fails 71 = .ok (.iaload, 1) := by decide +kernel
theorem dL_fails_72 : decode cL_fails 72 = .ok (.iconst 1, 1) := by decide +kernel
theorem dL_fails_73 : decode cL_fails 73 = .ok (.iadd, 1) := by decide +kernel
theorem dL_fails_74 : decode cL_fails 74 = .ok (.iastore, 1) := by decide +kernel
theorem dL_fails_75 : decode cL_fails 75 = .ok (.aload_n 0, 1) := by decide +kernel
theorem dL_fails_76 : decode cL_fails 76 = .ok (.aload_n 2, 1) := by decide +kernel
theorem dL_fails_77 : decode cL_fails 77 = .ok (.iload 5, 2) := by decide +kernel
theorem dL_fails_79 : decode cL_fails 79 = .ok (.invokestatic 16, 3) := by decide +kernel
theorem dL_fails_82 : decode cL_fails 82 = .ok (.return_, 1) := by decide +kernel
theorem dL_beat_0 : decode cL_beat 0 = .ok (.iconst 0, 1) := by decide +kernel
theorem dL_beat_1 : decode cL_beat 1 = .ok (.istore 6, 2) := by decide +kernel
theorem dL_beat_3 : decode cL_beat 3 = .ok (.iconst 0, 1) := by decide +kernel
theorem dL_beat_4 : decode cL_beat 4 = .ok (.istore 7, 2) := by decide +kernel
theorem dL_beat_6 : decode cL_beat 6 = .ok (.iconst 0, 1) := by decide +kernel
theorem dL_beat_7 : decode cL_beat 7 = .ok (.istore 8, 2) := by decide +kernel
theorem dL_beat_9 : decode cL_beat 9 = .ok (.iconst 0, 1) := by decide +kernel
theorem dL_beat_10 : decode cL_beat 10 = .ok (.istore 9, 2) := by decide +kernel
theorem dL_beat_12 : decode cL_beat 12 = .ok (.iload 9, 2) := by decide +kernel
theorem dL_beat_14 : decode cL_beat 14 = .ok (.aload 5, 2) := by decide +kernel
theorem dL_beat_16 : decode cL_beat 16 = .ok (.bipush 6, 2) := by decide +kernel
theorem dL_beat_18 : decode cL_beat 18 = .ok (.iaload, 1) := by decide +kernel
theorem dL_beat_19 : decode cL_beat 19 = .ok (.if_icmp .ge 132, 3) := by decide +kernel
theorem dL_beat_22 : decode cL_beat 22 = .ok (.aload_n 0, 1) := by decide +kernel
theorem dL_beat_23 : decode cL_beat 23 = .ok (.iload 9, 2) := by decide +kernel
theorem dL_beat_25 : decode cL_beat 25 = .ok (.invokestatic 20, 3) := by decide +kernel
theorem dL_beat_28 : decode cL_beat 28 = .ok (.ifCond .eq 117, 3) := by decide +kernel
theorem dL_beat_31 : decode cL_beat 31 = .ok (.aload_n 0, 1) := by decide +kernel
theorem dL_beat_32 : decode cL_beat 32 = .ok (.bipush 40, 2) := by decide +kernel
theorem dL_beat_34 : decode cL_beat 34 = .ok (.iload 9, 2) := by decide +kernel
theorem dL_beat_36 : decode cL_beat 36 = .ok (.iadd, 1) := by decide +kernel
theorem dL_beat_37 : decode cL_beat 37 = .ok (.iaload, 1) := by decide +kernel
theorem dL_beat_38 : decode cL_beat 38 = .ok (.ifCond .ge 107, 3) := by decide +kernel
theorem dL_beat_41 : decode cL_beat 41 = .ok (.aload_n 0, 1) := by decide +kernel
theorem dL_beat_42 : decode cL_beat 42 = .ok (.bipush 32, 2) := by decide +kernel
theorem dL_beat_44 : decode cL_beat 44 = .ok (.iload 9, 2) := by decide +kernel
theorem dL_beat_46 : decode cL_beat 46 = .ok (.iadd, 1) := by decide +kernel
theorem dL_beat_47 : decode cL_beat 47 = .ok (.iaload, 1) := by decide +kernel
theorem dL_beat_48 : decode cL_beat 48 = .ok (.ifCond .le 97, 3) := by decide +kernel
theorem dL_beat_51 : decode cL_beat 51 = .ok (.aload 4, 2) := by decide +kernel
theorem dL_beat_53 : decode cL_beat 53 = .ok (.aload_n 2, 1) := by decide +kernel
theorem dL_beat_54 : decode cL_beat 54 = .ok (.iload 9, 2) := by decide +kernel
theorem dL_beat_56 : decode cL_beat 56 = .ok (.invokestatic 10, 3) := by decide +kernel
theorem dL_beat_59 : decode cL_beat 59 = .ok (.iaload, 1) := by decide +kernel
theorem dL_beat_60 : decode cL_beat 60 = .ok (.aload 5, 2) := by decide +kernel
theorem dL_beat_62 : decode cL_beat 62 = .ok (.iconst 0, 1) := by decide +kernel
theorem dL_beat_63 : decode cL_beat 63 = .ok (.iaload, 1) := by decide +kernel
theorem dL_beat_64 : decode cL_beat 64 = .ok (.if_icmp .lt 81, 3) := by decide +kernel
theorem dL_beat_67 : decode cL_beat 67 = .ok (.aload_n 0, 1) := by decide +kernel
theorem dL_beat_68 : decode cL_beat 68 = .ok (.bipush 40, 2) := by decide +kernel
theorem dL_beat_70 : decode cL_beat 70 = .ok (.iload 9, 2) := by decide +kernel
theorem dL_beat_72 : decode cL_beat 72 = .ok (.iadd, 1) := by decide +kernel
theorem dL_beat_73 : decode cL_beat 73 = .ok (.iconst 0, 1) := by decide +kernel
theorem dL_beat_74 : decode cL_beat 74 = .ok (.iastore, 1) := by decide +kernel
theorem dL_beat_75 : decode cL_beat 75 = .ok (.iconst 0, 1) := by decide +kernel
theorem dL_beat_76 : decode cL_beat 76 = .ok (.istore 7, 2) := by decide +kernel
theorem dL_beat_78 : decode cL_beat 78 = .ok (.iconst 0, 1) := by decide +kernel
theorem dL_beat_79 : decode cL_beat 79 = .ok (.istore 10, 2) := by decide +kernel
theorem dL_beat_81 : decode cL_beat 81 = .ok (.iload 10, 2) := by decide +kernel
theorem dL_beat_83 : decode cL_beat 83 = .ok (.aload 5, 2) := by decide +kernel
theorem dL_beat_85 : decode cL_beat 85 = .ok (.bipush 6, 2) := by decide +kernel
theorem dL_beat_87 : decode cL_beat 87 = .ok (.iaload, 1) := by decide +kernel
theorem dL_beat_88 : decode cL_beat 88 = .ok (.if_icmp .ge 48, 3) := by decide +kernel
theorem dL_beat_91 : decode cL_beat 91 = .ok (.iload 7, 2) := by decide +kernel
theorem dL_beat_93 : decode cL_beat 93 = .ok (.aload_n 0, 1) := by decide +kernel
theorem dL_beat_94 : decode cL_beat 94 = .ok (.iload 10, 2) := by decide +kernel
theorem dL_beat_96 : decode cL_beat 96 = .ok (.invokestatic 20, 3) := by decide +kernel
theorem dL_beat_99 : decode cL_beat 99 = .ok (.ifCond .eq 27, 3) := by decide +kernel
theorem dL_beat_102 : decode cL_beat 102 = .ok (.aload_n 0, 1) := by decide +kernel
theorem dL_beat_103 : decode cL_beat 103 = .ok (.iload 10, 2) := by decide +kernel
theorem dL_beat_105 : decode cL_beat 105 = .ok (.iaload, 1) := by decide +kernel
theorem dL_beat_106 : decode cL_beat 106 = .ok (.aload_n 2, 1) := by decide +kernel
theorem dL_beat_107 : decode cL_beat 107 = .ok (.iload 9, 2) := by decide +kernel
theorem dL_beat_109 : decode cL_beat 109 = .ok (.invokestatic 10, 3) := by decide +kernel
theorem dL_beat_112 : decode cL_beat 112 = .ok (.ishr, 1) := by decide +kernel
theorem dL_beat_113 : decode cL_beat 113 = .ok (.iconst 1, 1) := by decide +kernel
theorem dL_beat_114 : decode cL_beat 114 = .ok (.iand, 1) := by decide +kernel
theorem dL_beat_115 : decode cL_beat 115 = .ok (.iconst 1, 1) := by decide +kernel
theorem dL_beat_116 : decode cL_beat 116 = .ok (.if_icmp .ne 10, 3) := by decide +kernel
theorem dL_beat_119 : decode cL_beat 119 = .ok (.iconst 1, 1) := by decide +kernel
theorem dL_beat_120 : decode cL_beat 120 = .ok (.iload 10, 2) := by decide +kernel
theorem dL_beat_122 : decode cL_beat 122 = .ok (.ishl, 1) := by decide +kernel
theorem dL_beat_123 : decode cL_beat 123 = .ok (.goto 4, 3) := by decide +kernel
theorem dL_beat_126 : decode cL_beat 126 = .ok (.iconst 0, 1) := by decide +kernel
theorem dL_beat_127 : decode cL_beat 127 = .ok (.ior, 1) := by decide +kernel
theorem dL_beat_128 : decode cL_beat 128 = .ok (.istore 7, 2) := by decide +kernel
theorem dL_beat_130 : decode cL_beat 130 = .ok (.iinc 10 1, 3) := by decide +kernel
theorem dL_beat_133 : decode cL_beat 133 = .ok (.goto (-52), 3) := by decide +kernel
theorem dL_beat_136 : decode cL_beat 136 = .ok (.aload_n 0, 1) := by decide +kernel
theorem dL_beat_137 : decode cL_beat 137 = .ok (.bipush 48, 2) := by decide +kernel
theorem dL_beat_139 : decode cL_beat 139 = .ok (.iload 9, 2) := by decide +kernel
theorem dL_beat_141 : decode cL_beat 141 = .ok (.iadd, 1) := by decide +kernel
theorem dL_beat_142 : decode cL_beat 142 = .ok (.iload 7, 2) := by decide +kernel
theorem dL_beat_144 : decode cL_beat 144 = .ok (.iastore, 1) := by decide +kernel
theorem dL_beat_145 : decode cL_beat 145 = .ok (.iinc 9 1, 3) := by decide +kernel
theorem dL_beat_148 : decode cL_beat 148 = .ok (.goto (-136), 3) := by decide +kernel
theorem dL_beat_151 : decode cL_beat 151 = .ok (.iconst 0, 1) := by decide +kernel
theorem dL_beat_152 : decode cL_beat 152 = .ok (.istore 9, 2) := by decide +kernel
theorem dL_beat_154 : decode cL_beat 154 = .ok (.iload 9, 2) := by decide +kernel
theorem dL_beat_156 : decode cL_beat 156 = .ok (.bipush 6, 2) := by decide +kernel
theorem dL_beat_158 : decode cL_beat 158 = .ok (.if_icmp .ge 25, 3) := by decide +kernel
theorem dL_beat_161 : decode cL_beat 161 = .ok (.iload 6, 2) := by decide +kernel
theorem dL_beat_163 : decode cL_beat 163 = .ok (.aload 4, 2) := by decide +kernel
theorem dL_beat_165 : decode cL_beat 165 = .ok (.bipush 6, 2) := by decide +kernel
theorem dL_beat_167 : decode cL_beat 167 = .ok (.iload 9, 2) := by decide +kernel
theorem dL_beat_169 : decode cL_beat 169 = .ok (.iadd, 1) := by decide +kernel
theorem dL_beat_170 : decode cL_beat 170 = .ok (.iaload, 1) := by decide +kernel
theorem dL_beat_171 : decode cL_beat 171 = .ok (.iload 9, 2) := by decide +kernel
theorem dL_beat_173 : decode cL_beat 173 = .ok (.ishl, 1) := by decide +kernel
theorem dL_beat_174 : decode cL_beat 174 = .ok (.ior, 1) := by decide +kernel
theorem dL_beat_175 : decode cL_beat 175 = .ok (.istore 6, 2) := by decide +kernel
theorem dL_beat_177 : decode cL_beat 177 = .ok (.iinc 9 1, 3) := by decide +kernel
theorem dL_beat_180 : decode cL_beat 180 = .ok (.goto (-26), 3) := by decide +kernel
theorem dL_beat_183 : decode cL_beat 183 = .ok (.iconst 0, 1) := by decide +kernel
theorem dL_beat_184 : decode cL_beat 184 = .ok (.istore 9, 2) := by decide +kernel
theorem dL_beat_186 : decode cL_beat 186 = .ok (.iconst 0, 1) := by decide +kernel
theorem dL_beat_187 : decode cL_beat 187 = .ok (.istore 10, 2) := by decide +kernel
theorem dL_beat_189 : decode cL_beat 189 = .ok (.iload 10, 2) := by decide +kernel
theorem dL_beat_191 : decode cL_beat 191 = .ok (.aload 5, 2) := by decide +kernel
theorem dL_beat_193 : decode cL_beat 193 = .ok (.bipush 6, 2) := by decide +kernel
theorem dL_beat_195 : decode cL_beat 195 = .ok (.iaload, 1) := by decide +kernel
theorem dL_beat_196 : decode cL_beat 196 = .ok (.if_icmp .ge 89, 3) := by decide +kernel
theorem dL_beat_199 : decode cL_beat 199 = .ok (.sipush 256, 3) := by decide +kernel
theorem dL_beat_202 : decode cL_beat 202 = .ok (.iload 10, 2) := by decide +kernel
theorem dL_beat_204 : decode cL_beat 204 = .ok (.imul, 1) := by decide +kernel
theorem dL_beat_205 : decode cL_beat 205 = .ok (.aload_n 2, 1) := by decide +kernel
theorem dL_beat_206 : decode cL_beat 206 = .ok (.iload 10, 2) := by decide +kernel
theorem dL_beat_208 : decode cL_beat 208 = .ok (.iaload, 1) := by decide +kernel
theorem dL_beat_209 : decode cL_beat 209 = .ok (.sipush 256, 3) := by decide +kernel
theorem dL_beat_212 : decode cL_beat 212 = .ok (.irem, 1) := by decide +kernel
theorem dL_beat_213 : decode cL_beat 213 = .ok (.iadd, 1) := by decide +kernel
theorem dL_beat_214 : decode cL_beat 214 = .ok (.istore 11, 2) := by decide +kernel
theorem dL_beat_216 : decode cL_beat 216 = .ok (.aload_n 0, 1) := by decide +kernel
theorem dL_beat_217 : decode cL_beat 217 = .ok (.bipush 40, 2) := by decide +kernel
theorem dL_beat_219 : decode cL_beat 219 = .ok (.iload 10, 2) := by decide +kernel
theorem dL_beat_221 : decode cL_beat 221 = .ok (.iadd, 1) := by decide +kernel
theorem dL_beat_222 : decode cL_beat 222 = .ok (.iaload, 1) := by decide +kernel
theorem dL_beat_223 : decode cL_beat 223 = .ok (.ifCond .ge 7, 3) := by decide +kernel
theorem dL_beat_226 : decode cL_beat 226 = .ok (.iconst 1, 1) := by decide +kernel
theorem dL_beat_227 : decode cL_beat 227 = .ok (.goto 18, 3) := by decide +kernel
theorem dL_beat_230 : decode cL_beat 230 = .ok (.iload 11, 2) := by decide +kernel
theorem dL_beat_232 : decode cL_beat 232 = .ok (.bipush 10, 2) := by decide +kernel
theorem dL_beat_234 : decode cL_beat 234 = .ok (.aload_n 0, 1) := by decide +kernel
theorem dL_beat_235 : decode cL_beat 235 = .ok (.bipush 40, 2) := by decide +kernel
theorem dL_beat_237 : decode cL_beat 237 = .ok (.iload 10, 2) := by decide +kernel
theorem dL_beat_239 : decode cL_beat 239 = .ok (.iadd, 1) := by decide +kernel
theorem dL_beat_240 : decode cL_beat 240 = .ok (.iaload, 1) := by decide +kernel
theorem dL_beat_241 : decode cL_beat 241 = .ok (.isub, 1) := by decide +kernel
theorem dL_beat_242 : decode cL_beat 242 = .ok (.ishr, 1) := by decide +kernel
theorem dL_beat_243 : decode cL_beat 243 = .ok (.iconst 1, 1) := by decide +kernel
theorem dL_beat_244 : decode cL_beat 244 = .ok (.iand, 1) := by decide +kernel
theorem dL_beat_245 : decode cL_beat 245 = .ok (.istore 12, 2) := by decide +kernel
theorem dL_beat_247 : decode cL_beat 247 = .ok (.iload 9, 2) := by decide +kernel
theorem dL_beat_249 : decode cL_beat 249 = .ok (.iload 12, 2) := by decide +kernel
theorem dL_beat_251 : decode cL_beat 251 = .ok (.iload 10, 2) := by decide +kernel
theorem dL_beat_253 : decode cL_beat 253 = .ok (.ishl, 1) := by decide +kernel
theorem dL_beat_254 : decode cL_beat 254 = .ok (.ior, 1) := by decide +kernel
theorem dL_beat_255 : decode cL_beat 255 = .ok (.istore 9, 2) := by decide +kernel
theorem dL_beat_257 : decode cL_beat 257 = .ok (.iload 6, 2) := by decide +kernel
theorem dL_beat_259 : decode cL_beat 259 = .ok (.iload 12, 2) := by decide +kernel
theorem dL_beat_261 : decode cL_beat 261 = .ok (.ifCond .ne 14, 3) := by decide +kernel
theorem dL_beat_264 : decode cL_beat 264 = .ok (.iconst 1, 1) := by decide +kernel
theorem dL_beat_265 : decode cL_beat 265 = .ok (.aload_n 2, 1) := by decide +kernel
theorem dL_beat_266 : decode cL_beat 266 = .ok (.iload 10, 2) := by decide +kernel
theorem dL_beat_268 : decode cL_beat 268 = .ok (.invokestatic 10, 3) := by decide +kernel
theorem dL_beat_271 : decode cL_beat 271 = .ok (.ishl, 1) := by decide +kernel
theorem dL_beat_272 : decode cL_beat 272 = .ok (.goto 4, 3) := by decide +kernel
theorem dL_beat_275 : decode cL_beat 275 = .ok (.iconst 0, 1) := by decide +kernel
theorem dL_beat_276 : decode cL_beat 276 = .ok (.ior, 1) := by decide +kernel
theorem dL_beat_277 : decode cL_beat 277 = .ok (.istore 6, 2) := by decide +kernel
theorem dL_beat_279 : decode cL_beat 279 = .ok (.iinc 10 1, 3) := by decide +kernel
theorem dL_beat_282 : decode cL_beat 282 = .ok (.goto (-93), 3) := by decide +kernel
theorem dL_beat_285 : decode cL_beat 285 = .ok (.iconst 0, 1) := by decide +kernel
theorem dL_beat_286 : decode cL_beat 286 = .ok (.istore 10, 2) := by decide +kernel
theorem dL_beat_288 : decode cL_beat 288 = .ok (.iload 10, 2) := by decide +kernel
theorem dL_beat_290 : decode cL_beat 290 = .ok (.aload 5, 2) := by decide +kernel
theorem dL_beat_292 : decode cL_beat 292 = .ok (.bipush 6, 2) := by decide +kernel
theorem dL_beat_294 : decode cL_beat 294 = .ok (.iaload, 1) := by decide +kernel
theorem dL_beat_295 : decode cL_beat 295 = .ok (.if_icmp .ge 363, 3) := by decide +kernel
theorem dL_beat_298 : decode cL_beat 298 = .ok (.aload_n 0, 1) := by decide +kernel
theorem dL_beat_299 : decode cL_beat 299 = .ok (.bipush 40, 2) := by decide +kernel
theorem dL_beat_301 : decode cL_beat 301 = .ok (.iload 10, 2) := by decide +kernel
theorem dL_beat_303 : decode cL_beat 303 = .ok (.iadd, 1) := by decide +kernel
theorem dL_beat_304 : decode cL_beat 304 = .ok (.iaload, 1) := by decide +kernel
theorem dL_beat_305 : decode cL_beat 305 = .ok (.ifCond .lt 347, 3) := by decide +kernel
theorem dL_beat_308 : decode cL_beat 308 = .ok (.iload 9, 2) := by decide +kernel
theorem dL_beat_310 : decode cL_beat 310 = .ok (.iload 10, 2) := by decide +kernel
theorem dL_beat_312 : decode cL_beat 312 = .ok (.ishr, 1) := by decide +kernel
theorem dL_beat_313 : decode cL_beat 313 = .ok (.iconst 1, 1) := by decide +kernel
theorem dL_beat_314 : decode cL_beat 314 = .ok (.iand, 1) := by decide +kernel
theorem dL_beat_315 : decode cL_beat 315 = .ok (.iconst 1, 1) := by decide +kernel
theorem dL_beat_316 : decode cL_beat 316 = .ok (.if_icmp .ne 22, 3) := by decide +kernel
theorem dL_beat_319 : decode cL_beat 319 = .ok (.iload 6, 2) := by decide +kernel
theorem dL_beat_321 : decode cL_beat 321 = .ok (.aload_n 2, 1) := by decide +kernel
theorem dL_beat_322 : decode cL_beat 322 = .ok (.iload 10, 2) := by decide +kernel
theorem dL_beat_324 : decode cL_beat 324 = .ok (.invokestatic 10, 3) := by decide +kernel
theorem dL_beat_327 : decode cL_beat 327 = .ok (.ishr, 1) := by decide +kernel
theorem dL_beat_328 : decode cL_beat 328 = .ok (.iconst 1, 1) := by decide +kernel
theorem dL_beat_329 : decode cL_beat 329 = .ok (.iand, 1) := by decide +kernel
theorem dL_beat_330 : decode cL_beat 330 = .ok (.iconst 1, 1) := by decide +kernel
theorem dL_beat_331 : decode cL_beat 331 = .ok (.if_icmp .ne 7, 3) := by decide +kernel
theorem dL_beat_334 : decode cL_beat 334 = .ok (.iconst 1, 1) := by decide +kernel
theorem dL_beat_335 : decode cL_beat 335 = .ok (.goto 4, 3) := by decide +kernel
theorem dL_beat_338 : decode cL_beat 338 = .ok (.iconst 0, 1) := by decide +kernel
theorem dL_beat_339 : decode cL_beat 339 = .ok (.istore 11, 2) := by decide +kernel
theorem dL_beat_341 : decode cL_beat 341 = .ok (.aload_n 0, 1) := by decide +kernel
theorem dL_beat_342 : decode cL_beat 342 = .ok (.bipush 40, 2) := by decide +kernel
theorem dL_beat_344 : decode cL_beat 344 = .ok (.iload 10, 2) := by decide +kernel
theorem dL_beat_346 : decode cL_beat 346 = .ok (.iadd, 1) := by decide +kernel
theorem dL_beat_347 : decode cL_beat 347 = .ok (.iaload, 1) := by decide +kernel
theorem dL_beat_348 : decode cL_beat 348 = .ok (.bipush 10, 2) := by decide +kernel
theorem dL_beat_350 : decode cL_beat 350 = .ok (.if_icmp .ne 7, 3) := by decide +kernel
theorem dL_beat_353 : decode cL_beat 353 = .ok (.iconst 1, 1) := by decide +kernel
theorem dL_beat_354 : decode cL_beat 354 = .ok (.goto 4, 3) := by decide +kernel
theorem dL_beat_357 : decode cL_beat 357 = .ok (.iconst 0, 1) := by decide +kernel
theorem dL_beat_358 : decode cL_beat 358 = .ok (.istore 12, 2) := by decide +kernel
theorem dL_beat_360 : decode cL_beat 360 = .ok (.iconst 0, 1) := by decide +kernel
theorem dL_beat_361 : decode cL_beat 361 = .ok (.istore 13, 2) := by decide +kernel
theorem dL_beat_363 : decode cL_beat 363 = .ok (.iload 13, 2) := by decide +kernel
theorem dL_beat_365 : decode cL_beat 365 = .ok (.aload 5, 2) := by decide +kernel
theorem dL_beat_367 : decode cL_beat 367 = .ok (.bipush 6, 2) := by decide +kernel
theorem dL_beat_369 : decode cL_beat 369 = .ok (.iaload, 1) := by decide +kernel
theorem dL_beat_370 : decode cL_beat 370 = .ok (.if_icmp .ge 51, 3) := by decide +kernel
theorem dL_beat_373 : decode cL_beat 373 = .ok (.iload 12, 2) := by decide +kernel
theorem dL_beat_375 : decode cL_beat 375 = .ok (.ifCond .eq 46, 3) := by decide +kernel
theorem dL_beat_378 : decode cL_beat 378 = .ok (.iload 11, 2) := by decide +kernel
theorem dL_beat_380 : decode cL_beat 380 = .ok (.ifCond .ne 28, 3) := by decide +kernel
theorem dL_beat_383 : decode cL_beat 383 = .ok (.aload_n 0, 1) := by decide +kernel
theorem dL_beat_384 : decode cL_beat 384 = .ok (.bipush 48, 2) := by decide +kernel
theorem dL_beat_386 : decode cL_beat 386 = .ok (.iload 10, 2) := by decide +kernel
theorem dL_beat_388 : decode cL_beat 388 = .ok (.iadd, 1) := by decide +kernel
theorem dL_beat_389 : decode cL_beat 389 = .ok (.iaload, 1) := by decide +kernel
theorem dL_beat_390 : decode cL_beat 390 = .ok (.iload 13, 2) := by decide +kernel
theorem dL_beat_392 : decode cL_beat 392 = .ok (.ishr, 1) := by decide +kernel
theorem dL_beat_393 : decode cL_beat 393 = .ok (.iconst 1, 1) := by decide +kernel
theorem dL_beat_394 : decode cL_beat 394 = .ok (.iand, 1) := by decide +kernel
theorem dL_beat_395 : decode cL_beat 395 = .ok (.iconst 1, 1) := by decide +kernel
theorem dL_beat_396 : decode cL_beat 396 = .ok (.if_icmp .ne 16, 3) := by decide +kernel
theorem dL_beat_399 : decode cL_beat 399 = .ok (.aload_n 0, 1) := by decide +kernel
theorem dL_beat_400 : decode cL_beat 400 = .ok (.iload 13, 2) := by decide +kernel
theorem dL_beat_402 : decode cL_beat 402 = .ok (.invokestatic 20, 3) := by decide +kernel
theorem dL_beat_405 : decode cL_beat 405 = .ok (.ifCond .ne 7, 3) := by decide +kernel
theorem dL_beat_408 : decode cL_beat 408 = .ok (.iconst 1, 1) := by decide +kernel
theorem dL_beat_409 : decode cL_beat 409 = .ok (.goto 4, 3) := by decide +kernel
theorem dL_beat_412 : decode cL_beat 412 = .ok (.iconst 0, 1) := by decide +kernel
theorem dL_beat_413 : decode cL_beat 413 = .ok (.istore 11, 2) := by decide +kernel
theorem dL_beat_415 : decode cL_beat 415 = .ok (.iinc 13 1, 3) := by decide +kernel
theorem dL_beat_418 : decode cL_beat 418 = .ok (.goto (-55), 3) := by decide +kernel
theorem dL_beat_421 : decode cL_beat 421 = .ok (.iload 11, 2) := by decide +kernel
theorem dL_beat_423 : decode cL_beat 423 = .ok (.ifCond .eq 18, 3) := by decide +kernel
theorem dL_beat_426 : decode cL_beat 426 = .ok (.aload_n 0, 1) := by decide +kernel
theorem dL_beat_427 : decode cL_beat 427 = .ok (.aload_n 1, 1) := by decide +kernel
theorem dL_beat_428 : decode cL_beat 428 = .ok (.aload_n 2, 1) := by decide +kernel
theorem dL_beat_429 : decode cL_beat 429 = .ok (.aload 4, 2) := by decide +kernel
theorem dL_beat_431 : decode cL_beat 431 = .ok (.aload 5, 2) := by decide +kernel
theorem dL_beat_433 : decode cL_beat 433 = .ok (.iload 10, 2) := by decide +kernel
theorem dL_beat_435 : decode cL_beat 435 = .ok (.invokestatic 24, 3) := by decide +kernel
theorem dL_beat_438 : decode cL_beat 438 = .ok (.goto 214, 3) := by decide +kernel
theorem dL_beat_441 : decode cL_beat 441 = .ok (.iload 12, 2) := by decide +kernel
theorem dL_beat_443 : decode cL_beat 443 = .ok (.ifCond .ne 17, 3) := by decide +kernel
theorem dL_beat_446 : decode cL_beat 446 = .ok (.aload_n 0, 1) := by decide +kernel
theorem dL_beat_447 : decode cL_beat 447 = .ok (.bipush 40, 2) := by decide +kernel
theorem dL_beat_449 : decode cL_beat 449 = .ok (.iload 10, 2) := by decide +kernel
theorem dL_beat_451 : decode cL_beat 451 = .ok (.iadd, 1) := by decide +kernel
theorem dL_beat_452 : decode cL_beat 452 = .ok (.dup2, 1) := by decide +kernel
theorem dL_beat_453 : decode cL_beat 453 = .ok (.iaload, 1) := by decide +kernel
theorem dL_beat_454 : decode cL_beat 454 = .ok (.iconst 1, 1) := by decide +kernel
theorem dL_beat_455 : decode cL_beat 455 = .ok (.iadd, 1) := by decide +kernel
theorem dL_beat_456 : decode cL_beat 456 = .ok (.iastore, 1) := by decide +kernel
theorem dL_beat_457 : decode cL_beat 457 = .ok (.goto 195, 3) := by decide +kernel
theorem dL_beat_460 : decode cL_beat 460 = .ok (.iconst 0, 1) := by decide +kernel
theorem dL_beat_461 : decode cL_beat 461 = .ok (.istore 13, 2) := by decide +kernel
theorem dL_beat_463 : decode cL_beat 463 = .ok (.iload 13, 2) := by decide +kernel
theorem dL_beat_465 : decode cL_beat 465 = .ok (.aload 5, 2) := by decide +kernel
theorem dL_beat_467 : decode cL_beat 467 = .ok (.bipush 6, 2) := by decide +kernel
theorem dL_beat_469 : decode cL_beat 469 = .ok (.iaload, 1) := by decide +kernel
theorem dL_beat_470 : decode cL_beat 470 = .ok (.if_icmp .ge 145, 3) := by decide +kernel
theorem dL_beat_473 : decode cL_beat 473 = .ok (.iload 13, 2) := by decide +kernel
theorem dL_beat_475 : decode cL_beat 475 = .ok (.iload 10, 2) := by decide +kernel
theorem dL_beat_477 : decode cL_beat 477 = .ok (.if_icmp .eq 132, 3) := by decide +kernel
theorem dL_beat_480 : decode cL_beat 480 = .ok (.aload_n 0, 1) := by decide +kernel
theorem dL_beat_481 : decode cL_beat 481 = .ok (.bipush 48, 2) := by decide +kernel
theorem dL_beat_483 : decode cL_beat 483 = .ok (.iload 10, 2) := by decide +kernel
theorem dL_beat_485 : decode cL_beat 485 = .ok (.iadd, 1) := by decide +kernel
theorem dL_beat_486 : decode cL_beat 486 = .ok (.iaload, 1) := by decide +kernel
theorem dL_beat_487 : decode cL_beat 487 = .ok (.iload 13, 2) := by decide +kernel
theorem dL_beat_489 : decode cL_beat 489 = .ok (.ishr, 1) := by decide +kernel
theorem dL_beat_490 : decode cL_beat 490 = .ok (.iconst 1, 1) := by decide +kernel
theorem dL_beat_491 : decode cL_beat 491 = .ok (.iand, 1) := by decide +kernel
theorem dL_beat_492 : decode cL_beat 492 = .ok (.iconst 1, 1) := by decide +kernel
theorem dL_beat_493 : decode cL_beat 493 = .ok (.if_icmp .ne 116, 3) := by decide +kernel
theorem dL_beat_496 : decode cL_beat 496 = .ok (.aload_n 1, 1) := by decide +kernel
theorem dL_beat_497 : decode cL_beat 497 = .ok (.bipush 8, 2) := by decide +kernel
theorem dL_beat_499 : decode cL_beat 499 = .ok (.iload 13, 2) := by decide +kernel
theorem dL_beat_501 : decode cL_beat 501 = .ok (.iadd, 1) := by decide +kernel
theorem dL_beat_502 : decode cL_beat 502 = .ok (.dup2, 1) := by decide +kernel
theorem dL_beat_503 : decode cL_beat 503 = .ok (.iaload, 1) := by decide +kernel
theorem dL_beat_504 : decode cL_beat 504 = .ok (.iconst 1, 1) := by decide +kernel
theorem dL_beat_505 : decode cL_beat 505 = .ok (.iadd, 1) := by decide +kernel
theorem dL_beat_506 : decode cL_beat 506 = .ok (.iastore, 1) := by decide +kernel
theorem dL_beat_507 : decode cL_beat 507 = .ok (.aload_n 1, 1) := by decide +kernel
theorem dL_beat_508 : decode cL_beat 508 = .ok (.bipush 24, 2) := by decide +kernel
theorem dL_beat_510 : decode cL_beat 510 = .ok (.iload 13, 2) := by decide +kernel
theorem dL_beat_512 : decode cL_beat 512 = .ok (.iadd, 1) := by decide +kernel
theorem dL_beat_513 : decode cL_beat 513 = .ok (.dup2, 1) := by decide +kernel
theorem dL_beat_514 : decode cL_beat 514 = .ok (.iaload, 1) := by decide +kernel
theorem dL_beat_515 : decode cL_beat 515 = .ok (.aload_n 1, 1) := by decide +kernel
theorem dL_beat_516 : decode cL_beat 516 = .ok (.bipush 24, 2) := by decide +kernel
theorem dL_beat_518 : decode cL_beat 518 = .ok (.iload 13, 2) := by decide +kernel
theorem dL_beat_520 : decode cL_beat 520 = .ok (.iadd, 1) := by decide +kernel
theorem dL_beat_521 : decode cL_beat 521 = .ok (.iaload, 1) := by decide +kernel
theorem dL_beat_522 : decode cL_beat 522 = .ok (.iconst 4, 1) := by decide +kernel
theorem dL_beat_523 : decode cL_beat 523 = .ok (.if_icmp .ge 7, 3) := by decide +kernel
theorem dL_beat_526 : decode cL_beat 526 = .ok (.iconst 1, 1) := by decide +kernel
theorem dL_beat_527 : decode cL_beat 527 = .ok (.goto 4, 3) := by decide +kernel
theorem dL_beat_530 : decode cL_beat 530 = .ok (.iconst 0, 1) := by decide +kernel
theorem dL_beat_531 : decode cL_beat 531 = .ok (.iadd, 1) := by decide +kernel
theorem dL_beat_532 : decode cL_beat 532 = .ok (.iastore, 1) := by decide +kernel
theorem dL_beat_533 : decode cL_beat 533 = .ok (.iconst 3, 1) := by decide +kernel
theorem dL_beat_534 : decode cL_beat 534 = .ok (.istore 14, 2) := by decide +kernel
theorem dL_beat_536 : decode cL_beat 536 = .ok (.iload 14, 2) := by decide +kernel
theorem dL_beat_538 : decode cL_beat 538 = .ok (.ifCond .le 32, 3) := by decide +kernel
theorem dL_beat_541 : decode cL_beat 541 = .ok (.aload_n 3, 1) := by decide +kernel
theorem dL_beat_542 : decode cL_beat 542 = .ok (.bipush 8, 2) := by decide +kernel
theorem dL_beat_544 : decode cL_beat 544 = .ok (.iload 14, 2) := by decide +kernel
theorem dL_beat_546 : decode cL_beat 546 = .ok (.imul, 1) := by decide +kernel
theorem dL_beat_547 : decode cL_beat 547 = .ok (.iload 13, 2) := by decide +kernel
theorem dL_beat_549 : decode cL_beat 549 = .ok (.iadd, 1) := by decide +kernel
theorem dL_beat_550 : decode cL_beat 550 = .ok (.aload_n 3, 1) := by decide +kernel
theorem dL_beat_551 : decode cL_beat 551 = .ok (.bipush 8, 2) := by decide +kernel
theorem dL_beat_553 : decode cL_beat 553 = .ok (.iload 14, 2) := by decide +kernel
theorem dL_beat_555 : decode cL_beat 555 = .ok (.imul, 1) := by decide +kernel
theorem dL_beat_556 : decode cL_beat 556 = .ok (.bipush 8, 2) := by decide +kernel
theorem dL_beat_558 : decode cL_beat 558 = .ok (.isub, 1) := by decide +kernel
theorem dL_beat_559 : decode cL_beat 559 = .ok (.iload 13, 2) := by decide +kernel
theorem dL_beat_561 : decode cL_beat 561 = .ok (.iadd, 1) := by decide +kernel
theorem dL_beat_562 : decode cL_beat 562 = .ok (.iaload, 1) := by decide +kernel
theorem dL_beat_563 : decode cL_beat 563 = .ok (.iastore, 1) := by decide +kernel
theorem dL_beat_564 : decode cL_beat 564 = .ok (.iinc 14 (-1), 3) := by decide +kernel
theorem dL_beat_567 : decode cL_beat 567 = .ok (.goto (-31), 3) := by decide +kernel
theorem dL_beat_570 : decode cL_beat 570 = .ok (.aload_n 3, 1) := by decide +kernel
theorem dL_beat_571 : decode cL_beat 571 = .ok (.iload 13, 2) := by decide +kernel
theorem dL_beat_573 : decode cL_beat 573 = .ok (.aload_n 2, 1) := by decide +kernel
theorem dL_beat_574 : decode cL_beat 574 = .ok (.iload 10, 2) := by decide +kernel
theorem dL_beat_576 : decode cL_beat 576 = .ok (.iaload, 1) := by decide +kernel
theorem dL_beat_577 : decode cL_beat 577 = .ok (.sipush 256, 3) := by decide +kernel
theorem dL_beat_580 : decode cL_beat 580 = .ok (.irem, 1) := by decide +kernel
theorem dL_beat_581 : decode cL_beat 581 = .ok (.sipush 256, 3) := by decide +kernel
theorem dL_beat_584 : decode cL_beat 584 = .ok (.iload 10, 2) := by decide +kernel
theorem dL_beat_586 : decode cL_beat 586 = .ok (.imul, 1) := by decide +kernel
theorem dL_beat_587 : decode cL_beat 587 = .ok (.iadd, 1) := by decide +kernel
theorem dL_beat_588 : decode cL_beat 588 = .ok (.sipush 2048, 3) := by decide +kernel
theorem dL_beat_591 : decode cL_beat 591 = .ok (.aload_n 2, 1) := by decide +kernel
theorem dL_beat_592 : decode cL_beat 592 = .ok (.iload 10, 2) := by decide +kernel
theorem dL_beat_594 : decode cL_beat 594 = .ok (.invokestatic 10, 3) := by decide +kernel
theorem dL_beat_597 : decode cL_beat 597 = .ok (.imul, 1) := by decide +kernel
theorem dL_beat_598 : decode cL_beat 598 = .ok (.iadd, 1) := by decide +kernel
theorem dL_beat_599 : decode cL_beat 599 = .ok (.sipush 16384, 3) := by decide +kernel
theorem dL_beat_602 : decode cL_beat 602 = .ok (.aload 5, 2) := by decide +kernel
theorem dL_beat_604 : decode cL_beat 604 = .ok (.iconst 5, 1) := by decide +kernel
theorem dL_beat_605 : decode cL_beat 605 = .ok (.iaload, 1) := by decide +kernel
theorem dL_beat_606 : decode cL_beat 606 = .ok (.imul, 1) := by decide +kernel
theorem dL_beat_607 : decode cL_beat 607 = .ok (.iadd, 1) := by decide +kernel
theorem dL_beat_608 : decode cL_beat 608 = .ok (.iastore, 1) := by decide +kernel
theorem dL_beat_609 : decode cL_beat 609 = .ok (.iinc 13 1, 3) := by decide +kernel
theorem dL_beat_612 : decode cL_beat 612 = .ok (.goto (-149), 3) := by decide +kernel
theorem dL_beat_615 : decode cL_beat 615 = .ok (.iinc 8 1, 3) := by decide +kernel
theorem dL_beat_618 : decode cL_beat 618 = .ok (.aload_n 0, 1) := by decide +kernel
theorem dL_beat_619 : decode cL_beat 619 = .ok (.bipush 56, 2) := by decide +kernel
theorem dL_beat_621 : decode cL_beat 621 = .ok (.iload 10, 2) := by decide +kernel
theorem dL_beat_623 : decode cL_beat 623 = .ok (.iadd, 1) := by decide +kernel
theorem dL_beat_624 : decode cL_beat 624 = .ok (.dup2, 1) := by decide +kernel
theorem dL_beat_625 : decode cL_beat 625 = .ok (.iaload, 1) := by decide +kernel
theorem dL_beat_626 : decode cL_beat 626 = .ok (.iconst 1, 1) := by decide +kernel
theorem dL_beat_627 : decode cL_beat 627 = .ok (.iadd, 1) := by decide +kernel
theorem dL_beat_628 : decode cL_beat 628 = .ok (.iastore, 1) := by decide +kernel
theorem dL_beat_629 : decode cL_beat 629 = .ok (.aload 4, 2) := by decide +kernel
theorem dL_beat_631 : decode cL_beat 631 = .ok (.bipush 12, 2) := by decide +kernel
theorem dL_beat_633 : decode cL_beat 633 = .ok (.aload_n 2, 1) := by decide +kernel
theorem dL_beat_634 : decode cL_beat 634 = .ok (.iload 10, 2) := by decide +kernel
theorem dL_beat_636 : decode cL_beat 636 = .ok (.invokestatic 10, 3) := by decide +kernel
theorem dL_beat_639 : decode cL_beat 639 = .ok (.iadd, 1) := by decide +kernel
theorem dL_beat_640 : decode cL_beat 640 = .ok (.dup2, 1) := by decide +kernel
theorem dL_beat_641 : decode cL_beat 641 = .ok (.iaload, 1) := by decide +kernel
theorem dL_beat_642 : decode cL_beat 642 = .ok (.iconst 1, 1) := by decide +kernel
theorem dL_beat_643 : decode cL_beat 643 = .ok (.iadd, 1) := by decide +kernel
theorem dL_beat_644 : decode cL_beat 644 = .ok (.iastore, 1) := by decide +kernel
theorem dL_beat_645 : decode cL_beat 645 = .ok (.aload_n 0, 1) := by decide +kernel
theorem dL_beat_646 : decode cL_beat 646 = .ok (.aload_n 2, 1) := by decide +kernel
theorem dL_beat_647 : decode cL_beat 647 = .ok (.iload 10, 2) := by decide +kernel
theorem dL_beat_649 : decode cL_beat 649 = .ok (.invokestatic 16, 3) := by decide +kernel
theorem dL_beat_652 : decode cL_beat 652 = .ok (.iinc 10 1, 3) := by decide +kernel
theorem dL_beat_655 : decode cL_beat 655 = .ok (.goto (-367), 3) := by decide +kernel
theorem dL_beat_658 : decode cL_beat 658 = .ok (.iconst 0, 1) := by decide +kernel
theorem dL_beat_659 : decode cL_beat 659 = .ok (.istore 10, 2) := by decide +kernel
theorem dL_beat_661 : decode cL_beat 661 = .ok (.iload 10, 2) := by decide +kernel
theorem dL_beat_663 : decode cL_beat 663 = .ok (.aload 5, 2) := by decide +kernel
theorem dL_beat_665 : decode cL_beat 665 = .ok (.bipush 6, 2) := by decide +kernel
theorem dL_beat_667 : decode cL_beat 667 = .ok (.iaload, 1) := by decide +kernel
theorem dL_beat_668 : decode cL_beat 668 = .ok (.if_icmp .ge 189, 3) := by decide +kernel
theorem dL_beat_671 : decode cL_beat 671 = .ok (.aload_n 0, 1) := by decide +kernel
theorem dL_beat_672 : decode cL_beat 672 = .ok (.bipush 8, 2) := by decide +kernel
theorem dL_beat_674 : decode cL_beat 674 = .ok (.iload 10, 2) := by decide +kernel
theorem dL_beat_676 : decode cL_beat 676 = .ok (.iadd, 1) := by decide +kernel
theorem dL_beat_677 : decode cL_beat 677 = .ok (.iaload, 1) := by decide +kernel
theorem dL_beat_678 : decode cL_beat 678 = .ok (.aload_n 0, 1) := by decide +kernel
theorem dL_beat_679 : decode cL_beat 679 = .ok (.iload 10, 2) := by decide +kernel
theorem dL_beat_681 : decode cL_beat 681 = .ok (.invokestatic 20, 3) := by decide +kernel
theorem dL_beat_684 : decode cL_beat 684 = .ok (.ifCond .eq 10, 3) := by decide +kernel
theorem dL_beat_687 : decode cL_beat 687 = .ok (.aload 5, 2) := by decide +kernel
theorem dL_beat_689 : decode cL_beat 689 = .ok (.iconst 2, 1) := by decide +kernel
theorem dL_beat_690 : decode cL_beat 690 = .ok (.iaload, 1) := by decide +kernel
theorem dL_beat_691 : decode cL_beat 691 = .ok (.goto 4, 3) := by decide +kernel
theorem dL_beat_694 : decode cL_beat 694 = .ok (.iconst 0, 1) := by decide +kernel
theorem dL_beat_695 : decode cL_beat 695 = .ok (.isub, 1) := by decide +kernel
theorem dL_beat_696 : decode cL_beat 696 = .ok (.istore 11, 2) := by decide +kernel
theorem dL_beat_698 : decode cL_beat 698 = .ok (.iconst 0, 1) := by decide +kernel
theorem dL_beat_699 : decode cL_beat 699 = .ok (.istore 12, 2) := by decide +kernel
theorem dL_beat_701 : decode cL_beat 701 = .ok (.iload 12, 2) := by decide +kernel
theorem dL_beat_703 : decode cL_beat 703 = .ok (.bipush 6, 2) := by decide +kernel
theorem dL_beat_705 : decode cL_beat 705 = .ok (.if_icmp .ge 33, 3) := by decide +kernel
theorem dL_beat_708 : decode cL_beat 708 = .ok (.iload 11, 2) := by decide +kernel
theorem dL_beat_710 : decode cL_beat 710 = .ok (.aload_n 0, 1) := by decide +kernel
theorem dL_beat_711 : decode cL_beat 711 = .ok (.iload 10, 2) := by decide +kernel
theorem dL_beat_713 : decode cL_beat 713 = .ok (.iaload, 1) := by decide +kernel
theorem dL_beat_714 : decode cL_beat 714 = .ok (.iload 6, 2) := by decide +kernel
theorem dL_beat_716 : decode cL_beat 716 = .ok (.iconst (-1), 1) := by decide +kernel
theorem dL_beat_717 : decode cL_beat 717 = .ok (.ixor, 1) := by decide +kernel
theorem dL_beat_718 : decode cL_beat 718 = .ok (.iand, 1) := by decide +kernel
theorem dL_beat_719 : decode cL_beat 719 = .ok (.iload 12, 2) := by decide +kernel
theorem dL_beat_721 : decode cL_beat 721 = .ok (.ishr, 1) := by decide +kernel
theorem dL_beat_722 : decode cL_beat 722 = .ok (.iconst 1, 1) := by decide +kernel
theorem dL_beat_723 : decode cL_beat 723 = .ok (.iand, 1) := by decide +kernel
theorem dL_beat_724 : decode cL_beat 724 = .ok (.aload 5, 2) := by decide +kernel
theorem dL_beat_726 : decode cL_beat 726 = .ok (.iconst 3, 1) := by decide +kernel
theorem dL_beat_727 : decode cL_beat 727 = .ok (.iaload, 1) := by decide +kernel
theorem dL_beat_728 : decode cL_beat 728 = .ok (.imul, 1) := by decide +kernel
theorem dL_beat_729 : decode cL_beat 729 = .ok (.iadd, 1) := by decide +kernel
theorem dL_beat_730 : decode cL_beat 730 = .ok (.istore 11, 2) := by decide +kernel
theorem dL_beat_732 : decode cL_beat 732 = .ok (.iinc 12 1, 3) := by decide +kernel
theorem dL_beat_735 : decode cL_beat 735 = .ok (.goto (-34), 3) := by decide +kernel
theorem dL_beat_738 : decode cL_beat 738 = .ok (.aload_n 0, 1) := by decide +kernel
theorem dL_beat_739 : decode cL_beat 739 = .ok (.bipush 8, 2) := by decide +kernel
theorem dL_beat_741 : decode cL_beat 741 = .ok (.iload 10, 2) := by decide +kernel
theorem dL_beat_743 : decode cL_beat 743 = .ok (.iadd, 1) := by decide +kernel
theorem dL_beat_744 : decode cL_beat 744 = .ok (.iload 11, 2) := by decide +kernel
theorem dL_beat_746 : decode cL_beat 746 = .ok (.ifCond .ge 7, 3) := by decide +kernel
theorem dL_beat_749 : decode cL_beat 749 = .ok (.iconst 0, 1) := by decide +kernel
theorem dL_beat_750 : decode cL_beat 750 = .ok (.goto 21, 3) := by decide +kernel
theorem dL_beat_753 : decode cL_beat 753 = .ok (.iload 11, 2) := by decide +kernel
theorem dL_beat_755 : decode cL_beat 755 = .ok (.aload 5, 2) := by decide +kernel
theorem dL_beat_757 : decode cL_beat 757 = .ok (.iconst 1, 1) := by decide +kernel
theorem dL_beat_758 : decode cL_beat 758 = .ok (.iaload, 1) := by decide +kernel
theorem dL_beat_759 : decode cL_beat 759 = .ok (.if_icmp .le 10, 3) := by decide +kernel
theorem dL_beat_762 : decode cL_beat 762 = .ok (.aload 5, 2) := by decide +kernel
theorem dL_beat_764 : decode cL_beat 764 = .ok (.iconst 1, 1) := by decide +kernel
theorem dL_beat_765 : decode cL_beat 765 = .ok (.iaload, 1) := by decide +kernel
theorem dL_beat_766 : decode cL_beat 766 = .ok (.goto 5, 3) := by decide +kernel
theorem dL_beat_769 : decode cL_beat 769 = .ok (.iload 11, 2) := by decide +kernel
theorem dL_beat_771 : decode cL_beat 771 = .ok (.iastore, 1) := by decide +kernel
theorem dL_beat_772 : decode cL_beat 772 = .ok (.iload 11, 2) := by decide +kernel
