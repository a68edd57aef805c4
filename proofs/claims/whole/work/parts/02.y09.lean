theorem d_Mod_count_0 : decode b_Mod_count 0 = .ok (.iconst 0, 1) := by decide +kernel
theorem d_Mod_count_1 : decode b_Mod_count 1 = .ok (.istore_n 1, 1) := by decide +kernel
theorem d_Mod_count_2 : decode b_Mod_count 2 = .ok (.iconst 0, 1) := by decide +kernel
theorem d_Mod_count_3 : decode b_Mod_count 3 = .ok (.istore_n 2, 1) := by decide +kernel
theorem d_Mod_count_4 : decode b_Mod_count 4 = .ok (.aload_n 0, 1) := by decide +kernel
theorem d_Mod_count_5 : decode b_Mod_count 5 = .ok (.iconst 1, 1) := by decide +kernel
theorem d_Mod_count_6 : decode b_Mod_count 6 = .ok (.invokevirtual 167, 3) := by decide +kernel
theorem d_Mod_count_9 : decode b_Mod_count 9 = .ok (.istore_n 3, 1) := by decide +kernel
theorem d_Mod_count_10 : decode b_Mod_count 10 = .ok (.iload_n 3, 1) := by decide +kernel
theorem d_Mod_count_11 : decode b_Mod_count 11 = .ok (.iconst 1, 1) := by decide +kernel
theorem d_Mod_count_12 : decode b_Mod_count 12 = .ok (.if_icmp .ne 48, 3) := by decide +kernel
theorem d_Mod_count_15 : decode b_Mod_count 15 = .ok (.aload_n 0, 1) := by decide +kernel
theorem d_Mod_count_16 : decode b_Mod_count 16 = .ok (.invokevirtual 174, 3) := by decide +kernel
theorem d_Mod_count_19 : decode b_Mod_count 19 = .ok (.ifCond .eq 16, 3) := by decide +kernel
theorem d_Mod_count_22 : decode b_Mod_count 22 = .ok (.iload_n 2, 1) := by decide +kernel
theorem d_Mod_count_23 : decode b_Mod_count 23 = .ok (.ifCond .le 15, 3) := by decide +kernel
theorem d_Mod_count_26 : decode b_Mod_count 26 = .ok (.aload_n 0, 1) := by decide +kernel
theorem d_Mod_count_27 : decode b_Mod_count 27 = .ok (.iload_n 1, 1) := by decide +kernel
theorem d_Mod_count_28 : decode b_Mod_count 28 = .ok (.iload_n 2, 1) := by decide +kernel
theorem d_Mod_count_29 : decode b_Mod_count 29 = .ok (.invokevirtual 178, 3) := by decide +kernel
theorem d_Mod_count_32 : decode b_Mod_count 32 = .ok (.ifCond .ne 6, 3) := by decide +kernel
theorem d_Mod_count_35 : decode b_Mod_count 35 = .ok (.bipush (-2), 2) := by decide +kernel
theorem d_Mod_count_37 : decode b_Mod_count 37 = .ok (.ireturn, 1) := by decide +kernel
theorem d_Mod_count_38 : decode b_Mod_count 38 = .ok (.aload_n 0, 1) := by decide +kernel
theorem d_Mod_count_39 : decode b_Mod_count 39 = .ok (.getfield 141, 3) := by decide +kernel
theorem d_Mod_count_42 : decode b_Mod_count 42 = .ok (.bipush 8, 2) := by decide +kernel
theorem d_Mod_count_44 : decode b_Mod_count 44 = .ok (.iadd, 1) := by decide +kernel
theorem d_Mod_count_45 : decode b_Mod_count 45 = .ok (.istore_n 1, 1) := by decide +kernel
theorem d_Mod_count_46 : decode b_Mod_count 46 = .ok (.aload_n 0, 1) := by decide +kernel
theorem d_Mod_count_47 : decode b_Mod_count 47 = .ok (.invokevirtual 157, 3) := by decide +kernel
theorem d_Mod_count_50 : decode b_Mod_count 50 = .ok (.istore_n 2, 1) := by decide +kernel
theorem d_Mod_count_51 : decode b_Mod_count 51 = .ok (.aload_n 0, 1) := by decide +kernel
theorem d_Mod_count_52 : decode b_Mod_count 52 = .ok (.iconst 0, 1) := by decide +kernel
theorem d_Mod_count_53 : decode b_Mod_count 53 = .ok (.invokevirtual 167, 3) := by decide +kernel
theorem d_Mod_count_56 : decode b_Mod_count 56 = .ok (.istore_n 3, 1) := by decide +kernel
theorem d_Mod_count_57 : decode b_Mod_count 57 = .ok (.goto (-47), 3) := by decide +kernel
theorem d_Mod_count_60 : decode b_Mod_count 60 = .ok (.aload_n 0, 1) := by decide +kernel
theorem d_Mod_count_61 : decode b_Mod_count 61 = .ok (.getfield 150, 3) := by decide +kernel
theorem d_Mod_count_64 : decode b_Mod_count 64 = .ok (.istore 4, 2) := by decide +kernel
theorem d_Mod_count_66 : decode b_Mod_count 66 = .ok (.iload_n 3, 1) := by decide +kernel
theorem d_Mod_count_67 : decode b_Mod_count 67 = .ok (.ifCond .ne 7, 3) := by decide +kernel
theorem d_Mod_count_70 : decode b_Mod_count 70 = .ok (.iconst 1, 1) := by decide +kernel
theorem d_Mod_count_71 : decode b_Mod_count 71 = .ok (.goto 4, 3) := by decide +kernel
theorem d_Mod_count_74 : decode b_Mod_count 74 = .ok (.iconst 0, 1) := by decide +kernel
theorem d_Mod_count_75 : decode b_Mod_count 75 = .ok (.istore 5, 2) := by decide +kernel
theorem d_Mod_count_77 : decode b_Mod_count 77 = .ok (.iconst 0, 1) := by decide +kernel
theorem d_Mod_count_78 : decode b_Mod_count 78 = .ok (.istore 6, 2) := by decide +kernel
theorem d_Mod_count_80 : decode b_Mod_count 80 = .ok (.iload 6, 2) := by decide +kernel
theorem d_Mod_count_82 : decode b_Mod_count 82 = .ok (.aload_n 0, 1) := by decide +kernel
theorem d_Mod_count_83 : decode b_Mod_count 83 = .ok (.getfield 112, 3) := by decide +kernel
theorem d_Mod_count_86 : decode b_Mod_count 86 = .ok (.if_icmp .ge 22, 3) := by decide +kernel
theorem d_Mod_count_89 : decode b_Mod_count 89 = .ok (.iload 5, 2) := by decide +kernel
theorem d_Mod_count_91 : decode b_Mod_count 91 = .ok (.ifCond .eq 17, 3) := by decide +kernel
theorem d_Mod_count_94 : decode b_Mod_count 94 = .ok (.aload_n 0, 1) := by decide +kernel
theorem d_Mod_count_95 : decode b_Mod_count 95 = .ok (.iload 6, 2) := by decide +kernel
theorem d_Mod_count_97 : decode b_Mod_count 97 = .ok (.invokevirtual 181, 3) := by decide +kernel
theorem d_Mod_count_100 : decode b_Mod_count 100 = .ok (.istore 5, 2) := by decide +kernel
theorem d_Mod_count_102 : decode b_Mod_count 102 = .ok (.iinc 6 1, 3) := by decide +kernel
theorem d_Mod_count_105 : decode b_Mod_count 105 = .ok (.goto (-25), 3) := by decide +kernel
theorem d_Mod_count_108 : decode b_Mod_count 108 = .ok (.iload 5, 2) := by decide +kernel
theorem d_Mod_count_110 : decode b_Mod_count 110 = .ok (.ifCond .eq 8, 3) := by decide +kernel
theorem d_Mod_count_113 : decode b_Mod_count 113 = .ok (.iload 4, 2) := by decide +kernel
theorem d_Mod_count_115 : decode b_Mod_count 115 = .ok (.goto 5, 3) := by decide +kernel
theorem d_Mod_count_118 : decode b_Mod_count 118 = .ok (.bipush (-2), 2) := by decide +kernel
theorem d_Mod_count_120 : decode b_Mod_count 120 = .ok (.ireturn, 1) := by decide +kernel
theorem d_Mod_step_0 : decode b_Mod_step 0 = .ok (.iload_n 1, 1) := by decide +kernel
theorem d_Mod_step_1 : decode b_Mod_step 1 = .ok (.ifCond .eq 23, 3) := by decide +kernel
theorem d_Mod_step_4 : decode b_Mod_step 4 = .ok (.aload_n 0, 1) := by decide +kernel
theorem d_Mod_step_5 : decode b_Mod_step 5 = .ok (.iconst 0, 1) := by decide +kernel
theorem d_Mod_step_6 : decode b_Mod_step 6 = .ok (.putfield 141, 3) := by decide +kernel
theorem d_Mod_step_9 : decode b_Mod_step 9 = .ok (.aload_n 0, 1) := by decide +kernel
theorem d_Mod_step_10 : decode b_Mod_step 10 = .ok (.iconst 0, 1) := by decide +kernel
theorem d_Mod_step_11 : decode b_Mod_step 11 = .ok (.putfield 144, 3) := by decide +kernel
theorem d_Mod_step_14 : decode b_Mod_step 14 = .ok (.aload_n 0, 1) := by decide +kernel
theorem d_Mod_step_15 : decode b_Mod_step 15 = .ok (.iconst 0, 1) := by decide +kernel
theorem d_Mod_step_16 : decode b_Mod_step 16 = .ok (.putfield 147, 3) := by decide +kernel
theorem d_Mod_step_19 : decode b_Mod_step 19 = .ok (.aload_n 0, 1) := by decide +kernel
theorem d_Mod_step_20 : decode b_Mod_step 20 = .ok (.iconst 0, 1) := by decide +kernel
theorem d_Mod_step_21 : decode b_Mod_step 21 = .ok (.putfield 150, 3) := by decide +kernel
theorem d_Mod_step_24 : decode b_Mod_step 24 = .ok (.iload_n 1, 1) := by decide +kernel
theorem d_Mod_step_25 : decode b_Mod_step 25 = .ok (.ifCond .eq 7, 3) := by decide +kernel
theorem d_Mod_step_28 : decode b_Mod_step 28 = .ok (.iconst 0, 1) := by decide +kernel
theorem d_Mod_step_29 : decode b_Mod_step 29 = .ok (.goto 22, 3) := by decide +kernel
theorem d_Mod_step_32 : decode b_Mod_step 32 = .ok (.aload_n 0, 1) := by decide +kernel
theorem d_Mod_step_33 : decode b_Mod_step 33 = .ok (.getfield 141, 3) := by decide +kernel
theorem d_Mod_step_36 : decode b_Mod_step 36 = .ok (.bipush 9, 2) := by decide +kernel
theorem d_Mod_step_38 : decode b_Mod_step 38 = .ok (.iadd, 1) := by decide +kernel
theorem d_Mod_step_39 : decode b_Mod_step 39 = .ok (.aload_n 0, 1) := by decide +kernel
theorem d_Mod_step_40 : decode b_Mod_step 40 = .ok (.aload_n 0, 1) := by decide +kernel
theorem d_Mod_step_41 : decode b_Mod_step 41 = .ok (.getfield 141, 3) := by decide +kernel
theorem d_Mod_step_44 : decode b_Mod_step 44 = .ok (.bipush 6, 2) := by decide +kernel
theorem d_Mod_step_46 : decode b_Mod_step 46 = .ok (.iadd, 1) := by decide +kernel
theorem d_Mod_step_47 : decode b_Mod_step 47 = .ok (.invokevirtual 138, 3) := by decide +kernel
theorem d_Mod_step_50 : decode b_Mod_step 50 = .ok (.iadd, 1) := by decide +kernel
theorem d_Mod_step_51 : decode b_Mod_step 51 = .ok (.istore_n 2, 1) := by decide +kernel
theorem d_Mod_step_52 : decode b_Mod_step 52 = .ok (.aload_n 0, 1) := by decide +kernel
theorem d_Mod_step_53 : decode b_Mod_step 53 = .ok (.getfield 147, 3) := by decide +kernel
theorem d_Mod_step_56 : decode b_Mod_step 56 = .ok (.ifCond .ne 13, 3) := by decide +kernel
theorem d_Mod_step_59 : decode b_Mod_step 59 = .ok (.iload_n 2, 1) := by decide +kernel
theorem d_Mod_step_60 : decode b_Mod_step 60 = .ok (.aload_n 0, 1) := by decide +kernel
theorem d_Mod_step_61 : decode b_Mod_step 61 = .ok (.getfield 109, 3) := by decide +kernel
theorem d_Mod_step_64 : decode b_Mod_step 64 = .ok (.if_icmp .ne 5, 3) := by decide +kernel
theorem d_Mod_step_67 : decode b_Mod_step 67 = .ok (.iconst 0, 1) := by decide +kernel
theorem d_Mod_step_68 : decode b_Mod_step 68 = .ok (.ireturn, 1) := by decide +kernel
theorem d_Mod_step_69 : decode b_Mod_step 69 = .ok (.aload_n 0, 1) := by decide +kernel
theorem d_Mod_step_70 : decode b_Mod_step 70 = .ok (.getfield 147, 3) := by decide +kernel
theorem d_Mod_step_73 : decode b_Mod_step 73 = .ok (.ifCond .ne 50, 3) := by decide +kernel
theorem d_Mod_step_76 : decode b_Mod_step 76 = .ok (.iload_n 2, 1) := by decide +kernel
theorem d_Mod_step_77 : decode b_Mod_step 77 = .ok (.bipush 12, 2) := by decide +kernel
theorem d_Mod_step_79 : decode b_Mod_step 79 = .ok (.iadd, 1) := by decide +kernel
theorem d_Mod_step_80 : decode b_Mod_step 80 = .ok (.aload_n 0, 1) := by decide +kernel
theorem d_Mod_step_81 : decode b_Mod_step 81 = .ok (.getfield 109, 3) := by decide +kernel
theorem d_Mod_step_84 : decode b_Mod_step 84 = .ok (.if_icmp .gt 15, 3) := by decide +kernel
theorem d_Mod_step_87 : decode b_Mod_step 87 = .ok (.aload_n 0, 1) := by decide +kernel
theorem d_Mod_step_88 : decode b_Mod_step 88 = .ok (.iload_n 2, 1) := by decide +kernel
theorem d_Mod_step_89 : decode b_Mod_step 89 = .ok (.invokevirtual 153, 3) := by decide +kernel
theorem d_Mod_step_92 : decode b_Mod_step 92 = .ok (.ldc2_w 68, 3) := by decide +kernel
theorem d_Mod_step_95 : decode b_Mod_step 95 = .ok (.lcmp, 1) := by decide +kernel
theorem d_Mod_step_96 : decode b_Mod_step 96 = .ok (.ifCond .le 5, 3) := by decide +kernel
theorem d_Mod_step_99 : decode b_Mod_step 99 = .ok (.iconst (-1), 1) := by decide +kernel
theorem d_Mod_step_100 : decode b_Mod_step 100 = .ok (.ireturn, 1) := by decide +kernel
theorem d_Mod_step_101 : decode b_Mod_step 101 = .ok (.aload_n 0, 1) := by decide +kernel
theorem d_Mod_step_102 : decode b_Mod_step 102 = .ok (.iload_n 2, 1) := by decide +kernel
theorem d_Mod_step_103 : decode b_Mod_step 103 = .ok (.putfield 144, 3) := by decide +kernel
theorem d_Mod_step_106 : decode b_Mod_step 106 = .ok (.aload_n 0, 1) := by decide +kernel
theorem d_Mod_step_107 : decode b_Mod_step 107 = .ok (.aload_n 0, 1) := by decide +kernel
theorem d_Mod_step_108 : decode b_Mod_step 108 = .ok (.iload_n 2, 1) := by decide +kernel
theorem d_Mod_step_109 : decode b_Mod_step 109 = .ok (.invokevirtual 153, 3) := by decide +kernel
theorem d_Mod_step_112 : decode b_Mod_step 112 = .ok (.l2i, 1) := by decide +kernel
theorem d_Mod_step_113 : decode b_Mod_step 113 = .ok (.iconst 1, 1) := by decide +kernel
theorem d_Mod_step_114 : decode b_Mod_step 114 = .ok (.iadd, 1) := by decide +kernel
theorem d_Mod_step_115 : decode b_Mod_step 115 = .ok (.putfield 147, 3) := by decide +kernel
theorem d_Mod_step_118 : decode b_Mod_step 118 = .ok (.iload_n 2, 1) := by decide +kernel
theorem d_Mod_step_119 : decode b_Mod_step 119 = .ok (.bipush 12, 2) := by decide +kernel
theorem d_Mod_step_121 : decode b_Mod_step 121 = .ok (.iadd, 1) := by decide +kernel
theorem d_Mod_step_122 : decode b_Mod_step 122 = .ok (.istore_n 2, 1) := by decide +kernel
theorem d_Mod_step_123 : decode b_Mod_step 123 = .ok (.iload_n 2, 1) := by decide +kernel
theorem d_Mod_step_124 : decode b_Mod_step 124 = .ok (.bipush 8, 2) := by decide +kernel
theorem d_Mod_step_126 : decode b_Mod_step 126 = .ok (.iadd, 1) := by decide +kernel
theorem d_Mod_step_127 : decode b_Mod_step 127 = .ok (.aload_n 0, 1) := by decide +kernel
theorem d_Mod_step_128 : decode b_Mod_step 128 = .ok (.getfield 109, 3) := by decide +kernel
theorem d_Mod_step_131 : decode b_Mod_step 131 = .ok (.if_icmp .gt 23, 3) := by decide +kernel
theorem d_Mod_step_134 : decode b_Mod_step 134 = .ok (.iload_n 2, 1) := by decide +kernel
theorem d_Mod_step_135 : decode b_Mod_step 135 = .ok (.bipush 9, 2) := by decide +kernel
theorem d_Mod_step_137 : decode b_Mod_step 137 = .ok (.iadd, 1) := by decide +kernel
theorem d_Mod_step_138 : decode b_Mod_step 138 = .ok (.aload_n 0, 1) := by decide +kernel
theorem d_Mod_step_139 : decode b_Mod_step 139 = .ok (.iload_n 2, 1) := by decide +kernel
theorem d_Mod_step_140 : decode b_Mod_step 140 = .ok (.bipush 6, 2) := by decide +kernel
theorem d_Mod_step_142 : decode b_Mod_step 142 = .ok (.iadd, 1) := by decide +kernel
theorem d_Mod_step_143 : decode b_Mod_step 143 = .ok (.invokevirtual 138, 3) := by decide +kernel
theorem d_Mod_step_146 : decode b_Mod_step 146 = .ok (.iadd, 1) := by decide +kernel
theorem d_Mod_step_147 : decode b_Mod_step 147 = .ok (.aload_n 0, 1) := by decide +kernel
theorem d_Mod_step_148 : decode b_Mod_step 148 = .ok (.getfield 109, 3) := by decide +kernel
theorem d_Mod_step_151 : decode b_Mod_step 151 = .ok (.if_icmp .le 5, 3) := by decide +kernel
theorem d_Mod_step_154 : decode b_Mod_step 154 = .ok (.iconst (-1), 1) := by decide +kernel
theorem d_Mod_step_155 : decode b_Mod_step 155 = .ok (.ireturn, 1) := by decide +kernel
theorem d_Mod_step_156 : decode b_Mod_step 156 = .ok (.aload_n 0, 1) := by decide +kernel
theorem d_Mod_step_157 : decode b_Mod_step 157 = .ok (.iload_n 2, 1) := by decide +kernel
theorem d_Mod_step_158 : decode b_Mod_step 158 = .ok (.putfield 141, 3) := by decide +kernel
theorem d_Mod_step_161 : decode b_Mod_step 161 = .ok (.aload_n 0, 1) := by decide +kernel
theorem d_Mod_step_162 : decode b_Mod_step 162 = .ok (.dup, 1) := by decide +kernel
theorem d_Mod_step_163 : decode b_Mod_step 163 = .ok (.getfield 147, 3) := by decide +kernel
theorem d_Mod_step_166 : decode b_Mod_step 166 = .ok (.iconst 1, 1) := by decide +kernel
theorem d_Mod_step_167 : decode b_Mod_step 167 = .ok (.isub, 1) := by decide +kernel
theorem d_Mod_step_168 : decode b_Mod_step 168 = .ok (.putfield 147, 3) := by decide +kernel
theorem d_Mod_step_171 : decode b_Mod_step 171 = .ok (.aload_n 0, 1) := by decide +kernel
theorem d_Mod_step_172 : decode b_Mod_step 172 = .ok (.dup, 1) := by decide +kernel
theorem d_Mod_step_173 : decode b_Mod_step 173 = .ok (.getfield 150, 3) := by decide +kernel
theorem d_Mod_step_176 : decode b_Mod_step 176 = .ok (.iconst 1, 1) := by decide +kernel
theorem d_Mod_step_177 : decode b_Mod_step 177 = .ok (.iadd, 1) := by decide +kernel
theorem d_Mod_step_178 : decode b_Mod_step 178 = .ok (.putfield 150, 3) := by decide +kernel
theorem d_Mod_step_181 : decode b_Mod_step 181 = .ok (.iconst 1, 1) := by decide +kernel
theorem d_Mod_step_182 : decode b_Mod_step 182 = .ok (.ireturn, 1) := by decide +kernel
theorem d_Mod_u2_0 : decode b_Mod_u2 0 = .ok (.aload_n 0, 1) := by decide +kernel
theorem d_Mod_u2_1 : decode b_Mod_u2 1 = .ok (.getfield 46, 3) := by decide +kernel
theorem d_Mod_u2_4 : decode b_Mod_u2 4 = .ok (.iload_n 1, 1) := by decide +kernel
theorem d_Mod_u2_5 : decode b_Mod_u2 5 = .ok (.baload, 1) := by decide +kernel
theorem d_Mod_u2_6 : decode b_Mod_u2 6 = .ok (.sipush 255, 3) := by decide +kernel
theorem d_Mod_u2_9 : decode b_Mod_u2 9 = .ok (.iand, 1) := by decide +kernel
theorem d_Mod_u2_10 : decode b_Mod_u2 10 = .ok (.aload_n 0, 1) := by decide +kernel
theorem d_Mod_u2_11 : decode b_Mod_u2 11 = .ok (.getfield 46, 3) := by decide +kernel
theorem d_Mod_u2_14 : decode b_Mod_u2 14 = .ok (.iload_n 1, 1) := by decide +kernel
theorem d_Mod_u2_15 : decode b_Mod_u2 15 = .ok (.iconst 1, 1) := by decide +kernel
theorem d_Mod_u2_16 : decode b_Mod_u2 16 = .ok (.iadd, 1) := by decide +kernel
theorem d_Mod_u2_17 : decode b_Mod_u2 17 = .ok (.baload, 1) := by decide +kernel
theorem d_Mod_u2_18 : decode b_Mod_u2 18 = .ok (.sipush 255, 3) := by decide +kernel
theorem d_Mod_u2_21 : decode b_Mod_u2 21 = .ok (.iand, 1) := by decide +kernel
theorem d_Mod_u2_22 : decode b_Mod_u2 22 = .ok (.bipush 8, 2) := by decide +kernel
theorem d_Mod_u2_24 : decode b_Mod_u2 24 = .ok (.ishl, 1) := by decide +kernel
theorem d_Mod_u2_25 : decode b_Mod_u2 25 = .ok (.ior, 1) := by decide +kernel
theorem d_Mod_u2_26 : decode b_Mod_u2 26 = .ok (.ireturn, 1) := by decide +kernel
theorem d_Mod_u4_0 : decode b_Mod_u4 0 = .ok (.aload_n 0, 1) := by decide +kernel
theorem d_Mod_u4_1 : decode b_Mod_u4 1 = .ok (.iload_n 1, 1) := by decide +kernel
theorem d_Mod_u4_2 : decode b_Mod_u4 2 = .ok (.invokevirtual 138, 3) := by decide +kernel
theorem d_Mod_u4_5 : decode b_Mod_u4 5 = .ok (.i2l, 1) := by decide +kernel
theorem d_Mod_u4_6 : decode b_Mod_u4 6 = .ok (.aload_n 0, 1) := by decide +kernel
theorem d_Mod_u4_7 : decode b_Mod_u4 7 = .ok (.iload_n 1, 1) := by decide +kernel
theorem d_Mod_u4_8 : decode b_Mod_u4 8 = .ok (.iconst 2, 1) := by decide +kernel
theorem d_Mod_u4_9 : decode b_Mod_u4 9 = .ok (.iadd, 1) := by decide +kernel
theorem d_Mod_u4_10 : decode b_Mod_u4 10 = .ok (.invokevirtual 138, 3) := by decide +kernel
theorem d_Mod_u4_13 : decode b_Mod_u4 13 = .ok (.i2l, 1) := by decide +kernel
theorem d_Mod_u4_14 : decode b_Mod_u4 14 = .ok (.bipush 16, 2) := by decide +kernel
theorem d_Mod_u4_16 : decode b_Mod_u4 16 = .ok (.lshl, 1) := by decide +kernel
theorem d_Mod_u4_17 : decode b_Mod_u4 17 = .ok (.lor, 1) := by decide +kernel
theorem d_Mod_u4_18 : decode b_Mod_u4 18 = .ok (.lreturn, 1) := by decide +kernel
theorem d_Mod_isEntryRight_0 : decode b_Mod_isEntryRight 0 = .ok (.aload_n 0, 1) := by decide +kernel
theorem d_Mod_isEntryRight_1 : decode b_Mod_isEntryRight 1 = .ok (.invokevirtual 157, 3) := by decide +kernel
theorem d_Mod_isEntryRight_4 : decode b_Mod_isEntryRight 4 = .ok (.istore_n 1, 1) := by decide +kernel
theorem d_Mod_isEntryRight_5 : decode b_Mod_isEntryRight 5 = .ok (.iload_n 1, 1) := by decide +kernel
theorem d_Mod_isEntryRight_6 : decode b_Mod_isEntryRight 6 = .ok (.sipush 256, 3) := by decide +kernel
theorem d_Mod_isEntryRight_9 : decode b_Mod_isEntryRight 9 = .ok (.if_icmp .gt 34, 3) := by decide +kernel
theorem d_Mod_isEntryRight_12 : decode b_Mod_isEntryRight 12 = .ok (.iload_n 1, 1) := by decide +kernel
theorem d_Mod_isEntryRight_13 : decode b_Mod_isEntryRight 13 = .ok (.iconst 3, 1) := by decide +kernel
theorem d_Mod_isEntryRight_14 : decode b_Mod_isEntryRight 14 = .ok (.if_icmp .ge 25, 3) := by decide +kernel
theorem d_Mod_isEntryRight_17 : decode b_Mod_isEntryRight 17 = .ok (.aload_n 0, 1) := by decide +kernel
theorem d_Mod_isEntryRight_18 : decode b_Mod_isEntryRight 18 = .ok (.iconst 0, 1) := by decide +kernel
theorem d_Mod_isEntryRight_19 : decode b_Mod_isEntryRight 19 = .ok (.invokevirtual 160, 3) := by decide +kernel
theorem d_Mod_isEntryRight_22 : decode b_Mod_isEntryRight 22 = .ok (.bipush 46, 2) := by decide +kernel
theorem d_Mod_isEntryRight_24 : decode b_Mod_isEntryRight 24 = .ok (.if_icmp .ne 15, 3) := by decide +kernel
theorem d_Mod_isEntryRight_27 : decode b_Mod_isEntryRight 27 = .ok (.aload_n 0, 1) := by decide +kernel
theorem d_Mod_isEntryRight_28 : decode b_Mod_isEntryRight 28 = .ok (.iload_n 1, 1) := by decide +kernel
theorem d_Mod_isEntryRight_29 : decode b_Mod_isEntryRight 29 = .ok (.iconst 1, 1) := by decide +kernel
theorem d_Mod_isEntryRight_30 : decode b_Mod_isEntryRight 30 = .ok (.isub, 1) := by decide +kernel
theorem d_Mod_isEntryRight_31 : decode b_Mod_isEntryRight 31 = .ok (.invokevirtual 160, 3) := by decide +kernel
theorem d_Mod_isEntryRight_34 : decode b_Mod_isEntryRight 34 = .ok (.bipush 46, 2) := by decide +kernel
theorem d_Mod_isEntryRight_36 : decode b_Mod_isEntryRight 36 = .ok (.if_icmp .eq 7, 3) := by decide +kernel
theorem d_Mod_isEntryRight_39 : decode b_Mod_isEntryRight 39 = .ok (.iconst 1, 1) := by decide +kernel
theorem d_Mod_isEntryRight_40 : decode b_Mod_isEntryRight 40 = .ok (.goto 4, 3) := by decide +kernel
theorem d_Mod_isEntryRight_43 : decode b_Mod_isEntryRight 43 = .ok (.iconst 0, 1) := by decide +kernel
theorem d_Mod_isEntryRight_44 : decode b_Mod_isEntryRight 44 = .ok (.istore_n 2, 1) := by decide +kernel
theorem d_Mod_isEntryRight_45 : decode b_Mod_isEntryRight 45 = .ok (.iconst 0, 1) := by decide +kernel
theorem d_Mod_isEntryRight_46 : decode b_Mod_isEntryRight 46 = .ok (.istore_n 3, 1) := by decide +kernel
theorem d_Mod_isEntryRight_47 : decode b_Mod_isEntryRight 47 = .ok (.iload_n 3, 1) := by decide +kernel
theorem d_Mod_isEntryRight_48 : decode b_Mod_isEntryRight 48 = .ok (.iload_n 1, 1) := by decide +kernel
theorem d_Mod_isEntryRight_49 : decode b_Mod_isEntryRight 49 = .ok (.if_icmp .ge 37, 3) := by decide +kernel
theorem d_Mod_isEntryRight_52 : decode b_Mod_isEntryRight 52 = .ok (.iload_n 2, 1) := by decide +kernel
theorem d_Mod_isEntryRight_53 : decode b_Mod_isEntryRight 53 = .ok (.ifCond .eq 33, 3) := by decide +kernel
theorem d_Mod_isEntryRight_56 : decode b_Mod_isEntryRight 56 = .ok (.aload_n 0, 1) := by decide +kernel
theorem d_Mod_isEntryRight_57 : decode b_Mod_isEntryRight 57 = .ok (.iload_n 3, 1) := by decide +kernel
theorem d_Mod_isEntryRight_58 : decode b_Mod_isEntryRight 58 = .ok (.invokevirtual 160, 3) := by decide +kernel
theorem d_Mod_isEntryRight_61 : decode b_Mod_isEntryRight 61 = .ok (.ifCond .eq 17, 3) := by decide +kernel
theorem d_Mod_isEntryRight_64 : decode b_Mod_isEntryRight 64 = .ok (.aload_n 0, 1) := by decide +kernel
theorem d_Mod_isEntryRight_65 : decode b_Mod_isEntryRight 65 = .ok (.iload_n 3, 1) := by decide +kernel
theorem d_Mod_isEntryRight_66 : decode b_Mod_isEntryRight 66 = .ok (.invokevirtual 160, 3) := by decide +kernel
theorem d_Mod_isEntryRight_69 : decode b_Mod_isEntryRight 69 = .ok (.bipush 47, 2) := by decide +kernel
theorem d_Mod_isEntryRight_71 : decode b_Mod_isEntryRight 71 = .ok (.if_icmp .eq 7, 3) := by decide +kernel
theorem d_Mod_isEntryRight_74 : decode b_Mod_isEntryRight 74 = .ok (.iconst 1, 1) := by decide +kernel
theorem d_Mod_isEntryRight_75 : decode b_Mod_isEntryRight 75 = .ok (.goto 4, 3) := by decide +kernel
theorem d_Mod_isEntryRight_78 : decode b_Mod_isEntryRight 78 = .ok (.iconst 0, 1) := by decide +kernel
theorem d_Mod_isEntryRight_79 : decode b_Mod_isEntryRight 79 = .ok (.istore_n 2, 1) := by decide +kernel
theorem d_Mod_isEntryRight_80 : decode b_Mod_isEntryRight 80 = .ok (.iinc 3 1, 3) := by decide +kernel
theorem d_Mod_isEntryRight_83 : decode b_Mod_isEntryRight 83 = .ok (.goto (-36), 3) := by decide +kernel
theorem d_Mod_isEntryRight_86 : decode b_Mod_isEntryRight 86 = .ok (.aload_n 0, 1) := by decide +kernel
theorem d_Mod_isEntryRight_87 : decode b_Mod_isEntryRight 87 = .ok (.aload_n 0, 1) := by decide +kernel
theorem d_Mod_isEntryRight_88 : decode b_Mod_isEntryRight 88 = .ok (.invokevirtual 163, 3) := by decide +kernel
theorem d_Mod_isEntryRight_91 : decode b_Mod_isEntryRight 91 = .ok (.invokevirtual 96, 3) := by decide +kernel
theorem d_Mod_isEntryRight_94 : decode b_Mod_isEntryRight 94 = .ok (.istore_n 3, 1) := by decide +kernel
theorem d_Mod_isEntryRight_95 : decode b_Mod_isEntryRight 95 = .ok (.iload_n 2, 1) := by decide +kernel
theorem d_Mod_isEntryRight_96 : decode b_Mod_isEntryRight 96 = .ok (.ifCond .eq 68, 3) := by decide +kernel
theorem d_Mod_isEntryRight_99 : decode b_Mod_isEntryRight 99 = .ok (.iload_n 3, 1) := by decide +kernel
theorem d_Mod_isEntryRight_100 : decode b_Mod_isEntryRight 100 = .ok (.ifCond .lt 64, 3) := by decide +kernel
theorem d_Mod_isEntryRight_103 : decode b_Mod_isEntryRight 103 = .ok (.aload_n 0, 1) := by decide +kernel
theorem d_Mod_isEntryRight_104 : decode b_Mod_isEntryRight 104 = .ok (.aload_n 0, 1) := by decide +kernel
theorem d_Mod_isEntryRight_105 : decode b_Mod_isEntryRight 105 = .ok (.getfield 144, 3) := by decide +kernel
theorem d_Mod_isEntryRight_108 : decode b_Mod_isEntryRight 108 = .ok (.iconst 4, 1) := by decide +kernel
theorem d_Mod_isEntryRight_109 : decode b_Mod_isEntryRight 109 = .ok (.iadd, 1) := by decide +kernel
theorem d_Mod_isEntryRight_110 : decode b_Mod_isEntryRight 110 = .ok (.invokevirtual 153, 3) := by decide +kernel
theorem d_Mod_isEntryRight_113 : decode b_Mod_isEntryRight 113 = .ok (.aload_n 0, 1) := by decide +kernel
theorem d_Mod_isEntryRight_114 : decode b_Mod_isEntryRight 114 = .ok (.getfield 36, 3) := by decide +kernel
theorem d_Mod_isEntryRight_117 : decode b_Mod_isEntryRight 117 = .ok (.iload_n 3, 1) := by decide +kernel
theorem d_Mod_isEntryRight_118 : decode b_Mod_isEntryRight 118 = .ok (.iaload, 1) := by decide +kernel
theorem d_Mod_isEntryRight_119 : decode b_Mod_isEntryRight 119 = .ok (.i2l, 1) := by decide +kernel
theorem d_Mod_isEntryRight_120 : decode b_Mod_isEntryRight 120 = .ok (.lcmp, 1) := by decide +kernel
theorem d_Mod_isEntryRight_121 : decode b_Mod_isEntryRight 121 = .ok (.ifCond .ne 43, 3) := by decide +kernel
theorem d_Mod_isEntryRight_124 : decode b_Mod_isEntryRight 124 = .ok (.aload_n 0, 1) := by decide +kernel
theorem d_Mod_isEntryRight_125 : decode b_Mod_isEntryRight 125 = .ok (.aload_n 0, 1) := by decide +kernel
theorem d_Mod_isEntryRight_126 : decode b_Mod_isEntryRight 126 = .ok (.getfield 141, 3) := by decide +kernel
theorem d_Mod_isEntryRight_129 : decode b_Mod_isEntryRight 129 = .ok (.invokevirtual 138, 3) := by decide +kernel
theorem d_Mod_isEntryRight_132 : decode b_Mod_isEntryRight 132 = .ok (.aload_n 0, 1) := by decide +kernel
theorem d_Mod_isEntryRight_133 : decode b_Mod_isEntryRight 133 = .ok (.getfield 39, 3) := by decide +kernel
theorem d_Mod_isEntryRight_136 : decode b_Mod_isEntryRight 136 = .ok (.iload_n 3, 1) := by decide +kernel
theorem d_Mod_isEntryRight_137 : decode b_Mod_isEntryRight 137 = .ok (.iaload, 1) := by decide +kernel
theorem d_Mod_isEntryRight_138 : decode b_Mod_isEntryRight 138 = .ok (.if_icmp .ne 26, 3) := by decide +kernel
theorem d_Mod_isEntryRight_141 : decode b_Mod_isEntryRight 141 = .ok (.aload_n 0, 1) := by decide +kernel
theorem d_Mod_isEntryRight_142 : decode b_Mod_isEntryRight 142 = .ok (.aload_n 0, 1) := by decide +kernel
theorem d_Mod_isEntryRight_143 : decode b_Mod_isEntryRight 143 = .ok (.getfield 141, 3) := by decide +kernel
theorem d_Mod_isEntryRight_146 : decode b_Mod_isEntryRight 146 = .ok (.iconst 4, 1) := by decide +kernel
theorem d_Mod_isEntryRight_147 : decode b_Mod_isEntryRight 147 = .ok (.iadd, 1) := by decide +kernel
theorem d_Mod_isEntryRight_148 : decode b_Mod_isEntryRight 148 = .ok (.invokevirtual 138, 3) := by decide +kernel
theorem d_Mod_isEntryRight_151 : decode b_Mod_isEntryRight 151 = .ok (.aload_n 0, 1) := by decide +kernel
theorem d_Mod_isEntryRight_152 : decode b_Mod_isEntryRight 152 = .ok (.getfield 42, 3) := by decide +kernel
theorem d_Mod_isEntryRight_155 : decode b_Mod_isEntryRight 155 = .ok (.iload_n 3, 1) := by decide +kernel
theorem d_Mod_isEntryRight_156 : decode b_Mod_isEntryRight 156 = .ok (.iaload, 1) := by decide +kernel
theorem d_Mod_isEntryRight_157 : decode b_Mod_isEntryRight 157 = .ok (.if_icmp .ne 7, 3) := by decide +kernel
theorem d_Mod_isEntryRight_160 : decode b_Mod_isEntryRight 160 = .ok (.iconst 1, 1) := by decide +kernel
theorem d_Mod_isEntryRight_161 : decode b_Mod_isEntryRight 161 = .ok (.goto 4, 3) := by decide +kernel
theorem d_Mod_isEntryRight_164 : decode b_Mod_isEntryRight 164 = .ok (.iconst 0, 1) := by decide +kernel
theorem d_Mod_isEntryRight_165 : decode b_Mod_isEntryRight 165 = .ok (.ireturn, 1) := by decide +kernel
theorem d_Mod_sizeHere_0 : decode b_Mod_sizeHere 0 = .ok (.aload_n 0, 1) := by decide +kernel
theorem d_Mod_sizeHere_1 : decode b_Mod_sizeHere 1 = .ok (.aload_n 0, 1) := by decide +kernel
theorem d_Mod_sizeHere_2 : decode b_Mod_sizeHere 2 = .ok (.getfield 141, 3) := by decide +kernel
theorem d_Mod_sizeHere_5 : decode b_Mod_sizeHere 5 = .ok (.bipush 6, 2) := by decide +kernel
theorem d_Mod_sizeHere_7 : decode b_Mod_sizeHere 7 = .ok (.iadd, 1) := by decide +kernel
theorem d_Mod_sizeHere_8 : decode b_Mod_sizeHere 8 = .ok (.invokevirtual 138, 3) := by decide +kernel
theorem d_Mod_sizeHere_11 : decode b_Mod_sizeHere 11 = .ok (.iconst 1, 1) := by decide +kernel
theorem d_Mod_sizeHere_12 : decode b_Mod_sizeHere 12 = .ok (.iadd, 1) := by decide +kernel
theorem d_Mod_sizeHere_13 : decode b_Mod_sizeHere 13 = .ok (.ireturn, 1) := by decide +kernel
theorem d_Mod_byteHere_0 : decode b_Mod_byteHere 0 = .ok (.aload_n 0, 1) := by decide +kernel
theorem d_Mod_byteHere_1 : decode b_Mod_byteHere 1 = .ok (.getfield 46, 3) := by decide +kernel
theorem d_Mod_byteHere_4 : decode b_Mod_byteHere 4 = .ok (.aload_n 0, 1) := by decide +kernel
theorem d_Mod_byteHere_5 : decode b_Mod_byteHere 5 = .ok (.getfield 141, 3) := by decide +kernel
theorem d_Mod_byteHere_8 : decode b_Mod_byteHere 8 = .ok (.bipush 8, 2) := by decide +kernel
theorem d_Mod_byteHere_10 : decode b_Mod_byteHere 10 = .ok (.iadd, 1) := by decide +kernel
theorem d_Mod_byteHere_11 : decode b_Mod_byteHere 11 = .ok (.iload_n 1, 1) := by decide +kernel
theorem d_Mod_byteHere_12 : decode b_Mod_byteHere 12 = .ok (.iadd, 1) := by decide +kernel
theorem d_Mod_byteHere_13 : decode b_Mod_byteHere 13 = .ok (.baload, 1) := by decide +kernel
theorem d_Mod_byteHere_14 : decode b_Mod_byteHere 14 = .ok (.sipush 255, 3) := by decide +kernel
theorem d_Mod_byteHere_17 : decode b_Mod_byteHere 17 = .ok (.iand, 1) := by decide +kernel
theorem d_Mod_byteHere_18 : decode b_Mod_byteHere 18 = .ok (.ireturn, 1) := by decide +kernel
theorem d_Mod_numberHere_0 : decode b_Mod_numberHere 0 = .ok (.aload_n 0, 1) := by decide +kernel
theorem d_Mod_numberHere_1 : decode b_Mod_numberHere 1 = .ok (.aload_n 0, 1) := by decide +kernel
theorem d_Mod_numberHere_2 : decode b_Mod_numberHere 2 = .ok (.getfield 144, 3) := by decide +kernel
theorem d_Mod_numberHere_5 : decode b_Mod_numberHere 5 = .ok (.bipush 8, 2) := by decide +kernel
theorem d_Mod_numberHere_7 : decode b_Mod_numberHere 7 = .ok (.iadd, 1) := by decide +kernel
theorem d_Mod_numberHere_8 : decode b_Mod_numberHere 8 = .ok (.invokevirtual 153, 3) := by decide +kernel
theorem d_Mod_numberHere_11 : decode b_Mod_numberHere 11 = .ok (.aload_n 0, 1) := by decide +kernel
theorem d_Mod_numberHere_12 : decode b_Mod_numberHere 12 = .ok (.aload_n 0, 1) := by decide +kernel
theorem d_Mod_numberHere_13 : decode b_Mod_numberHere 13 = .ok (.getfield 141, 3) := by decide +kernel
theorem d_Mod_numberHere_16 : decode b_Mod_numberHere 16 = .ok (.iconst 2, 1) := by decide +kernel
theorem d_Mod_numberHere_17 : decode b_Mod_numberHere 17 = .ok (.iadd, 1) := by decide +kernel
theorem d_Mod_numberHere_18 : decode b_Mod_numberHere 18 = .ok (.invokevirtual 138, 3) := by decide +kernel
theorem d_Mod_numberHere_21 : decode b_Mod_numberHere 21 = .ok (.i2s, 1) := by decide +kernel
theorem d_Mod_numberHere_22 : decode b_Mod_numberHere 22 = .ok (.i2l, 1) := by decide +kernel
theorem d_Mod_numberHere_23 : decode b_Mod_numberHere 23 = .ok (.ladd, 1) := by decide +kernel
theorem d_Mod_numberHere_24 : decode b_Mod_numberHere 24 = .ok (.lreturn, 1) := by decide +kernel
theorem d_Mod_isBehind_0 : decode b_Mod_isBehind 0 = .ok (.iconst 0, 1) := by decide +kernel
theorem d_Mod_isBehind_1 : decode b_Mod_isBehind 1 = .ok (.istore_n 3, 1) := by decide +kernel
theorem d_Mod_isBehind_2 : decode b_Mod_isBehind 2 = .ok (.iload_n 3, 1) := by decide +kernel
theorem d_Mod_isBehind_3 : decode b_Mod_isBehind 3 = .ok (.iload_n 2, 1) := by decide +kernel
theorem d_Mod_isBehind_4 : decode b_Mod_isBehind 4 = .ok (.if_icmp .ge 57, 3) := by decide +kernel
theorem d_Mod_isBehind_7 : decode b_Mod_isBehind 7 = .ok (.iload_n 3, 1) := by decide +kernel
theorem d_Mod_isBehind_8 : decode b_Mod_isBehind 8 = .ok (.aload_n 0, 1) := by decide +kernel
theorem d_Mod_isBehind_9 : decode b_Mod_isBehind 9 = .ok (.invokevirtual 157, 3) := by decide +kernel
theorem d_Mod_isBehind_12 : decode b_Mod_isBehind 12 = .ok (.if_icmp .ge 49, 3) := by decide +kernel
theorem d_Mod_isBehind_15 : decode b_Mod_isBehind 15 = .ok (.aload_n 0, 1) := by decide +kernel
theorem d_Mod_isBehind_16 : decode b_Mod_isBehind 16 = .ok (.getfield 46, 3) := by decide +kernel
theorem d_Mod_isBehind_19 : decode b_Mod_isBehind 19 = .ok (.iload_n 1, 1) := by decide +kernel
theorem d_Mod_isBehind_20 : decode b_Mod_isBehind 20 = .ok (.iload_n 3, 1) := by decide +kernel
theorem d_Mod_isBehind_21 : decode b_Mod_isBehind 21 = .ok (.iadd, 1) := by decide +kernel
theorem d_Mod_isBehind_22 : decode b_Mod_isBehind 22 = .ok (.baload, 1) := by decide +kernel
theorem d_Mod_isBehind_23 : decode b_Mod_isBehind 23 = .ok (.sipush 255, 3) := by decide +kernel
theorem d_Mod_isBehind_26 : decode b_Mod_isBehind 26 = .ok (.iand, 1) := by decide +kernel
theorem d_Mod_isBehind_27 : decode b_Mod_isBehind 27 = .ok (.istore 4, 2) := by decide +kernel
theorem d_Mod_isBehind_29 : decode b_Mod_isBehind 29 = .ok (.iload 4, 2) := by decide +kernel
theorem d_Mod_isBehind_31 : decode b_Mod_isBehind 31 = .ok (.aload_n 0, 1) := by decide +kernel
theorem d_Mod_isBehind_32 : decode b_Mod_isBehind 32 = .ok (.iload_n 3, 1) := by decide +kernel
theorem d_Mod_isBehind_33 : decode b_Mod_isBehind 33 = .ok (.invokevirtual 160, 3) := by decide +kernel
theorem d_Mod_isBehind_36 : decode b_Mod_isBehind 36 = .ok (.if_icmp .eq 19, 3) := by decide +kernel
theorem d_Mod_isBehind_39 : decode b_Mod_isBehind 39 = .ok (.iload 4, 2) := by decide +kernel
theorem d_Mod_isBehind_41 : decode b_Mod_isBehind 41 = .ok (.aload_n 0, 1) := by decide +kernel
theorem d_Mod_isBehind_42 : decode b_Mod_isBehind 42 = .ok (.iload_n 3, 1) := by decide +kernel
theorem d_Mod_isBehind_43 : decode b_Mod_isBehind 43 = .ok (.invokevirtual 160, 3) := by decide +kernel
theorem d_Mod_isBehind_46 : decode b_Mod_isBehind 46 = .ok (.if_icmp .ge 7, 3) := by decide +kernel
theorem d_Mod_isBehind_49 : decode b_Mod_isBehind 49 = .ok (.iconst 1, 1) := by decide +kernel
theorem d_Mod_isBehind_50 : decode b_Mod_isBehind 50 = .ok (.goto 4, 3) := by decide +kernel
theorem d_Mod_isBehind_53 : decode b_Mod_isBehind 53 = .ok (.iconst 0, 1) := by decide +kernel
theorem d_Mod_isBehind_54 : decode b_Mod_isBehind 54 = .ok (.ireturn, 1) := by decide +kernel
theorem d_Mod_isBehind_55 : decode b_Mod_isBehind 55 = .ok (.iinc 3 1, 3) := by decide +kernel
theorem d_Mod_isBehind_58 : decode b_Mod_isBehind 58 = .ok (.goto (-56), 3) := by decide +kernel
theorem d_Mod_isBehind_61 : decode b_Mod_isBehind 61 = .ok (.iload_n 2, 1) := by decide +kernel
theorem d_Mod_isBehind_62 : decode b_Mod_isBehind 62 = .ok (.aload_n 0, 1) := by decide +kernel
theorem d_Mod_isBehind_63 : decode b_Mod_isBehind 63 = .ok (.invokevirtual 157, 3) := by decide +kernel
theorem d_Mod_isBehind_66 : decode b_Mod_isBehind 66 = .ok (.if_icmp .ge 7, 3) := by decide +kernel
theorem d_Mod_isBehind_69 : decode b_Mod_isBehind 69 = .ok (.iconst 1, 1) := by decide +kernel
theorem d_Mod_isBehind_70 : decode b_Mod_isBehind 70 = .ok (.goto 4, 3) := by decide +kernel
theorem d_Mod_isBehind_73 : decode b_Mod_isBehind 73 = .ok (.iconst 0, 1) := by decide +kernel
theorem d_Mod_isBehind_74 : decode b_Mod_isBehind 74 = .ok (.ireturn, 1) := by decide +kernel
