theorem d_Mod_drop_0 : decode b_Mod_drop 0 = .ok (.aload_n 0, 1) := by decide +kernel
theorem d_Mod_drop_1 : decode b_Mod_drop 1 = .ok (.invokevirtual 83, 3) := by decide +kernel
theorem d_Mod_drop_4 : decode b_Mod_drop 4 = .ok (.istore_n 1, 1) := by decide +kernel
theorem d_Mod_drop_5 : decode b_Mod_drop 5 = .ok (.aload_n 0, 1) := by decide +kernel
theorem d_Mod_drop_6 : decode b_Mod_drop 6 = .ok (.iload_n 1, 1) := by decide +kernel
theorem d_Mod_drop_7 : decode b_Mod_drop 7 = .ok (.invokevirtual 88, 3) := by decide +kernel
theorem d_Mod_drop_10 : decode b_Mod_drop 10 = .ok (.ifCond .ne 5, 3) := by decide +kernel
theorem d_Mod_drop_13 : decode b_Mod_drop 13 = .ok (.iconst (-1), 1) := by decide +kernel
theorem d_Mod_drop_14 : decode b_Mod_drop 14 = .ok (.ireturn, 1) := by decide +kernel
theorem d_Mod_drop_15 : decode b_Mod_drop 15 = .ok (.aload_n 0, 1) := by decide +kernel
theorem d_Mod_drop_16 : decode b_Mod_drop 16 = .ok (.iload_n 1, 1) := by decide +kernel
theorem d_Mod_drop_17 : decode b_Mod_drop 17 = .ok (.invokevirtual 92, 3) := by decide +kernel
theorem d_Mod_drop_20 : decode b_Mod_drop 20 = .ok (.istore_n 2, 1) := by decide +kernel
theorem d_Mod_drop_21 : decode b_Mod_drop 21 = .ok (.iload_n 2, 1) := by decide +kernel
theorem d_Mod_drop_22 : decode b_Mod_drop 22 = .ok (.ifCond .ge 6, 3) := by decide +kernel
theorem d_Mod_drop_25 : decode b_Mod_drop 25 = .ok (.bipush (-2), 2) := by decide +kernel
theorem d_Mod_drop_27 : decode b_Mod_drop 27 = .ok (.ireturn, 1) := by decide +kernel
theorem d_Mod_drop_28 : decode b_Mod_drop 28 = .ok (.aload_n 0, 1) := by decide +kernel
theorem d_Mod_drop_29 : decode b_Mod_drop 29 = .ok (.dup, 1) := by decide +kernel
theorem d_Mod_drop_30 : decode b_Mod_drop 30 = .ok (.getfield 74, 3) := by decide +kernel
theorem d_Mod_drop_33 : decode b_Mod_drop 33 = .ok (.iconst 1, 1) := by decide +kernel
theorem d_Mod_drop_34 : decode b_Mod_drop 34 = .ok (.isub, 1) := by decide +kernel
theorem d_Mod_drop_35 : decode b_Mod_drop 35 = .ok (.putfield 74, 3) := by decide +kernel
theorem d_Mod_drop_38 : decode b_Mod_drop 38 = .ok (.aload_n 0, 1) := by decide +kernel
theorem d_Mod_drop_39 : decode b_Mod_drop 39 = .ok (.getfield 13, 3) := by decide +kernel
theorem d_Mod_drop_42 : decode b_Mod_drop 42 = .ok (.iload_n 2, 1) := by decide +kernel
theorem d_Mod_drop_43 : decode b_Mod_drop 43 = .ok (.aload_n 0, 1) := by decide +kernel
theorem d_Mod_drop_44 : decode b_Mod_drop 44 = .ok (.getfield 13, 3) := by decide +kernel
theorem d_Mod_drop_47 : decode b_Mod_drop 47 = .ok (.aload_n 0, 1) := by decide +kernel
theorem d_Mod_drop_48 : decode b_Mod_drop 48 = .ok (.getfield 74, 3) := by decide +kernel
theorem d_Mod_drop_51 : decode b_Mod_drop 51 = .ok (.iaload, 1) := by decide +kernel
theorem d_Mod_drop_52 : decode b_Mod_drop 52 = .ok (.iastore, 1) := by decide +kernel
theorem d_Mod_drop_53 : decode b_Mod_drop 53 = .ok (.aload_n 0, 1) := by decide +kernel
theorem d_Mod_drop_54 : decode b_Mod_drop 54 = .ok (.getfield 21, 3) := by decide +kernel
theorem d_Mod_drop_57 : decode b_Mod_drop 57 = .ok (.iload_n 2, 1) := by decide +kernel
theorem d_Mod_drop_58 : decode b_Mod_drop 58 = .ok (.aload_n 0, 1) := by decide +kernel
theorem d_Mod_drop_59 : decode b_Mod_drop 59 = .ok (.getfield 21, 3) := by decide +kernel
theorem d_Mod_drop_62 : decode b_Mod_drop 62 = .ok (.aload_n 0, 1) := by decide +kernel
theorem d_Mod_drop_63 : decode b_Mod_drop 63 = .ok (.getfield 74, 3) := by decide +kernel
theorem d_Mod_drop_66 : decode b_Mod_drop 66 = .ok (.iaload, 1) := by decide +kernel
theorem d_Mod_drop_67 : decode b_Mod_drop 67 = .ok (.iastore, 1) := by decide +kernel
theorem d_Mod_drop_68 : decode b_Mod_drop 68 = .ok (.aload_n 0, 1) := by decide +kernel
theorem d_Mod_drop_69 : decode b_Mod_drop 69 = .ok (.getfield 24, 3) := by decide +kernel
theorem d_Mod_drop_72 : decode b_Mod_drop 72 = .ok (.iload_n 2, 1) := by decide +kernel
theorem d_Mod_drop_73 : decode b_Mod_drop 73 = .ok (.aload_n 0, 1) := by decide +kernel
theorem d_Mod_drop_74 : decode b_Mod_drop 74 = .ok (.getfield 24, 3) := by decide +kernel
theorem d_Mod_drop_77 : decode b_Mod_drop 77 = .ok (.aload_n 0, 1) := by decide +kernel
theorem d_Mod_drop_78 : decode b_Mod_drop 78 = .ok (.getfield 74, 3) := by decide +kernel
theorem d_Mod_drop_81 : decode b_Mod_drop 81 = .ok (.iaload, 1) := by decide +kernel
theorem d_Mod_drop_82 : decode b_Mod_drop 82 = .ok (.iastore, 1) := by decide +kernel
theorem d_Mod_drop_83 : decode b_Mod_drop 83 = .ok (.aload_n 0, 1) := by decide +kernel
theorem d_Mod_drop_84 : decode b_Mod_drop 84 = .ok (.getfield 27, 3) := by decide +kernel
theorem d_Mod_drop_87 : decode b_Mod_drop 87 = .ok (.iload_n 2, 1) := by decide +kernel
theorem d_Mod_drop_88 : decode b_Mod_drop 88 = .ok (.aload_n 0, 1) := by decide +kernel
theorem d_Mod_drop_89 : decode b_Mod_drop 89 = .ok (.getfield 27, 3) := by decide +kernel
theorem d_Mod_drop_92 : decode b_Mod_drop 92 = .ok (.aload_n 0, 1) := by decide +kernel
theorem d_Mod_drop_93 : decode b_Mod_drop 93 = .ok (.getfield 74, 3) := by decide +kernel
theorem d_Mod_drop_96 : decode b_Mod_drop 96 = .ok (.iaload, 1) := by decide +kernel
theorem d_Mod_drop_97 : decode b_Mod_drop 97 = .ok (.iastore, 1) := by decide +kernel
theorem d_Mod_drop_98 : decode b_Mod_drop 98 = .ok (.aload_n 0, 1) := by decide +kernel
theorem d_Mod_drop_99 : decode b_Mod_drop 99 = .ok (.getfield 30, 3) := by decide +kernel
theorem d_Mod_drop_102 : decode b_Mod_drop 102 = .ok (.iload_n 2, 1) := by decide +kernel
theorem d_Mod_drop_103 : decode b_Mod_drop 103 = .ok (.aload_n 0, 1) := by decide +kernel
theorem d_Mod_drop_104 : decode b_Mod_drop 104 = .ok (.getfield 30, 3) := by decide +kernel
theorem d_Mod_drop_107 : decode b_Mod_drop 107 = .ok (.aload_n 0, 1) := by decide +kernel
theorem d_Mod_drop_108 : decode b_Mod_drop 108 = .ok (.getfield 74, 3) := by decide +kernel
theorem d_Mod_drop_111 : decode b_Mod_drop 111 = .ok (.iaload, 1) := by decide +kernel
theorem d_Mod_drop_112 : decode b_Mod_drop 112 = .ok (.iastore, 1) := by decide +kernel
theorem d_Mod_drop_113 : decode b_Mod_drop 113 = .ok (.iconst 0, 1) := by decide +kernel
theorem d_Mod_drop_114 : decode b_Mod_drop 114 = .ok (.istore_n 3, 1) := by decide +kernel
theorem d_Mod_drop_115 : decode b_Mod_drop 115 = .ok (.iload_n 3, 1) := by decide +kernel
theorem d_Mod_drop_116 : decode b_Mod_drop 116 = .ok (.sipush 256, 3) := by decide +kernel
theorem d_Mod_drop_119 : decode b_Mod_drop 119 = .ok (.if_icmp .ge 36, 3) := by decide +kernel
theorem d_Mod_drop_122 : decode b_Mod_drop 122 = .ok (.aload_n 0, 1) := by decide +kernel
theorem d_Mod_drop_123 : decode b_Mod_drop 123 = .ok (.getfield 17, 3) := by decide +kernel
theorem d_Mod_drop_126 : decode b_Mod_drop 126 = .ok (.sipush 256, 3) := by decide +kernel
theorem d_Mod_drop_129 : decode b_Mod_drop 129 = .ok (.iload_n 2, 1) := by decide +kernel
theorem d_Mod_drop_130 : decode b_Mod_drop 130 = .ok (.imul, 1) := by decide +kernel
theorem d_Mod_drop_131 : decode b_Mod_drop 131 = .ok (.iload_n 3, 1) := by decide +kernel
theorem d_Mod_drop_132 : decode b_Mod_drop 132 = .ok (.iadd, 1) := by decide +kernel
theorem d_Mod_drop_133 : decode b_Mod_drop 133 = .ok (.aload_n 0, 1) := by decide +kernel
theorem d_Mod_drop_134 : decode b_Mod_drop 134 = .ok (.getfield 17, 3) := by decide +kernel
theorem d_Mod_drop_137 : decode b_Mod_drop 137 = .ok (.sipush 256, 3) := by decide +kernel
theorem d_Mod_drop_140 : decode b_Mod_drop 140 = .ok (.aload_n 0, 1) := by decide +kernel
theorem d_Mod_drop_141 : decode b_Mod_drop 141 = .ok (.getfield 74, 3) := by decide +kernel
theorem d_Mod_drop_144 : decode b_Mod_drop 144 = .ok (.imul, 1) := by decide +kernel
theorem d_Mod_drop_145 : decode b_Mod_drop 145 = .ok (.iload_n 3, 1) := by decide +kernel
theorem d_Mod_drop_146 : decode b_Mod_drop 146 = .ok (.iadd, 1) := by decide +kernel
theorem d_Mod_drop_147 : decode b_Mod_drop 147 = .ok (.baload, 1) := by decide +kernel
theorem d_Mod_drop_148 : decode b_Mod_drop 148 = .ok (.bastore, 1) := by decide +kernel
theorem d_Mod_drop_149 : decode b_Mod_drop 149 = .ok (.iinc 3 1, 3) := by decide +kernel
theorem d_Mod_drop_152 : decode b_Mod_drop 152 = .ok (.goto (-37), 3) := by decide +kernel
theorem d_Mod_drop_155 : decode b_Mod_drop 155 = .ok (.aload_n 0, 1) := by decide +kernel
theorem d_Mod_drop_156 : decode b_Mod_drop 156 = .ok (.getfield 74, 3) := by decide +kernel
theorem d_Mod_drop_159 : decode b_Mod_drop 159 = .ok (.ireturn, 1) := by decide +kernel
theorem d_Mod_clear_0 : decode b_Mod_clear 0 = .ok (.aload_n 0, 1) := by decide +kernel
theorem d_Mod_clear_1 : decode b_Mod_clear 1 = .ok (.getfield 74, 3) := by decide +kernel
theorem d_Mod_clear_4 : decode b_Mod_clear 4 = .ok (.istore_n 1, 1) := by decide +kernel
theorem d_Mod_clear_5 : decode b_Mod_clear 5 = .ok (.aload_n 0, 1) := by decide +kernel
theorem d_Mod_clear_6 : decode b_Mod_clear 6 = .ok (.iconst 0, 1) := by decide +kernel
theorem d_Mod_clear_7 : decode b_Mod_clear 7 = .ok (.putfield 74, 3) := by decide +kernel
theorem d_Mod_clear_10 : decode b_Mod_clear 10 = .ok (.iload_n 1, 1) := by decide +kernel
theorem d_Mod_clear_11 : decode b_Mod_clear 11 = .ok (.ireturn, 1) := by decide +kernel
theorem d_Mod_make_0 : decode b_Mod_make 0 = .ok (.iload_n 1, 1) := by decide +kernel
theorem d_Mod_make_1 : decode b_Mod_make 1 = .ok (.ifCond .lt 9, 3) := by decide +kernel
theorem d_Mod_make_4 : decode b_Mod_make 4 = .ok (.iload_n 1, 1) := by decide +kernel
theorem d_Mod_make_5 : decode b_Mod_make 5 = .ok (.ldc 118, 2) := by decide +kernel
theorem d_Mod_make_7 : decode b_Mod_make 7 = .ok (.if_icmp .le 5, 3) := by decide +kernel
theorem d_Mod_make_10 : decode b_Mod_make 10 = .ok (.iconst (-1), 1) := by decide +kernel
theorem d_Mod_make_11 : decode b_Mod_make 11 = .ok (.ireturn, 1) := by decide +kernel
theorem d_Mod_make_12 : decode b_Mod_make 12 = .ok (.aload_n 0, 1) := by decide +kernel
theorem d_Mod_make_13 : decode b_Mod_make 13 = .ok (.invokevirtual 119, 3) := by decide +kernel
theorem d_Mod_make_16 : decode b_Mod_make 16 = .ok (.aload_n 0, 1) := by decide +kernel
theorem d_Mod_make_17 : decode b_Mod_make 17 = .ok (.iload_n 1, 1) := by decide +kernel
theorem d_Mod_make_18 : decode b_Mod_make 18 = .ok (.invokevirtual 122, 3) := by decide +kernel
theorem d_Mod_make_21 : decode b_Mod_make 21 = .ok (.ldc 45, 2) := by decide +kernel
theorem d_Mod_make_23 : decode b_Mod_make 23 = .ok (.if_icmp .le 6, 3) := by decide +kernel
theorem d_Mod_make_26 : decode b_Mod_make 26 = .ok (.bipush (-4), 2) := by decide +kernel
theorem d_Mod_make_28 : decode b_Mod_make 28 = .ok (.ireturn, 1) := by decide +kernel
theorem d_Mod_make_29 : decode b_Mod_make 29 = .ok (.aload_n 0, 1) := by decide +kernel
theorem d_Mod_make_30 : decode b_Mod_make 30 = .ok (.iload_n 1, 1) := by decide +kernel
theorem d_Mod_make_31 : decode b_Mod_make 31 = .ok (.putfield 115, 3) := by decide +kernel
theorem d_Mod_make_34 : decode b_Mod_make 34 = .ok (.aload_n 0, 1) := by decide +kernel
theorem d_Mod_make_35 : decode b_Mod_make 35 = .ok (.iconst 0, 1) := by decide +kernel
theorem d_Mod_make_36 : decode b_Mod_make 36 = .ok (.putfield 109, 3) := by decide +kernel
theorem d_Mod_make_39 : decode b_Mod_make 39 = .ok (.aload_n 0, 1) := by decide +kernel
theorem d_Mod_make_40 : decode b_Mod_make 40 = .ok (.iconst 0, 1) := by decide +kernel
theorem d_Mod_make_41 : decode b_Mod_make 41 = .ok (.putfield 125, 3) := by decide +kernel
theorem d_Mod_make_44 : decode b_Mod_make 44 = .ok (.aload_n 0, 1) := by decide +kernel
theorem d_Mod_make_45 : decode b_Mod_make 45 = .ok (.iconst 0, 1) := by decide +kernel
theorem d_Mod_make_46 : decode b_Mod_make 46 = .ok (.putfield 112, 3) := by decide +kernel
theorem d_Mod_make_49 : decode b_Mod_make 49 = .ok (.iconst 0, 1) := by decide +kernel
theorem d_Mod_make_50 : decode b_Mod_make 50 = .ok (.istore_n 2, 1) := by decide +kernel
theorem d_Mod_make_51 : decode b_Mod_make 51 = .ok (.iconst 0, 1) := by decide +kernel
theorem d_Mod_make_52 : decode b_Mod_make 52 = .ok (.istore_n 3, 1) := by decide +kernel
theorem d_Mod_make_53 : decode b_Mod_make 53 = .ok (.iconst 0, 1) := by decide +kernel
theorem d_Mod_make_54 : decode b_Mod_make 54 = .ok (.istore 4, 2) := by decide +kernel
theorem d_Mod_make_56 : decode b_Mod_make 56 = .ok (.iload 4, 2) := by decide +kernel
theorem d_Mod_make_58 : decode b_Mod_make 58 = .ok (.aload_n 0, 1) := by decide +kernel
theorem d_Mod_make_59 : decode b_Mod_make 59 = .ok (.getfield 74, 3) := by decide +kernel
theorem d_Mod_make_62 : decode b_Mod_make 62 = .ok (.if_icmp .ge 247, 3) := by decide +kernel
theorem d_Mod_make_65 : decode b_Mod_make 65 = .ok (.aload_n 0, 1) := by decide +kernel
theorem d_Mod_make_66 : decode b_Mod_make 66 = .ok (.getfield 61, 3) := by decide +kernel
theorem d_Mod_make_69 : decode b_Mod_make 69 = .ok (.iload 4, 2) := by decide +kernel
theorem d_Mod_make_71 : decode b_Mod_make 71 = .ok (.iaload, 1) := by decide +kernel
theorem d_Mod_make_72 : decode b_Mod_make 72 = .ok (.istore 5, 2) := by decide +kernel
theorem d_Mod_make_74 : decode b_Mod_make 74 = .ok (.iload 4, 2) := by decide +kernel
theorem d_Mod_make_76 : decode b_Mod_make 76 = .ok (.ifCond .eq 22, 3) := by decide +kernel
theorem d_Mod_make_79 : decode b_Mod_make 79 = .ok (.aload_n 0, 1) := by decide +kernel
theorem d_Mod_make_80 : decode b_Mod_make 80 = .ok (.iload_n 2, 1) := by decide +kernel
theorem d_Mod_make_81 : decode b_Mod_make 81 = .ok (.iload_n 3, 1) := by decide +kernel
theorem d_Mod_make_82 : decode b_Mod_make 82 = .ok (.iload 4, 2) := by decide +kernel
theorem d_Mod_make_84 : decode b_Mod_make 84 = .ok (.aload_n 0, 1) := by decide +kernel
theorem d_Mod_make_85 : decode b_Mod_make 85 = .ok (.getfield 109, 3) := by decide +kernel
theorem d_Mod_make_88 : decode b_Mod_make 88 = .ok (.aload_n 0, 1) := by decide +kernel
theorem d_Mod_make_89 : decode b_Mod_make 89 = .ok (.getfield 115, 3) := by decide +kernel
theorem d_Mod_make_92 : decode b_Mod_make 92 = .ok (.invokevirtual 105, 3) := by decide +kernel
theorem d_Mod_make_95 : decode b_Mod_make 95 = .ok (.ifCond .ne 112, 3) := by decide +kernel
theorem d_Mod_make_98 : decode b_Mod_make 98 = .ok (.aload_n 0, 1) := by decide +kernel
theorem d_Mod_make_99 : decode b_Mod_make 99 = .ok (.iload_n 3, 1) := by decide +kernel
theorem d_Mod_make_100 : decode b_Mod_make 100 = .ok (.iload 4, 2) := by decide +kernel
theorem d_Mod_make_102 : decode b_Mod_make 102 = .ok (.iload_n 2, 1) := by decide +kernel
theorem d_Mod_make_103 : decode b_Mod_make 103 = .ok (.isub, 1) := by decide +kernel
theorem d_Mod_make_104 : decode b_Mod_make 104 = .ok (.invokevirtual 128, 3) := by decide +kernel
theorem d_Mod_make_107 : decode b_Mod_make 107 = .ok (.aload_n 0, 1) := by decide +kernel
theorem d_Mod_make_108 : decode b_Mod_make 108 = .ok (.getfield 125, 3) := by decide +kernel
theorem d_Mod_make_111 : decode b_Mod_make 111 = .ok (.ifCond .le 33, 3) := by decide +kernel
theorem d_Mod_make_114 : decode b_Mod_make 114 = .ok (.aload_n 0, 1) := by decide +kernel
theorem d_Mod_make_115 : decode b_Mod_make 115 = .ok (.getfield 115, 3) := by decide +kernel
theorem d_Mod_make_118 : decode b_Mod_make 118 = .ok (.aload_n 0, 1) := by decide +kernel
theorem d_Mod_make_119 : decode b_Mod_make 119 = .ok (.getfield 109, 3) := by decide +kernel
theorem d_Mod_make_122 : decode b_Mod_make 122 = .ok (.iadd, 1) := by decide +kernel
theorem d_Mod_make_123 : decode b_Mod_make 123 = .ok (.sipush 8192, 3) := by decide +kernel
theorem d_Mod_make_126 : decode b_Mod_make 126 = .ok (.idiv, 1) := by decide +kernel
theorem d_Mod_make_127 : decode b_Mod_make 127 = .ok (.aload_n 0, 1) := by decide +kernel
theorem d_Mod_make_128 : decode b_Mod_make 128 = .ok (.getfield 115, 3) := by decide +kernel
theorem d_Mod_make_131 : decode b_Mod_make 131 = .ok (.iload_n 3, 1) := by decide +kernel
theorem d_Mod_make_132 : decode b_Mod_make 132 = .ok (.iadd, 1) := by decide +kernel
theorem d_Mod_make_133 : decode b_Mod_make 133 = .ok (.sipush 8192, 3) := by decide +kernel
theorem d_Mod_make_136 : decode b_Mod_make 136 = .ok (.idiv, 1) := by decide +kernel
theorem d_Mod_make_137 : decode b_Mod_make 137 = .ok (.if_icmp .eq 7, 3) := by decide +kernel
theorem d_Mod_make_140 : decode b_Mod_make 140 = .ok (.iconst 1, 1) := by decide +kernel
theorem d_Mod_make_141 : decode b_Mod_make 141 = .ok (.goto 4, 3) := by decide +kernel
theorem d_Mod_make_144 : decode b_Mod_make 144 = .ok (.iconst 0, 1) := by decide +kernel
theorem d_Mod_make_145 : decode b_Mod_make 145 = .ok (.istore 6, 2) := by decide +kernel
theorem d_Mod_make_147 : decode b_Mod_make 147 = .ok (.iload 4, 2) := by decide +kernel
theorem d_Mod_make_149 : decode b_Mod_make 149 = .ok (.istore_n 2, 1) := by decide +kernel
theorem d_Mod_make_150 : decode b_Mod_make 150 = .ok (.aload_n 0, 1) := by decide +kernel
theorem d_Mod_make_151 : decode b_Mod_make 151 = .ok (.getfield 109, 3) := by decide +kernel
theorem d_Mod_make_154 : decode b_Mod_make 154 = .ok (.istore_n 3, 1) := by decide +kernel
theorem d_Mod_make_155 : decode b_Mod_make 155 = .ok (.aload_n 0, 1) := by decide +kernel
theorem d_Mod_make_156 : decode b_Mod_make 156 = .ok (.dup, 1) := by decide +kernel
theorem d_Mod_make_157 : decode b_Mod_make 157 = .ok (.getfield 125, 3) := by decide +kernel
theorem d_Mod_make_160 : decode b_Mod_make 160 = .ok (.iconst 1, 1) := by decide +kernel
theorem d_Mod_make_161 : decode b_Mod_make 161 = .ok (.iadd, 1) := by decide +kernel
theorem d_Mod_make_162 : decode b_Mod_make 162 = .ok (.putfield 125, 3) := by decide +kernel
theorem d_Mod_make_165 : decode b_Mod_make 165 = .ok (.iload 6, 2) := by decide +kernel
theorem d_Mod_make_167 : decode b_Mod_make 167 = .ok (.ifCond .eq 10, 3) := by decide +kernel
theorem d_Mod_make_170 : decode b_Mod_make 170 = .ok (.aload_n 0, 1) := by decide +kernel
theorem d_Mod_make_171 : decode b_Mod_make 171 = .ok (.iload_n 3, 1) := by decide +kernel
theorem d_Mod_make_172 : decode b_Mod_make 172 = .ok (.iload 5, 2) := by decide +kernel
theorem d_Mod_make_174 : decode b_Mod_make 174 = .ok (.invokevirtual 132, 3) := by decide +kernel
theorem d_Mod_make_177 : decode b_Mod_make 177 = .ok (.aload_n 0, 1) := by decide +kernel
theorem d_Mod_make_178 : decode b_Mod_make 178 = .ok (.iconst 0, 1) := by decide +kernel
theorem d_Mod_make_179 : decode b_Mod_make 179 = .ok (.iconst 4, 1) := by decide +kernel
theorem d_Mod_make_180 : decode b_Mod_make 180 = .ok (.invokevirtual 135, 3) := by decide +kernel
theorem d_Mod_make_183 : decode b_Mod_make 183 = .ok (.aload_n 0, 1) := by decide +kernel
theorem d_Mod_make_184 : decode b_Mod_make 184 = .ok (.aload_n 0, 1) := by decide +kernel
theorem d_Mod_make_185 : decode b_Mod_make 185 = .ok (.getfield 24, 3) := by decide +kernel
theorem d_Mod_make_188 : decode b_Mod_make 188 = .ok (.iload 5, 2) := by decide +kernel
theorem d_Mod_make_190 : decode b_Mod_make 190 = .ok (.iaload, 1) := by decide +kernel
theorem d_Mod_make_191 : decode b_Mod_make 191 = .ok (.iconst 4, 1) := by decide +kernel
theorem d_Mod_make_192 : decode b_Mod_make 192 = .ok (.invokevirtual 135, 3) := by decide +kernel
theorem d_Mod_make_195 : decode b_Mod_make 195 = .ok (.aload_n 0, 1) := by decide +kernel
theorem d_Mod_make_196 : decode b_Mod_make 196 = .ok (.aload_n 0, 1) := by decide +kernel
theorem d_Mod_make_197 : decode b_Mod_make 197 = .ok (.getfield 21, 3) := by decide +kernel
theorem d_Mod_make_200 : decode b_Mod_make 200 = .ok (.iload 5, 2) := by decide +kernel
theorem d_Mod_make_202 : decode b_Mod_make 202 = .ok (.iaload, 1) := by decide +kernel
theorem d_Mod_make_203 : decode b_Mod_make 203 = .ok (.iconst 4, 1) := by decide +kernel
theorem d_Mod_make_204 : decode b_Mod_make 204 = .ok (.invokevirtual 135, 3) := by decide +kernel
theorem d_Mod_make_207 : decode b_Mod_make 207 = .ok (.aload_n 0, 1) := by decide +kernel
theorem d_Mod_make_208 : decode b_Mod_make 208 = .ok (.aload_n 0, 1) := by decide +kernel
theorem d_Mod_make_209 : decode b_Mod_make 209 = .ok (.getfield 27, 3) := by decide +kernel
theorem d_Mod_make_212 : decode b_Mod_make 212 = .ok (.iload 5, 2) := by decide +kernel
theorem d_Mod_make_214 : decode b_Mod_make 214 = .ok (.iaload, 1) := by decide +kernel
theorem d_Mod_make_215 : decode b_Mod_make 215 = .ok (.iconst 2, 1) := by decide +kernel
theorem d_Mod_make_216 : decode b_Mod_make 216 = .ok (.invokevirtual 135, 3) := by decide +kernel
theorem d_Mod_make_219 : decode b_Mod_make 219 = .ok (.aload_n 0, 1) := by decide +kernel
theorem d_Mod_make_220 : decode b_Mod_make 220 = .ok (.aload_n 0, 1) := by decide +kernel
theorem d_Mod_make_221 : decode b_Mod_make 221 = .ok (.getfield 21, 3) := by decide +kernel
theorem d_Mod_make_224 : decode b_Mod_make 224 = .ok (.iload 5, 2) := by decide +kernel
theorem d_Mod_make_226 : decode b_Mod_make 226 = .ok (.iaload, 1) := by decide +kernel
theorem d_Mod_make_227 : decode b_Mod_make 227 = .ok (.aload_n 0, 1) := by decide +kernel
theorem d_Mod_make_228 : decode b_Mod_make 228 = .ok (.getfield 21, 3) := by decide +kernel
theorem d_Mod_make_231 : decode b_Mod_make 231 = .ok (.aload_n 0, 1) := by decide +kernel
theorem d_Mod_make_232 : decode b_Mod_make 232 = .ok (.getfield 61, 3) := by decide +kernel
theorem d_Mod_make_235 : decode b_Mod_make 235 = .ok (.iload_n 2, 1) := by decide +kernel
theorem d_Mod_make_236 : decode b_Mod_make 236 = .ok (.iaload, 1) := by decide +kernel
theorem d_Mod_make_237 : decode b_Mod_make 237 = .ok (.iaload, 1) := by decide +kernel
theorem d_Mod_make_238 : decode b_Mod_make 238 = .ok (.isub, 1) := by decide +kernel
theorem d_Mod_make_239 : decode b_Mod_make 239 = .ok (.iconst 2, 1) := by decide +kernel
theorem d_Mod_make_240 : decode b_Mod_make 240 = .ok (.invokevirtual 135, 3) := by decide +kernel
theorem d_Mod_make_243 : decode b_Mod_make 243 = .ok (.aload_n 0, 1) := by decide +kernel
theorem d_Mod_make_244 : decode b_Mod_make 244 = .ok (.aload_n 0, 1) := by decide +kernel
theorem d_Mod_make_245 : decode b_Mod_make 245 = .ok (.getfield 30, 3) := by decide +kernel
theorem d_Mod_make_248 : decode b_Mod_make 248 = .ok (.iload 5, 2) := by decide +kernel
theorem d_Mod_make_250 : decode b_Mod_make 250 = .ok (.iaload, 1) := by decide +kernel
theorem d_Mod_make_251 : decode b_Mod_make 251 = .ok (.iconst 2, 1) := by decide +kernel
theorem d_Mod_make_252 : decode b_Mod_make 252 = .ok (.invokevirtual 135, 3) := by decide +kernel
theorem d_Mod_make_255 : decode b_Mod_make 255 = .ok (.aload_n 0, 1) := by decide +kernel
theorem d_Mod_make_256 : decode b_Mod_make 256 = .ok (.aload_n 0, 1) := by decide +kernel
theorem d_Mod_make_257 : decode b_Mod_make 257 = .ok (.getfield 13, 3) := by decide +kernel
theorem d_Mod_make_260 : decode b_Mod_make 260 = .ok (.iload 5, 2) := by decide +kernel
theorem d_Mod_make_262 : decode b_Mod_make 262 = .ok (.iaload, 1) := by decide +kernel
theorem d_Mod_make_263 : decode b_Mod_make 263 = .ok (.iconst 1, 1) := by decide +kernel
theorem d_Mod_make_264 : decode b_Mod_make 264 = .ok (.isub, 1) := by decide +kernel
theorem d_Mod_make_265 : decode b_Mod_make 265 = .ok (.iconst 2, 1) := by decide +kernel
theorem d_Mod_make_266 : decode b_Mod_make 266 = .ok (.invokevirtual 135, 3) := by decide +kernel
theorem d_Mod_make_269 : decode b_Mod_make 269 = .ok (.iconst 0, 1) := by decide +kernel
theorem d_Mod_make_270 : decode b_Mod_make 270 = .ok (.istore 6, 2) := by decide +kernel
theorem d_Mod_make_272 : decode b_Mod_make 272 = .ok (.iload 6, 2) := by decide +kernel
theorem d_Mod_make_274 : decode b_Mod_make 274 = .ok (.aload_n 0, 1) := by decide +kernel
theorem d_Mod_make_275 : decode b_Mod_make 275 = .ok (.getfield 13, 3) := by decide +kernel
theorem d_Mod_make_278 : decode b_Mod_make 278 = .ok (.iload 5, 2) := by decide +kernel
theorem d_Mod_make_280 : decode b_Mod_make 280 = .ok (.iaload, 1) := by decide +kernel
theorem d_Mod_make_281 : decode b_Mod_make 281 = .ok (.if_icmp .ge 22, 3) := by decide +kernel
theorem d_Mod_make_284 : decode b_Mod_make 284 = .ok (.aload_n 0, 1) := by decide +kernel
theorem d_Mod_make_285 : decode b_Mod_make 285 = .ok (.aload_n 0, 1) := by decide +kernel
theorem d_Mod_make_286 : decode b_Mod_make 286 = .ok (.iload 5, 2) := by decide +kernel
theorem d_Mod_make_288 : decode b_Mod_make 288 = .ok (.iload 6, 2) := by decide +kernel
theorem d_Mod_make_290 : decode b_Mod_make 290 = .ok (.invokevirtual 70, 3) := by decide +kernel
theorem d_Mod_make_293 : decode b_Mod_make 293 = .ok (.iconst 1, 1) := by decide +kernel
theorem d_Mod_make_294 : decode b_Mod_make 294 = .ok (.invokevirtual 135, 3) := by decide +kernel
theorem d_Mod_make_297 : decode b_Mod_make 297 = .ok (.iinc 6 1, 3) := by decide +kernel
theorem d_Mod_make_300 : decode b_Mod_make 300 = .ok (.goto (-28), 3) := by decide +kernel
theorem d_Mod_make_303 : decode b_Mod_make 303 = .ok (.iinc 4 1, 3) := by decide +kernel
theorem d_Mod_make_306 : decode b_Mod_make 306 = .ok (.goto (-250), 3) := by decide +kernel
theorem d_Mod_make_309 : decode b_Mod_make 309 = .ok (.aload_n 0, 1) := by decide +kernel
theorem d_Mod_make_310 : decode b_Mod_make 310 = .ok (.iload_n 3, 1) := by decide +kernel
theorem d_Mod_make_311 : decode b_Mod_make 311 = .ok (.aload_n 0, 1) := by decide +kernel
theorem d_Mod_make_312 : decode b_Mod_make 312 = .ok (.getfield 74, 3) := by decide +kernel
theorem d_Mod_make_315 : decode b_Mod_make 315 = .ok (.iload_n 2, 1) := by decide +kernel
theorem d_Mod_make_316 : decode b_Mod_make 316 = .ok (.isub, 1) := by decide +kernel
theorem d_Mod_make_317 : decode b_Mod_make 317 = .ok (.invokevirtual 128, 3) := by decide +kernel
theorem d_Mod_make_320 : decode b_Mod_make 320 = .ok (.aload_n 0, 1) := by decide +kernel
theorem d_Mod_make_321 : decode b_Mod_make 321 = .ok (.getfield 109, 3) := by decide +kernel
theorem d_Mod_make_324 : decode b_Mod_make 324 = .ok (.ireturn, 1) := by decide +kernel
theorem d_Mod_sort_0 : decode b_Mod_sort 0 = .ok (.iconst 0, 1) := by decide +kernel
theorem d_Mod_sort_1 : decode b_Mod_sort 1 = .ok (.istore_n 1, 1) := by decide +kernel
theorem d_Mod_sort_2 : decode b_Mod_sort 2 = .ok (.iload_n 1, 1) := by decide +kernel
theorem d_Mod_sort_3 : decode b_Mod_sort 3 = .ok (.aload_n 0, 1) := by decide +kernel
theorem d_Mod_sort_4 : decode b_Mod_sort 4 = .ok (.getfield 74, 3) := by decide +kernel
theorem d_Mod_sort_7 : decode b_Mod_sort 7 = .ok (.if_icmp .ge 51, 3) := by decide +kernel
theorem d_Mod_sort_10 : decode b_Mod_sort 10 = .ok (.iconst 0, 1) := by decide +kernel
theorem d_Mod_sort_11 : decode b_Mod_sort 11 = .ok (.istore_n 2, 1) := by decide +kernel
theorem d_Mod_sort_12 : decode b_Mod_sort 12 = .ok (.iconst 0, 1) := by decide +kernel
theorem d_Mod_sort_13 : decode b_Mod_sort 13 = .ok (.istore_n 3, 1) := by decide +kernel
theorem d_Mod_sort_14 : decode b_Mod_sort 14 = .ok (.iload_n 3, 1) := by decide +kernel
theorem d_Mod_sort_15 : decode b_Mod_sort 15 = .ok (.aload_n 0, 1) := by decide +kernel
theorem d_Mod_sort_16 : decode b_Mod_sort 16 = .ok (.getfield 74, 3) := by decide +kernel
theorem d_Mod_sort_19 : decode b_Mod_sort 19 = .ok (.if_icmp .ge 26, 3) := by decide +kernel
theorem d_Mod_sort_22 : decode b_Mod_sort 22 = .ok (.aload_n 0, 1) := by decide +kernel
theorem d_Mod_sort_23 : decode b_Mod_sort 23 = .ok (.iload_n 3, 1) := by decide +kernel
theorem d_Mod_sort_24 : decode b_Mod_sort 24 = .ok (.iload_n 1, 1) := by decide +kernel
theorem d_Mod_sort_25 : decode b_Mod_sort 25 = .ok (.invokevirtual 100, 3) := by decide +kernel
theorem d_Mod_sort_28 : decode b_Mod_sort 28 = .ok (.ifCond .eq 9, 3) := by decide +kernel
theorem d_Mod_sort_31 : decode b_Mod_sort 31 = .ok (.iload_n 2, 1) := by decide +kernel
theorem d_Mod_sort_32 : decode b_Mod_sort 32 = .ok (.iconst 1, 1) := by decide +kernel
theorem d_Mod_sort_33 : decode b_Mod_sort 33 = .ok (.iadd, 1) := by decide +kernel
theorem d_Mod_sort_34 : decode b_Mod_sort 34 = .ok (.goto 4, 3) := by decide +kernel
theorem d_Mod_sort_37 : decode b_Mod_sort 37 = .ok (.iload_n 2, 1) := by decide +kernel
theorem d_Mod_sort_38 : decode b_Mod_sort 38 = .ok (.istore_n 2, 1) := by decide +kernel
theorem d_Mod_sort_39 : decode b_Mod_sort 39 = .ok (.iinc 3 1, 3) := by decide +kernel
theorem d_Mod_sort_42 : decode b_Mod_sort 42 = .ok (.goto (-28), 3) := by decide +kernel
theorem d_Mod_sort_45 : decode b_Mod_sort 45 = .ok (.aload_n 0, 1) := by decide +kernel
theorem d_Mod_sort_46 : decode b_Mod_sort 46 = .ok (.getfield 61, 3) := by decide +kernel
theorem d_Mod_sort_49 : decode b_Mod_sort 49 = .ok (.iload_n 2, 1) := by decide +kernel
theorem d_Mod_sort_50 : decode b_Mod_sort 50 = .ok (.iload_n 1, 1) := by decide +kernel
theorem d_Mod_sort_51 : decode b_Mod_sort 51 = .ok (.iastore, 1) := by decide +kernel
theorem d_Mod_sort_52 : decode b_Mod_sort 52 = .ok (.iinc 1 1, 3) := by decide +kernel
theorem d_Mod_sort_55 : decode b_Mod_sort 55 = .ok (.goto (-53), 3) := by decide +kernel
theorem d_Mod_sort_58 : decode b_Mod_sort 58 = .ok (.return_, 1) := by decide +kernel
theorem d_Mod_isBefore_0 : decode b_Mod_isBefore 0 = .ok (.iconst 0, 1) := by decide +kernel
theorem d_Mod_isBefore_1 : decode b_Mod_isBefore 1 = .ok (.istore_n 3, 1) := by decide +kernel
theorem d_Mod_isBefore_2 : decode b_Mod_isBefore 2 = .ok (.iload_n 3, 1) := by decide +kernel
theorem d_Mod_isBefore_3 : decode b_Mod_isBefore 3 = .ok (.aload_n 0, 1) := by decide +kernel
theorem d_Mod_isBefore_4 : decode b_Mod_isBefore 4 = .ok (.getfield 13, 3) := by decide +kernel
theorem d_Mod_isBefore_7 : decode b_Mod_isBefore 7 = .ok (.iload_n 1, 1) := by decide +kernel
theorem d_Mod_isBefore_8 : decode b_Mod_isBefore 8 = .ok (.iaload, 1) := by decide +kernel
theorem d_Mod_isBefore_9 : decode b_Mod_isBefore 9 = .ok (.if_icmp .ge 55, 3) := by decide +kernel
theorem d_Mod_isBefore_12 : decode b_Mod_isBefore 12 = .ok (.iload_n 3, 1) := by decide +kernel
theorem d_Mod_isBefore_13 : decode b_Mod_isBefore 13 = .ok (.aload_n 0, 1) := by decide +kernel
theorem d_Mod_isBefore_14 : decode b_Mod_isBefore 14 = .ok (.getfield 13, 3) := by decide +kernel
theorem d_Mod_isBefore_17 : decode b_Mod_isBefore 17 = .ok (.iload_n 2, 1) := by decide +kernel
theorem d_Mod_isBefore_18 : decode b_Mod_isBefore 18 = .ok (.iaload, 1) := by decide +kernel
theorem d_Mod_isBefore_19 : decode b_Mod_isBefore 19 = .ok (.if_icmp .ge 45, 3) := by decide +kernel
theorem d_Mod_isBefore_22 : decode b_Mod_isBefore 22 = .ok (.aload_n 0, 1) := by decide +kernel
theorem d_Mod_isBefore_23 : decode b_Mod_isBefore 23 = .ok (.iload_n 1, 1) := by decide +kernel
theorem d_Mod_isBefore_24 : decode b_Mod_isBefore 24 = .ok (.iload_n 3, 1) := by decide +kernel
theorem d_Mod_isBefore_25 : decode b_Mod_isBefore 25 = .ok (.invokevirtual 70, 3) := by decide +kernel
theorem d_Mod_isBefore_28 : decode b_Mod_isBefore 28 = .ok (.aload_n 0, 1) := by decide +kernel
theorem d_Mod_isBefore_29 : decode b_Mod_isBefore 29 = .ok (.iload_n 2, 1) := by decide +kernel
theorem d_Mod_isBefore_30 : decode b_Mod_isBefore 30 = .ok (.iload_n 3, 1) := by decide +kernel
theorem d_Mod_isBefore_31 : decode b_Mod_isBefore 31 = .ok (.invokevirtual 70, 3) := by decide +kernel
theorem d_Mod_isBefore_34 : decode b_Mod_isBefore 34 = .ok (.if_icmp .eq 24, 3) := by decide +kernel
theorem d_Mod_isBefore_37 : decode b_Mod_isBefore 37 = .ok (.aload_n 0, 1) := by decide +kernel
theorem d_Mod_isBefore_38 : decode b_Mod_isBefore 38 = .ok (.iload_n 1, 1) := by decide +kernel
theorem d_Mod_isBefore_39 : decode b_Mod_isBefore 39 = .ok (.iload_n 3, 1) := by decide +kernel
theorem d_Mod_isBefore_40 : decode b_Mod_isBefore 40 = .ok (.invokevirtual 70, 3) := by decide +kernel
theorem d_Mod_isBefore_43 : decode b_Mod_isBefore 43 = .ok (.aload_n 0, 1) := by decide +kernel
theorem d_Mod_isBefore_44 : decode b_Mod_isBefore 44 = .ok (.iload_n 2, 1) := by decide +kernel
theorem d_Mod_isBefore_45 : decode b_Mod_isBefore 45 = .ok (.iload_n 3, 1) := by decide +kernel
theorem d_Mod_isBefore_46 : decode b_Mod_isBefore 46 = .ok (.invokevirtual 70, 3) := by decide +kernel
theorem d_Mod_isBefore_49 : decode b_Mod_isBefore 49 = .ok (.if_icmp .ge 7, 3) := by decide +kernel
theorem d_Mod_isBefore_52 : decode b_Mod_isBefore 52 = .ok (.iconst 1, 1) := by decide +kernel
theorem d_Mod_isBefore_53 : decode b_Mod_isBefore 53 = .ok (.goto 4, 3) := by decide +kernel
theorem d_Mod_isBefore_56 : decode b_Mod_isBefore 56 = .ok (.iconst 0, 1) := by decide +kernel
theorem d_Mod_isBefore_57 : decode b_Mod_isBefore 57 = .ok (.ireturn, 1) := by decide +kernel
theorem d_Mod_isBefore_58 : decode b_Mod_isBefore 58 = .ok (.iinc 3 1, 3) := by decide +kernel
theorem d_Mod_isBefore_61 : decode b_Mod_isBefore 61 = .ok (.goto (-59), 3) := by decide +kernel
theorem d_Mod_isBefore_64 : decode b_Mod_isBefore 64 = .ok (.aload_n 0, 1) := by decide +kernel
theorem d_Mod_isBefore_65 : decode b_Mod_isBefore 65 = .ok (.getfield 13, 3) := by decide +kernel
theorem d_Mod_isBefore_68 : decode b_Mod_isBefore 68 = .ok (.iload_n 1, 1) := by decide +kernel
theorem d_Mod_isBefore_69 : decode b_Mod_isBefore 69 = .ok (.iaload, 1) := by decide +kernel
theorem d_Mod_isBefore_70 : decode b_Mod_isBefore 70 = .ok (.aload_n 0, 1) := by decide +kernel
theorem d_Mod_isBefore_71 : decode b_Mod_isBefore 71 = .ok (.getfield 13, 3) := by decide +kernel
theorem d_Mod_isBefore_74 : decode b_Mod_isBefore 74 = .ok (.iload_n 2, 1) := by decide +kernel
theorem d_Mod_isBefore_75 : decode b_Mod_isBefore 75 = .ok (.iaload, 1) := by decide +kernel
theorem d_Mod_isBefore_76 : decode b_Mod_isBefore 76 = .ok (.if_icmp .ge 7, 3) := by decide +kernel
theorem d_Mod_isBefore_79 : decode b_Mod_isBefore 79 = .ok (.iconst 1, 1) := by decide +kernel
theorem d_Mod_isBefore_80 : decode b_Mod_isBefore 80 = .ok (.goto 4, 3) := by decide +kernel
theorem d_Mod_isBefore_83 : decode b_Mod_isBefore 83 = .ok (.iconst 0, 1) := by decide +kernel
theorem d_Mod_isBefore_84 : decode b_Mod_isBefore 84 = .ok (.ireturn, 1) := by decide +kernel
