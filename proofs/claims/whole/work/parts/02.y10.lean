theorem d_Mod_isIndexRight_0 : decode b_Mod_isIndexRight 0 = .ok (.iconst 0, 1) := by decide +kernel
theorem d_Mod_isIndexRight_1 : decode b_Mod_isIndexRight 1 = .ok (.istore_n 2, 1) := by decide +kernel
theorem d_Mod_isIndexRight_2 : decode b_Mod_isIndexRight 2 = .ok (.aload_n 0, 1) := by decide +kernel
theorem d_Mod_isIndexRight_3 : decode b_Mod_isIndexRight 3 = .ok (.iconst 1, 1) := by decide +kernel
theorem d_Mod_isIndexRight_4 : decode b_Mod_isIndexRight 4 = .ok (.invokevirtual 167, 3) := by decide +kernel
theorem d_Mod_isIndexRight_7 : decode b_Mod_isIndexRight 7 = .ok (.istore_n 3, 1) := by decide +kernel
theorem d_Mod_isIndexRight_8 : decode b_Mod_isIndexRight 8 = .ok (.iload_n 3, 1) := by decide +kernel
theorem d_Mod_isIndexRight_9 : decode b_Mod_isIndexRight 9 = .ok (.iconst 1, 1) := by decide +kernel
theorem d_Mod_isIndexRight_10 : decode b_Mod_isIndexRight 10 = .ok (.if_icmp .ne 51, 3) := by decide +kernel
theorem d_Mod_isIndexRight_13 : decode b_Mod_isIndexRight 13 = .ok (.iload_n 2, 1) := by decide +kernel
theorem d_Mod_isIndexRight_14 : decode b_Mod_isIndexRight 14 = .ok (.ifCond .ne 32, 3) := by decide +kernel
theorem d_Mod_isIndexRight_17 : decode b_Mod_isIndexRight 17 = .ok (.aload_n 0, 1) := by decide +kernel
theorem d_Mod_isIndexRight_18 : decode b_Mod_isIndexRight 18 = .ok (.getfield 144, 3) := by decide +kernel
theorem d_Mod_isIndexRight_21 : decode b_Mod_isIndexRight 21 = .ok (.ifCond .le 29, 3) := by decide +kernel
theorem d_Mod_isIndexRight_24 : decode b_Mod_isIndexRight 24 = .ok (.aload_n 0, 1) := by decide +kernel
theorem d_Mod_isIndexRight_25 : decode b_Mod_isIndexRight 25 = .ok (.getfield 141, 3) := by decide +kernel
theorem d_Mod_isIndexRight_28 : decode b_Mod_isIndexRight 28 = .ok (.aload_n 0, 1) := by decide +kernel
theorem d_Mod_isIndexRight_29 : decode b_Mod_isIndexRight 29 = .ok (.getfield 144, 3) := by decide +kernel
theorem d_Mod_isIndexRight_32 : decode b_Mod_isIndexRight 32 = .ok (.bipush 12, 2) := by decide +kernel
theorem d_Mod_isIndexRight_34 : decode b_Mod_isIndexRight 34 = .ok (.iadd, 1) := by decide +kernel
theorem d_Mod_isIndexRight_35 : decode b_Mod_isIndexRight 35 = .ok (.if_icmp .ne 15, 3) := by decide +kernel
theorem d_Mod_isIndexRight_38 : decode b_Mod_isIndexRight 38 = .ok (.aload_n 0, 1) := by decide +kernel
theorem d_Mod_isIndexRight_39 : decode b_Mod_isIndexRight 39 = .ok (.iload_n 1, 1) := by decide +kernel
theorem d_Mod_isIndexRight_40 : decode b_Mod_isIndexRight 40 = .ok (.invokevirtual 171, 3) := by decide +kernel
theorem d_Mod_isIndexRight_43 : decode b_Mod_isIndexRight 43 = .ok (.ifCond .eq 7, 3) := by decide +kernel
theorem d_Mod_isIndexRight_46 : decode b_Mod_isIndexRight 46 = .ok (.iconst 1, 1) := by decide +kernel
theorem d_Mod_isIndexRight_47 : decode b_Mod_isIndexRight 47 = .ok (.goto 4, 3) := by decide +kernel
theorem d_Mod_isIndexRight_50 : decode b_Mod_isIndexRight 50 = .ok (.iconst 0, 1) := by decide +kernel
theorem d_Mod_isIndexRight_51 : decode b_Mod_isIndexRight 51 = .ok (.istore_n 2, 1) := by decide +kernel
theorem d_Mod_isIndexRight_52 : decode b_Mod_isIndexRight 52 = .ok (.aload_n 0, 1) := by decide +kernel
theorem d_Mod_isIndexRight_53 : decode b_Mod_isIndexRight 53 = .ok (.iconst 0, 1) := by decide +kernel
theorem d_Mod_isIndexRight_54 : decode b_Mod_isIndexRight 54 = .ok (.invokevirtual 167, 3) := by decide +kernel
theorem d_Mod_isIndexRight_57 : decode b_Mod_isIndexRight 57 = .ok (.istore_n 3, 1) := by decide +kernel
theorem d_Mod_isIndexRight_58 : decode b_Mod_isIndexRight 58 = .ok (.goto (-50), 3) := by decide +kernel
theorem d_Mod_isIndexRight_61 : decode b_Mod_isIndexRight 61 = .ok (.iload_n 2, 1) := by decide +kernel
theorem d_Mod_isIndexRight_62 : decode b_Mod_isIndexRight 62 = .ok (.ifCond .eq 28, 3) := by decide +kernel
theorem d_Mod_isIndexRight_65 : decode b_Mod_isIndexRight 65 = .ok (.iload_n 1, 1) := by decide +kernel
theorem d_Mod_isIndexRight_66 : decode b_Mod_isIndexRight 66 = .ok (.ifCond .eq 20, 3) := by decide +kernel
theorem d_Mod_isIndexRight_69 : decode b_Mod_isIndexRight 69 = .ok (.aload_n 0, 1) := by decide +kernel
theorem d_Mod_isIndexRight_70 : decode b_Mod_isIndexRight 70 = .ok (.getfield 49, 3) := by decide +kernel
theorem d_Mod_isIndexRight_73 : decode b_Mod_isIndexRight 73 = .ok (.iload_n 1, 1) := by decide +kernel
theorem d_Mod_isIndexRight_74 : decode b_Mod_isIndexRight 74 = .ok (.iaload, 1) := by decide +kernel
theorem d_Mod_isIndexRight_75 : decode b_Mod_isIndexRight 75 = .ok (.aload_n 0, 1) := by decide +kernel
theorem d_Mod_isIndexRight_76 : decode b_Mod_isIndexRight 76 = .ok (.getfield 49, 3) := by decide +kernel
theorem d_Mod_isIndexRight_79 : decode b_Mod_isIndexRight 79 = .ok (.iload_n 1, 1) := by decide +kernel
theorem d_Mod_isIndexRight_80 : decode b_Mod_isIndexRight 80 = .ok (.iconst 1, 1) := by decide +kernel
theorem d_Mod_isIndexRight_81 : decode b_Mod_isIndexRight 81 = .ok (.isub, 1) := by decide +kernel
theorem d_Mod_isIndexRight_82 : decode b_Mod_isIndexRight 82 = .ok (.iaload, 1) := by decide +kernel
theorem d_Mod_isIndexRight_83 : decode b_Mod_isIndexRight 83 = .ok (.if_icmp .le 7, 3) := by decide +kernel
theorem d_Mod_isIndexRight_86 : decode b_Mod_isIndexRight 86 = .ok (.iconst 1, 1) := by decide +kernel
theorem d_Mod_isIndexRight_87 : decode b_Mod_isIndexRight 87 = .ok (.goto 4, 3) := by decide +kernel
theorem d_Mod_isIndexRight_90 : decode b_Mod_isIndexRight 90 = .ok (.iconst 0, 1) := by decide +kernel
theorem d_Mod_isIndexRight_91 : decode b_Mod_isIndexRight 91 = .ok (.ireturn, 1) := by decide +kernel
theorem d_Mod_isIndexHere_0 : decode b_Mod_isIndexHere 0 = .ok (.aload_n 0, 1) := by decide +kernel
theorem d_Mod_isIndexHere_1 : decode b_Mod_isIndexHere 1 = .ok (.getfield 49, 3) := by decide +kernel
theorem d_Mod_isIndexHere_4 : decode b_Mod_isIndexHere 4 = .ok (.iload_n 1, 1) := by decide +kernel
theorem d_Mod_isIndexHere_5 : decode b_Mod_isIndexHere 5 = .ok (.iaload, 1) := by decide +kernel
theorem d_Mod_isIndexHere_6 : decode b_Mod_isIndexHere 6 = .ok (.aload_n 0, 1) := by decide +kernel
theorem d_Mod_isIndexHere_7 : decode b_Mod_isIndexHere 7 = .ok (.getfield 144, 3) := by decide +kernel
theorem d_Mod_isIndexHere_10 : decode b_Mod_isIndexHere 10 = .ok (.if_icmp .ne 46, 3) := by decide +kernel
theorem d_Mod_isIndexHere_13 : decode b_Mod_isIndexHere 13 = .ok (.aload_n 0, 1) := by decide +kernel
theorem d_Mod_isIndexHere_14 : decode b_Mod_isIndexHere 14 = .ok (.getfield 52, 3) := by decide +kernel
theorem d_Mod_isIndexHere_17 : decode b_Mod_isIndexHere 17 = .ok (.iload_n 1, 1) := by decide +kernel
theorem d_Mod_isIndexHere_18 : decode b_Mod_isIndexHere 18 = .ok (.iaload, 1) := by decide +kernel
theorem d_Mod_isIndexHere_19 : decode b_Mod_isIndexHere 19 = .ok (.sipush 8194, 3) := by decide +kernel
theorem d_Mod_isIndexHere_22 : decode b_Mod_isIndexHere 22 = .ok (.aload_n 0, 1) := by decide +kernel
theorem d_Mod_isIndexHere_23 : decode b_Mod_isIndexHere 23 = .ok (.getfield 115, 3) := by decide +kernel
theorem d_Mod_isIndexHere_26 : decode b_Mod_isIndexHere 26 = .ok (.aload_n 0, 1) := by decide +kernel
theorem d_Mod_isIndexHere_27 : decode b_Mod_isIndexHere 27 = .ok (.getfield 144, 3) := by decide +kernel
theorem d_Mod_isIndexHere_30 : decode b_Mod_isIndexHere 30 = .ok (.iadd, 1) := by decide +kernel
theorem d_Mod_isIndexHere_31 : decode b_Mod_isIndexHere 31 = .ok (.sipush 8192, 3) := by decide +kernel
theorem d_Mod_isIndexHere_34 : decode b_Mod_isIndexHere 34 = .ok (.idiv, 1) := by decide +kernel
theorem d_Mod_isIndexHere_35 : decode b_Mod_isIndexHere 35 = .ok (.imul, 1) := by decide +kernel
theorem d_Mod_isIndexHere_36 : decode b_Mod_isIndexHere 36 = .ok (.if_icmp .ne 20, 3) := by decide +kernel
theorem d_Mod_isIndexHere_39 : decode b_Mod_isIndexHere 39 = .ok (.aload_n 0, 1) := by decide +kernel
theorem d_Mod_isIndexHere_40 : decode b_Mod_isIndexHere 40 = .ok (.getfield 55, 3) := by decide +kernel
theorem d_Mod_isIndexHere_43 : decode b_Mod_isIndexHere 43 = .ok (.iload_n 1, 1) := by decide +kernel
theorem d_Mod_isIndexHere_44 : decode b_Mod_isIndexHere 44 = .ok (.iaload, 1) := by decide +kernel
theorem d_Mod_isIndexHere_45 : decode b_Mod_isIndexHere 45 = .ok (.aload_n 0, 1) := by decide +kernel
theorem d_Mod_isIndexHere_46 : decode b_Mod_isIndexHere 46 = .ok (.invokevirtual 157, 3) := by decide +kernel
theorem d_Mod_isIndexHere_49 : decode b_Mod_isIndexHere 49 = .ok (.if_icmp .ne 7, 3) := by decide +kernel
theorem d_Mod_isIndexHere_52 : decode b_Mod_isIndexHere 52 = .ok (.iconst 1, 1) := by decide +kernel
theorem d_Mod_isIndexHere_53 : decode b_Mod_isIndexHere 53 = .ok (.goto 4, 3) := by decide +kernel
theorem d_Mod_isIndexHere_56 : decode b_Mod_isIndexHere 56 = .ok (.iconst 0, 1) := by decide +kernel
theorem d_Mod_isIndexHere_57 : decode b_Mod_isIndexHere 57 = .ok (.istore_n 2, 1) := by decide +kernel
theorem d_Mod_isIndexHere_58 : decode b_Mod_isIndexHere 58 = .ok (.iconst 0, 1) := by decide +kernel
theorem d_Mod_isIndexHere_59 : decode b_Mod_isIndexHere 59 = .ok (.istore_n 3, 1) := by decide +kernel
theorem d_Mod_isIndexHere_60 : decode b_Mod_isIndexHere 60 = .ok (.iload_n 3, 1) := by decide +kernel
theorem d_Mod_isIndexHere_61 : decode b_Mod_isIndexHere 61 = .ok (.aload_n 0, 1) := by decide +kernel
theorem d_Mod_isIndexHere_62 : decode b_Mod_isIndexHere 62 = .ok (.invokevirtual 157, 3) := by decide +kernel
theorem d_Mod_isIndexHere_65 : decode b_Mod_isIndexHere 65 = .ok (.if_icmp .ge 39, 3) := by decide +kernel
theorem d_Mod_isIndexHere_68 : decode b_Mod_isIndexHere 68 = .ok (.iload_n 2, 1) := by decide +kernel
theorem d_Mod_isIndexHere_69 : decode b_Mod_isIndexHere 69 = .ok (.ifCond .eq 35, 3) := by decide +kernel
theorem d_Mod_isIndexHere_72 : decode b_Mod_isIndexHere 72 = .ok (.aload_n 0, 1) := by decide +kernel
theorem d_Mod_isIndexHere_73 : decode b_Mod_isIndexHere 73 = .ok (.getfield 58, 3) := by decide +kernel
theorem d_Mod_isIndexHere_76 : decode b_Mod_isIndexHere 76 = .ok (.sipush 256, 3) := by decide +kernel
theorem d_Mod_isIndexHere_79 : decode b_Mod_isIndexHere 79 = .ok (.iload_n 1, 1) := by decide +kernel
theorem d_Mod_isIndexHere_80 : decode b_Mod_isIndexHere 80 = .ok (.imul, 1) := by decide +kernel
theorem d_Mod_isIndexHere_81 : decode b_Mod_isIndexHere 81 = .ok (.iload_n 3, 1) := by decide +kernel
theorem d_Mod_isIndexHere_82 : decode b_Mod_isIndexHere 82 = .ok (.iadd, 1) := by decide +kernel
theorem d_Mod_isIndexHere_83 : decode b_Mod_isIndexHere 83 = .ok (.iaload, 1) := by decide +kernel
theorem d_Mod_isIndexHere_84 : decode b_Mod_isIndexHere 84 = .ok (.aload_n 0, 1) := by decide +kernel
theorem d_Mod_isIndexHere_85 : decode b_Mod_isIndexHere 85 = .ok (.iload_n 3, 1) := by decide +kernel
theorem d_Mod_isIndexHere_86 : decode b_Mod_isIndexHere 86 = .ok (.invokevirtual 160, 3) := by decide +kernel
theorem d_Mod_isIndexHere_89 : decode b_Mod_isIndexHere 89 = .ok (.if_icmp .ne 7, 3) := by decide +kernel
theorem d_Mod_isIndexHere_92 : decode b_Mod_isIndexHere 92 = .ok (.iconst 1, 1) := by decide +kernel
theorem d_Mod_isIndexHere_93 : decode b_Mod_isIndexHere 93 = .ok (.goto 4, 3) := by decide +kernel
theorem d_Mod_isIndexHere_96 : decode b_Mod_isIndexHere 96 = .ok (.iconst 0, 1) := by decide +kernel
theorem d_Mod_isIndexHere_97 : decode b_Mod_isIndexHere 97 = .ok (.istore_n 2, 1) := by decide +kernel
theorem d_Mod_isIndexHere_98 : decode b_Mod_isIndexHere 98 = .ok (.iinc 3 1, 3) := by decide +kernel
theorem d_Mod_isIndexHere_101 : decode b_Mod_isIndexHere 101 = .ok (.goto (-41), 3) := by decide +kernel
theorem d_Mod_isIndexHere_104 : decode b_Mod_isIndexHere 104 = .ok (.iload_n 2, 1) := by decide +kernel
theorem d_Mod_isIndexHere_105 : decode b_Mod_isIndexHere 105 = .ok (.ireturn, 1) := by decide +kernel
theorem d_Mod_entry_0 : decode b_Mod_entry 0 = .ok (.iload_n 2, 1) := by decide +kernel
theorem d_Mod_entry_1 : decode b_Mod_entry 1 = .ok (.ifCond .lt 8, 3) := by decide +kernel
theorem d_Mod_entry_4 : decode b_Mod_entry 4 = .ok (.iload_n 2, 1) := by decide +kernel
theorem d_Mod_entry_5 : decode b_Mod_entry 5 = .ok (.iconst 4, 1) := by decide +kernel
theorem d_Mod_entry_6 : decode b_Mod_entry 6 = .ok (.if_icmp .le 5, 3) := by decide +kernel
theorem d_Mod_entry_9 : decode b_Mod_entry 9 = .ok (.iconst (-1), 1) := by decide +kernel
theorem d_Mod_entry_10 : decode b_Mod_entry 10 = .ok (.ireturn, 1) := by decide +kernel
theorem d_Mod_entry_11 : decode b_Mod_entry 11 = .ok (.iload_n 1, 1) := by decide +kernel
theorem d_Mod_entry_12 : decode b_Mod_entry 12 = .ok (.ifCond .lt 11, 3) := by decide +kernel
theorem d_Mod_entry_15 : decode b_Mod_entry 15 = .ok (.iload_n 1, 1) := by decide +kernel
theorem d_Mod_entry_16 : decode b_Mod_entry 16 = .ok (.aload_n 0, 1) := by decide +kernel
theorem d_Mod_entry_17 : decode b_Mod_entry 17 = .ok (.invokevirtual 184, 3) := by decide +kernel
theorem d_Mod_entry_20 : decode b_Mod_entry 20 = .ok (.if_icmp .lt 6, 3) := by decide +kernel
theorem d_Mod_entry_23 : decode b_Mod_entry 23 = .ok (.bipush (-2), 2) := by decide +kernel
theorem d_Mod_entry_25 : decode b_Mod_entry 25 = .ok (.ireturn, 1) := by decide +kernel
theorem d_Mod_entry_26 : decode b_Mod_entry 26 = .ok (.aload_n 0, 1) := by decide +kernel
theorem d_Mod_entry_27 : decode b_Mod_entry 27 = .ok (.iconst 1, 1) := by decide +kernel
theorem d_Mod_entry_28 : decode b_Mod_entry 28 = .ok (.invokevirtual 167, 3) := by decide +kernel
theorem d_Mod_entry_31 : decode b_Mod_entry 31 = .ok (.istore_n 3, 1) := by decide +kernel
theorem d_Mod_entry_32 : decode b_Mod_entry 32 = .ok (.iload_n 3, 1) := by decide +kernel
theorem d_Mod_entry_33 : decode b_Mod_entry 33 = .ok (.iconst 1, 1) := by decide +kernel
theorem d_Mod_entry_34 : decode b_Mod_entry 34 = .ok (.if_icmp .ne 20, 3) := by decide +kernel
theorem d_Mod_entry_37 : decode b_Mod_entry 37 = .ok (.aload_n 0, 1) := by decide +kernel
theorem d_Mod_entry_38 : decode b_Mod_entry 38 = .ok (.getfield 150, 3) := by decide +kernel
theorem d_Mod_entry_41 : decode b_Mod_entry 41 = .ok (.iload_n 1, 1) := by decide +kernel
theorem d_Mod_entry_42 : decode b_Mod_entry 42 = .ok (.if_icmp .gt 12, 3) := by decide +kernel
theorem d_Mod_entry_45 : decode b_Mod_entry 45 = .ok (.aload_n 0, 1) := by decide +kernel
theorem d_Mod_entry_46 : decode b_Mod_entry 46 = .ok (.iconst 0, 1) := by decide +kernel
theorem d_Mod_entry_47 : decode b_Mod_entry 47 = .ok (.invokevirtual 167, 3) := by decide +kernel
theorem d_Mod_entry_50 : decode b_Mod_entry 50 = .ok (.istore_n 3, 1) := by decide +kernel
theorem d_Mod_entry_51 : decode b_Mod_entry 51 = .ok (.goto (-19), 3) := by decide +kernel
theorem d_Mod_entry_54 : decode b_Mod_entry 54 = .ok (.iload_n 2, 1) := by decide +kernel
theorem d_Mod_entry_55 : decode b_Mod_entry 55 = .ok (.tableswitch 67 0 3 #[29, 35, 46, 55], 29) := by decide +kernel
theorem d_Mod_entry_84 : decode b_Mod_entry 84 = .ok (.aload_n 0, 1) := by decide +kernel
theorem d_Mod_entry_85 : decode b_Mod_entry 85 = .ok (.invokevirtual 163, 3) := by decide +kernel
theorem d_Mod_entry_88 : decode b_Mod_entry 88 = .ok (.l2i, 1) := by decide +kernel
theorem d_Mod_entry_89 : decode b_Mod_entry 89 = .ok (.ireturn, 1) := by decide +kernel
theorem d_Mod_entry_90 : decode b_Mod_entry 90 = .ok (.aload_n 0, 1) := by decide +kernel
theorem d_Mod_entry_91 : decode b_Mod_entry 91 = .ok (.aload_n 0, 1) := by decide +kernel
theorem d_Mod_entry_92 : decode b_Mod_entry 92 = .ok (.getfield 141, 3) := by decide +kernel
theorem d_Mod_entry_95 : decode b_Mod_entry 95 = .ok (.iconst 4, 1) := by decide +kernel
theorem d_Mod_entry_96 : decode b_Mod_entry 96 = .ok (.iadd, 1) := by decide +kernel
theorem d_Mod_entry_97 : decode b_Mod_entry 97 = .ok (.invokevirtual 138, 3) := by decide +kernel
theorem d_Mod_entry_100 : decode b_Mod_entry 100 = .ok (.ireturn, 1) := by decide +kernel
theorem d_Mod_entry_101 : decode b_Mod_entry 101 = .ok (.aload_n 0, 1) := by decide +kernel
theorem d_Mod_entry_102 : decode b_Mod_entry 102 = .ok (.aload_n 0, 1) := by decide +kernel
theorem d_Mod_entry_103 : decode b_Mod_entry 103 = .ok (.getfield 141, 3) := by decide +kernel
theorem d_Mod_entry_106 : decode b_Mod_entry 106 = .ok (.invokevirtual 138, 3) := by decide +kernel
theorem d_Mod_entry_109 : decode b_Mod_entry 109 = .ok (.ireturn, 1) := by decide +kernel
theorem d_Mod_entry_110 : decode b_Mod_entry 110 = .ok (.aload_n 0, 1) := by decide +kernel
theorem d_Mod_entry_111 : decode b_Mod_entry 111 = .ok (.aload_n 0, 1) := by decide +kernel
theorem d_Mod_entry_112 : decode b_Mod_entry 112 = .ok (.getfield 144, 3) := by decide +kernel
theorem d_Mod_entry_115 : decode b_Mod_entry 115 = .ok (.iconst 4, 1) := by decide +kernel
theorem d_Mod_entry_116 : decode b_Mod_entry 116 = .ok (.iadd, 1) := by decide +kernel
theorem d_Mod_entry_117 : decode b_Mod_entry 117 = .ok (.invokevirtual 153, 3) := by decide +kernel
theorem d_Mod_entry_120 : decode b_Mod_entry 120 = .ok (.l2i, 1) := by decide +kernel
theorem d_Mod_entry_121 : decode b_Mod_entry 121 = .ok (.ireturn, 1) := by decide +kernel
theorem d_Mod_entry_122 : decode b_Mod_entry 122 = .ok (.aload_n 0, 1) := by decide +kernel
theorem d_Mod_entry_123 : decode b_Mod_entry 123 = .ok (.invokevirtual 157, 3) := by decide +kernel
theorem d_Mod_entry_126 : decode b_Mod_entry 126 = .ok (.ireturn, 1) := by decide +kernel
theorem d_Mod_find_0 : decode b_Mod_find 0 = .ok (.aload_n 0, 1) := by decide +kernel
theorem d_Mod_find_1 : decode b_Mod_find 1 = .ok (.invokevirtual 83, 3) := by decide +kernel
theorem d_Mod_find_4 : decode b_Mod_find 4 = .ok (.istore_n 1, 1) := by decide +kernel
theorem d_Mod_find_5 : decode b_Mod_find 5 = .ok (.aload_n 0, 1) := by decide +kernel
theorem d_Mod_find_6 : decode b_Mod_find 6 = .ok (.iconst 0, 1) := by decide +kernel
theorem d_Mod_find_7 : decode b_Mod_find 7 = .ok (.putfield 187, 3) := by decide +kernel
theorem d_Mod_find_10 : decode b_Mod_find 10 = .ok (.aload_n 0, 1) := by decide +kernel
theorem d_Mod_find_11 : decode b_Mod_find 11 = .ok (.invokevirtual 184, 3) := by decide +kernel
theorem d_Mod_find_14 : decode b_Mod_find 14 = .ok (.ifCond .ge 6, 3) := by decide +kernel
theorem d_Mod_find_17 : decode b_Mod_find 17 = .ok (.bipush (-2), 2) := by decide +kernel
theorem d_Mod_find_19 : decode b_Mod_find 19 = .ok (.ireturn, 1) := by decide +kernel
theorem d_Mod_find_20 : decode b_Mod_find 20 = .ok (.iconst 0, 1) := by decide +kernel
theorem d_Mod_find_21 : decode b_Mod_find 21 = .ok (.istore_n 2, 1) := by decide +kernel
theorem d_Mod_find_22 : decode b_Mod_find 22 = .ok (.iconst 0, 1) := by decide +kernel
theorem d_Mod_find_23 : decode b_Mod_find 23 = .ok (.istore_n 3, 1) := by decide +kernel
theorem d_Mod_find_24 : decode b_Mod_find 24 = .ok (.iload_n 3, 1) := by decide +kernel
theorem d_Mod_find_25 : decode b_Mod_find 25 = .ok (.aload_n 0, 1) := by decide +kernel
theorem d_Mod_find_26 : decode b_Mod_find 26 = .ok (.getfield 112, 3) := by decide +kernel
theorem d_Mod_find_29 : decode b_Mod_find 29 = .ok (.if_icmp .ge 29, 3) := by decide +kernel
theorem d_Mod_find_32 : decode b_Mod_find 32 = .ok (.aload_n 0, 1) := by decide +kernel
theorem d_Mod_find_33 : decode b_Mod_find 33 = .ok (.iload_n 1, 1) := by decide +kernel
theorem d_Mod_find_34 : decode b_Mod_find 34 = .ok (.iload_n 3, 1) := by decide +kernel
theorem d_Mod_find_35 : decode b_Mod_find 35 = .ok (.invokevirtual 190, 3) := by decide +kernel
theorem d_Mod_find_38 : decode b_Mod_find 38 = .ok (.ifCond .lt 12, 3) := by decide +kernel
theorem d_Mod_find_41 : decode b_Mod_find 41 = .ok (.aload_n 0, 1) := by decide +kernel
theorem d_Mod_find_42 : decode b_Mod_find 42 = .ok (.getfield 49, 3) := by decide +kernel
theorem d_Mod_find_45 : decode b_Mod_find 45 = .ok (.iload_n 3, 1) := by decide +kernel
theorem d_Mod_find_46 : decode b_Mod_find 46 = .ok (.iaload, 1) := by decide +kernel
theorem d_Mod_find_47 : decode b_Mod_find 47 = .ok (.goto 4, 3) := by decide +kernel
theorem d_Mod_find_50 : decode b_Mod_find 50 = .ok (.iload_n 2, 1) := by decide +kernel
theorem d_Mod_find_51 : decode b_Mod_find 51 = .ok (.istore_n 2, 1) := by decide +kernel
theorem d_Mod_find_52 : decode b_Mod_find 52 = .ok (.iinc 3 1, 3) := by decide +kernel
theorem d_Mod_find_55 : decode b_Mod_find 55 = .ok (.goto (-31), 3) := by decide +kernel
theorem d_Mod_find_58 : decode b_Mod_find 58 = .ok (.aload_n 0, 1) := by decide +kernel
theorem d_Mod_find_59 : decode b_Mod_find 59 = .ok (.iconst 1, 1) := by decide +kernel
theorem d_Mod_find_60 : decode b_Mod_find 60 = .ok (.invokevirtual 167, 3) := by decide +kernel
theorem d_Mod_find_63 : decode b_Mod_find 63 = .ok (.istore_n 3, 1) := by decide +kernel
theorem d_Mod_find_64 : decode b_Mod_find 64 = .ok (.iload_n 3, 1) := by decide +kernel
theorem d_Mod_find_65 : decode b_Mod_find 65 = .ok (.iconst 1, 1) := by decide +kernel
theorem d_Mod_find_66 : decode b_Mod_find 66 = .ok (.if_icmp .ne 58, 3) := by decide +kernel
theorem d_Mod_find_69 : decode b_Mod_find 69 = .ok (.aload_n 0, 1) := by decide +kernel
theorem d_Mod_find_70 : decode b_Mod_find 70 = .ok (.getfield 144, 3) := by decide +kernel
theorem d_Mod_find_73 : decode b_Mod_find 73 = .ok (.iload_n 2, 1) := by decide +kernel
theorem d_Mod_find_74 : decode b_Mod_find 74 = .ok (.if_icmp .lt 41, 3) := by decide +kernel
theorem d_Mod_find_77 : decode b_Mod_find 77 = .ok (.aload_n 0, 1) := by decide +kernel
theorem d_Mod_find_78 : decode b_Mod_find 78 = .ok (.dup, 1) := by decide +kernel
theorem d_Mod_find_79 : decode b_Mod_find 79 = .ok (.getfield 187, 3) := by decide +kernel
theorem d_Mod_find_82 : decode b_Mod_find 82 = .ok (.iconst 1, 1) := by decide +kernel
theorem d_Mod_find_83 : decode b_Mod_find 83 = .ok (.iadd, 1) := by decide +kernel
theorem d_Mod_find_84 : decode b_Mod_find 84 = .ok (.putfield 187, 3) := by decide +kernel
theorem d_Mod_find_87 : decode b_Mod_find 87 = .ok (.aload_n 0, 1) := by decide +kernel
theorem d_Mod_find_88 : decode b_Mod_find 88 = .ok (.iload_n 1, 1) := by decide +kernel
theorem d_Mod_find_89 : decode b_Mod_find 89 = .ok (.invokevirtual 193, 3) := by decide +kernel
theorem d_Mod_find_92 : decode b_Mod_find 92 = .ok (.istore 4, 2) := by decide +kernel
theorem d_Mod_find_94 : decode b_Mod_find 94 = .ok (.iload 4, 2) := by decide +kernel
theorem d_Mod_find_96 : decode b_Mod_find 96 = .ok (.ifCond .gt 19, 3) := by decide +kernel
theorem d_Mod_find_99 : decode b_Mod_find 99 = .ok (.iload 4, 2) := by decide +kernel
theorem d_Mod_find_101 : decode b_Mod_find 101 = .ok (.ifCond .ne 11, 3) := by decide +kernel
theorem d_Mod_find_104 : decode b_Mod_find 104 = .ok (.aload_n 0, 1) := by decide +kernel
theorem d_Mod_find_105 : decode b_Mod_find 105 = .ok (.invokevirtual 163, 3) := by decide +kernel
theorem d_Mod_find_108 : decode b_Mod_find 108 = .ok (.l2i, 1) := by decide +kernel
theorem d_Mod_find_109 : decode b_Mod_find 109 = .ok (.goto 5, 3) := by decide +kernel
theorem d_Mod_find_112 : decode b_Mod_find 112 = .ok (.bipush (-2), 2) := by decide +kernel
theorem d_Mod_find_114 : decode b_Mod_find 114 = .ok (.ireturn, 1) := by decide +kernel
theorem d_Mod_find_115 : decode b_Mod_find 115 = .ok (.aload_n 0, 1) := by decide +kernel
theorem d_Mod_find_116 : decode b_Mod_find 116 = .ok (.iconst 0, 1) := by decide +kernel
theorem d_Mod_find_117 : decode b_Mod_find 117 = .ok (.invokevirtual 167, 3) := by decide +kernel
theorem d_Mod_find_120 : decode b_Mod_find 120 = .ok (.istore_n 3, 1) := by decide +kernel
theorem d_Mod_find_121 : decode b_Mod_find 121 = .ok (.goto (-57), 3) := by decide +kernel
theorem d_Mod_find_124 : decode b_Mod_find 124 = .ok (.bipush (-2), 2) := by decide +kernel
theorem d_Mod_find_126 : decode b_Mod_find 126 = .ok (.ireturn, 1) := by decide +kernel
theorem d_Mod_orderOfIndex_0 : decode b_Mod_orderOfIndex 0 = .ok (.iconst 0, 1) := by decide +kernel
theorem d_Mod_orderOfIndex_1 : decode b_Mod_orderOfIndex 1 = .ok (.istore_n 3, 1) := by decide +kernel
theorem d_Mod_orderOfIndex_2 : decode b_Mod_orderOfIndex 2 = .ok (.iload_n 3, 1) := by decide +kernel
theorem d_Mod_orderOfIndex_3 : decode b_Mod_orderOfIndex 3 = .ok (.iload_n 1, 1) := by decide +kernel
theorem d_Mod_orderOfIndex_4 : decode b_Mod_orderOfIndex 4 = .ok (.if_icmp .ge 60, 3) := by decide +kernel
theorem d_Mod_orderOfIndex_7 : decode b_Mod_orderOfIndex 7 = .ok (.iload_n 3, 1) := by decide +kernel
theorem d_Mod_orderOfIndex_8 : decode b_Mod_orderOfIndex 8 = .ok (.aload_n 0, 1) := by decide +kernel
theorem d_Mod_orderOfIndex_9 : decode b_Mod_orderOfIndex 9 = .ok (.getfield 55, 3) := by decide +kernel
theorem d_Mod_orderOfIndex_12 : decode b_Mod_orderOfIndex 12 = .ok (.iload_n 2, 1) := by decide +kernel
theorem d_Mod_orderOfIndex_13 : decode b_Mod_orderOfIndex 13 = .ok (.iaload, 1) := by decide +kernel
theorem d_Mod_orderOfIndex_14 : decode b_Mod_orderOfIndex 14 = .ok (.if_icmp .ge 50, 3) := by decide +kernel
theorem d_Mod_orderOfIndex_17 : decode b_Mod_orderOfIndex 17 = .ok (.aload_n 0, 1) := by decide +kernel
theorem d_Mod_orderOfIndex_18 : decode b_Mod_orderOfIndex 18 = .ok (.getfield 7, 3) := by decide +kernel
theorem d_Mod_orderOfIndex_21 : decode b_Mod_orderOfIndex 21 = .ok (.iload_n 3, 1) := by decide +kernel
theorem d_Mod_orderOfIndex_22 : decode b_Mod_orderOfIndex 22 = .ok (.iaload, 1) := by decide +kernel
theorem d_Mod_orderOfIndex_23 : decode b_Mod_orderOfIndex 23 = .ok (.aload_n 0, 1) := by decide +kernel
theorem d_Mod_orderOfIndex_24 : decode b_Mod_orderOfIndex 24 = .ok (.getfield 58, 3) := by decide +kernel
theorem d_Mod_orderOfIndex_27 : decode b_Mod_orderOfIndex 27 = .ok (.sipush 256, 3) := by decide +kernel
theorem d_Mod_orderOfIndex_30 : decode b_Mod_orderOfIndex 30 = .ok (.iload_n 2, 1) := by decide +kernel
theorem d_Mod_orderOfIndex_31 : decode b_Mod_orderOfIndex 31 = .ok (.imul, 1) := by decide +kernel
theorem d_Mod_orderOfIndex_32 : decode b_Mod_orderOfIndex 32 = .ok (.iload_n 3, 1) := by decide +kernel
theorem d_Mod_orderOfIndex_33 : decode b_Mod_orderOfIndex 33 = .ok (.iadd, 1) := by decide +kernel
theorem d_Mod_orderOfIndex_34 : decode b_Mod_orderOfIndex 34 = .ok (.iaload, 1) := by decide +kernel
theorem d_Mod_orderOfIndex_35 : decode b_Mod_orderOfIndex 35 = .ok (.if_icmp .eq 23, 3) := by decide +kernel
theorem d_Mod_orderOfIndex_38 : decode b_Mod_orderOfIndex 38 = .ok (.aload_n 0, 1) := by decide +kernel
theorem d_Mod_orderOfIndex_39 : decode b_Mod_orderOfIndex 39 = .ok (.getfield 7, 3) := by decide +kernel
theorem d_Mod_orderOfIndex_42 : decode b_Mod_orderOfIndex 42 = .ok (.iload_n 3, 1) := by decide +kernel
theorem d_Mod_orderOfIndex_43 : decode b_Mod_orderOfIndex 43 = .ok (.iaload, 1) := by decide +kernel
theorem d_Mod_orderOfIndex_44 : decode b_Mod_orderOfIndex 44 = .ok (.aload_n 0, 1) := by decide +kernel
theorem d_Mod_orderOfIndex_45 : decode b_Mod_orderOfIndex 45 = .ok (.getfield 58, 3) := by decide +kernel
theorem d_Mod_orderOfIndex_48 : decode b_Mod_orderOfIndex 48 = .ok (.sipush 256, 3) := by decide +kernel
theorem d_Mod_orderOfIndex_51 : decode b_Mod_orderOfIndex 51 = .ok (.iload_n 2, 1) := by decide +kernel
theorem d_Mod_orderOfIndex_52 : decode b_Mod_orderOfIndex 52 = .ok (.imul, 1) := by decide +kernel
theorem d_Mod_orderOfIndex_53 : decode b_Mod_orderOfIndex 53 = .ok (.iload_n 3, 1) := by decide +kernel
theorem d_Mod_orderOfIndex_54 : decode b_Mod_orderOfIndex 54 = .ok (.iadd, 1) := by decide +kernel
theorem d_Mod_orderOfIndex_55 : decode b_Mod_orderOfIndex 55 = .ok (.iaload, 1) := by decide +kernel
theorem d_Mod_orderOfIndex_56 : decode b_Mod_orderOfIndex 56 = .ok (.isub, 1) := by decide +kernel
theorem d_Mod_orderOfIndex_57 : decode b_Mod_orderOfIndex 57 = .ok (.ireturn, 1) := by decide +kernel
theorem d_Mod_orderOfIndex_58 : decode b_Mod_orderOfIndex 58 = .ok (.iinc 3 1, 3) := by decide +kernel
theorem d_Mod_orderOfIndex_61 : decode b_Mod_orderOfIndex 61 = .ok (.goto (-59), 3) := by decide +kernel
theorem d_Mod_orderOfIndex_64 : decode b_Mod_orderOfIndex 64 = .ok (.iload_n 1, 1) := by decide +kernel
theorem d_Mod_orderOfIndex_65 : decode b_Mod_orderOfIndex 65 = .ok (.aload_n 0, 1) := by decide +kernel
theorem d_Mod_orderOfIndex_66 : decode b_Mod_orderOfIndex 66 = .ok (.getfield 55, 3) := by decide +kernel
theorem d_Mod_orderOfIndex_69 : decode b_Mod_orderOfIndex 69 = .ok (.iload_n 2, 1) := by decide +kernel
theorem d_Mod_orderOfIndex_70 : decode b_Mod_orderOfIndex 70 = .ok (.iaload, 1) := by decide +kernel
theorem d_Mod_orderOfIndex_71 : decode b_Mod_orderOfIndex 71 = .ok (.isub, 1) := by decide +kernel
theorem d_Mod_orderOfIndex_72 : decode b_Mod_orderOfIndex 72 = .ok (.ireturn, 1) := by decide +kernel
theorem d_Mod_orderHere_0 : decode b_Mod_orderHere 0 = .ok (.iconst 0, 1) := by decide +kernel
theorem d_Mod_orderHere_1 : decode b_Mod_orderHere 1 = .ok (.istore_n 2, 1) := by decide +kernel
theorem d_Mod_orderHere_2 : decode b_Mod_orderHere 2 = .ok (.iload_n 2, 1) := by decide +kernel
theorem d_Mod_orderHere_3 : decode b_Mod_orderHere 3 = .ok (.iload_n 1, 1) := by decide +kernel
theorem d_Mod_orderHere_4 : decode b_Mod_orderHere 4 = .ok (.if_icmp .ge 44, 3) := by decide +kernel
theorem d_Mod_orderHere_7 : decode b_Mod_orderHere 7 = .ok (.iload_n 2, 1) := by decide +kernel
theorem d_Mod_orderHere_8 : decode b_Mod_orderHere 8 = .ok (.aload_n 0, 1) := by decide +kernel
theorem d_Mod_orderHere_9 : decode b_Mod_orderHere 9 = .ok (.invokevirtual 157, 3) := by decide +kernel
theorem d_Mod_orderHere_12 : decode b_Mod_orderHere 12 = .ok (.if_icmp .ge 36, 3) := by decide +kernel
theorem d_Mod_orderHere_15 : decode b_Mod_orderHere 15 = .ok (.aload_n 0, 1) := by decide +kernel
theorem d_Mod_orderHere_16 : decode b_Mod_orderHere 16 = .ok (.getfield 7, 3) := by decide +kernel
theorem d_Mod_orderHere_19 : decode b_Mod_orderHere 19 = .ok (.iload_n 2, 1) := by decide +kernel
theorem d_Mod_orderHere_20 : decode b_Mod_orderHere 20 = .ok (.iaload, 1) := by decide +kernel
theorem d_Mod_orderHere_21 : decode b_Mod_orderHere 21 = .ok (.aload_n 0, 1) := by decide +kernel
theorem d_Mod_orderHere_22 : decode b_Mod_orderHere 22 = .ok (.iload_n 2, 1) := by decide +kernel
theorem d_Mod_orderHere_23 : decode b_Mod_orderHere 23 = .ok (.invokevirtual 160, 3) := by decide +kernel
theorem d_Mod_orderHere_26 : decode b_Mod_orderHere 26 = .ok (.if_icmp .eq 16, 3) := by decide +kernel
theorem d_Mod_orderHere_29 : decode b_Mod_orderHere 29 = .ok (.aload_n 0, 1) := by decide +kernel
theorem d_Mod_orderHere_30 : decode b_Mod_orderHere 30 = .ok (.getfield 7, 3) := by decide +kernel
theorem d_Mod_orderHere_33 : decode b_Mod_orderHere 33 = .ok (.iload_n 2, 1) := by decide +kernel
theorem d_Mod_orderHere_34 : decode b_Mod_orderHere 34 = .ok (.iaload, 1) := by decide +kernel
theorem d_Mod_orderHere_35 : decode b_Mod_orderHere 35 = .ok (.aload_n 0, 1) := by decide +kernel
theorem d_Mod_orderHere_36 : decode b_Mod_orderHere 36 = .ok (.iload_n 2, 1) := by decide +kernel
theorem d_Mod_orderHere_37 : decode b_Mod_orderHere 37 = .ok (.invokevirtual 160, 3) := by decide +kernel
theorem d_Mod_orderHere_40 : decode b_Mod_orderHere 40 = .ok (.isub, 1) := by decide +kernel
theorem d_Mod_orderHere_41 : decode b_Mod_orderHere 41 = .ok (.ireturn, 1) := by decide +kernel
theorem d_Mod_orderHere_42 : decode b_Mod_orderHere 42 = .ok (.iinc 2 1, 3) := by decide +kernel
theorem d_Mod_orderHere_45 : decode b_Mod_orderHere 45 = .ok (.goto (-43), 3) := by decide +kernel
theorem d_Mod_orderHere_48 : decode b_Mod_orderHere 48 = .ok (.iload_n 1, 1) := by decide +kernel
theorem d_Mod_orderHere_49 : decode b_Mod_orderHere 49 = .ok (.aload_n 0, 1) := by decide +kernel
theorem d_Mod_orderHere_50 : decode b_Mod_orderHere 50 = .ok (.invokevirtual 157, 3) := by decide +kernel
theorem d_Mod_orderHere_53 : decode b_Mod_orderHere 53 = .ok (.isub, 1) := by decide +kernel
theorem d_Mod_orderHere_54 : decode b_Mod_orderHere 54 = .ok (.ireturn, 1) := by decide +kernel
theorem d_Mod_passed_0 : decode b_Mod_passed 0 = .ok (.aload_n 0, 1) := by decide +kernel
theorem d_Mod_passed_1 : decode b_Mod_passed 1 = .ok (.getfield 187, 3) := by decide +kernel
theorem d_Mod_passed_4 : decode b_Mod_passed 4 = .ok (.ireturn, 1) := by decide +kernel
