theorem d_Known_agrees_0 : decode b_Known_agrees 0 = .ok (.lload_n 1, 1) := by decide +kernel
theorem d_Known_agrees_1 : decode b_Known_agrees 1 = .ok (.lconst 1, 1) := by decide +kernel
theorem d_Known_agrees_2 : decode b_Known_agrees 2 = .ok (.lcmp, 1) := by decide +kernel
theorem d_Known_agrees_3 : decode b_Known_agrees 3 = .ok (.ifCond .lt 11, 3) := by decide +kernel
theorem d_Known_agrees_6 : decode b_Known_agrees 6 = .ok (.lload_n 1, 1) := by decide +kernel
theorem d_Known_agrees_7 : decode b_Known_agrees 7 = .ok (.ldc2_w 48, 3) := by decide +kernel
theorem d_Known_agrees_10 : decode b_Known_agrees 10 = .ok (.lcmp, 1) := by decide +kernel
theorem d_Known_agrees_11 : decode b_Known_agrees 11 = .ok (.ifCond .le 5, 3) := by decide +kernel
theorem d_Known_agrees_14 : decode b_Known_agrees 14 = .ok (.iconst 0, 1) := by decide +kernel
theorem d_Known_agrees_15 : decode b_Known_agrees 15 = .ok (.ireturn, 1) := by decide +kernel
theorem d_Known_agrees_16 : decode b_Known_agrees 16 = .ok (.aload_n 0, 1) := by decide +kernel
theorem d_Known_agrees_17 : decode b_Known_agrees 17 = .ok (.lload_n 1, 1) := by decide +kernel
theorem d_Known_agrees_18 : decode b_Known_agrees 18 = .ok (.l2i, 1) := by decide +kernel
theorem d_Known_agrees_19 : decode b_Known_agrees 19 = .ok (.invokevirtual 32, 3) := by decide +kernel
theorem d_Known_agrees_22 : decode b_Known_agrees 22 = .ok (.istore 7, 2) := by decide +kernel
theorem d_Known_agrees_24 : decode b_Known_agrees 24 = .ok (.aload_n 0, 1) := by decide +kernel
theorem d_Known_agrees_25 : decode b_Known_agrees 25 = .ok (.iload 7, 2) := by decide +kernel
theorem d_Known_agrees_27 : decode b_Known_agrees 27 = .ok (.lload_n 1, 1) := by decide +kernel
theorem d_Known_agrees_28 : decode b_Known_agrees 28 = .ok (.l2i, 1) := by decide +kernel
theorem d_Known_agrees_29 : decode b_Known_agrees 29 = .ok (.invokevirtual 36, 3) := by decide +kernel
theorem d_Known_agrees_32 : decode b_Known_agrees 32 = .ok (.ifCond .ne 5, 3) := by decide +kernel
theorem d_Known_agrees_35 : decode b_Known_agrees 35 = .ok (.iconst 0, 1) := by decide +kernel
theorem d_Known_agrees_36 : decode b_Known_agrees 36 = .ok (.ireturn, 1) := by decide +kernel
theorem d_Known_agrees_37 : decode b_Known_agrees 37 = .ok (.aload_n 0, 1) := by decide +kernel
theorem d_Known_agrees_38 : decode b_Known_agrees 38 = .ok (.getfield 12, 3) := by decide +kernel
theorem d_Known_agrees_41 : decode b_Known_agrees 41 = .ok (.iload 7, 2) := by decide +kernel
theorem d_Known_agrees_43 : decode b_Known_agrees 43 = .ok (.invokevirtual 22, 3) := by decide +kernel
theorem d_Known_agrees_46 : decode b_Known_agrees 46 = .ok (.checkcast 26, 3) := by decide +kernel
theorem d_Known_agrees_49 : decode b_Known_agrees 49 = .ok (.astore 8, 2) := by decide +kernel
theorem d_Known_agrees_51 : decode b_Known_agrees 51 = .ok (.aload 8, 2) := by decide +kernel
theorem d_Known_agrees_53 : decode b_Known_agrees 53 = .ok (.getfield 50, 3) := by decide +kernel
theorem d_Known_agrees_56 : decode b_Known_agrees 56 = .ok (.i2l, 1) := by decide +kernel
theorem d_Known_agrees_57 : decode b_Known_agrees 57 = .ok (.lload_n 3, 1) := by decide +kernel
theorem d_Known_agrees_58 : decode b_Known_agrees 58 = .ok (.lcmp, 1) := by decide +kernel
theorem d_Known_agrees_59 : decode b_Known_agrees 59 = .ok (.ifCond .ne 27, 3) := by decide +kernel
theorem d_Known_agrees_62 : decode b_Known_agrees 62 = .ok (.aload 8, 2) := by decide +kernel
theorem d_Known_agrees_64 : decode b_Known_agrees 64 = .ok (.getfield 53, 3) := by decide +kernel
theorem d_Known_agrees_67 : decode b_Known_agrees 67 = .ok (.iload 5, 2) := by decide +kernel
theorem d_Known_agrees_69 : decode b_Known_agrees 69 = .ok (.if_icmp .ne 17, 3) := by decide +kernel
theorem d_Known_agrees_72 : decode b_Known_agrees 72 = .ok (.aload 8, 2) := by decide +kernel
theorem d_Known_agrees_74 : decode b_Known_agrees 74 = .ok (.getfield 56, 3) := by decide +kernel
theorem d_Known_agrees_77 : decode b_Known_agrees 77 = .ok (.iload 6, 2) := by decide +kernel
theorem d_Known_agrees_79 : decode b_Known_agrees 79 = .ok (.if_icmp .ne 7, 3) := by decide +kernel
theorem d_Known_agrees_82 : decode b_Known_agrees 82 = .ok (.iconst 1, 1) := by decide +kernel
theorem d_Known_agrees_83 : decode b_Known_agrees 83 = .ok (.goto 4, 3) := by decide +kernel
theorem d_Known_agrees_86 : decode b_Known_agrees 86 = .ok (.iconst 0, 1) := by decide +kernel
theorem d_Known_agrees_87 : decode b_Known_agrees 87 = .ok (.ireturn, 1) := by decide +kernel
theorem d_Judge_isMarkRight_0 : decode b_Judge_isMarkRight 0 = .ok (.aload_n 0, 1) := by decide +kernel
theorem d_Judge_isMarkRight_1 : decode b_Judge_isMarkRight 1 = .ok (.getfield 15, 3) := by decide +kernel
theorem d_Judge_isMarkRight_4 : decode b_Judge_isMarkRight 4 = .ok (.aload_n 0, 1) := by decide +kernel
theorem d_Judge_isMarkRight_5 : decode b_Judge_isMarkRight 5 = .ok (.getfield 18, 3) := by decide +kernel
theorem d_Judge_isMarkRight_8 : decode b_Judge_isMarkRight 8 = .ok (.getfield 49, 3) := by decide +kernel
theorem d_Judge_isMarkRight_11 : decode b_Judge_isMarkRight 11 = .ok (.invokevirtual 53, 3) := by decide +kernel
theorem d_Judge_isMarkRight_14 : decode b_Judge_isMarkRight 14 = .ok (.if_icmp .lt 5, 3) := by decide +kernel
theorem d_Judge_isMarkRight_17 : decode b_Judge_isMarkRight 17 = .ok (.iconst 1, 1) := by decide +kernel
theorem d_Judge_isMarkRight_18 : decode b_Judge_isMarkRight 18 = .ok (.ireturn, 1) := by decide +kernel
theorem d_Judge_isMarkRight_19 : decode b_Judge_isMarkRight 19 = .ok (.aload_n 0, 1) := by decide +kernel
theorem d_Judge_isMarkRight_20 : decode b_Judge_isMarkRight 20 = .ok (.getfield 18, 3) := by decide +kernel
theorem d_Judge_isMarkRight_23 : decode b_Judge_isMarkRight 23 = .ok (.getfield 49, 3) := by decide +kernel
theorem d_Judge_isMarkRight_26 : decode b_Judge_isMarkRight 26 = .ok (.aload_n 0, 1) := by decide +kernel
theorem d_Judge_isMarkRight_27 : decode b_Judge_isMarkRight 27 = .ok (.getfield 15, 3) := by decide +kernel
theorem d_Judge_isMarkRight_30 : decode b_Judge_isMarkRight 30 = .ok (.invokevirtual 114, 3) := by decide +kernel
theorem d_Judge_isMarkRight_33 : decode b_Judge_isMarkRight 33 = .ok (.checkcast 118, 3) := by decide +kernel
theorem d_Judge_isMarkRight_36 : decode b_Judge_isMarkRight 36 = .ok (.astore_n 1, 1) := by decide +kernel
theorem d_Judge_isMarkRight_37 : decode b_Judge_isMarkRight 37 = .ok (.aload_n 1, 1) := by decide +kernel
theorem d_Judge_isMarkRight_38 : decode b_Judge_isMarkRight 38 = .ok (.getfield 120, 3) := by decide +kernel
theorem d_Judge_isMarkRight_41 : decode b_Judge_isMarkRight 41 = .ok (.aload_n 0, 1) := by decide +kernel
theorem d_Judge_isMarkRight_42 : decode b_Judge_isMarkRight 42 = .ok (.getfield 22, 3) := by decide +kernel
theorem d_Judge_isMarkRight_45 : decode b_Judge_isMarkRight 45 = .ok (.getfield 69, 3) := by decide +kernel
theorem d_Judge_isMarkRight_48 : decode b_Judge_isMarkRight 48 = .ok (.if_icmp .eq 5, 3) := by decide +kernel
theorem d_Judge_isMarkRight_51 : decode b_Judge_isMarkRight 51 = .ok (.iconst 1, 1) := by decide +kernel
theorem d_Judge_isMarkRight_52 : decode b_Judge_isMarkRight 52 = .ok (.ireturn, 1) := by decide +kernel
theorem d_Judge_isMarkRight_53 : decode b_Judge_isMarkRight 53 = .ok (.aload_n 0, 1) := by decide +kernel
theorem d_Judge_isMarkRight_54 : decode b_Judge_isMarkRight 54 = .ok (.dup, 1) := by decide +kernel
theorem d_Judge_isMarkRight_55 : decode b_Judge_isMarkRight 55 = .ok (.getfield 15, 3) := by decide +kernel
theorem d_Judge_isMarkRight_58 : decode b_Judge_isMarkRight 58 = .ok (.iconst 1, 1) := by decide +kernel
theorem d_Judge_isMarkRight_59 : decode b_Judge_isMarkRight 59 = .ok (.iadd, 1) := by decide +kernel
theorem d_Judge_isMarkRight_60 : decode b_Judge_isMarkRight 60 = .ok (.putfield 15, 3) := by decide +kernel
theorem d_Judge_isMarkRight_63 : decode b_Judge_isMarkRight 63 = .ok (.aload_n 1, 1) := by decide +kernel
theorem d_Judge_isMarkRight_64 : decode b_Judge_isMarkRight 64 = .ok (.getfield 121, 3) := by decide +kernel
theorem d_Judge_isMarkRight_67 : decode b_Judge_isMarkRight 67 = .ok (.aload_n 0, 1) := by decide +kernel
theorem d_Judge_isMarkRight_68 : decode b_Judge_isMarkRight 68 = .ok (.getfield 18, 3) := by decide +kernel
theorem d_Judge_isMarkRight_71 : decode b_Judge_isMarkRight 71 = .ok (.aload_n 1, 1) := by decide +kernel
theorem d_Judge_isMarkRight_72 : decode b_Judge_isMarkRight 72 = .ok (.getfield 120, 3) := by decide +kernel
theorem d_Judge_isMarkRight_75 : decode b_Judge_isMarkRight 75 = .ok (.invokevirtual 123, 3) := by decide +kernel
theorem d_Judge_isMarkRight_78 : decode b_Judge_isMarkRight 78 = .ok (.if_icmp .ne 27, 3) := by decide +kernel
theorem d_Judge_isMarkRight_81 : decode b_Judge_isMarkRight 81 = .ok (.aload_n 0, 1) := by decide +kernel
theorem d_Judge_isMarkRight_82 : decode b_Judge_isMarkRight 82 = .ok (.getfield 22, 3) := by decide +kernel
theorem d_Judge_isMarkRight_85 : decode b_Judge_isMarkRight 85 = .ok (.aload_n 1, 1) := by decide +kernel
theorem d_Judge_isMarkRight_86 : decode b_Judge_isMarkRight 86 = .ok (.getfield 127, 3) := by decide +kernel
theorem d_Judge_isMarkRight_89 : decode b_Judge_isMarkRight 89 = .ok (.iconst 0, 1) := by decide +kernel
theorem d_Judge_isMarkRight_90 : decode b_Judge_isMarkRight 90 = .ok (.aload_n 1, 1) := by decide +kernel
theorem d_Judge_isMarkRight_91 : decode b_Judge_isMarkRight 91 = .ok (.getfield 127, 3) := by decide +kernel
theorem d_Judge_isMarkRight_94 : decode b_Judge_isMarkRight 94 = .ok (.arraylength, 1) := by decide +kernel
theorem d_Judge_isMarkRight_95 : decode b_Judge_isMarkRight 95 = .ok (.invokevirtual 91, 3) := by decide +kernel
theorem d_Judge_isMarkRight_98 : decode b_Judge_isMarkRight 98 = .ok (.ifCond .ne 7, 3) := by decide +kernel
theorem d_Judge_isMarkRight_101 : decode b_Judge_isMarkRight 101 = .ok (.iconst 1, 1) := by decide +kernel
theorem d_Judge_isMarkRight_102 : decode b_Judge_isMarkRight 102 = .ok (.goto 4, 3) := by decide +kernel
theorem d_Judge_isMarkRight_105 : decode b_Judge_isMarkRight 105 = .ok (.iconst 0, 1) := by decide +kernel
theorem d_Judge_isMarkRight_106 : decode b_Judge_isMarkRight 106 = .ok (.ireturn, 1) := by decide +kernel
theorem d_Row_entry_0 : decode b_Row_entry 0 = .ok (.iload_n 2, 1) := by decide +kernel
theorem d_Row_entry_1 : decode b_Row_entry 1 = .ok (.ifCond .lt 8, 3) := by decide +kernel
theorem d_Row_entry_4 : decode b_Row_entry 4 = .ok (.iload_n 2, 1) := by decide +kernel
theorem d_Row_entry_5 : decode b_Row_entry 5 = .ok (.iconst 4, 1) := by decide +kernel
theorem d_Row_entry_6 : decode b_Row_entry 6 = .ok (.if_icmp .le 5, 3) := by decide +kernel
theorem d_Row_entry_9 : decode b_Row_entry 9 = .ok (.iconst (-1), 1) := by decide +kernel
theorem d_Row_entry_10 : decode b_Row_entry 10 = .ok (.ireturn, 1) := by decide +kernel
theorem d_Row_entry_11 : decode b_Row_entry 11 = .ok (.iload_n 1, 1) := by decide +kernel
theorem d_Row_entry_12 : decode b_Row_entry 12 = .ok (.ifCond .lt 25, 3) := by decide +kernel
theorem d_Row_entry_15 : decode b_Row_entry 15 = .ok (.iload_n 1, 1) := by decide +kernel
theorem d_Row_entry_16 : decode b_Row_entry 16 = .ok (.aload_n 0, 1) := by decide +kernel
theorem d_Row_entry_17 : decode b_Row_entry 17 = .ok (.getfield 51, 3) := by decide +kernel
theorem d_Row_entry_20 : decode b_Row_entry 20 = .ok (.invokevirtual 183, 3) := by decide +kernel
theorem d_Row_entry_23 : decode b_Row_entry 23 = .ok (.if_icmp .ge 14, 3) := by decide +kernel
theorem d_Row_entry_26 : decode b_Row_entry 26 = .ok (.aload_n 0, 1) := by decide +kernel
theorem d_Row_entry_27 : decode b_Row_entry 27 = .ok (.getfield 42, 3) := by decide +kernel
theorem d_Row_entry_30 : decode b_Row_entry 30 = .ok (.iload_n 1, 1) := by decide +kernel
theorem d_Row_entry_31 : decode b_Row_entry 31 = .ok (.invokevirtual 186, 3) := by decide +kernel
theorem d_Row_entry_34 : decode b_Row_entry 34 = .ok (.ifCond .ne 6, 3) := by decide +kernel
theorem d_Row_entry_37 : decode b_Row_entry 37 = .ok (.bipush (-2), 2) := by decide +kernel
theorem d_Row_entry_39 : decode b_Row_entry 39 = .ok (.ireturn, 1) := by decide +kernel
theorem d_Row_entry_40 : decode b_Row_entry 40 = .ok (.iload_n 2, 1) := by decide +kernel
theorem d_Row_entry_41 : decode b_Row_entry 41 = .ok (.tableswitch 65 0 3 #[31, 40, 48, 56], 31) := by decide +kernel
theorem d_Row_entry_72 : decode b_Row_entry 72 = .ok (.aload_n 0, 1) := by decide +kernel
theorem d_Row_entry_73 : decode b_Row_entry 73 = .ok (.getfield 42, 3) := by decide +kernel
theorem d_Row_entry_76 : decode b_Row_entry 76 = .ok (.getfield 189, 3) := by decide +kernel
theorem d_Row_entry_79 : decode b_Row_entry 79 = .ok (.l2i, 1) := by decide +kernel
theorem d_Row_entry_80 : decode b_Row_entry 80 = .ok (.ireturn, 1) := by decide +kernel
theorem d_Row_entry_81 : decode b_Row_entry 81 = .ok (.aload_n 0, 1) := by decide +kernel
theorem d_Row_entry_82 : decode b_Row_entry 82 = .ok (.getfield 42, 3) := by decide +kernel
theorem d_Row_entry_85 : decode b_Row_entry 85 = .ok (.getfield 193, 3) := by decide +kernel
theorem d_Row_entry_88 : decode b_Row_entry 88 = .ok (.ireturn, 1) := by decide +kernel
theorem d_Row_entry_89 : decode b_Row_entry 89 = .ok (.aload_n 0, 1) := by decide +kernel
theorem d_Row_entry_90 : decode b_Row_entry 90 = .ok (.getfield 42, 3) := by decide +kernel
theorem d_Row_entry_93 : decode b_Row_entry 93 = .ok (.getfield 196, 3) := by decide +kernel
theorem d_Row_entry_96 : decode b_Row_entry 96 = .ok (.ireturn, 1) := by decide +kernel
theorem d_Row_entry_97 : decode b_Row_entry 97 = .ok (.aload_n 0, 1) := by decide +kernel
theorem d_Row_entry_98 : decode b_Row_entry 98 = .ok (.getfield 42, 3) := by decide +kernel
theorem d_Row_entry_101 : decode b_Row_entry 101 = .ok (.getfield 197, 3) := by decide +kernel
theorem d_Row_entry_104 : decode b_Row_entry 104 = .ok (.l2i, 1) := by decide +kernel
theorem d_Row_entry_105 : decode b_Row_entry 105 = .ok (.ireturn, 1) := by decide +kernel
theorem d_Row_entry_106 : decode b_Row_entry 106 = .ok (.aload_n 0, 1) := by decide +kernel
theorem d_Row_entry_107 : decode b_Row_entry 107 = .ok (.getfield 42, 3) := by decide +kernel
theorem d_Row_entry_110 : decode b_Row_entry 110 = .ok (.getfield 199, 3) := by decide +kernel
theorem d_Row_entry_113 : decode b_Row_entry 113 = .ok (.ireturn, 1) := by decide +kernel
theorem d_Walk_goToEntry_0 : decode b_Walk_goToEntry 0 = .ok (.aload_n 0, 1) := by decide +kernel
theorem d_Walk_goToEntry_1 : decode b_Walk_goToEntry 1 = .ok (.iconst 0, 1) := by decide +kernel
theorem d_Walk_goToEntry_2 : decode b_Walk_goToEntry 2 = .ok (.invokevirtual 22, 3) := by decide +kernel
theorem d_Walk_goToEntry_5 : decode b_Walk_goToEntry 5 = .ok (.iconst 1, 1) := by decide +kernel
theorem d_Walk_goToEntry_6 : decode b_Walk_goToEntry 6 = .ok (.istore_n 2, 1) := by decide +kernel
theorem d_Walk_goToEntry_7 : decode b_Walk_goToEntry 7 = .ok (.iconst 0, 1) := by decide +kernel
theorem d_Walk_goToEntry_8 : decode b_Walk_goToEntry 8 = .ok (.istore_n 3, 1) := by decide +kernel
theorem d_Walk_goToEntry_9 : decode b_Walk_goToEntry 9 = .ok (.iload_n 3, 1) := by decide +kernel
theorem d_Walk_goToEntry_10 : decode b_Walk_goToEntry 10 = .ok (.iload_n 1, 1) := by decide +kernel
theorem d_Walk_goToEntry_11 : decode b_Walk_goToEntry 11 = .ok (.if_icmp .gt 18, 3) := by decide +kernel
theorem d_Walk_goToEntry_14 : decode b_Walk_goToEntry 14 = .ok (.iload_n 2, 1) := by decide +kernel
theorem d_Walk_goToEntry_15 : decode b_Walk_goToEntry 15 = .ok (.ifCond .eq 14, 3) := by decide +kernel
theorem d_Walk_goToEntry_18 : decode b_Walk_goToEntry 18 = .ok (.aload_n 0, 1) := by decide +kernel
theorem d_Walk_goToEntry_19 : decode b_Walk_goToEntry 19 = .ok (.invokevirtual 26, 3) := by decide +kernel
theorem d_Walk_goToEntry_22 : decode b_Walk_goToEntry 22 = .ok (.istore_n 2, 1) := by decide +kernel
theorem d_Walk_goToEntry_23 : decode b_Walk_goToEntry 23 = .ok (.iinc 3 1, 3) := by decide +kernel
theorem d_Walk_goToEntry_26 : decode b_Walk_goToEntry 26 = .ok (.goto (-17), 3) := by decide +kernel
theorem d_Walk_goToEntry_29 : decode b_Walk_goToEntry 29 = .ok (.iload_n 2, 1) := by decide +kernel
theorem d_Walk_goToEntry_30 : decode b_Walk_goToEntry 30 = .ok (.ireturn, 1) := by decide +kernel
theorem d_Row_find_0 : decode b_Row_find 0 = .ok (.aload_n 0, 1) := by decide +kernel
theorem d_Row_find_1 : decode b_Row_find 1 = .ok (.getfield 10, 3) := by decide +kernel
theorem d_Row_find_4 : decode b_Row_find 4 = .ok (.invokevirtual 66, 3) := by decide +kernel
theorem d_Row_find_7 : decode b_Row_find 7 = .ok (.istore_n 1, 1) := by decide +kernel
theorem d_Row_find_8 : decode b_Row_find 8 = .ok (.aload_n 0, 1) := by decide +kernel
theorem d_Row_find_9 : decode b_Row_find 9 = .ok (.iconst 0, 1) := by decide +kernel
theorem d_Row_find_10 : decode b_Row_find 10 = .ok (.putfield 55, 3) := by decide +kernel
theorem d_Row_find_13 : decode b_Row_find 13 = .ok (.aload_n 0, 1) := by decide +kernel
theorem d_Row_find_14 : decode b_Row_find 14 = .ok (.getfield 51, 3) := by decide +kernel
theorem d_Row_find_17 : decode b_Row_find 17 = .ok (.invokevirtual 183, 3) := by decide +kernel
theorem d_Row_find_20 : decode b_Row_find 20 = .ok (.istore_n 2, 1) := by decide +kernel
theorem d_Row_find_21 : decode b_Row_find 21 = .ok (.iload_n 2, 1) := by decide +kernel
theorem d_Row_find_22 : decode b_Row_find 22 = .ok (.bipush (-2), 2) := by decide +kernel
theorem d_Row_find_24 : decode b_Row_find 24 = .ok (.if_icmp .ne 6, 3) := by decide +kernel
theorem d_Row_find_27 : decode b_Row_find 27 = .ok (.bipush (-2), 2) := by decide +kernel
theorem d_Row_find_29 : decode b_Row_find 29 = .ok (.ireturn, 1) := by decide +kernel
theorem d_Row_find_30 : decode b_Row_find 30 = .ok (.aload_n 0, 1) := by decide +kernel
theorem d_Row_find_31 : decode b_Row_find 31 = .ok (.getfield 42, 3) := by decide +kernel
theorem d_Row_find_34 : decode b_Row_find 34 = .ok (.aload_n 0, 1) := by decide +kernel
theorem d_Row_find_35 : decode b_Row_find 35 = .ok (.getfield 33, 3) := by decide +kernel
theorem d_Row_find_38 : decode b_Row_find 38 = .ok (.aload_n 0, 1) := by decide +kernel
theorem d_Row_find_39 : decode b_Row_find 39 = .ok (.getfield 10, 3) := by decide +kernel
theorem d_Row_find_42 : decode b_Row_find 42 = .ok (.getfield 70, 3) := by decide +kernel
theorem d_Row_find_45 : decode b_Row_find 45 = .ok (.iload_n 1, 1) := by decide +kernel
theorem d_Row_find_46 : decode b_Row_find 46 = .ok (.invokevirtual 202, 3) := by decide +kernel
theorem d_Row_find_49 : decode b_Row_find 49 = .ok (.invokevirtual 205, 3) := by decide +kernel
theorem d_Row_find_52 : decode b_Row_find 52 = .ok (.iconst 0, 1) := by decide +kernel
theorem d_Row_find_53 : decode b_Row_find 53 = .ok (.istore_n 3, 1) := by decide +kernel
theorem d_Row_find_54 : decode b_Row_find 54 = .ok (.iload_n 3, 1) := by decide +kernel
theorem d_Row_find_55 : decode b_Row_find 55 = .ok (.iload_n 2, 1) := by decide +kernel
theorem d_Row_find_56 : decode b_Row_find 56 = .ok (.if_icmp .ge 69, 3) := by decide +kernel
theorem d_Row_find_59 : decode b_Row_find 59 = .ok (.aload_n 0, 1) := by decide +kernel
theorem d_Row_find_60 : decode b_Row_find 60 = .ok (.getfield 42, 3) := by decide +kernel
theorem d_Row_find_63 : decode b_Row_find 63 = .ok (.invokevirtual 208, 3) := by decide +kernel
theorem d_Row_find_66 : decode b_Row_find 66 = .ok (.ifCond .eq 59, 3) := by decide +kernel
theorem d_Row_find_69 : decode b_Row_find 69 = .ok (.aload_n 0, 1) := by decide +kernel
theorem d_Row_find_70 : decode b_Row_find 70 = .ok (.dup, 1) := by decide +kernel
theorem d_Row_find_71 : decode b_Row_find 71 = .ok (.getfield 55, 3) := by decide +kernel
theorem d_Row_find_74 : decode b_Row_find 74 = .ok (.iconst 1, 1) := by decide +kernel
theorem d_Row_find_75 : decode b_Row_find 75 = .ok (.iadd, 1) := by decide +kernel
theorem d_Row_find_76 : decode b_Row_find 76 = .ok (.putfield 55, 3) := by decide +kernel
theorem d_Row_find_79 : decode b_Row_find 79 = .ok (.aload_n 0, 1) := by decide +kernel
theorem d_Row_find_80 : decode b_Row_find 80 = .ok (.getfield 42, 3) := by decide +kernel
theorem d_Row_find_83 : decode b_Row_find 83 = .ok (.aload_n 0, 1) := by decide +kernel
theorem d_Row_find_84 : decode b_Row_find 84 = .ok (.getfield 10, 3) := by decide +kernel
theorem d_Row_find_87 : decode b_Row_find 87 = .ok (.getfield 70, 3) := by decide +kernel
theorem d_Row_find_90 : decode b_Row_find 90 = .ok (.iconst 0, 1) := by decide +kernel
theorem d_Row_find_91 : decode b_Row_find 91 = .ok (.iload_n 1, 1) := by decide +kernel
theorem d_Row_find_92 : decode b_Row_find 92 = .ok (.invokevirtual 211, 3) := by decide +kernel
theorem d_Row_find_95 : decode b_Row_find 95 = .ok (.istore 4, 2) := by decide +kernel
theorem d_Row_find_97 : decode b_Row_find 97 = .ok (.iload 4, 2) := by decide +kernel
theorem d_Row_find_99 : decode b_Row_find 99 = .ok (.ifCond .ne 12, 3) := by decide +kernel
theorem d_Row_find_102 : decode b_Row_find 102 = .ok (.aload_n 0, 1) := by decide +kernel
theorem d_Row_find_103 : decode b_Row_find 103 = .ok (.getfield 42, 3) := by decide +kernel
theorem d_Row_find_106 : decode b_Row_find 106 = .ok (.getfield 189, 3) := by decide +kernel
theorem d_Row_find_109 : decode b_Row_find 109 = .ok (.l2i, 1) := by decide +kernel
theorem d_Row_find_110 : decode b_Row_find 110 = .ok (.ireturn, 1) := by decide +kernel
theorem d_Row_find_111 : decode b_Row_find 111 = .ok (.iload 4, 2) := by decide +kernel
theorem d_Row_find_113 : decode b_Row_find 113 = .ok (.ifCond .le 6, 3) := by decide +kernel
theorem d_Row_find_116 : decode b_Row_find 116 = .ok (.bipush (-2), 2) := by decide +kernel
theorem d_Row_find_118 : decode b_Row_find 118 = .ok (.ireturn, 1) := by decide +kernel
theorem d_Row_find_119 : decode b_Row_find 119 = .ok (.iinc 3 1, 3) := by decide +kernel
theorem d_Row_find_122 : decode b_Row_find 122 = .ok (.goto (-68), 3) := by decide +kernel
theorem d_Row_find_125 : decode b_Row_find 125 = .ok (.bipush (-2), 2) := by decide +kernel
theorem d_Row_find_127 : decode b_Row_find 127 = .ok (.ireturn, 1) := by decide +kernel
theorem d_Lst_placeToLookFrom_0 : decode b_Lst_placeToLookFrom 0 = .ok (.iconst 0, 1) := by decide +kernel
theorem d_Lst_placeToLookFrom_1 : decode b_Lst_placeToLookFrom 1 = .ok (.istore_n 3, 1) := by decide +kernel
theorem d_Lst_placeToLookFrom_2 : decode b_Lst_placeToLookFrom 2 = .ok (.iconst 0, 1) := by decide +kernel
theorem d_Lst_placeToLookFrom_3 : decode b_Lst_placeToLookFrom 3 = .ok (.istore 4, 2) := by decide +kernel
theorem d_Lst_placeToLookFrom_5 : decode b_Lst_placeToLookFrom 5 = .ok (.iload 4, 2) := by decide +kernel
theorem d_Lst_placeToLookFrom_7 : decode b_Lst_placeToLookFrom 7 = .ok (.aload_n 0, 1) := by decide +kernel
theorem d_Lst_placeToLookFrom_8 : decode b_Lst_placeToLookFrom 8 = .ok (.getfield 28, 3) := by decide +kernel
theorem d_Lst_placeToLookFrom_11 : decode b_Lst_placeToLookFrom 11 = .ok (.invokevirtual 56, 3) := by decide +kernel
theorem d_Lst_placeToLookFrom_14 : decode b_Lst_placeToLookFrom 14 = .ok (.if_icmp .ge 50, 3) := by decide +kernel
theorem d_Lst_placeToLookFrom_17 : decode b_Lst_placeToLookFrom 17 = .ok (.aload_n 0, 1) := by decide +kernel
theorem d_Lst_placeToLookFrom_18 : decode b_Lst_placeToLookFrom 18 = .ok (.getfield 28, 3) := by decide +kernel
theorem d_Lst_placeToLookFrom_21 : decode b_Lst_placeToLookFrom 21 = .ok (.iload 4, 2) := by decide +kernel
theorem d_Lst_placeToLookFrom_23 : decode b_Lst_placeToLookFrom 23 = .ok (.invokevirtual 60, 3) := by decide +kernel
theorem d_Lst_placeToLookFrom_26 : decode b_Lst_placeToLookFrom 26 = .ok (.checkcast 125, 3) := by decide +kernel
theorem d_Lst_placeToLookFrom_29 : decode b_Lst_placeToLookFrom 29 = .ok (.astore 5, 2) := by decide +kernel
theorem d_Lst_placeToLookFrom_31 : decode b_Lst_placeToLookFrom 31 = .ok (.aload 5, 2) := by decide +kernel
theorem d_Lst_placeToLookFrom_33 : decode b_Lst_placeToLookFrom 33 = .ok (.getfield 140, 3) := by decide +kernel
theorem d_Lst_placeToLookFrom_36 : decode b_Lst_placeToLookFrom 36 = .ok (.iconst 0, 1) := by decide +kernel
theorem d_Lst_placeToLookFrom_37 : decode b_Lst_placeToLookFrom 37 = .ok (.aload 5, 2) := by decide +kernel
theorem d_Lst_placeToLookFrom_39 : decode b_Lst_placeToLookFrom 39 = .ok (.getfield 140, 3) := by decide +kernel
theorem d_Lst_placeToLookFrom_42 : decode b_Lst_placeToLookFrom 42 = .ok (.arraylength, 1) := by decide +kernel
theorem d_Lst_placeToLookFrom_43 : decode b_Lst_placeToLookFrom 43 = .ok (.aload_n 1, 1) := by decide +kernel
theorem d_Lst_placeToLookFrom_44 : decode b_Lst_placeToLookFrom 44 = .ok (.iconst 0, 1) := by decide +kernel
theorem d_Lst_placeToLookFrom_45 : decode b_Lst_placeToLookFrom 45 = .ok (.iload_n 2, 1) := by decide +kernel
theorem d_Lst_placeToLookFrom_46 : decode b_Lst_placeToLookFrom 46 = .ok (.invokestatic 141, 3) := by decide +kernel
theorem d_Lst_placeToLookFrom_49 : decode b_Lst_placeToLookFrom 49 = .ok (.ifCond .gt 9, 3) := by decide +kernel
theorem d_Lst_placeToLookFrom_52 : decode b_Lst_placeToLookFrom 52 = .ok (.aload 5, 2) := by decide +kernel
theorem d_Lst_placeToLookFrom_54 : decode b_Lst_placeToLookFrom 54 = .ok (.getfield 147, 3) := by decide +kernel
theorem d_Lst_placeToLookFrom_57 : decode b_Lst_placeToLookFrom 57 = .ok (.istore_n 3, 1) := by decide +kernel
theorem d_Lst_placeToLookFrom_58 : decode b_Lst_placeToLookFrom 58 = .ok (.iinc 4 1, 3) := by decide +kernel
theorem d_Lst_placeToLookFrom_61 : decode b_Lst_placeToLookFrom 61 = .ok (.goto (-56), 3) := by decide +kernel
theorem d_Lst_placeToLookFrom_64 : decode b_Lst_placeToLookFrom 64 = .ok (.iload_n 3, 1) := by decide +kernel
theorem d_Lst_placeToLookFrom_65 : decode b_Lst_placeToLookFrom 65 = .ok (.ireturn, 1) := by decide +kernel
theorem d_Row_passed_0 : decode b_Row_passed 0 = .ok (.aload_n 0, 1) := by decide +kernel
theorem d_Row_passed_1 : decode b_Row_passed 1 = .ok (.getfield 55, 3) := by decide +kernel
theorem d_Row_passed_4 : decode b_Row_passed 4 = .ok (.ireturn, 1) := by decide +kernel
theorem d_Mod_init_0 : decode b_Mod_init 0 = .ok (.aload_n 0, 1) := by decide +kernel
theorem d_Mod_init_1 : decode b_Mod_init 1 = .ok (.invokespecial 1, 3) := by decide +kernel
theorem d_Mod_init_4 : decode b_Mod_init 4 = .ok (.aload_n 0, 1) := by decide +kernel
theorem d_Mod_init_5 : decode b_Mod_init 5 = .ok (.sipush 300, 3) := by decide +kernel
theorem d_Mod_init_8 : decode b_Mod_init 8 = .ok (.newarray .int, 2) := by decide +kernel
theorem d_Mod_init_10 : decode b_Mod_init 10 = .ok (.putfield 7, 3) := by decide +kernel
theorem d_Mod_init_13 : decode b_Mod_init 13 = .ok (.aload_n 0, 1) := by decide +kernel
theorem d_Mod_init_14 : decode b_Mod_init 14 = .ok (.sipush 600, 3) := by decide +kernel
theorem d_Mod_init_17 : decode b_Mod_init 17 = .ok (.newarray .int, 2) := by decide +kernel
theorem d_Mod_init_19 : decode b_Mod_init 19 = .ok (.putfield 13, 3) := by decide +kernel
theorem d_Mod_init_22 : decode b_Mod_init 22 = .ok (.aload_n 0, 1) := by decide +kernel
theorem d_Mod_init_23 : decode b_Mod_init 23 = .ok (.ldc 16, 2) := by decide +kernel
theorem d_Mod_init_25 : decode b_Mod_init 25 = .ok (.newarray .byte, 2) := by decide +kernel
theorem d_Mod_init_27 : decode b_Mod_init 27 = .ok (.putfield 17, 3) := by decide +kernel
theorem d_Mod_init_30 : decode b_Mod_init 30 = .ok (.aload_n 0, 1) := by decide +kernel
theorem d_Mod_init_31 : decode b_Mod_init 31 = .ok (.sipush 600, 3) := by decide +kernel
theorem d_Mod_init_34 : decode b_Mod_init 34 = .ok (.newarray .int, 2) := by decide +kernel
theorem d_Mod_init_36 : decode b_Mod_init 36 = .ok (.putfield 21, 3) := by decide +kernel
theorem d_Mod_init_39 : decode b_Mod_init 39 = .ok (.aload_n 0, 1) := by decide +kernel
theorem d_Mod_init_40 : decode b_Mod_init 40 = .ok (.sipush 600, 3) := by decide +kernel
theorem d_Mod_init_43 : decode b_Mod_init 43 = .ok (.newarray .int, 2) := by decide +kernel
theorem d_Mod_init_45 : decode b_Mod_init 45 = .ok (.putfield 24, 3) := by decide +kernel
theorem d_Mod_init_48 : decode b_Mod_init 48 = .ok (.aload_n 0, 1) := by decide +kernel
theorem d_Mod_init_49 : decode b_Mod_init 49 = .ok (.sipush 600, 3) := by decide +kernel
theorem d_Mod_init_52 : decode b_Mod_init 52 = .ok (.newarray .int, 2) := by decide +kernel
theorem d_Mod_init_54 : decode b_Mod_init 54 = .ok (.putfield 27, 3) := by decide +kernel
theorem d_Mod_init_57 : decode b_Mod_init 57 = .ok (.aload_n 0, 1) := by decide +kernel
theorem d_Mod_init_58 : decode b_Mod_init 58 = .ok (.sipush 600, 3) := by decide +kernel
theorem d_Mod_init_61 : decode b_Mod_init 61 = .ok (.newarray .int, 2) := by decide +kernel
theorem d_Mod_init_63 : decode b_Mod_init 63 = .ok (.putfield 30, 3) := by decide +kernel
theorem d_Mod_init_66 : decode b_Mod_init 66 = .ok (.aload_n 0, 1) := by decide +kernel
theorem d_Mod_init_67 : decode b_Mod_init 67 = .ok (.sipush 1500, 3) := by decide +kernel
theorem d_Mod_init_70 : decode b_Mod_init 70 = .ok (.newarray .int, 2) := by decide +kernel
theorem d_Mod_init_72 : decode b_Mod_init 72 = .ok (.putfield 33, 3) := by decide +kernel
theorem d_Mod_init_75 : decode b_Mod_init 75 = .ok (.aload_n 0, 1) := by decide +kernel
theorem d_Mod_init_76 : decode b_Mod_init 76 = .ok (.sipush 1500, 3) := by decide +kernel
theorem d_Mod_init_79 : decode b_Mod_init 79 = .ok (.newarray .int, 2) := by decide +kernel
theorem d_Mod_init_81 : decode b_Mod_init 81 = .ok (.putfield 36, 3) := by decide +kernel
theorem d_Mod_init_84 : decode b_Mod_init 84 = .ok (.aload_n 0, 1) := by decide +kernel
theorem d_Mod_init_85 : decode b_Mod_init 85 = .ok (.sipush 1500, 3) := by decide +kernel
theorem d_Mod_init_88 : decode b_Mod_init 88 = .ok (.newarray .int, 2) := by decide +kernel
theorem d_Mod_init_90 : decode b_Mod_init 90 = .ok (.putfield 39, 3) := by decide +kernel
theorem d_Mod_init_93 : decode b_Mod_init 93 = .ok (.aload_n 0, 1) := by decide +kernel
theorem d_Mod_init_94 : decode b_Mod_init 94 = .ok (.sipush 1500, 3) := by decide +kernel
theorem d_Mod_init_97 : decode b_Mod_init 97 = .ok (.newarray .int, 2) := by decide +kernel
theorem d_Mod_init_99 : decode b_Mod_init 99 = .ok (.putfield 42, 3) := by decide +kernel
theorem d_Mod_init_102 : decode b_Mod_init 102 = .ok (.aload_n 0, 1) := by decide +kernel
theorem d_Mod_init_103 : decode b_Mod_init 103 = .ok (.ldc 45, 2) := by decide +kernel
theorem d_Mod_init_105 : decode b_Mod_init 105 = .ok (.newarray .byte, 2) := by decide +kernel
theorem d_Mod_init_107 : decode b_Mod_init 107 = .ok (.putfield 46, 3) := by decide +kernel
theorem d_Mod_init_110 : decode b_Mod_init 110 = .ok (.aload_n 0, 1) := by decide +kernel
theorem d_Mod_init_111 : decode b_Mod_init 111 = .ok (.bipush 16, 2) := by decide +kernel
theorem d_Mod_init_113 : decode b_Mod_init 113 = .ok (.newarray .int, 2) := by decide +kernel
theorem d_Mod_init_115 : decode b_Mod_init 115 = .ok (.putfield 49, 3) := by decide +kernel
theorem d_Mod_init_118 : decode b_Mod_init 118 = .ok (.aload_n 0, 1) := by decide +kernel
theorem d_Mod_init_119 : decode b_Mod_init 119 = .ok (.bipush 16, 2) := by decide +kernel
theorem d_Mod_init_121 : decode b_Mod_init 121 = .ok (.newarray .int, 2) := by decide +kernel
theorem d_Mod_init_123 : decode b_Mod_init 123 = .ok (.putfield 52, 3) := by decide +kernel
theorem d_Mod_init_126 : decode b_Mod_init 126 = .ok (.aload_n 0, 1) := by decide +kernel
theorem d_Mod_init_127 : decode b_Mod_init 127 = .ok (.bipush 16, 2) := by decide +kernel
theorem d_Mod_init_129 : decode b_Mod_init 129 = .ok (.newarray .int, 2) := by decide +kernel
theorem d_Mod_init_131 : decode b_Mod_init 131 = .ok (.putfield 55, 3) := by decide +kernel
theorem d_Mod_init_134 : decode b_Mod_init 134 = .ok (.aload_n 0, 1) := by decide +kernel
theorem d_Mod_init_135 : decode b_Mod_init 135 = .ok (.sipush 4096, 3) := by decide +kernel
theorem d_Mod_init_138 : decode b_Mod_init 138 = .ok (.newarray .int, 2) := by decide +kernel
theorem d_Mod_init_140 : decode b_Mod_init 140 = .ok (.putfield 58, 3) := by decide +kernel
theorem d_Mod_init_143 : decode b_Mod_init 143 = .ok (.aload_n 0, 1) := by decide +kernel
theorem d_Mod_init_144 : decode b_Mod_init 144 = .ok (.sipush 600, 3) := by decide +kernel
theorem d_Mod_init_147 : decode b_Mod_init 147 = .ok (.newarray .int, 2) := by decide +kernel
theorem d_Mod_init_149 : decode b_Mod_init 149 = .ok (.putfield 61, 3) := by decide +kernel
theorem d_Mod_init_152 : decode b_Mod_init 152 = .ok (.return_, 1) := by decide +kernel
theorem d_Mod_feed_0 : decode b_Mod_feed 0 = .ok (.iload_n 3, 1) := by decide +kernel
theorem d_Mod_feed_1 : decode b_Mod_feed 1 = .ok (.iconst 1, 1) := by decide +kernel
theorem d_Mod_feed_2 : decode b_Mod_feed 2 = .ok (.if_icmp .lt 9, 3) := by decide +kernel
theorem d_Mod_feed_5 : decode b_Mod_feed 5 = .ok (.iload_n 3, 1) := by decide +kernel
theorem d_Mod_feed_6 : decode b_Mod_feed 6 = .ok (.bipush 8, 2) := by decide +kernel
theorem d_Mod_feed_8 : decode b_Mod_feed 8 = .ok (.if_icmp .le 5, 3) := by decide +kernel
theorem d_Mod_feed_11 : decode b_Mod_feed 11 = .ok (.iconst (-1), 1) := by decide +kernel
theorem d_Mod_feed_12 : decode b_Mod_feed 12 = .ok (.ireturn, 1) := by decide +kernel
theorem d_Mod_feed_13 : decode b_Mod_feed 13 = .ok (.aload_n 0, 1) := by decide +kernel
theorem d_Mod_feed_14 : decode b_Mod_feed 14 = .ok (.getfield 64, 3) := by decide +kernel
theorem d_Mod_feed_17 : decode b_Mod_feed 17 = .ok (.iload_n 3, 1) := by decide +kernel
theorem d_Mod_feed_18 : decode b_Mod_feed 18 = .ok (.iadd, 1) := by decide +kernel
theorem d_Mod_feed_19 : decode b_Mod_feed 19 = .ok (.sipush 300, 3) := by decide +kernel
theorem d_Mod_feed_22 : decode b_Mod_feed 22 = .ok (.if_icmp .le 6, 3) := by decide +kernel
theorem d_Mod_feed_25 : decode b_Mod_feed 25 = .ok (.bipush (-4), 2) := by decide +kernel
theorem d_Mod_feed_27 : decode b_Mod_feed 27 = .ok (.ireturn, 1) := by decide +kernel
theorem d_Mod_feed_28 : decode b_Mod_feed 28 = .ok (.iconst 0, 1) := by decide +kernel
theorem d_Mod_feed_29 : decode b_Mod_feed 29 = .ok (.istore 4, 2) := by decide +kernel
theorem d_Mod_feed_31 : decode b_Mod_feed 31 = .ok (.iload 4, 2) := by decide +kernel
theorem d_Mod_feed_33 : decode b_Mod_feed 33 = .ok (.iload_n 3, 1) := by decide +kernel
theorem d_Mod_feed_34 : decode b_Mod_feed 34 = .ok (.if_icmp .ge 40, 3) := by decide +kernel
theorem d_Mod_feed_37 : decode b_Mod_feed 37 = .ok (.aload_n 0, 1) := by decide +kernel
theorem d_Mod_feed_38 : decode b_Mod_feed 38 = .ok (.getfield 7, 3) := by decide +kernel
theorem d_Mod_feed_41 : decode b_Mod_feed 41 = .ok (.aload_n 0, 1) := by decide +kernel
theorem d_Mod_feed_42 : decode b_Mod_feed 42 = .ok (.getfield 64, 3) := by decide +kernel
theorem d_Mod_feed_45 : decode b_Mod_feed 45 = .ok (.lload_n 1, 1) := by decide +kernel
theorem d_Mod_feed_46 : decode b_Mod_feed 46 = .ok (.bipush 8, 2) := by decide +kernel
theorem d_Mod_feed_48 : decode b_Mod_feed 48 = .ok (.iload 4, 2) := by decide +kernel
theorem d_Mod_feed_50 : decode b_Mod_feed 50 = .ok (.imul, 1) := by decide +kernel
theorem d_Mod_feed_51 : decode b_Mod_feed 51 = .ok (.lshr, 1) := by decide +kernel
theorem d_Mod_feed_52 : decode b_Mod_feed 52 = .ok (.ldc2_w 68, 3) := by decide +kernel
theorem d_Mod_feed_55 : decode b_Mod_feed 55 = .ok (.land, 1) := by decide +kernel
theorem d_Mod_feed_56 : decode b_Mod_feed 56 = .ok (.l2i, 1) := by decide +kernel
theorem d_Mod_feed_57 : decode b_Mod_feed 57 = .ok (.iastore, 1) := by decide +kernel
theorem d_Mod_feed_58 : decode b_Mod_feed 58 = .ok (.aload_n 0, 1) := by decide +kernel
theorem d_Mod_feed_59 : decode b_Mod_feed 59 = .ok (.dup, 1) := by decide +kernel
theorem d_Mod_feed_60 : decode b_Mod_feed 60 = .ok (.getfield 64, 3) := by decide +kernel
theorem d_Mod_feed_63 : decode b_Mod_feed 63 = .ok (.iconst 1, 1) := by decide +kernel
theorem d_Mod_feed_64 : decode b_Mod_feed 64 = .ok (.iadd, 1) := by decide +kernel
theorem d_Mod_feed_65 : decode b_Mod_feed 65 = .ok (.putfield 64, 3) := by decide +kernel
theorem d_Mod_feed_68 : decode b_Mod_feed 68 = .ok (.iinc 4 1, 3) := by decide +kernel
theorem d_Mod_feed_71 : decode b_Mod_feed 71 = .ok (.goto (-40), 3) := by decide +kernel
theorem d_Mod_feed_74 : decode b_Mod_feed 74 = .ok (.aload_n 0, 1) := by decide +kernel
theorem d_Mod_feed_75 : decode b_Mod_feed 75 = .ok (.getfield 64, 3) := by decide +kernel
theorem d_Mod_feed_78 : decode b_Mod_feed 78 = .ok (.ireturn, 1) := by decide +kernel
