theorem d_Row_set_0 : decode b_Row_set 0 = .ok (.aload_n 0, 1) := by decide +kernel
theorem d_Row_set_1 : decode b_Row_set 1 = .ok (.getfield 10, 3) := by decide +kernel
theorem d_Row_set_4 : decode b_Row_set 4 = .ok (.invokevirtual 66, 3) := by decide +kernel
theorem d_Row_set_7 : decode b_Row_set 7 = .ok (.istore 4, 2) := by decide +kernel
theorem d_Row_set_9 : decode b_Row_set 9 = .ok (.iload 4, 2) := by decide +kernel
theorem d_Row_set_11 : decode b_Row_set 11 = .ok (.iconst 1, 1) := by decide +kernel
theorem d_Row_set_12 : decode b_Row_set 12 = .ok (.if_icmp .lt 11, 3) := by decide +kernel
theorem d_Row_set_15 : decode b_Row_set 15 = .ok (.iload 4, 2) := by decide +kernel
theorem d_Row_set_17 : decode b_Row_set 17 = .ok (.sipush 256, 3) := by decide +kernel
theorem d_Row_set_20 : decode b_Row_set 20 = .ok (.if_icmp .le 5, 3) := by decide +kernel
theorem d_Row_set_23 : decode b_Row_set 23 = .ok (.iconst (-1), 1) := by decide +kernel
theorem d_Row_set_24 : decode b_Row_set 24 = .ok (.ireturn, 1) := by decide +kernel
theorem d_Row_set_25 : decode b_Row_set 25 = .ok (.aload_n 0, 1) := by decide +kernel
theorem d_Row_set_26 : decode b_Row_set 26 = .ok (.getfield 33, 3) := by decide +kernel
theorem d_Row_set_29 : decode b_Row_set 29 = .ok (.iload_n 1, 1) := by decide +kernel
theorem d_Row_set_30 : decode b_Row_set 30 = .ok (.invokevirtual 157, 3) := by decide +kernel
theorem d_Row_set_33 : decode b_Row_set 33 = .ok (.ifCond .ne 6, 3) := by decide +kernel
theorem d_Row_set_36 : decode b_Row_set 36 = .ok (.bipush (-2), 2) := by decide +kernel
theorem d_Row_set_38 : decode b_Row_set 38 = .ok (.ireturn, 1) := by decide +kernel
theorem d_Row_set_39 : decode b_Row_set 39 = .ok (.aload_n 0, 1) := by decide +kernel
theorem d_Row_set_40 : decode b_Row_set 40 = .ok (.getfield 33, 3) := by decide +kernel
theorem d_Row_set_43 : decode b_Row_set 43 = .ok (.getfield 141, 3) := by decide +kernel
theorem d_Row_set_46 : decode b_Row_set 46 = .ok (.iload_n 1, 1) := by decide +kernel
theorem d_Row_set_47 : decode b_Row_set 47 = .ok (.new 164, 3) := by decide +kernel
theorem d_Row_set_50 : decode b_Row_set 50 = .ok (.dup, 1) := by decide +kernel
theorem d_Row_set_51 : decode b_Row_set 51 = .ok (.iload_n 2, 1) := by decide +kernel
theorem d_Row_set_52 : decode b_Row_set 52 = .ok (.iload_n 3, 1) := by decide +kernel
theorem d_Row_set_53 : decode b_Row_set 53 = .ok (.aload_n 0, 1) := by decide +kernel
theorem d_Row_set_54 : decode b_Row_set 54 = .ok (.getfield 10, 3) := by decide +kernel
theorem d_Row_set_57 : decode b_Row_set 57 = .ok (.getfield 70, 3) := by decide +kernel
theorem d_Row_set_60 : decode b_Row_set 60 = .ok (.iload 4, 2) := by decide +kernel
theorem d_Row_set_62 : decode b_Row_set 62 = .ok (.invokestatic 102, 3) := by decide +kernel
theorem d_Row_set_65 : decode b_Row_set 65 = .ok (.invokespecial 176, 3) := by decide +kernel
theorem d_Row_set_68 : decode b_Row_set 68 = .ok (.invokevirtual 179, 3) := by decide +kernel
theorem d_Row_set_71 : decode b_Row_set 71 = .ok (.pop, 1) := by decide +kernel
theorem d_Row_set_72 : decode b_Row_set 72 = .ok (.aload_n 0, 1) := by decide +kernel
theorem d_Row_set_73 : decode b_Row_set 73 = .ok (.getfield 51, 3) := by decide +kernel
theorem d_Row_set_76 : decode b_Row_set 76 = .ok (.invokevirtual 119, 3) := by decide +kernel
theorem d_Row_set_79 : decode b_Row_set 79 = .ok (.iconst 0, 1) := by decide +kernel
theorem d_Row_set_80 : decode b_Row_set 80 = .ok (.ireturn, 1) := by decide +kernel
theorem d_Row_check_0 : decode b_Row_check 0 = .ok (.aload_n 0, 1) := by decide +kernel
theorem d_Row_check_1 : decode b_Row_check 1 = .ok (.getfield 51, 3) := by decide +kernel
theorem d_Row_check_4 : decode b_Row_check 4 = .ok (.invokevirtual 183, 3) := by decide +kernel
theorem d_Row_check_7 : decode b_Row_check 7 = .ok (.ireturn, 1) := by decide +kernel
theorem d_Judge_entriesIfRight_0 : decode b_Judge_entriesIfRight 0 = .ok (.aload_n 0, 1) := by decide +kernel
theorem d_Judge_entriesIfRight_1 : decode b_Judge_entriesIfRight 1 = .ok (.getfield 11, 3) := by decide +kernel
theorem d_Judge_entriesIfRight_4 : decode b_Judge_entriesIfRight 4 = .ok (.bipush (-3), 2) := by decide +kernel
theorem d_Judge_entriesIfRight_6 : decode b_Judge_entriesIfRight 6 = .ok (.if_icmp .ne 11, 3) := by decide +kernel
theorem d_Judge_entriesIfRight_9 : decode b_Judge_entriesIfRight 9 = .ok (.aload_n 0, 1) := by decide +kernel
theorem d_Judge_entriesIfRight_10 : decode b_Judge_entriesIfRight 10 = .ok (.aload_n 0, 1) := by decide +kernel
theorem d_Judge_entriesIfRight_11 : decode b_Judge_entriesIfRight 11 = .ok (.invokevirtual 30, 3) := by decide +kernel
theorem d_Judge_entriesIfRight_14 : decode b_Judge_entriesIfRight 14 = .ok (.putfield 11, 3) := by decide +kernel
theorem d_Judge_entriesIfRight_17 : decode b_Judge_entriesIfRight 17 = .ok (.aload_n 0, 1) := by decide +kernel
theorem d_Judge_entriesIfRight_18 : decode b_Judge_entriesIfRight 18 = .ok (.getfield 11, 3) := by decide +kernel
theorem d_Judge_entriesIfRight_21 : decode b_Judge_entriesIfRight 21 = .ok (.ireturn, 1) := by decide +kernel
theorem d_Judge_judgeAnew_0 : decode b_Judge_judgeAnew 0 = .ok (.aload_n 0, 1) := by decide +kernel
theorem d_Judge_judgeAnew_1 : decode b_Judge_judgeAnew 1 = .ok (.getfield 22, 3) := by decide +kernel
theorem d_Judge_judgeAnew_4 : decode b_Judge_judgeAnew 4 = .ok (.iconst 0, 1) := by decide +kernel
theorem d_Judge_judgeAnew_5 : decode b_Judge_judgeAnew 5 = .ok (.invokevirtual 34, 3) := by decide +kernel
theorem d_Judge_judgeAnew_8 : decode b_Judge_judgeAnew 8 = .ok (.aload_n 0, 1) := by decide +kernel
theorem d_Judge_judgeAnew_9 : decode b_Judge_judgeAnew 9 = .ok (.iconst 0, 1) := by decide +kernel
theorem d_Judge_judgeAnew_10 : decode b_Judge_judgeAnew 10 = .ok (.putfield 15, 3) := by decide +kernel
theorem d_Judge_judgeAnew_13 : decode b_Judge_judgeAnew 13 = .ok (.iconst 0, 1) := by decide +kernel
theorem d_Judge_judgeAnew_14 : decode b_Judge_judgeAnew 14 = .ok (.istore_n 1, 1) := by decide +kernel
theorem d_Judge_judgeAnew_15 : decode b_Judge_judgeAnew 15 = .ok (.iconst 0, 1) := by decide +kernel
theorem d_Judge_judgeAnew_16 : decode b_Judge_judgeAnew 16 = .ok (.istore_n 2, 1) := by decide +kernel
theorem d_Judge_judgeAnew_17 : decode b_Judge_judgeAnew 17 = .ok (.iconst 0, 1) := by decide +kernel
theorem d_Judge_judgeAnew_18 : decode b_Judge_judgeAnew 18 = .ok (.istore_n 3, 1) := by decide +kernel
theorem d_Judge_judgeAnew_19 : decode b_Judge_judgeAnew 19 = .ok (.iload_n 3, 1) := by decide +kernel
theorem d_Judge_judgeAnew_20 : decode b_Judge_judgeAnew 20 = .ok (.aload_n 0, 1) := by decide +kernel
theorem d_Judge_judgeAnew_21 : decode b_Judge_judgeAnew 21 = .ok (.getfield 18, 3) := by decide +kernel
theorem d_Judge_judgeAnew_24 : decode b_Judge_judgeAnew 24 = .ok (.getfield 40, 3) := by decide +kernel
theorem d_Judge_judgeAnew_27 : decode b_Judge_judgeAnew 27 = .ok (.if_icmp .gt 111, 3) := by decide +kernel
theorem d_Judge_judgeAnew_30 : decode b_Judge_judgeAnew 30 = .ok (.aload_n 0, 1) := by decide +kernel
theorem d_Judge_judgeAnew_31 : decode b_Judge_judgeAnew 31 = .ok (.getfield 22, 3) := by decide +kernel
theorem d_Judge_judgeAnew_34 : decode b_Judge_judgeAnew 34 = .ok (.invokevirtual 45, 3) := by decide +kernel
theorem d_Judge_judgeAnew_37 : decode b_Judge_judgeAnew 37 = .ok (.ifCond .eq 27, 3) := by decide +kernel
theorem d_Judge_judgeAnew_40 : decode b_Judge_judgeAnew 40 = .ok (.aload_n 0, 1) := by decide +kernel
theorem d_Judge_judgeAnew_41 : decode b_Judge_judgeAnew 41 = .ok (.getfield 15, 3) := by decide +kernel
theorem d_Judge_judgeAnew_44 : decode b_Judge_judgeAnew 44 = .ok (.aload_n 0, 1) := by decide +kernel
theorem d_Judge_judgeAnew_45 : decode b_Judge_judgeAnew 45 = .ok (.getfield 18, 3) := by decide +kernel
theorem d_Judge_judgeAnew_48 : decode b_Judge_judgeAnew 48 = .ok (.getfield 49, 3) := by decide +kernel
theorem d_Judge_judgeAnew_51 : decode b_Judge_judgeAnew 51 = .ok (.invokevirtual 53, 3) := by decide +kernel
theorem d_Judge_judgeAnew_54 : decode b_Judge_judgeAnew 54 = .ok (.if_icmp .ne 7, 3) := by decide +kernel
theorem d_Judge_judgeAnew_57 : decode b_Judge_judgeAnew 57 = .ok (.iload_n 3, 1) := by decide +kernel
theorem d_Judge_judgeAnew_58 : decode b_Judge_judgeAnew 58 = .ok (.goto 5, 3) := by decide +kernel
theorem d_Judge_judgeAnew_61 : decode b_Judge_judgeAnew 61 = .ok (.bipush (-2), 2) := by decide +kernel
theorem d_Judge_judgeAnew_63 : decode b_Judge_judgeAnew 63 = .ok (.ireturn, 1) := by decide +kernel
theorem d_Judge_judgeAnew_64 : decode b_Judge_judgeAnew 64 = .ok (.aload_n 0, 1) := by decide +kernel
theorem d_Judge_judgeAnew_65 : decode b_Judge_judgeAnew 65 = .ok (.getfield 22, 3) := by decide +kernel
theorem d_Judge_judgeAnew_68 : decode b_Judge_judgeAnew 68 = .ok (.invokevirtual 58, 3) := by decide +kernel
theorem d_Judge_judgeAnew_71 : decode b_Judge_judgeAnew 71 = .ok (.ifCond .eq 12, 3) := by decide +kernel
theorem d_Judge_judgeAnew_74 : decode b_Judge_judgeAnew 74 = .ok (.aload_n 0, 1) := by decide +kernel
theorem d_Judge_judgeAnew_75 : decode b_Judge_judgeAnew 75 = .ok (.iload_n 1, 1) := by decide +kernel
theorem d_Judge_judgeAnew_76 : decode b_Judge_judgeAnew 76 = .ok (.iload_n 2, 1) := by decide +kernel
theorem d_Judge_judgeAnew_77 : decode b_Judge_judgeAnew 77 = .ok (.invokevirtual 61, 3) := by decide +kernel
theorem d_Judge_judgeAnew_80 : decode b_Judge_judgeAnew 80 = .ok (.ifCond .ne 6, 3) := by decide +kernel
theorem d_Judge_judgeAnew_83 : decode b_Judge_judgeAnew 83 = .ok (.bipush (-2), 2) := by decide +kernel
theorem d_Judge_judgeAnew_85 : decode b_Judge_judgeAnew 85 = .ok (.ireturn, 1) := by decide +kernel
theorem d_Judge_judgeAnew_86 : decode b_Judge_judgeAnew 86 = .ok (.aload_n 0, 1) := by decide +kernel
theorem d_Judge_judgeAnew_87 : decode b_Judge_judgeAnew 87 = .ok (.getfield 22, 3) := by decide +kernel
theorem d_Judge_judgeAnew_90 : decode b_Judge_judgeAnew 90 = .ok (.getfield 65, 3) := by decide +kernel
theorem d_Judge_judgeAnew_93 : decode b_Judge_judgeAnew 93 = .ok (.ifCond .eq 23, 3) := by decide +kernel
theorem d_Judge_judgeAnew_96 : decode b_Judge_judgeAnew 96 = .ok (.aload_n 0, 1) := by decide +kernel
theorem d_Judge_judgeAnew_97 : decode b_Judge_judgeAnew 97 = .ok (.getfield 22, 3) := by decide +kernel
theorem d_Judge_judgeAnew_100 : decode b_Judge_judgeAnew 100 = .ok (.getfield 69, 3) := by decide +kernel
theorem d_Judge_judgeAnew_103 : decode b_Judge_judgeAnew 103 = .ok (.ifCond .le 13, 3) := by decide +kernel
theorem d_Judge_judgeAnew_106 : decode b_Judge_judgeAnew 106 = .ok (.aload_n 0, 1) := by decide +kernel
theorem d_Judge_judgeAnew_107 : decode b_Judge_judgeAnew 107 = .ok (.invokevirtual 72, 3) := by decide +kernel
theorem d_Judge_judgeAnew_110 : decode b_Judge_judgeAnew 110 = .ok (.ifCond .ne 6, 3) := by decide +kernel
theorem d_Judge_judgeAnew_113 : decode b_Judge_judgeAnew 113 = .ok (.bipush (-2), 2) := by decide +kernel
theorem d_Judge_judgeAnew_115 : decode b_Judge_judgeAnew 115 = .ok (.ireturn, 1) := by decide +kernel
theorem d_Judge_judgeAnew_116 : decode b_Judge_judgeAnew 116 = .ok (.aload_n 0, 1) := by decide +kernel
theorem d_Judge_judgeAnew_117 : decode b_Judge_judgeAnew 117 = .ok (.getfield 22, 3) := by decide +kernel
theorem d_Judge_judgeAnew_120 : decode b_Judge_judgeAnew 120 = .ok (.getfield 75, 3) := by decide +kernel
theorem d_Judge_judgeAnew_123 : decode b_Judge_judgeAnew 123 = .ok (.istore_n 1, 1) := by decide +kernel
theorem d_Judge_judgeAnew_124 : decode b_Judge_judgeAnew 124 = .ok (.aload_n 0, 1) := by decide +kernel
theorem d_Judge_judgeAnew_125 : decode b_Judge_judgeAnew 125 = .ok (.getfield 22, 3) := by decide +kernel
theorem d_Judge_judgeAnew_128 : decode b_Judge_judgeAnew 128 = .ok (.getfield 78, 3) := by decide +kernel
theorem d_Judge_judgeAnew_131 : decode b_Judge_judgeAnew 131 = .ok (.istore_n 2, 1) := by decide +kernel
theorem d_Judge_judgeAnew_132 : decode b_Judge_judgeAnew 132 = .ok (.iinc 3 1, 3) := by decide +kernel
theorem d_Judge_judgeAnew_135 : decode b_Judge_judgeAnew 135 = .ok (.goto (-116), 3) := by decide +kernel
theorem d_Judge_judgeAnew_138 : decode b_Judge_judgeAnew 138 = .ok (.bipush (-2), 2) := by decide +kernel
theorem d_Judge_judgeAnew_140 : decode b_Judge_judgeAnew 140 = .ok (.ireturn, 1) := by decide +kernel
theorem d_Walk_goTo_0 : decode b_Walk_goTo 0 = .ok (.aload_n 0, 1) := by decide +kernel
theorem d_Walk_goTo_1 : decode b_Walk_goTo 1 = .ok (.iload_n 1, 1) := by decide +kernel
theorem d_Walk_goTo_2 : decode b_Walk_goTo 2 = .ok (.putfield 15, 3) := by decide +kernel
theorem d_Walk_goTo_5 : decode b_Walk_goTo 5 = .ok (.aload_n 0, 1) := by decide +kernel
theorem d_Walk_goTo_6 : decode b_Walk_goTo 6 = .ok (.iconst 0, 1) := by decide +kernel
theorem d_Walk_goTo_7 : decode b_Walk_goTo 7 = .ok (.putfield 19, 3) := by decide +kernel
theorem d_Walk_goTo_10 : decode b_Walk_goTo 10 = .ok (.return_, 1) := by decide +kernel
theorem d_Walk_isAtEnd_0 : decode b_Walk_isAtEnd 0 = .ok (.aload_n 0, 1) := by decide +kernel
theorem d_Walk_isAtEnd_1 : decode b_Walk_isAtEnd 1 = .ok (.getfield 19, 3) := by decide +kernel
theorem d_Walk_isAtEnd_4 : decode b_Walk_isAtEnd 4 = .ok (.ifCond .ne 21, 3) := by decide +kernel
theorem d_Walk_isAtEnd_7 : decode b_Walk_isAtEnd 7 = .ok (.aload_n 0, 1) := by decide +kernel
theorem d_Walk_isAtEnd_8 : decode b_Walk_isAtEnd 8 = .ok (.getfield 15, 3) := by decide +kernel
theorem d_Walk_isAtEnd_11 : decode b_Walk_isAtEnd 11 = .ok (.aload_n 0, 1) := by decide +kernel
theorem d_Walk_isAtEnd_12 : decode b_Walk_isAtEnd 12 = .ok (.getfield 9, 3) := by decide +kernel
theorem d_Walk_isAtEnd_15 : decode b_Walk_isAtEnd 15 = .ok (.getfield 30, 3) := by decide +kernel
theorem d_Walk_isAtEnd_18 : decode b_Walk_isAtEnd 18 = .ok (.if_icmp .ne 7, 3) := by decide +kernel
theorem d_Walk_isAtEnd_21 : decode b_Walk_isAtEnd 21 = .ok (.iconst 1, 1) := by decide +kernel
theorem d_Walk_isAtEnd_22 : decode b_Walk_isAtEnd 22 = .ok (.goto 4, 3) := by decide +kernel
theorem d_Walk_isAtEnd_25 : decode b_Walk_isAtEnd 25 = .ok (.iconst 0, 1) := by decide +kernel
theorem d_Walk_isAtEnd_26 : decode b_Walk_isAtEnd 26 = .ok (.ireturn, 1) := by decide +kernel
theorem d_Walk_step_0 : decode b_Walk_step 0 = .ok (.aload_n 0, 1) := by decide +kernel
theorem d_Walk_step_1 : decode b_Walk_step 1 = .ok (.aload_n 0, 1) := by decide +kernel
theorem d_Walk_step_2 : decode b_Walk_step 2 = .ok (.getfield 19, 3) := by decide +kernel
theorem d_Walk_step_5 : decode b_Walk_step 5 = .ok (.ifCond .ne 7, 3) := by decide +kernel
theorem d_Walk_step_8 : decode b_Walk_step 8 = .ok (.iconst 1, 1) := by decide +kernel
theorem d_Walk_step_9 : decode b_Walk_step 9 = .ok (.goto 4, 3) := by decide +kernel
theorem d_Walk_step_12 : decode b_Walk_step 12 = .ok (.iconst 0, 1) := by decide +kernel
theorem d_Walk_step_13 : decode b_Walk_step 13 = .ok (.putfield 35, 3) := by decide +kernel
theorem d_Walk_step_16 : decode b_Walk_step 16 = .ok (.aload_n 0, 1) := by decide +kernel
theorem d_Walk_step_17 : decode b_Walk_step 17 = .ok (.getfield 35, 3) := by decide +kernel
theorem d_Walk_step_20 : decode b_Walk_step 20 = .ok (.ifCond .eq 10, 3) := by decide +kernel
theorem d_Walk_step_23 : decode b_Walk_step 23 = .ok (.aload_n 0, 1) := by decide +kernel
theorem d_Walk_step_24 : decode b_Walk_step 24 = .ok (.invokevirtual 39, 3) := by decide +kernel
theorem d_Walk_step_27 : decode b_Walk_step 27 = .ok (.ifCond .eq 14, 3) := by decide +kernel
theorem d_Walk_step_30 : decode b_Walk_step 30 = .ok (.aload_n 0, 1) := by decide +kernel
theorem d_Walk_step_31 : decode b_Walk_step 31 = .ok (.invokevirtual 42, 3) := by decide +kernel
theorem d_Walk_step_34 : decode b_Walk_step 34 = .ok (.ifCond .eq 7, 3) := by decide +kernel
theorem d_Walk_step_37 : decode b_Walk_step 37 = .ok (.iconst 1, 1) := by decide +kernel
theorem d_Walk_step_38 : decode b_Walk_step 38 = .ok (.goto 4, 3) := by decide +kernel
theorem d_Walk_step_41 : decode b_Walk_step 41 = .ok (.iconst 0, 1) := by decide +kernel
theorem d_Walk_step_42 : decode b_Walk_step 42 = .ok (.ireturn, 1) := by decide +kernel
theorem d_Walk_readHeader_0 : decode b_Walk_readHeader 0 = .ok (.aload_n 0, 1) := by decide +kernel
theorem d_Walk_readHeader_1 : decode b_Walk_readHeader 1 = .ok (.getfield 9, 3) := by decide +kernel
theorem d_Walk_readHeader_4 : decode b_Walk_readHeader 4 = .ok (.getfield 30, 3) := by decide +kernel
theorem d_Walk_readHeader_7 : decode b_Walk_readHeader 7 = .ok (.aload_n 0, 1) := by decide +kernel
theorem d_Walk_readHeader_8 : decode b_Walk_readHeader 8 = .ok (.getfield 15, 3) := by decide +kernel
theorem d_Walk_readHeader_11 : decode b_Walk_readHeader 11 = .ok (.isub, 1) := by decide +kernel
theorem d_Walk_readHeader_12 : decode b_Walk_readHeader 12 = .ok (.bipush 12, 2) := by decide +kernel
theorem d_Walk_readHeader_14 : decode b_Walk_readHeader 14 = .ok (.if_icmp .lt 21, 3) := by decide +kernel
theorem d_Walk_readHeader_17 : decode b_Walk_readHeader 17 = .ok (.aload_n 0, 1) := by decide +kernel
theorem d_Walk_readHeader_18 : decode b_Walk_readHeader 18 = .ok (.getfield 9, 3) := by decide +kernel
theorem d_Walk_readHeader_21 : decode b_Walk_readHeader 21 = .ok (.aload_n 0, 1) := by decide +kernel
theorem d_Walk_readHeader_22 : decode b_Walk_readHeader 22 = .ok (.getfield 15, 3) := by decide +kernel
theorem d_Walk_readHeader_25 : decode b_Walk_readHeader 25 = .ok (.invokevirtual 45, 3) := by decide +kernel
theorem d_Walk_readHeader_28 : decode b_Walk_readHeader 28 = .ok (.ldc2_w 49, 3) := by decide +kernel
theorem d_Walk_readHeader_31 : decode b_Walk_readHeader 31 = .ok (.lcmp, 1) := by decide +kernel
theorem d_Walk_readHeader_32 : decode b_Walk_readHeader 32 = .ok (.ifCond .lt 5, 3) := by decide +kernel
theorem d_Walk_readHeader_35 : decode b_Walk_readHeader 35 = .ok (.iconst 0, 1) := by decide +kernel
theorem d_Walk_readHeader_36 : decode b_Walk_readHeader 36 = .ok (.ireturn, 1) := by decide +kernel
theorem d_Walk_readHeader_37 : decode b_Walk_readHeader 37 = .ok (.aload_n 0, 1) := by decide +kernel
theorem d_Walk_readHeader_38 : decode b_Walk_readHeader 38 = .ok (.aload_n 0, 1) := by decide +kernel
theorem d_Walk_readHeader_39 : decode b_Walk_readHeader 39 = .ok (.getfield 15, 3) := by decide +kernel
theorem d_Walk_readHeader_42 : decode b_Walk_readHeader 42 = .ok (.putfield 51, 3) := by decide +kernel
theorem d_Walk_readHeader_45 : decode b_Walk_readHeader 45 = .ok (.aload_n 0, 1) := by decide +kernel
theorem d_Walk_readHeader_46 : decode b_Walk_readHeader 46 = .ok (.aload_n 0, 1) := by decide +kernel
theorem d_Walk_readHeader_47 : decode b_Walk_readHeader 47 = .ok (.getfield 9, 3) := by decide +kernel
theorem d_Walk_readHeader_50 : decode b_Walk_readHeader 50 = .ok (.aload_n 0, 1) := by decide +kernel
theorem d_Walk_readHeader_51 : decode b_Walk_readHeader 51 = .ok (.getfield 15, 3) := by decide +kernel
theorem d_Walk_readHeader_54 : decode b_Walk_readHeader 54 = .ok (.invokevirtual 45, 3) := by decide +kernel
theorem d_Walk_readHeader_57 : decode b_Walk_readHeader 57 = .ok (.l2i, 1) := by decide +kernel
theorem d_Walk_readHeader_58 : decode b_Walk_readHeader 58 = .ok (.iconst 1, 1) := by decide +kernel
theorem d_Walk_readHeader_59 : decode b_Walk_readHeader 59 = .ok (.iadd, 1) := by decide +kernel
theorem d_Walk_readHeader_60 : decode b_Walk_readHeader 60 = .ok (.putfield 19, 3) := by decide +kernel
theorem d_Walk_readHeader_63 : decode b_Walk_readHeader 63 = .ok (.aload_n 0, 1) := by decide +kernel
theorem d_Walk_readHeader_64 : decode b_Walk_readHeader 64 = .ok (.aload_n 0, 1) := by decide +kernel
theorem d_Walk_readHeader_65 : decode b_Walk_readHeader 65 = .ok (.getfield 9, 3) := by decide +kernel
theorem d_Walk_readHeader_68 : decode b_Walk_readHeader 68 = .ok (.aload_n 0, 1) := by decide +kernel
theorem d_Walk_readHeader_69 : decode b_Walk_readHeader 69 = .ok (.getfield 15, 3) := by decide +kernel
theorem d_Walk_readHeader_72 : decode b_Walk_readHeader 72 = .ok (.iconst 4, 1) := by decide +kernel
theorem d_Walk_readHeader_73 : decode b_Walk_readHeader 73 = .ok (.iadd, 1) := by decide +kernel
theorem d_Walk_readHeader_74 : decode b_Walk_readHeader 74 = .ok (.invokevirtual 45, 3) := by decide +kernel
theorem d_Walk_readHeader_77 : decode b_Walk_readHeader 77 = .ok (.putfield 54, 3) := by decide +kernel
theorem d_Walk_readHeader_80 : decode b_Walk_readHeader 80 = .ok (.aload_n 0, 1) := by decide +kernel
theorem d_Walk_readHeader_81 : decode b_Walk_readHeader 81 = .ok (.aload_n 0, 1) := by decide +kernel
theorem d_Walk_readHeader_82 : decode b_Walk_readHeader 82 = .ok (.getfield 9, 3) := by decide +kernel
theorem d_Walk_readHeader_85 : decode b_Walk_readHeader 85 = .ok (.aload_n 0, 1) := by decide +kernel
theorem d_Walk_readHeader_86 : decode b_Walk_readHeader 86 = .ok (.getfield 15, 3) := by decide +kernel
theorem d_Walk_readHeader_89 : decode b_Walk_readHeader 89 = .ok (.bipush 8, 2) := by decide +kernel
theorem d_Walk_readHeader_91 : decode b_Walk_readHeader 91 = .ok (.iadd, 1) := by decide +kernel
theorem d_Walk_readHeader_92 : decode b_Walk_readHeader 92 = .ok (.invokevirtual 45, 3) := by decide +kernel
theorem d_Walk_readHeader_95 : decode b_Walk_readHeader 95 = .ok (.putfield 58, 3) := by decide +kernel
theorem d_Walk_readHeader_98 : decode b_Walk_readHeader 98 = .ok (.aload_n 0, 1) := by decide +kernel
theorem d_Walk_readHeader_99 : decode b_Walk_readHeader 99 = .ok (.dup, 1) := by decide +kernel
theorem d_Walk_readHeader_100 : decode b_Walk_readHeader 100 = .ok (.getfield 15, 3) := by decide +kernel
theorem d_Walk_readHeader_103 : decode b_Walk_readHeader 103 = .ok (.bipush 12, 2) := by decide +kernel
theorem d_Walk_readHeader_105 : decode b_Walk_readHeader 105 = .ok (.iadd, 1) := by decide +kernel
theorem d_Walk_readHeader_106 : decode b_Walk_readHeader 106 = .ok (.putfield 15, 3) := by decide +kernel
theorem d_Walk_readHeader_109 : decode b_Walk_readHeader 109 = .ok (.iconst 1, 1) := by decide +kernel
theorem d_Walk_readHeader_110 : decode b_Walk_readHeader 110 = .ok (.ireturn, 1) := by decide +kernel
theorem d_Lst_u4_0 : decode b_Lst_u4 0 = .ok (.aload_n 0, 1) := by decide +kernel
theorem d_Lst_u4_1 : decode b_Lst_u4 1 = .ok (.iload_n 1, 1) := by decide +kernel
theorem d_Lst_u4_2 : decode b_Lst_u4 2 = .ok (.invokevirtual 148, 3) := by decide +kernel
theorem d_Lst_u4_5 : decode b_Lst_u4 5 = .ok (.aload_n 0, 1) := by decide +kernel
theorem d_Lst_u4_6 : decode b_Lst_u4 6 = .ok (.iload_n 1, 1) := by decide +kernel
theorem d_Lst_u4_7 : decode b_Lst_u4 7 = .ok (.iconst 1, 1) := by decide +kernel
theorem d_Lst_u4_8 : decode b_Lst_u4 8 = .ok (.iadd, 1) := by decide +kernel
theorem d_Lst_u4_9 : decode b_Lst_u4 9 = .ok (.invokevirtual 148, 3) := by decide +kernel
theorem d_Lst_u4_12 : decode b_Lst_u4 12 = .ok (.bipush 8, 2) := by decide +kernel
theorem d_Lst_u4_14 : decode b_Lst_u4 14 = .ok (.ishl, 1) := by decide +kernel
theorem d_Lst_u4_15 : decode b_Lst_u4 15 = .ok (.ior, 1) := by decide +kernel
theorem d_Lst_u4_16 : decode b_Lst_u4 16 = .ok (.aload_n 0, 1) := by decide +kernel
theorem d_Lst_u4_17 : decode b_Lst_u4 17 = .ok (.iload_n 1, 1) := by decide +kernel
theorem d_Lst_u4_18 : decode b_Lst_u4 18 = .ok (.iconst 2, 1) := by decide +kernel
theorem d_Lst_u4_19 : decode b_Lst_u4 19 = .ok (.iadd, 1) := by decide +kernel
theorem d_Lst_u4_20 : decode b_Lst_u4 20 = .ok (.invokevirtual 148, 3) := by decide +kernel
theorem d_Lst_u4_23 : decode b_Lst_u4 23 = .ok (.bipush 16, 2) := by decide +kernel
theorem d_Lst_u4_25 : decode b_Lst_u4 25 = .ok (.ishl, 1) := by decide +kernel
theorem d_Lst_u4_26 : decode b_Lst_u4 26 = .ok (.ior, 1) := by decide +kernel
theorem d_Lst_u4_27 : decode b_Lst_u4 27 = .ok (.i2l, 1) := by decide +kernel
theorem d_Lst_u4_28 : decode b_Lst_u4 28 = .ok (.aload_n 0, 1) := by decide +kernel
theorem d_Lst_u4_29 : decode b_Lst_u4 29 = .ok (.iload_n 1, 1) := by decide +kernel
theorem d_Lst_u4_30 : decode b_Lst_u4 30 = .ok (.iconst 3, 1) := by decide +kernel
theorem d_Lst_u4_31 : decode b_Lst_u4 31 = .ok (.iadd, 1) := by decide +kernel
theorem d_Lst_u4_32 : decode b_Lst_u4 32 = .ok (.invokevirtual 148, 3) := by decide +kernel
theorem d_Lst_u4_35 : decode b_Lst_u4 35 = .ok (.i2l, 1) := by decide +kernel
theorem d_Lst_u4_36 : decode b_Lst_u4 36 = .ok (.bipush 24, 2) := by decide +kernel
theorem d_Lst_u4_38 : decode b_Lst_u4 38 = .ok (.lshl, 1) := by decide +kernel
theorem d_Lst_u4_39 : decode b_Lst_u4 39 = .ok (.lor, 1) := by decide +kernel
theorem d_Lst_u4_40 : decode b_Lst_u4 40 = .ok (.lreturn, 1) := by decide +kernel
theorem d_Walk_readEntry_0 : decode b_Walk_readEntry 0 = .ok (.aload_n 0, 1) := by decide +kernel
theorem d_Walk_readEntry_1 : decode b_Walk_readEntry 1 = .ok (.getfield 9, 3) := by decide +kernel
theorem d_Walk_readEntry_4 : decode b_Walk_readEntry 4 = .ok (.getfield 30, 3) := by decide +kernel
theorem d_Walk_readEntry_7 : decode b_Walk_readEntry 7 = .ok (.aload_n 0, 1) := by decide +kernel
theorem d_Walk_readEntry_8 : decode b_Walk_readEntry 8 = .ok (.getfield 15, 3) := by decide +kernel
theorem d_Walk_readEntry_11 : decode b_Walk_readEntry 11 = .ok (.isub, 1) := by decide +kernel
theorem d_Walk_readEntry_12 : decode b_Walk_readEntry 12 = .ok (.bipush 8, 2) := by decide +kernel
theorem d_Walk_readEntry_14 : decode b_Walk_readEntry 14 = .ok (.if_icmp .ge 5, 3) := by decide +kernel
theorem d_Walk_readEntry_17 : decode b_Walk_readEntry 17 = .ok (.iconst 0, 1) := by decide +kernel
theorem d_Walk_readEntry_18 : decode b_Walk_readEntry 18 = .ok (.ireturn, 1) := by decide +kernel
theorem d_Walk_readEntry_19 : decode b_Walk_readEntry 19 = .ok (.aload_n 0, 1) := by decide +kernel
theorem d_Walk_readEntry_20 : decode b_Walk_readEntry 20 = .ok (.aload_n 0, 1) := by decide +kernel
theorem d_Walk_readEntry_21 : decode b_Walk_readEntry 21 = .ok (.getfield 9, 3) := by decide +kernel
theorem d_Walk_readEntry_24 : decode b_Walk_readEntry 24 = .ok (.aload_n 0, 1) := by decide +kernel
theorem d_Walk_readEntry_25 : decode b_Walk_readEntry 25 = .ok (.getfield 15, 3) := by decide +kernel
theorem d_Walk_readEntry_28 : decode b_Walk_readEntry 28 = .ok (.invokevirtual 61, 3) := by decide +kernel
theorem d_Walk_readEntry_31 : decode b_Walk_readEntry 31 = .ok (.putfield 65, 3) := by decide +kernel
theorem d_Walk_readEntry_34 : decode b_Walk_readEntry 34 = .ok (.aload_n 0, 1) := by decide +kernel
theorem d_Walk_readEntry_35 : decode b_Walk_readEntry 35 = .ok (.aload_n 0, 1) := by decide +kernel
theorem d_Walk_readEntry_36 : decode b_Walk_readEntry 36 = .ok (.getfield 58, 3) := by decide +kernel
theorem d_Walk_readEntry_39 : decode b_Walk_readEntry 39 = .ok (.aload_n 0, 1) := by decide +kernel
theorem d_Walk_readEntry_40 : decode b_Walk_readEntry 40 = .ok (.getfield 9, 3) := by decide +kernel
theorem d_Walk_readEntry_43 : decode b_Walk_readEntry 43 = .ok (.aload_n 0, 1) := by decide +kernel
theorem d_Walk_readEntry_44 : decode b_Walk_readEntry 44 = .ok (.getfield 15, 3) := by decide +kernel
theorem d_Walk_readEntry_47 : decode b_Walk_readEntry 47 = .ok (.iconst 2, 1) := by decide +kernel
theorem d_Walk_readEntry_48 : decode b_Walk_readEntry 48 = .ok (.iadd, 1) := by decide +kernel
theorem d_Walk_readEntry_49 : decode b_Walk_readEntry 49 = .ok (.invokevirtual 61, 3) := by decide +kernel
theorem d_Walk_readEntry_52 : decode b_Walk_readEntry 52 = .ok (.i2s, 1) := by decide +kernel
theorem d_Walk_readEntry_53 : decode b_Walk_readEntry 53 = .ok (.i2l, 1) := by decide +kernel
theorem d_Walk_readEntry_54 : decode b_Walk_readEntry 54 = .ok (.ladd, 1) := by decide +kernel
theorem d_Walk_readEntry_55 : decode b_Walk_readEntry 55 = .ok (.putfield 68, 3) := by decide +kernel
theorem d_Walk_readEntry_58 : decode b_Walk_readEntry 58 = .ok (.aload_n 0, 1) := by decide +kernel
theorem d_Walk_readEntry_59 : decode b_Walk_readEntry 59 = .ok (.aload_n 0, 1) := by decide +kernel
theorem d_Walk_readEntry_60 : decode b_Walk_readEntry 60 = .ok (.getfield 9, 3) := by decide +kernel
theorem d_Walk_readEntry_63 : decode b_Walk_readEntry 63 = .ok (.aload_n 0, 1) := by decide +kernel
theorem d_Walk_readEntry_64 : decode b_Walk_readEntry 64 = .ok (.getfield 15, 3) := by decide +kernel
theorem d_Walk_readEntry_67 : decode b_Walk_readEntry 67 = .ok (.iconst 4, 1) := by decide +kernel
theorem d_Walk_readEntry_68 : decode b_Walk_readEntry 68 = .ok (.iadd, 1) := by decide +kernel
theorem d_Walk_readEntry_69 : decode b_Walk_readEntry 69 = .ok (.invokevirtual 61, 3) := by decide +kernel
theorem d_Walk_readEntry_72 : decode b_Walk_readEntry 72 = .ok (.putfield 71, 3) := by decide +kernel
theorem d_Walk_readEntry_75 : decode b_Walk_readEntry 75 = .ok (.aload_n 0, 1) := by decide +kernel
theorem d_Walk_readEntry_76 : decode b_Walk_readEntry 76 = .ok (.aload_n 0, 1) := by decide +kernel
theorem d_Walk_readEntry_77 : decode b_Walk_readEntry 77 = .ok (.getfield 9, 3) := by decide +kernel
theorem d_Walk_readEntry_80 : decode b_Walk_readEntry 80 = .ok (.aload_n 0, 1) := by decide +kernel
theorem d_Walk_readEntry_81 : decode b_Walk_readEntry 81 = .ok (.getfield 15, 3) := by decide +kernel
theorem d_Walk_readEntry_84 : decode b_Walk_readEntry 84 = .ok (.bipush 6, 2) := by decide +kernel
theorem d_Walk_readEntry_86 : decode b_Walk_readEntry 86 = .ok (.iadd, 1) := by decide +kernel
theorem d_Walk_readEntry_87 : decode b_Walk_readEntry 87 = .ok (.invokevirtual 61, 3) := by decide +kernel
theorem d_Walk_readEntry_90 : decode b_Walk_readEntry 90 = .ok (.iconst 1, 1) := by decide +kernel
theorem d_Walk_readEntry_91 : decode b_Walk_readEntry 91 = .ok (.iadd, 1) := by decide +kernel
theorem d_Walk_readEntry_92 : decode b_Walk_readEntry 92 = .ok (.putfield 74, 3) := by decide +kernel
theorem d_Walk_readEntry_95 : decode b_Walk_readEntry 95 = .ok (.aload_n 0, 1) := by decide +kernel
theorem d_Walk_readEntry_96 : decode b_Walk_readEntry 96 = .ok (.aload_n 0, 1) := by decide +kernel
theorem d_Walk_readEntry_97 : decode b_Walk_readEntry 97 = .ok (.getfield 15, 3) := by decide +kernel
theorem d_Walk_readEntry_100 : decode b_Walk_readEntry 100 = .ok (.bipush 8, 2) := by decide +kernel
theorem d_Walk_readEntry_102 : decode b_Walk_readEntry 102 = .ok (.iadd, 1) := by decide +kernel
theorem d_Walk_readEntry_103 : decode b_Walk_readEntry 103 = .ok (.putfield 77, 3) := by decide +kernel
theorem d_Walk_readEntry_106 : decode b_Walk_readEntry 106 = .ok (.aload_n 0, 1) := by decide +kernel
theorem d_Walk_readEntry_107 : decode b_Walk_readEntry 107 = .ok (.getfield 74, 3) := by decide +kernel
theorem d_Walk_readEntry_110 : decode b_Walk_readEntry 110 = .ok (.aload_n 0, 1) := by decide +kernel
theorem d_Walk_readEntry_111 : decode b_Walk_readEntry 111 = .ok (.getfield 9, 3) := by decide +kernel
theorem d_Walk_readEntry_114 : decode b_Walk_readEntry 114 = .ok (.getfield 30, 3) := by decide +kernel
theorem d_Walk_readEntry_117 : decode b_Walk_readEntry 117 = .ok (.aload_n 0, 1) := by decide +kernel
theorem d_Walk_readEntry_118 : decode b_Walk_readEntry 118 = .ok (.getfield 77, 3) := by decide +kernel
theorem d_Walk_readEntry_121 : decode b_Walk_readEntry 121 = .ok (.isub, 1) := by decide +kernel
theorem d_Walk_readEntry_122 : decode b_Walk_readEntry 122 = .ok (.if_icmp .le 5, 3) := by decide +kernel
theorem d_Walk_readEntry_125 : decode b_Walk_readEntry 125 = .ok (.iconst 0, 1) := by decide +kernel
theorem d_Walk_readEntry_126 : decode b_Walk_readEntry 126 = .ok (.ireturn, 1) := by decide +kernel
theorem d_Walk_readEntry_127 : decode b_Walk_readEntry 127 = .ok (.aload_n 0, 1) := by decide +kernel
theorem d_Walk_readEntry_128 : decode b_Walk_readEntry 128 = .ok (.aload_n 0, 1) := by decide +kernel
theorem d_Walk_readEntry_129 : decode b_Walk_readEntry 129 = .ok (.getfield 77, 3) := by decide +kernel
theorem d_Walk_readEntry_132 : decode b_Walk_readEntry 132 = .ok (.aload_n 0, 1) := by decide +kernel
theorem d_Walk_readEntry_133 : decode b_Walk_readEntry 133 = .ok (.getfield 74, 3) := by decide +kernel
theorem d_Walk_readEntry_136 : decode b_Walk_readEntry 136 = .ok (.iadd, 1) := by decide +kernel
theorem d_Walk_readEntry_137 : decode b_Walk_readEntry 137 = .ok (.putfield 15, 3) := by decide +kernel
theorem d_Walk_readEntry_140 : decode b_Walk_readEntry 140 = .ok (.aload_n 0, 1) := by decide +kernel
theorem d_Walk_readEntry_141 : decode b_Walk_readEntry 141 = .ok (.dup, 1) := by decide +kernel
theorem d_Walk_readEntry_142 : decode b_Walk_readEntry 142 = .ok (.getfield 19, 3) := by decide +kernel
theorem d_Walk_readEntry_145 : decode b_Walk_readEntry 145 = .ok (.iconst 1, 1) := by decide +kernel
theorem d_Walk_readEntry_146 : decode b_Walk_readEntry 146 = .ok (.isub, 1) := by decide +kernel
theorem d_Walk_readEntry_147 : decode b_Walk_readEntry 147 = .ok (.putfield 19, 3) := by decide +kernel
theorem d_Walk_readEntry_150 : decode b_Walk_readEntry 150 = .ok (.iconst 1, 1) := by decide +kernel
theorem d_Walk_readEntry_151 : decode b_Walk_readEntry 151 = .ok (.ireturn, 1) := by decide +kernel
theorem d_Lst_u2_0 : decode b_Lst_u2 0 = .ok (.aload_n 0, 1) := by decide +kernel
theorem d_Lst_u2_1 : decode b_Lst_u2 1 = .ok (.iload_n 1, 1) := by decide +kernel
theorem d_Lst_u2_2 : decode b_Lst_u2 2 = .ok (.invokevirtual 148, 3) := by decide +kernel
theorem d_Lst_u2_5 : decode b_Lst_u2 5 = .ok (.aload_n 0, 1) := by decide +kernel
theorem d_Lst_u2_6 : decode b_Lst_u2 6 = .ok (.iload_n 1, 1) := by decide +kernel
theorem d_Lst_u2_7 : decode b_Lst_u2 7 = .ok (.iconst 1, 1) := by decide +kernel
theorem d_Lst_u2_8 : decode b_Lst_u2 8 = .ok (.iadd, 1) := by decide +kernel
theorem d_Lst_u2_9 : decode b_Lst_u2 9 = .ok (.invokevirtual 148, 3) := by decide +kernel
theorem d_Lst_u2_12 : decode b_Lst_u2 12 = .ok (.bipush 8, 2) := by decide +kernel
theorem d_Lst_u2_14 : decode b_Lst_u2 14 = .ok (.ishl, 1) := by decide +kernel
theorem d_Lst_u2_15 : decode b_Lst_u2 15 = .ok (.ior, 1) := by decide +kernel
theorem d_Lst_u2_16 : decode b_Lst_u2 16 = .ok (.ireturn, 1) := by decide +kernel
theorem d_Judge_isEntryRight_0 : decode b_Judge_isEntryRight 0 = .ok (.aload_n 0, 1) := by decide +kernel
theorem d_Judge_isEntryRight_1 : decode b_Judge_isEntryRight 1 = .ok (.getfield 18, 3) := by decide +kernel
theorem d_Judge_isEntryRight_4 : decode b_Judge_isEntryRight 4 = .ok (.getfield 81, 3) := by decide +kernel
theorem d_Judge_isEntryRight_7 : decode b_Judge_isEntryRight 7 = .ok (.aload_n 0, 1) := by decide +kernel
theorem d_Judge_isEntryRight_8 : decode b_Judge_isEntryRight 8 = .ok (.getfield 22, 3) := by decide +kernel
theorem d_Judge_isEntryRight_11 : decode b_Judge_isEntryRight 11 = .ok (.getfield 75, 3) := by decide +kernel
theorem d_Judge_isEntryRight_14 : decode b_Judge_isEntryRight 14 = .ok (.aload_n 0, 1) := by decide +kernel
theorem d_Judge_isEntryRight_15 : decode b_Judge_isEntryRight 15 = .ok (.getfield 22, 3) := by decide +kernel
theorem d_Judge_isEntryRight_18 : decode b_Judge_isEntryRight 18 = .ok (.getfield 78, 3) := by decide +kernel
theorem d_Judge_isEntryRight_21 : decode b_Judge_isEntryRight 21 = .ok (.invokestatic 85, 3) := by decide +kernel
theorem d_Judge_isEntryRight_24 : decode b_Judge_isEntryRight 24 = .ok (.ifCond .eq 64, 3) := by decide +kernel
theorem d_Judge_isEntryRight_27 : decode b_Judge_isEntryRight 27 = .ok (.aload_n 0, 1) := by decide +kernel
theorem d_Judge_isEntryRight_28 : decode b_Judge_isEntryRight 28 = .ok (.getfield 22, 3) := by decide +kernel
theorem d_Judge_isEntryRight_31 : decode b_Judge_isEntryRight 31 = .ok (.aload_n 0, 1) := by decide +kernel
theorem d_Judge_isEntryRight_32 : decode b_Judge_isEntryRight 32 = .ok (.getfield 18, 3) := by decide +kernel
theorem d_Judge_isEntryRight_35 : decode b_Judge_isEntryRight 35 = .ok (.getfield 81, 3) := by decide +kernel
theorem d_Judge_isEntryRight_38 : decode b_Judge_isEntryRight 38 = .ok (.iload_n 1, 1) := by decide +kernel
theorem d_Judge_isEntryRight_39 : decode b_Judge_isEntryRight 39 = .ok (.iload_n 2, 1) := by decide +kernel
theorem d_Judge_isEntryRight_40 : decode b_Judge_isEntryRight 40 = .ok (.invokevirtual 91, 3) := by decide +kernel
theorem d_Judge_isEntryRight_43 : decode b_Judge_isEntryRight 43 = .ok (.ifCond .le 45, 3) := by decide +kernel
theorem d_Judge_isEntryRight_46 : decode b_Judge_isEntryRight 46 = .ok (.aload_n 0, 1) := by decide +kernel
theorem d_Judge_isEntryRight_47 : decode b_Judge_isEntryRight 47 = .ok (.getfield 26, 3) := by decide +kernel
theorem d_Judge_isEntryRight_50 : decode b_Judge_isEntryRight 50 = .ok (.aload_n 0, 1) := by decide +kernel
theorem d_Judge_isEntryRight_51 : decode b_Judge_isEntryRight 51 = .ok (.getfield 22, 3) := by decide +kernel
theorem d_Judge_isEntryRight_54 : decode b_Judge_isEntryRight 54 = .ok (.getfield 95, 3) := by decide +kernel
theorem d_Judge_isEntryRight_57 : decode b_Judge_isEntryRight 57 = .ok (.aload_n 0, 1) := by decide +kernel
theorem d_Judge_isEntryRight_58 : decode b_Judge_isEntryRight 58 = .ok (.getfield 22, 3) := by decide +kernel
theorem d_Judge_isEntryRight_61 : decode b_Judge_isEntryRight 61 = .ok (.getfield 99, 3) := by decide +kernel
theorem d_Judge_isEntryRight_64 : decode b_Judge_isEntryRight 64 = .ok (.aload_n 0, 1) := by decide +kernel
theorem d_Judge_isEntryRight_65 : decode b_Judge_isEntryRight 65 = .ok (.getfield 22, 3) := by decide +kernel
theorem d_Judge_isEntryRight_68 : decode b_Judge_isEntryRight 68 = .ok (.getfield 102, 3) := by decide +kernel
theorem d_Judge_isEntryRight_71 : decode b_Judge_isEntryRight 71 = .ok (.aload_n 0, 1) := by decide +kernel
theorem d_Judge_isEntryRight_72 : decode b_Judge_isEntryRight 72 = .ok (.getfield 22, 3) := by decide +kernel
theorem d_Judge_isEntryRight_75 : decode b_Judge_isEntryRight 75 = .ok (.getfield 105, 3) := by decide +kernel
theorem d_Judge_isEntryRight_78 : decode b_Judge_isEntryRight 78 = .ok (.invokevirtual 108, 3) := by decide +kernel
theorem d_Judge_isEntryRight_81 : decode b_Judge_isEntryRight 81 = .ok (.ifCond .eq 7, 3) := by decide +kernel
theorem d_Judge_isEntryRight_84 : decode b_Judge_isEntryRight 84 = .ok (.iconst 1, 1) := by decide +kernel
theorem d_Judge_isEntryRight_85 : decode b_Judge_isEntryRight 85 = .ok (.goto 4, 3) := by decide +kernel
theorem d_Judge_isEntryRight_88 : decode b_Judge_isEntryRight 88 = .ok (.iconst 0, 1) := by decide +kernel
theorem d_Judge_isEntryRight_89 : decode b_Judge_isEntryRight 89 = .ok (.ireturn, 1) := by decide +kernel
theorem d_Walk_compareNameWith_0 : decode b_Walk_compareNameWith 0 = .ok (.aload_n 0, 1) := by decide +kernel
theorem d_Walk_compareNameWith_1 : decode b_Walk_compareNameWith 1 = .ok (.getfield 9, 3) := by decide +kernel
theorem d_Walk_compareNameWith_4 : decode b_Walk_compareNameWith 4 = .ok (.getfield 80, 3) := by decide +kernel
theorem d_Walk_compareNameWith_7 : decode b_Walk_compareNameWith 7 = .ok (.aload_n 0, 1) := by decide +kernel
theorem d_Walk_compareNameWith_8 : decode b_Walk_compareNameWith 8 = .ok (.getfield 77, 3) := by decide +kernel
theorem d_Walk_compareNameWith_11 : decode b_Walk_compareNameWith 11 = .ok (.aload_n 0, 1) := by decide +kernel
theorem d_Walk_compareNameWith_12 : decode b_Walk_compareNameWith 12 = .ok (.getfield 74, 3) := by decide +kernel
theorem d_Walk_compareNameWith_15 : decode b_Walk_compareNameWith 15 = .ok (.aload_n 1, 1) := by decide +kernel
theorem d_Walk_compareNameWith_16 : decode b_Walk_compareNameWith 16 = .ok (.iload_n 2, 1) := by decide +kernel
theorem d_Walk_compareNameWith_17 : decode b_Walk_compareNameWith 17 = .ok (.iload_n 3, 1) := by decide +kernel
theorem d_Walk_compareNameWith_18 : decode b_Walk_compareNameWith 18 = .ok (.invokestatic 84, 3) := by decide +kernel
theorem d_Walk_compareNameWith_21 : decode b_Walk_compareNameWith 21 = .ok (.ireturn, 1) := by decide +kernel
