theorem d_Mod_measure_0 : decode b_Mod_measure 0 = .ok (.iconst 0, 1) := by decide +kernel
theorem d_Mod_measure_1 : decode b_Mod_measure 1 = .ok (.istore_n 2, 1) := by decide +kernel
theorem d_Mod_measure_2 : decode b_Mod_measure 2 = .ok (.iconst 0, 1) := by decide +kernel
theorem d_Mod_measure_3 : decode b_Mod_measure 3 = .ok (.istore_n 3, 1) := by decide +kernel
theorem d_Mod_measure_4 : decode b_Mod_measure 4 = .ok (.iconst 0, 1) := by decide +kernel
theorem d_Mod_measure_5 : decode b_Mod_measure 5 = .ok (.istore 4, 2) := by decide +kernel
theorem d_Mod_measure_7 : decode b_Mod_measure 7 = .ok (.iconst 0, 1) := by decide +kernel
theorem d_Mod_measure_8 : decode b_Mod_measure 8 = .ok (.istore 5, 2) := by decide +kernel
theorem d_Mod_measure_10 : decode b_Mod_measure 10 = .ok (.iload 5, 2) := by decide +kernel
theorem d_Mod_measure_12 : decode b_Mod_measure 12 = .ok (.aload_n 0, 1) := by decide +kernel
theorem d_Mod_measure_13 : decode b_Mod_measure 13 = .ok (.getfield 74, 3) := by decide +kernel
theorem d_Mod_measure_16 : decode b_Mod_measure 16 = .ok (.if_icmp .ge 57, 3) := by decide +kernel
theorem d_Mod_measure_19 : decode b_Mod_measure 19 = .ok (.iload 5, 2) := by decide +kernel
theorem d_Mod_measure_21 : decode b_Mod_measure 21 = .ok (.ifCond .eq 17, 3) := by decide +kernel
theorem d_Mod_measure_24 : decode b_Mod_measure 24 = .ok (.aload_n 0, 1) := by decide +kernel
theorem d_Mod_measure_25 : decode b_Mod_measure 25 = .ok (.iload_n 3, 1) := by decide +kernel
theorem d_Mod_measure_26 : decode b_Mod_measure 26 = .ok (.iload 4, 2) := by decide +kernel
theorem d_Mod_measure_28 : decode b_Mod_measure 28 = .ok (.iload 5, 2) := by decide +kernel
theorem d_Mod_measure_30 : decode b_Mod_measure 30 = .ok (.iload_n 2, 1) := by decide +kernel
theorem d_Mod_measure_31 : decode b_Mod_measure 31 = .ok (.iload_n 1, 1) := by decide +kernel
theorem d_Mod_measure_32 : decode b_Mod_measure 32 = .ok (.invokevirtual 105, 3) := by decide +kernel
theorem d_Mod_measure_35 : decode b_Mod_measure 35 = .ok (.ifCond .ne 14, 3) := by decide +kernel
theorem d_Mod_measure_38 : decode b_Mod_measure 38 = .ok (.iload 5, 2) := by decide +kernel
theorem d_Mod_measure_40 : decode b_Mod_measure 40 = .ok (.istore_n 3, 1) := by decide +kernel
theorem d_Mod_measure_41 : decode b_Mod_measure 41 = .ok (.iload_n 2, 1) := by decide +kernel
theorem d_Mod_measure_42 : decode b_Mod_measure 42 = .ok (.istore 4, 2) := by decide +kernel
theorem d_Mod_measure_44 : decode b_Mod_measure 44 = .ok (.iload_n 2, 1) := by decide +kernel
theorem d_Mod_measure_45 : decode b_Mod_measure 45 = .ok (.bipush 12, 2) := by decide +kernel
theorem d_Mod_measure_47 : decode b_Mod_measure 47 = .ok (.iadd, 1) := by decide +kernel
theorem d_Mod_measure_48 : decode b_Mod_measure 48 = .ok (.istore_n 2, 1) := by decide +kernel
theorem d_Mod_measure_49 : decode b_Mod_measure 49 = .ok (.iload_n 2, 1) := by decide +kernel
theorem d_Mod_measure_50 : decode b_Mod_measure 50 = .ok (.bipush 8, 2) := by decide +kernel
theorem d_Mod_measure_52 : decode b_Mod_measure 52 = .ok (.iadd, 1) := by decide +kernel
theorem d_Mod_measure_53 : decode b_Mod_measure 53 = .ok (.aload_n 0, 1) := by decide +kernel
theorem d_Mod_measure_54 : decode b_Mod_measure 54 = .ok (.getfield 13, 3) := by decide +kernel
theorem d_Mod_measure_57 : decode b_Mod_measure 57 = .ok (.aload_n 0, 1) := by decide +kernel
theorem d_Mod_measure_58 : decode b_Mod_measure 58 = .ok (.getfield 61, 3) := by decide +kernel
theorem d_Mod_measure_61 : decode b_Mod_measure 61 = .ok (.iload 5, 2) := by decide +kernel
theorem d_Mod_measure_63 : decode b_Mod_measure 63 = .ok (.iaload, 1) := by decide +kernel
theorem d_Mod_measure_64 : decode b_Mod_measure 64 = .ok (.iaload, 1) := by decide +kernel
theorem d_Mod_measure_65 : decode b_Mod_measure 65 = .ok (.iadd, 1) := by decide +kernel
theorem d_Mod_measure_66 : decode b_Mod_measure 66 = .ok (.istore_n 2, 1) := by decide +kernel
theorem d_Mod_measure_67 : decode b_Mod_measure 67 = .ok (.iinc 5 1, 3) := by decide +kernel
theorem d_Mod_measure_70 : decode b_Mod_measure 70 = .ok (.goto (-60), 3) := by decide +kernel
theorem d_Mod_measure_73 : decode b_Mod_measure 73 = .ok (.iload_n 2, 1) := by decide +kernel
theorem d_Mod_measure_74 : decode b_Mod_measure 74 = .ok (.ireturn, 1) := by decide +kernel
theorem d_Mod_takes_0 : decode b_Mod_takes 0 = .ok (.aload_n 0, 1) := by decide +kernel
theorem d_Mod_takes_1 : decode b_Mod_takes 1 = .ok (.getfield 61, 3) := by decide +kernel
theorem d_Mod_takes_4 : decode b_Mod_takes 4 = .ok (.iload_n 1, 1) := by decide +kernel
theorem d_Mod_takes_5 : decode b_Mod_takes 5 = .ok (.iaload, 1) := by decide +kernel
theorem d_Mod_takes_6 : decode b_Mod_takes 6 = .ok (.istore 6, 2) := by decide +kernel
theorem d_Mod_takes_8 : decode b_Mod_takes 8 = .ok (.aload_n 0, 1) := by decide +kernel
theorem d_Mod_takes_9 : decode b_Mod_takes 9 = .ok (.getfield 61, 3) := by decide +kernel
theorem d_Mod_takes_12 : decode b_Mod_takes 12 = .ok (.iload_n 3, 1) := by decide +kernel
theorem d_Mod_takes_13 : decode b_Mod_takes 13 = .ok (.iaload, 1) := by decide +kernel
theorem d_Mod_takes_14 : decode b_Mod_takes 14 = .ok (.istore 7, 2) := by decide +kernel
theorem d_Mod_takes_16 : decode b_Mod_takes 16 = .ok (.aload_n 0, 1) := by decide +kernel
theorem d_Mod_takes_17 : decode b_Mod_takes 17 = .ok (.getfield 21, 3) := by decide +kernel
theorem d_Mod_takes_20 : decode b_Mod_takes 20 = .ok (.iload 7, 2) := by decide +kernel
theorem d_Mod_takes_22 : decode b_Mod_takes 22 = .ok (.iaload, 1) := by decide +kernel
theorem d_Mod_takes_23 : decode b_Mod_takes 23 = .ok (.aload_n 0, 1) := by decide +kernel
theorem d_Mod_takes_24 : decode b_Mod_takes 24 = .ok (.getfield 21, 3) := by decide +kernel
theorem d_Mod_takes_27 : decode b_Mod_takes 27 = .ok (.iload 6, 2) := by decide +kernel
theorem d_Mod_takes_29 : decode b_Mod_takes 29 = .ok (.iaload, 1) := by decide +kernel
theorem d_Mod_takes_30 : decode b_Mod_takes 30 = .ok (.isub, 1) := by decide +kernel
theorem d_Mod_takes_31 : decode b_Mod_takes 31 = .ok (.istore 8, 2) := by decide +kernel
theorem d_Mod_takes_33 : decode b_Mod_takes 33 = .ok (.iload_n 3, 1) := by decide +kernel
theorem d_Mod_takes_34 : decode b_Mod_takes 34 = .ok (.iload_n 1, 1) := by decide +kernel
theorem d_Mod_takes_35 : decode b_Mod_takes 35 = .ok (.if_icmp .eq 64, 3) := by decide +kernel
theorem d_Mod_takes_38 : decode b_Mod_takes 38 = .ok (.iload_n 3, 1) := by decide +kernel
theorem d_Mod_takes_39 : decode b_Mod_takes 39 = .ok (.iload_n 1, 1) := by decide +kernel
theorem d_Mod_takes_40 : decode b_Mod_takes 40 = .ok (.isub, 1) := by decide +kernel
theorem d_Mod_takes_41 : decode b_Mod_takes 41 = .ok (.sipush 256, 3) := by decide +kernel
theorem d_Mod_takes_44 : decode b_Mod_takes 44 = .ok (.if_icmp .ge 59, 3) := by decide +kernel
theorem d_Mod_takes_47 : decode b_Mod_takes 47 = .ok (.aload_n 0, 1) := by decide +kernel
theorem d_Mod_takes_48 : decode b_Mod_takes 48 = .ok (.getfield 24, 3) := by decide +kernel
theorem d_Mod_takes_51 : decode b_Mod_takes 51 = .ok (.iload 6, 2) := by decide +kernel
theorem d_Mod_takes_53 : decode b_Mod_takes 53 = .ok (.iaload, 1) := by decide +kernel
theorem d_Mod_takes_54 : decode b_Mod_takes 54 = .ok (.aload_n 0, 1) := by decide +kernel
theorem d_Mod_takes_55 : decode b_Mod_takes 55 = .ok (.getfield 24, 3) := by decide +kernel
theorem d_Mod_takes_58 : decode b_Mod_takes 58 = .ok (.iload 7, 2) := by decide +kernel
theorem d_Mod_takes_60 : decode b_Mod_takes 60 = .ok (.iaload, 1) := by decide +kernel
theorem d_Mod_takes_61 : decode b_Mod_takes 61 = .ok (.if_icmp .ne 42, 3) := by decide +kernel
theorem d_Mod_takes_64 : decode b_Mod_takes 64 = .ok (.iload 8, 2) := by decide +kernel
theorem d_Mod_takes_66 : decode b_Mod_takes 66 = .ok (.sipush (-32768), 3) := by decide +kernel
theorem d_Mod_takes_69 : decode b_Mod_takes 69 = .ok (.if_icmp .lt 34, 3) := by decide +kernel
theorem d_Mod_takes_72 : decode b_Mod_takes 72 = .ok (.iload 8, 2) := by decide +kernel
theorem d_Mod_takes_74 : decode b_Mod_takes 74 = .ok (.ldc 104, 2) := by decide +kernel
theorem d_Mod_takes_76 : decode b_Mod_takes 76 = .ok (.if_icmp .ge 27, 3) := by decide +kernel
theorem d_Mod_takes_79 : decode b_Mod_takes 79 = .ok (.iload 5, 2) := by decide +kernel
theorem d_Mod_takes_81 : decode b_Mod_takes 81 = .ok (.iload 4, 2) := by decide +kernel
theorem d_Mod_takes_83 : decode b_Mod_takes 83 = .ok (.iadd, 1) := by decide +kernel
theorem d_Mod_takes_84 : decode b_Mod_takes 84 = .ok (.sipush 8192, 3) := by decide +kernel
theorem d_Mod_takes_87 : decode b_Mod_takes 87 = .ok (.idiv, 1) := by decide +kernel
theorem d_Mod_takes_88 : decode b_Mod_takes 88 = .ok (.iload 5, 2) := by decide +kernel
theorem d_Mod_takes_90 : decode b_Mod_takes 90 = .ok (.iload_n 2, 1) := by decide +kernel
theorem d_Mod_takes_91 : decode b_Mod_takes 91 = .ok (.iadd, 1) := by decide +kernel
theorem d_Mod_takes_92 : decode b_Mod_takes 92 = .ok (.sipush 8192, 3) := by decide +kernel
theorem d_Mod_takes_95 : decode b_Mod_takes 95 = .ok (.idiv, 1) := by decide +kernel
theorem d_Mod_takes_96 : decode b_Mod_takes 96 = .ok (.if_icmp .ne 7, 3) := by decide +kernel
theorem d_Mod_takes_99 : decode b_Mod_takes 99 = .ok (.iconst 1, 1) := by decide +kernel
theorem d_Mod_takes_100 : decode b_Mod_takes 100 = .ok (.goto 4, 3) := by decide +kernel
theorem d_Mod_takes_103 : decode b_Mod_takes 103 = .ok (.iconst 0, 1) := by decide +kernel
theorem d_Mod_takes_104 : decode b_Mod_takes 104 = .ok (.ireturn, 1) := by decide +kernel
theorem d_Mod_closeHeader_0 : decode b_Mod_closeHeader 0 = .ok (.aload_n 0, 1) := by decide +kernel
theorem d_Mod_closeHeader_1 : decode b_Mod_closeHeader 1 = .ok (.getfield 125, 3) := by decide +kernel
theorem d_Mod_closeHeader_4 : decode b_Mod_closeHeader 4 = .ok (.ifCond .le 13, 3) := by decide +kernel
theorem d_Mod_closeHeader_7 : decode b_Mod_closeHeader 7 = .ok (.aload_n 0, 1) := by decide +kernel
theorem d_Mod_closeHeader_8 : decode b_Mod_closeHeader 8 = .ok (.getfield 46, 3) := by decide +kernel
theorem d_Mod_closeHeader_11 : decode b_Mod_closeHeader 11 = .ok (.iload_n 1, 1) := by decide +kernel
theorem d_Mod_closeHeader_12 : decode b_Mod_closeHeader 12 = .ok (.iload_n 2, 1) := by decide +kernel
theorem d_Mod_closeHeader_13 : decode b_Mod_closeHeader 13 = .ok (.iconst 1, 1) := by decide +kernel
theorem d_Mod_closeHeader_14 : decode b_Mod_closeHeader 14 = .ok (.isub, 1) := by decide +kernel
theorem d_Mod_closeHeader_15 : decode b_Mod_closeHeader 15 = .ok (.i2b, 1) := by decide +kernel
theorem d_Mod_closeHeader_16 : decode b_Mod_closeHeader 16 = .ok (.bastore, 1) := by decide +kernel
theorem d_Mod_closeHeader_17 : decode b_Mod_closeHeader 17 = .ok (.return_, 1) := by decide +kernel
theorem d_Mod_noteIndex_0 : decode b_Mod_noteIndex 0 = .ok (.aload_n 0, 1) := by decide +kernel
theorem d_Mod_noteIndex_1 : decode b_Mod_noteIndex 1 = .ok (.getfield 49, 3) := by decide +kernel
theorem d_Mod_noteIndex_4 : decode b_Mod_noteIndex 4 = .ok (.aload_n 0, 1) := by decide +kernel
theorem d_Mod_noteIndex_5 : decode b_Mod_noteIndex 5 = .ok (.getfield 112, 3) := by decide +kernel
theorem d_Mod_noteIndex_8 : decode b_Mod_noteIndex 8 = .ok (.iload_n 1, 1) := by decide +kernel
theorem d_Mod_noteIndex_9 : decode b_Mod_noteIndex 9 = .ok (.iastore, 1) := by decide +kernel
theorem d_Mod_noteIndex_10 : decode b_Mod_noteIndex 10 = .ok (.aload_n 0, 1) := by decide +kernel
theorem d_Mod_noteIndex_11 : decode b_Mod_noteIndex 11 = .ok (.getfield 52, 3) := by decide +kernel
theorem d_Mod_noteIndex_14 : decode b_Mod_noteIndex 14 = .ok (.aload_n 0, 1) := by decide +kernel
theorem d_Mod_noteIndex_15 : decode b_Mod_noteIndex 15 = .ok (.getfield 112, 3) := by decide +kernel
theorem d_Mod_noteIndex_18 : decode b_Mod_noteIndex 18 = .ok (.sipush 8194, 3) := by decide +kernel
theorem d_Mod_noteIndex_21 : decode b_Mod_noteIndex 21 = .ok (.aload_n 0, 1) := by decide +kernel
theorem d_Mod_noteIndex_22 : decode b_Mod_noteIndex 22 = .ok (.getfield 115, 3) := by decide +kernel
theorem d_Mod_noteIndex_25 : decode b_Mod_noteIndex 25 = .ok (.iload_n 1, 1) := by decide +kernel
theorem d_Mod_noteIndex_26 : decode b_Mod_noteIndex 26 = .ok (.iadd, 1) := by decide +kernel
theorem d_Mod_noteIndex_27 : decode b_Mod_noteIndex 27 = .ok (.sipush 8192, 3) := by decide +kernel
theorem d_Mod_noteIndex_30 : decode b_Mod_noteIndex 30 = .ok (.idiv, 1) := by decide +kernel
theorem d_Mod_noteIndex_31 : decode b_Mod_noteIndex 31 = .ok (.imul, 1) := by decide +kernel
theorem d_Mod_noteIndex_32 : decode b_Mod_noteIndex 32 = .ok (.iastore, 1) := by decide +kernel
theorem d_Mod_noteIndex_33 : decode b_Mod_noteIndex 33 = .ok (.aload_n 0, 1) := by decide +kernel
theorem d_Mod_noteIndex_34 : decode b_Mod_noteIndex 34 = .ok (.getfield 55, 3) := by decide +kernel
theorem d_Mod_noteIndex_37 : decode b_Mod_noteIndex 37 = .ok (.aload_n 0, 1) := by decide +kernel
theorem d_Mod_noteIndex_38 : decode b_Mod_noteIndex 38 = .ok (.getfield 112, 3) := by decide +kernel
theorem d_Mod_noteIndex_41 : decode b_Mod_noteIndex 41 = .ok (.aload_n 0, 1) := by decide +kernel
theorem d_Mod_noteIndex_42 : decode b_Mod_noteIndex 42 = .ok (.getfield 13, 3) := by decide +kernel
theorem d_Mod_noteIndex_45 : decode b_Mod_noteIndex 45 = .ok (.iload_n 2, 1) := by decide +kernel
theorem d_Mod_noteIndex_46 : decode b_Mod_noteIndex 46 = .ok (.iaload, 1) := by decide +kernel
theorem d_Mod_noteIndex_47 : decode b_Mod_noteIndex 47 = .ok (.iastore, 1) := by decide +kernel
theorem d_Mod_noteIndex_48 : decode b_Mod_noteIndex 48 = .ok (.iconst 0, 1) := by decide +kernel
theorem d_Mod_noteIndex_49 : decode b_Mod_noteIndex 49 = .ok (.istore_n 3, 1) := by decide +kernel
theorem d_Mod_noteIndex_50 : decode b_Mod_noteIndex 50 = .ok (.iload_n 3, 1) := by decide +kernel
theorem d_Mod_noteIndex_51 : decode b_Mod_noteIndex 51 = .ok (.aload_n 0, 1) := by decide +kernel
theorem d_Mod_noteIndex_52 : decode b_Mod_noteIndex 52 = .ok (.getfield 13, 3) := by decide +kernel
theorem d_Mod_noteIndex_55 : decode b_Mod_noteIndex 55 = .ok (.iload_n 2, 1) := by decide +kernel
theorem d_Mod_noteIndex_56 : decode b_Mod_noteIndex 56 = .ok (.iaload, 1) := by decide +kernel
theorem d_Mod_noteIndex_57 : decode b_Mod_noteIndex 57 = .ok (.if_icmp .ge 30, 3) := by decide +kernel
theorem d_Mod_noteIndex_60 : decode b_Mod_noteIndex 60 = .ok (.aload_n 0, 1) := by decide +kernel
theorem d_Mod_noteIndex_61 : decode b_Mod_noteIndex 61 = .ok (.getfield 58, 3) := by decide +kernel
theorem d_Mod_noteIndex_64 : decode b_Mod_noteIndex 64 = .ok (.sipush 256, 3) := by decide +kernel
theorem d_Mod_noteIndex_67 : decode b_Mod_noteIndex 67 = .ok (.aload_n 0, 1) := by decide +kernel
theorem d_Mod_noteIndex_68 : decode b_Mod_noteIndex 68 = .ok (.getfield 112, 3) := by decide +kernel
theorem d_Mod_noteIndex_71 : decode b_Mod_noteIndex 71 = .ok (.imul, 1) := by decide +kernel
theorem d_Mod_noteIndex_72 : decode b_Mod_noteIndex 72 = .ok (.iload_n 3, 1) := by decide +kernel
theorem d_Mod_noteIndex_73 : decode b_Mod_noteIndex 73 = .ok (.iadd, 1) := by decide +kernel
theorem d_Mod_noteIndex_74 : decode b_Mod_noteIndex 74 = .ok (.aload_n 0, 1) := by decide +kernel
theorem d_Mod_noteIndex_75 : decode b_Mod_noteIndex 75 = .ok (.iload_n 2, 1) := by decide +kernel
theorem d_Mod_noteIndex_76 : decode b_Mod_noteIndex 76 = .ok (.iload_n 3, 1) := by decide +kernel
theorem d_Mod_noteIndex_77 : decode b_Mod_noteIndex 77 = .ok (.invokevirtual 70, 3) := by decide +kernel
theorem d_Mod_noteIndex_80 : decode b_Mod_noteIndex 80 = .ok (.iastore, 1) := by decide +kernel
theorem d_Mod_noteIndex_81 : decode b_Mod_noteIndex 81 = .ok (.iinc 3 1, 3) := by decide +kernel
theorem d_Mod_noteIndex_84 : decode b_Mod_noteIndex 84 = .ok (.goto (-34), 3) := by decide +kernel
theorem d_Mod_noteIndex_87 : decode b_Mod_noteIndex 87 = .ok (.aload_n 0, 1) := by decide +kernel
theorem d_Mod_noteIndex_88 : decode b_Mod_noteIndex 88 = .ok (.dup, 1) := by decide +kernel
theorem d_Mod_noteIndex_89 : decode b_Mod_noteIndex 89 = .ok (.getfield 112, 3) := by decide +kernel
theorem d_Mod_noteIndex_92 : decode b_Mod_noteIndex 92 = .ok (.iconst 1, 1) := by decide +kernel
theorem d_Mod_noteIndex_93 : decode b_Mod_noteIndex 93 = .ok (.iadd, 1) := by decide +kernel
theorem d_Mod_noteIndex_94 : decode b_Mod_noteIndex 94 = .ok (.putfield 112, 3) := by decide +kernel
theorem d_Mod_noteIndex_97 : decode b_Mod_noteIndex 97 = .ok (.return_, 1) := by decide +kernel
theorem d_Mod_put_0 : decode b_Mod_put 0 = .ok (.iconst 0, 1) := by decide +kernel
theorem d_Mod_put_1 : decode b_Mod_put 1 = .ok (.istore_n 3, 1) := by decide +kernel
theorem d_Mod_put_2 : decode b_Mod_put 2 = .ok (.iload_n 3, 1) := by decide +kernel
theorem d_Mod_put_3 : decode b_Mod_put 3 = .ok (.iload_n 2, 1) := by decide +kernel
theorem d_Mod_put_4 : decode b_Mod_put 4 = .ok (.if_icmp .ge 35, 3) := by decide +kernel
theorem d_Mod_put_7 : decode b_Mod_put 7 = .ok (.aload_n 0, 1) := by decide +kernel
theorem d_Mod_put_8 : decode b_Mod_put 8 = .ok (.getfield 46, 3) := by decide +kernel
theorem d_Mod_put_11 : decode b_Mod_put 11 = .ok (.aload_n 0, 1) := by decide +kernel
theorem d_Mod_put_12 : decode b_Mod_put 12 = .ok (.getfield 109, 3) := by decide +kernel
theorem d_Mod_put_15 : decode b_Mod_put 15 = .ok (.iload_n 1, 1) := by decide +kernel
theorem d_Mod_put_16 : decode b_Mod_put 16 = .ok (.bipush 8, 2) := by decide +kernel
theorem d_Mod_put_18 : decode b_Mod_put 18 = .ok (.iload_n 3, 1) := by decide +kernel
theorem d_Mod_put_19 : decode b_Mod_put 19 = .ok (.imul, 1) := by decide +kernel
theorem d_Mod_put_20 : decode b_Mod_put 20 = .ok (.ishr, 1) := by decide +kernel
theorem d_Mod_put_21 : decode b_Mod_put 21 = .ok (.i2b, 1) := by decide +kernel
theorem d_Mod_put_22 : decode b_Mod_put 22 = .ok (.bastore, 1) := by decide +kernel
theorem d_Mod_put_23 : decode b_Mod_put 23 = .ok (.aload_n 0, 1) := by decide +kernel
theorem d_Mod_put_24 : decode b_Mod_put 24 = .ok (.dup, 1) := by decide +kernel
theorem d_Mod_put_25 : decode b_Mod_put 25 = .ok (.getfield 109, 3) := by decide +kernel
theorem d_Mod_put_28 : decode b_Mod_put 28 = .ok (.iconst 1, 1) := by decide +kernel
theorem d_Mod_put_29 : decode b_Mod_put 29 = .ok (.iadd, 1) := by decide +kernel
theorem d_Mod_put_30 : decode b_Mod_put 30 = .ok (.putfield 109, 3) := by decide +kernel
theorem d_Mod_put_33 : decode b_Mod_put 33 = .ok (.iinc 3 1, 3) := by decide +kernel
theorem d_Mod_put_36 : decode b_Mod_put 36 = .ok (.goto (-34), 3) := by decide +kernel
theorem d_Mod_put_39 : decode b_Mod_put 39 = .ok (.return_, 1) := by decide +kernel
theorem d_Mod_size_0 : decode b_Mod_size 0 = .ok (.iload_n 1, 1) := by decide +kernel
theorem d_Mod_size_1 : decode b_Mod_size 1 = .ok (.ifCond .ne 10, 3) := by decide +kernel
theorem d_Mod_size_4 : decode b_Mod_size 4 = .ok (.aload_n 0, 1) := by decide +kernel
theorem d_Mod_size_5 : decode b_Mod_size 5 = .ok (.getfield 109, 3) := by decide +kernel
theorem d_Mod_size_8 : decode b_Mod_size 8 = .ok (.goto 40, 3) := by decide +kernel
theorem d_Mod_size_11 : decode b_Mod_size 11 = .ok (.iload_n 1, 1) := by decide +kernel
theorem d_Mod_size_12 : decode b_Mod_size 12 = .ok (.iconst 1, 1) := by decide +kernel
theorem d_Mod_size_13 : decode b_Mod_size 13 = .ok (.if_icmp .ne 10, 3) := by decide +kernel
theorem d_Mod_size_16 : decode b_Mod_size 16 = .ok (.aload_n 0, 1) := by decide +kernel
theorem d_Mod_size_17 : decode b_Mod_size 17 = .ok (.getfield 125, 3) := by decide +kernel
theorem d_Mod_size_20 : decode b_Mod_size 20 = .ok (.goto 28, 3) := by decide +kernel
theorem d_Mod_size_23 : decode b_Mod_size 23 = .ok (.iload_n 1, 1) := by decide +kernel
theorem d_Mod_size_24 : decode b_Mod_size 24 = .ok (.iconst 2, 1) := by decide +kernel
theorem d_Mod_size_25 : decode b_Mod_size 25 = .ok (.if_icmp .ne 10, 3) := by decide +kernel
theorem d_Mod_size_28 : decode b_Mod_size 28 = .ok (.aload_n 0, 1) := by decide +kernel
theorem d_Mod_size_29 : decode b_Mod_size 29 = .ok (.getfield 112, 3) := by decide +kernel
theorem d_Mod_size_32 : decode b_Mod_size 32 = .ok (.goto 16, 3) := by decide +kernel
theorem d_Mod_size_35 : decode b_Mod_size 35 = .ok (.iload_n 1, 1) := by decide +kernel
theorem d_Mod_size_36 : decode b_Mod_size 36 = .ok (.iconst 3, 1) := by decide +kernel
theorem d_Mod_size_37 : decode b_Mod_size 37 = .ok (.if_icmp .ne 10, 3) := by decide +kernel
theorem d_Mod_size_40 : decode b_Mod_size 40 = .ok (.aload_n 0, 1) := by decide +kernel
theorem d_Mod_size_41 : decode b_Mod_size 41 = .ok (.getfield 115, 3) := by decide +kernel
theorem d_Mod_size_44 : decode b_Mod_size 44 = .ok (.goto 4, 3) := by decide +kernel
theorem d_Mod_size_47 : decode b_Mod_size 47 = .ok (.iconst (-1), 1) := by decide +kernel
theorem d_Mod_size_48 : decode b_Mod_size 48 = .ok (.ireturn, 1) := by decide +kernel
theorem d_Mod_bytes_0 : decode b_Mod_bytes 0 = .ok (.lconst 0, 1) := by decide +kernel
theorem d_Mod_bytes_1 : decode b_Mod_bytes 1 = .ok (.lstore_n 2, 1) := by decide +kernel
theorem d_Mod_bytes_2 : decode b_Mod_bytes 2 = .ok (.bipush 7, 2) := by decide +kernel
theorem d_Mod_bytes_4 : decode b_Mod_bytes 4 = .ok (.istore 4, 2) := by decide +kernel
theorem d_Mod_bytes_6 : decode b_Mod_bytes 6 = .ok (.iload 4, 2) := by decide +kernel
theorem d_Mod_bytes_8 : decode b_Mod_bytes 8 = .ok (.ifCond .lt 61, 3) := by decide +kernel
theorem d_Mod_bytes_11 : decode b_Mod_bytes 11 = .ok (.iload_n 1, 1) := by decide +kernel
theorem d_Mod_bytes_12 : decode b_Mod_bytes 12 = .ok (.ifCond .lt 57, 3) := by decide +kernel
theorem d_Mod_bytes_15 : decode b_Mod_bytes 15 = .ok (.iload_n 1, 1) := by decide +kernel
theorem d_Mod_bytes_16 : decode b_Mod_bytes 16 = .ok (.sipush 8192, 3) := by decide +kernel
theorem d_Mod_bytes_19 : decode b_Mod_bytes 19 = .ok (.if_icmp .ge 50, 3) := by decide +kernel
theorem d_Mod_bytes_22 : decode b_Mod_bytes 22 = .ok (.lload_n 2, 1) := by decide +kernel
theorem d_Mod_bytes_23 : decode b_Mod_bytes 23 = .ok (.bipush 8, 2) := by decide +kernel
theorem d_Mod_bytes_25 : decode b_Mod_bytes 25 = .ok (.lshl, 1) := by decide +kernel
theorem d_Mod_bytes_26 : decode b_Mod_bytes 26 = .ok (.bipush 8, 2) := by decide +kernel
theorem d_Mod_bytes_28 : decode b_Mod_bytes 28 = .ok (.iload_n 1, 1) := by decide +kernel
theorem d_Mod_bytes_29 : decode b_Mod_bytes 29 = .ok (.imul, 1) := by decide +kernel
theorem d_Mod_bytes_30 : decode b_Mod_bytes 30 = .ok (.iload 4, 2) := by decide +kernel
theorem d_Mod_bytes_32 : decode b_Mod_bytes 32 = .ok (.iadd, 1) := by decide +kernel
theorem d_Mod_bytes_33 : decode b_Mod_bytes 33 = .ok (.aload_n 0, 1) := by decide +kernel
theorem d_Mod_bytes_34 : decode b_Mod_bytes 34 = .ok (.getfield 109, 3) := by decide +kernel
theorem d_Mod_bytes_37 : decode b_Mod_bytes 37 = .ok (.if_icmp .ge 22, 3) := by decide +kernel
theorem d_Mod_bytes_40 : decode b_Mod_bytes 40 = .ok (.aload_n 0, 1) := by decide +kernel
theorem d_Mod_bytes_41 : decode b_Mod_bytes 41 = .ok (.getfield 46, 3) := by decide +kernel
theorem d_Mod_bytes_44 : decode b_Mod_bytes 44 = .ok (.bipush 8, 2) := by decide +kernel
theorem d_Mod_bytes_46 : decode b_Mod_bytes 46 = .ok (.iload_n 1, 1) := by decide +kernel
theorem d_Mod_bytes_47 : decode b_Mod_bytes 47 = .ok (.imul, 1) := by decide +kernel
theorem d_Mod_bytes_48 : decode b_Mod_bytes 48 = .ok (.iload 4, 2) := by decide +kernel
theorem d_Mod_bytes_50 : decode b_Mod_bytes 50 = .ok (.iadd, 1) := by decide +kernel
theorem d_Mod_bytes_51 : decode b_Mod_bytes 51 = .ok (.baload, 1) := by decide +kernel
theorem d_Mod_bytes_52 : decode b_Mod_bytes 52 = .ok (.sipush 255, 3) := by decide +kernel
theorem d_Mod_bytes_55 : decode b_Mod_bytes 55 = .ok (.iand, 1) := by decide +kernel
theorem d_Mod_bytes_56 : decode b_Mod_bytes 56 = .ok (.goto 4, 3) := by decide +kernel
theorem d_Mod_bytes_59 : decode b_Mod_bytes 59 = .ok (.iconst 0, 1) := by decide +kernel
theorem d_Mod_bytes_60 : decode b_Mod_bytes 60 = .ok (.i2l, 1) := by decide +kernel
theorem d_Mod_bytes_61 : decode b_Mod_bytes 61 = .ok (.lor, 1) := by decide +kernel
theorem d_Mod_bytes_62 : decode b_Mod_bytes 62 = .ok (.lstore_n 2, 1) := by decide +kernel
theorem d_Mod_bytes_63 : decode b_Mod_bytes 63 = .ok (.iinc 4 (-1), 3) := by decide +kernel
theorem d_Mod_bytes_66 : decode b_Mod_bytes 66 = .ok (.goto (-60), 3) := by decide +kernel
theorem d_Mod_bytes_69 : decode b_Mod_bytes 69 = .ok (.lload_n 2, 1) := by decide +kernel
theorem d_Mod_bytes_70 : decode b_Mod_bytes 70 = .ok (.lreturn, 1) := by decide +kernel
theorem d_Mod_index_0 : decode b_Mod_index 0 = .ok (.iload_n 2, 1) := by decide +kernel
theorem d_Mod_index_1 : decode b_Mod_index 1 = .ok (.ifCond .lt 8, 3) := by decide +kernel
theorem d_Mod_index_4 : decode b_Mod_index 4 = .ok (.iload_n 2, 1) := by decide +kernel
theorem d_Mod_index_5 : decode b_Mod_index 5 = .ok (.iconst 2, 1) := by decide +kernel
theorem d_Mod_index_6 : decode b_Mod_index 6 = .ok (.if_icmp .le 5, 3) := by decide +kernel
theorem d_Mod_index_9 : decode b_Mod_index 9 = .ok (.iconst (-1), 1) := by decide +kernel
theorem d_Mod_index_10 : decode b_Mod_index 10 = .ok (.ireturn, 1) := by decide +kernel
theorem d_Mod_index_11 : decode b_Mod_index 11 = .ok (.iload_n 1, 1) := by decide +kernel
theorem d_Mod_index_12 : decode b_Mod_index 12 = .ok (.ifCond .lt 11, 3) := by decide +kernel
theorem d_Mod_index_15 : decode b_Mod_index 15 = .ok (.iload_n 1, 1) := by decide +kernel
theorem d_Mod_index_16 : decode b_Mod_index 16 = .ok (.aload_n 0, 1) := by decide +kernel
theorem d_Mod_index_17 : decode b_Mod_index 17 = .ok (.getfield 112, 3) := by decide +kernel
theorem d_Mod_index_20 : decode b_Mod_index 20 = .ok (.if_icmp .lt 6, 3) := by decide +kernel
theorem d_Mod_index_23 : decode b_Mod_index 23 = .ok (.bipush (-2), 2) := by decide +kernel
theorem d_Mod_index_25 : decode b_Mod_index 25 = .ok (.ireturn, 1) := by decide +kernel
theorem d_Mod_index_26 : decode b_Mod_index 26 = .ok (.iload_n 2, 1) := by decide +kernel
theorem d_Mod_index_27 : decode b_Mod_index 27 = .ok (.ifCond .ne 12, 3) := by decide +kernel
theorem d_Mod_index_30 : decode b_Mod_index 30 = .ok (.aload_n 0, 1) := by decide +kernel
theorem d_Mod_index_31 : decode b_Mod_index 31 = .ok (.getfield 49, 3) := by decide +kernel
theorem d_Mod_index_34 : decode b_Mod_index 34 = .ok (.iload_n 1, 1) := by decide +kernel
theorem d_Mod_index_35 : decode b_Mod_index 35 = .ok (.iaload, 1) := by decide +kernel
theorem d_Mod_index_36 : decode b_Mod_index 36 = .ok (.goto 23, 3) := by decide +kernel
theorem d_Mod_index_39 : decode b_Mod_index 39 = .ok (.iload_n 2, 1) := by decide +kernel
theorem d_Mod_index_40 : decode b_Mod_index 40 = .ok (.iconst 1, 1) := by decide +kernel
theorem d_Mod_index_41 : decode b_Mod_index 41 = .ok (.if_icmp .ne 12, 3) := by decide +kernel
theorem d_Mod_index_44 : decode b_Mod_index 44 = .ok (.aload_n 0, 1) := by decide +kernel
theorem d_Mod_index_45 : decode b_Mod_index 45 = .ok (.getfield 52, 3) := by decide +kernel
theorem d_Mod_index_48 : decode b_Mod_index 48 = .ok (.iload_n 1, 1) := by decide +kernel
theorem d_Mod_index_49 : decode b_Mod_index 49 = .ok (.iaload, 1) := by decide +kernel
theorem d_Mod_index_50 : decode b_Mod_index 50 = .ok (.goto 9, 3) := by decide +kernel
theorem d_Mod_index_53 : decode b_Mod_index 53 = .ok (.aload_n 0, 1) := by decide +kernel
theorem d_Mod_index_54 : decode b_Mod_index 54 = .ok (.getfield 55, 3) := by decide +kernel
theorem d_Mod_index_57 : decode b_Mod_index 57 = .ok (.iload_n 1, 1) := by decide +kernel
theorem d_Mod_index_58 : decode b_Mod_index 58 = .ok (.iaload, 1) := by decide +kernel
theorem d_Mod_index_59 : decode b_Mod_index 59 = .ok (.ireturn, 1) := by decide +kernel
theorem d_Mod_patch_0 : decode b_Mod_patch 0 = .ok (.iload_n 1, 1) := by decide +kernel
theorem d_Mod_patch_1 : decode b_Mod_patch 1 = .ok (.ifCond .lt 11, 3) := by decide +kernel
theorem d_Mod_patch_4 : decode b_Mod_patch 4 = .ok (.iload_n 1, 1) := by decide +kernel
theorem d_Mod_patch_5 : decode b_Mod_patch 5 = .ok (.aload_n 0, 1) := by decide +kernel
theorem d_Mod_patch_6 : decode b_Mod_patch 6 = .ok (.getfield 109, 3) := by decide +kernel
theorem d_Mod_patch_9 : decode b_Mod_patch 9 = .ok (.if_icmp .lt 6, 3) := by decide +kernel
theorem d_Mod_patch_12 : decode b_Mod_patch 12 = .ok (.bipush (-2), 2) := by decide +kernel
theorem d_Mod_patch_14 : decode b_Mod_patch 14 = .ok (.ireturn, 1) := by decide +kernel
theorem d_Mod_patch_15 : decode b_Mod_patch 15 = .ok (.aload_n 0, 1) := by decide +kernel
theorem d_Mod_patch_16 : decode b_Mod_patch 16 = .ok (.getfield 46, 3) := by decide +kernel
theorem d_Mod_patch_19 : decode b_Mod_patch 19 = .ok (.iload_n 1, 1) := by decide +kernel
theorem d_Mod_patch_20 : decode b_Mod_patch 20 = .ok (.baload, 1) := by decide +kernel
theorem d_Mod_patch_21 : decode b_Mod_patch 21 = .ok (.sipush 255, 3) := by decide +kernel
theorem d_Mod_patch_24 : decode b_Mod_patch 24 = .ok (.iand, 1) := by decide +kernel
theorem d_Mod_patch_25 : decode b_Mod_patch 25 = .ok (.istore_n 3, 1) := by decide +kernel
theorem d_Mod_patch_26 : decode b_Mod_patch 26 = .ok (.aload_n 0, 1) := by decide +kernel
theorem d_Mod_patch_27 : decode b_Mod_patch 27 = .ok (.getfield 46, 3) := by decide +kernel
theorem d_Mod_patch_30 : decode b_Mod_patch 30 = .ok (.iload_n 1, 1) := by decide +kernel
theorem d_Mod_patch_31 : decode b_Mod_patch 31 = .ok (.iload_n 2, 1) := by decide +kernel
theorem d_Mod_patch_32 : decode b_Mod_patch 32 = .ok (.i2b, 1) := by decide +kernel
theorem d_Mod_patch_33 : decode b_Mod_patch 33 = .ok (.bastore, 1) := by decide +kernel
theorem d_Mod_patch_34 : decode b_Mod_patch 34 = .ok (.iload_n 3, 1) := by decide +kernel
theorem d_Mod_patch_35 : decode b_Mod_patch 35 = .ok (.ireturn, 1) := by decide +kernel
theorem d_Mod_cut_0 : decode b_Mod_cut 0 = .ok (.iload_n 1, 1) := by decide +kernel
theorem d_Mod_cut_1 : decode b_Mod_cut 1 = .ok (.ifCond .lt 11, 3) := by decide +kernel
theorem d_Mod_cut_4 : decode b_Mod_cut 4 = .ok (.iload_n 1, 1) := by decide +kernel
theorem d_Mod_cut_5 : decode b_Mod_cut 5 = .ok (.aload_n 0, 1) := by decide +kernel
theorem d_Mod_cut_6 : decode b_Mod_cut 6 = .ok (.getfield 109, 3) := by decide +kernel
theorem d_Mod_cut_9 : decode b_Mod_cut 9 = .ok (.if_icmp .le 5, 3) := by decide +kernel
theorem d_Mod_cut_12 : decode b_Mod_cut 12 = .ok (.iconst (-1), 1) := by decide +kernel
theorem d_Mod_cut_13 : decode b_Mod_cut 13 = .ok (.ireturn, 1) := by decide +kernel
theorem d_Mod_cut_14 : decode b_Mod_cut 14 = .ok (.aload_n 0, 1) := by decide +kernel
theorem d_Mod_cut_15 : decode b_Mod_cut 15 = .ok (.getfield 109, 3) := by decide +kernel
theorem d_Mod_cut_18 : decode b_Mod_cut 18 = .ok (.iload_n 1, 1) := by decide +kernel
theorem d_Mod_cut_19 : decode b_Mod_cut 19 = .ok (.isub, 1) := by decide +kernel
theorem d_Mod_cut_20 : decode b_Mod_cut 20 = .ok (.istore_n 2, 1) := by decide +kernel
theorem d_Mod_cut_21 : decode b_Mod_cut 21 = .ok (.aload_n 0, 1) := by decide +kernel
theorem d_Mod_cut_22 : decode b_Mod_cut 22 = .ok (.iload_n 1, 1) := by decide +kernel
theorem d_Mod_cut_23 : decode b_Mod_cut 23 = .ok (.putfield 109, 3) := by decide +kernel
theorem d_Mod_cut_26 : decode b_Mod_cut 26 = .ok (.iload_n 2, 1) := by decide +kernel
theorem d_Mod_cut_27 : decode b_Mod_cut 27 = .ok (.ireturn, 1) := by decide +kernel
theorem d_Mod_set_0 : decode b_Mod_set 0 = .ok (.aload_n 0, 1) := by decide +kernel
theorem d_Mod_set_1 : decode b_Mod_set 1 = .ok (.invokevirtual 83, 3) := by decide +kernel
theorem d_Mod_set_4 : decode b_Mod_set 4 = .ok (.istore 4, 2) := by decide +kernel
theorem d_Mod_set_6 : decode b_Mod_set 6 = .ok (.iload 4, 2) := by decide +kernel
theorem d_Mod_set_8 : decode b_Mod_set 8 = .ok (.iconst 1, 1) := by decide +kernel
theorem d_Mod_set_9 : decode b_Mod_set 9 = .ok (.if_icmp .lt 11, 3) := by decide +kernel
theorem d_Mod_set_12 : decode b_Mod_set 12 = .ok (.iload 4, 2) := by decide +kernel
theorem d_Mod_set_14 : decode b_Mod_set 14 = .ok (.sipush 256, 3) := by decide +kernel
theorem d_Mod_set_17 : decode b_Mod_set 17 = .ok (.if_icmp .le 5, 3) := by decide +kernel
theorem d_Mod_set_20 : decode b_Mod_set 20 = .ok (.iconst (-1), 1) := by decide +kernel
theorem d_Mod_set_21 : decode b_Mod_set 21 = .ok (.ireturn, 1) := by decide +kernel
theorem d_Mod_set_22 : decode b_Mod_set 22 = .ok (.iload_n 1, 1) := by decide +kernel
theorem d_Mod_set_23 : decode b_Mod_set 23 = .ok (.ifCond .lt 11, 3) := by decide +kernel
theorem d_Mod_set_26 : decode b_Mod_set 26 = .ok (.iload_n 1, 1) := by decide +kernel
theorem d_Mod_set_27 : decode b_Mod_set 27 = .ok (.aload_n 0, 1) := by decide +kernel
theorem d_Mod_set_28 : decode b_Mod_set 28 = .ok (.getfield 112, 3) := by decide +kernel
theorem d_Mod_set_31 : decode b_Mod_set 31 = .ok (.if_icmp .lt 6, 3) := by decide +kernel
theorem d_Mod_set_34 : decode b_Mod_set 34 = .ok (.bipush (-2), 2) := by decide +kernel
theorem d_Mod_set_36 : decode b_Mod_set 36 = .ok (.ireturn, 1) := by decide +kernel
theorem d_Mod_set_37 : decode b_Mod_set 37 = .ok (.aload_n 0, 1) := by decide +kernel
theorem d_Mod_set_38 : decode b_Mod_set 38 = .ok (.getfield 49, 3) := by decide +kernel
theorem d_Mod_set_41 : decode b_Mod_set 41 = .ok (.iload_n 1, 1) := by decide +kernel
theorem d_Mod_set_42 : decode b_Mod_set 42 = .ok (.iload_n 2, 1) := by decide +kernel
theorem d_Mod_set_43 : decode b_Mod_set 43 = .ok (.iastore, 1) := by decide +kernel
theorem d_Mod_set_44 : decode b_Mod_set 44 = .ok (.aload_n 0, 1) := by decide +kernel
theorem d_Mod_set_45 : decode b_Mod_set 45 = .ok (.getfield 52, 3) := by decide +kernel
theorem d_Mod_set_48 : decode b_Mod_set 48 = .ok (.iload_n 1, 1) := by decide +kernel
theorem d_Mod_set_49 : decode b_Mod_set 49 = .ok (.iload_n 3, 1) := by decide +kernel
theorem d_Mod_set_50 : decode b_Mod_set 50 = .ok (.iastore, 1) := by decide +kernel
theorem d_Mod_set_51 : decode b_Mod_set 51 = .ok (.aload_n 0, 1) := by decide +kernel
theorem d_Mod_set_52 : decode b_Mod_set 52 = .ok (.getfield 55, 3) := by decide +kernel
theorem d_Mod_set_55 : decode b_Mod_set 55 = .ok (.iload_n 1, 1) := by decide +kernel
theorem d_Mod_set_56 : decode b_Mod_set 56 = .ok (.iload 4, 2) := by decide +kernel
theorem d_Mod_set_58 : decode b_Mod_set 58 = .ok (.iastore, 1) := by decide +kernel
theorem d_Mod_set_59 : decode b_Mod_set 59 = .ok (.iconst 0, 1) := by decide +kernel
theorem d_Mod_set_60 : decode b_Mod_set 60 = .ok (.istore 5, 2) := by decide +kernel
theorem d_Mod_set_62 : decode b_Mod_set 62 = .ok (.iload 5, 2) := by decide +kernel
theorem d_Mod_set_64 : decode b_Mod_set 64 = .ok (.iload 4, 2) := by decide +kernel
theorem d_Mod_set_66 : decode b_Mod_set 66 = .ok (.if_icmp .ge 29, 3) := by decide +kernel
theorem d_Mod_set_69 : decode b_Mod_set 69 = .ok (.aload_n 0, 1) := by decide +kernel
theorem d_Mod_set_70 : decode b_Mod_set 70 = .ok (.getfield 58, 3) := by decide +kernel
theorem d_Mod_set_73 : decode b_Mod_set 73 = .ok (.sipush 256, 3) := by decide +kernel
theorem d_Mod_set_76 : decode b_Mod_set 76 = .ok (.iload_n 1, 1) := by decide +kernel
theorem d_Mod_set_77 : decode b_Mod_set 77 = .ok (.imul, 1) := by decide +kernel
theorem d_Mod_set_78 : decode b_Mod_set 78 = .ok (.iload 5, 2) := by decide +kernel
theorem d_Mod_set_80 : decode b_Mod_set 80 = .ok (.iadd, 1) := by decide +kernel
theorem d_Mod_set_81 : decode b_Mod_set 81 = .ok (.aload_n 0, 1) := by decide +kernel
theorem d_Mod_set_82 : decode b_Mod_set 82 = .ok (.getfield 7, 3) := by decide +kernel
theorem d_Mod_set_85 : decode b_Mod_set 85 = .ok (.iload 5, 2) := by decide +kernel
theorem d_Mod_set_87 : decode b_Mod_set 87 = .ok (.iaload, 1) := by decide +kernel
theorem d_Mod_set_88 : decode b_Mod_set 88 = .ok (.iastore, 1) := by decide +kernel
theorem d_Mod_set_89 : decode b_Mod_set 89 = .ok (.iinc 5 1, 3) := by decide +kernel
theorem d_Mod_set_92 : decode b_Mod_set 92 = .ok (.goto (-30), 3) := by decide +kernel
theorem d_Mod_set_95 : decode b_Mod_set 95 = .ok (.iconst 0, 1) := by decide +kernel
theorem d_Mod_set_96 : decode b_Mod_set 96 = .ok (.ireturn, 1) := by decide +kernel
theorem d_Mod_check_0 : decode b_Mod_check 0 = .ok (.aload_n 0, 1) := by decide +kernel
theorem d_Mod_check_1 : decode b_Mod_check 1 = .ok (.invokevirtual 184, 3) := by decide +kernel
theorem d_Mod_check_4 : decode b_Mod_check 4 = .ok (.ireturn, 1) := by decide +kernel
