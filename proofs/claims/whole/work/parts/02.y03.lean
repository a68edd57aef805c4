theorem d_Lay_openHeader_0 : decode b_Lay_openHeader 0 = .ok (.aload_n 0, 1) := by decide +kernel
theorem d_Lay_openHeader_1 : decode b_Lay_openHeader 1 = .ok (.aload_n 0, 1) := by decide +kernel
theorem d_Lay_openHeader_2 : decode b_Lay_openHeader 2 = .ok (.getfield 15, 3) := by decide +kernel
theorem d_Lay_openHeader_5 : decode b_Lay_openHeader 5 = .ok (.putfield 18, 3) := by decide +kernel
theorem d_Lay_openHeader_8 : decode b_Lay_openHeader 8 = .ok (.aload_n 0, 1) := by decide +kernel
theorem d_Lay_openHeader_9 : decode b_Lay_openHeader 9 = .ok (.aload_n 1, 1) := by decide +kernel
theorem d_Lay_openHeader_10 : decode b_Lay_openHeader 10 = .ok (.getfield 47, 3) := by decide +kernel
theorem d_Lay_openHeader_13 : decode b_Lay_openHeader 13 = .ok (.putfield 50, 3) := by decide +kernel
theorem d_Lay_openHeader_16 : decode b_Lay_openHeader 16 = .ok (.aload_n 0, 1) := by decide +kernel
theorem d_Lay_openHeader_17 : decode b_Lay_openHeader 17 = .ok (.aload_n 1, 1) := by decide +kernel
theorem d_Lay_openHeader_18 : decode b_Lay_openHeader 18 = .ok (.getfield 41, 3) := by decide +kernel
theorem d_Lay_openHeader_21 : decode b_Lay_openHeader 21 = .ok (.putfield 44, 3) := by decide +kernel
theorem d_Lay_openHeader_24 : decode b_Lay_openHeader 24 = .ok (.aload_n 0, 1) := by decide +kernel
theorem d_Lay_openHeader_25 : decode b_Lay_openHeader 25 = .ok (.iconst 0, 1) := by decide +kernel
theorem d_Lay_openHeader_26 : decode b_Lay_openHeader 26 = .ok (.putfield 21, 3) := by decide +kernel
theorem d_Lay_openHeader_29 : decode b_Lay_openHeader 29 = .ok (.aload_n 0, 1) := by decide +kernel
theorem d_Lay_openHeader_30 : decode b_Lay_openHeader 30 = .ok (.dup, 1) := by decide +kernel
theorem d_Lay_openHeader_31 : decode b_Lay_openHeader 31 = .ok (.getfield 15, 3) := by decide +kernel
theorem d_Lay_openHeader_34 : decode b_Lay_openHeader 34 = .ok (.bipush 12, 2) := by decide +kernel
theorem d_Lay_openHeader_36 : decode b_Lay_openHeader 36 = .ok (.iadd, 1) := by decide +kernel
theorem d_Lay_openHeader_37 : decode b_Lay_openHeader 37 = .ok (.putfield 15, 3) := by decide +kernel
theorem d_Lay_openHeader_40 : decode b_Lay_openHeader 40 = .ok (.return_, 1) := by decide +kernel
theorem d_Lst_writeNext_0 : decode b_Lst_writeNext 0 = .ok (.aload_n 0, 1) := by decide +kernel
theorem d_Lst_writeNext_1 : decode b_Lst_writeNext 1 = .ok (.getfield 35, 3) := by decide +kernel
theorem d_Lst_writeNext_4 : decode b_Lst_writeNext 4 = .ok (.getfield 77, 3) := by decide +kernel
theorem d_Lst_writeNext_7 : decode b_Lst_writeNext 7 = .ok (.istore_n 2, 1) := by decide +kernel
theorem d_Lst_writeNext_8 : decode b_Lst_writeNext 8 = .ok (.aload_n 0, 1) := by decide +kernel
theorem d_Lst_writeNext_9 : decode b_Lst_writeNext 9 = .ok (.getfield 35, 3) := by decide +kernel
theorem d_Lst_writeNext_12 : decode b_Lst_writeNext 12 = .ok (.aload_n 1, 1) := by decide +kernel
theorem d_Lst_writeNext_13 : decode b_Lst_writeNext 13 = .ok (.invokevirtual 70, 3) := by decide +kernel
theorem d_Lst_writeNext_16 : decode b_Lst_writeNext 16 = .ok (.ifCond .eq 9, 3) := by decide +kernel
theorem d_Lst_writeNext_19 : decode b_Lst_writeNext 19 = .ok (.aload_n 0, 1) := by decide +kernel
theorem d_Lst_writeNext_20 : decode b_Lst_writeNext 20 = .ok (.aload_n 1, 1) := by decide +kernel
theorem d_Lst_writeNext_21 : decode b_Lst_writeNext 21 = .ok (.iload_n 2, 1) := by decide +kernel
theorem d_Lst_writeNext_22 : decode b_Lst_writeNext 22 = .ok (.invokevirtual 80, 3) := by decide +kernel
theorem d_Lst_writeNext_25 : decode b_Lst_writeNext 25 = .ok (.aload_n 0, 1) := by decide +kernel
theorem d_Lst_writeNext_26 : decode b_Lst_writeNext 26 = .ok (.aload_n 0, 1) := by decide +kernel
theorem d_Lst_writeNext_27 : decode b_Lst_writeNext 27 = .ok (.getfield 35, 3) := by decide +kernel
theorem d_Lst_writeNext_30 : decode b_Lst_writeNext 30 = .ok (.getfield 77, 3) := by decide +kernel
theorem d_Lst_writeNext_33 : decode b_Lst_writeNext 33 = .ok (.aload_n 0, 1) := by decide +kernel
theorem d_Lst_writeNext_34 : decode b_Lst_writeNext 34 = .ok (.getfield 35, 3) := by decide +kernel
theorem d_Lst_writeNext_37 : decode b_Lst_writeNext 37 = .ok (.getfield 84, 3) := by decide +kernel
theorem d_Lst_writeNext_40 : decode b_Lst_writeNext 40 = .ok (.iconst 1, 1) := by decide +kernel
theorem d_Lst_writeNext_41 : decode b_Lst_writeNext 41 = .ok (.isub, 1) := by decide +kernel
theorem d_Lst_writeNext_42 : decode b_Lst_writeNext 42 = .ok (.invokevirtual 87, 3) := by decide +kernel
theorem d_Lst_writeNext_45 : decode b_Lst_writeNext 45 = .ok (.aload_n 0, 1) := by decide +kernel
theorem d_Lst_writeNext_46 : decode b_Lst_writeNext 46 = .ok (.getfield 35, 3) := by decide +kernel
theorem d_Lst_writeNext_49 : decode b_Lst_writeNext 49 = .ok (.getfield 91, 3) := by decide +kernel
theorem d_Lst_writeNext_52 : decode b_Lst_writeNext 52 = .ok (.istore_n 3, 1) := by decide +kernel
theorem d_Lst_writeNext_53 : decode b_Lst_writeNext 53 = .ok (.aload_n 0, 1) := by decide +kernel
theorem d_Lst_writeNext_54 : decode b_Lst_writeNext 54 = .ok (.iload_n 3, 1) := by decide +kernel
theorem d_Lst_writeNext_55 : decode b_Lst_writeNext 55 = .ok (.aload_n 1, 1) := by decide +kernel
theorem d_Lst_writeNext_56 : decode b_Lst_writeNext 56 = .ok (.getfield 94, 3) := by decide +kernel
theorem d_Lst_writeNext_59 : decode b_Lst_writeNext 59 = .ok (.invokevirtual 97, 3) := by decide +kernel
theorem d_Lst_writeNext_62 : decode b_Lst_writeNext 62 = .ok (.aload_n 0, 1) := by decide +kernel
theorem d_Lst_writeNext_63 : decode b_Lst_writeNext 63 = .ok (.iload_n 3, 1) := by decide +kernel
theorem d_Lst_writeNext_64 : decode b_Lst_writeNext 64 = .ok (.iconst 2, 1) := by decide +kernel
theorem d_Lst_writeNext_65 : decode b_Lst_writeNext 65 = .ok (.iadd, 1) := by decide +kernel
theorem d_Lst_writeNext_66 : decode b_Lst_writeNext 66 = .ok (.aload_n 1, 1) := by decide +kernel
theorem d_Lst_writeNext_67 : decode b_Lst_writeNext 67 = .ok (.getfield 100, 3) := by decide +kernel
theorem d_Lst_writeNext_70 : decode b_Lst_writeNext 70 = .ok (.aload_n 0, 1) := by decide +kernel
theorem d_Lst_writeNext_71 : decode b_Lst_writeNext 71 = .ok (.getfield 35, 3) := by decide +kernel
theorem d_Lst_writeNext_74 : decode b_Lst_writeNext 74 = .ok (.getfield 103, 3) := by decide +kernel
theorem d_Lst_writeNext_77 : decode b_Lst_writeNext 77 = .ok (.isub, 1) := by decide +kernel
theorem d_Lst_writeNext_78 : decode b_Lst_writeNext 78 = .ok (.invokevirtual 97, 3) := by decide +kernel
theorem d_Lst_writeNext_81 : decode b_Lst_writeNext 81 = .ok (.aload_n 0, 1) := by decide +kernel
theorem d_Lst_writeNext_82 : decode b_Lst_writeNext 82 = .ok (.iload_n 3, 1) := by decide +kernel
theorem d_Lst_writeNext_83 : decode b_Lst_writeNext 83 = .ok (.iconst 4, 1) := by decide +kernel
theorem d_Lst_writeNext_84 : decode b_Lst_writeNext 84 = .ok (.iadd, 1) := by decide +kernel
theorem d_Lst_writeNext_85 : decode b_Lst_writeNext 85 = .ok (.aload_n 1, 1) := by decide +kernel
theorem d_Lst_writeNext_86 : decode b_Lst_writeNext 86 = .ok (.getfield 106, 3) := by decide +kernel
theorem d_Lst_writeNext_89 : decode b_Lst_writeNext 89 = .ok (.invokevirtual 97, 3) := by decide +kernel
theorem d_Lst_writeNext_92 : decode b_Lst_writeNext 92 = .ok (.aload_n 0, 1) := by decide +kernel
theorem d_Lst_writeNext_93 : decode b_Lst_writeNext 93 = .ok (.iload_n 3, 1) := by decide +kernel
theorem d_Lst_writeNext_94 : decode b_Lst_writeNext 94 = .ok (.bipush 6, 2) := by decide +kernel
theorem d_Lst_writeNext_96 : decode b_Lst_writeNext 96 = .ok (.iadd, 1) := by decide +kernel
theorem d_Lst_writeNext_97 : decode b_Lst_writeNext 97 = .ok (.aload_n 1, 1) := by decide +kernel
theorem d_Lst_writeNext_98 : decode b_Lst_writeNext 98 = .ok (.getfield 109, 3) := by decide +kernel
theorem d_Lst_writeNext_101 : decode b_Lst_writeNext 101 = .ok (.arraylength, 1) := by decide +kernel
theorem d_Lst_writeNext_102 : decode b_Lst_writeNext 102 = .ok (.iconst 1, 1) := by decide +kernel
theorem d_Lst_writeNext_103 : decode b_Lst_writeNext 103 = .ok (.isub, 1) := by decide +kernel
theorem d_Lst_writeNext_104 : decode b_Lst_writeNext 104 = .ok (.invokevirtual 97, 3) := by decide +kernel
theorem d_Lst_writeNext_107 : decode b_Lst_writeNext 107 = .ok (.aload_n 1, 1) := by decide +kernel
theorem d_Lst_writeNext_108 : decode b_Lst_writeNext 108 = .ok (.getfield 109, 3) := by decide +kernel
theorem d_Lst_writeNext_111 : decode b_Lst_writeNext 111 = .ok (.iconst 0, 1) := by decide +kernel
theorem d_Lst_writeNext_112 : decode b_Lst_writeNext 112 = .ok (.aload_n 0, 1) := by decide +kernel
theorem d_Lst_writeNext_113 : decode b_Lst_writeNext 113 = .ok (.getfield 11, 3) := by decide +kernel
theorem d_Lst_writeNext_116 : decode b_Lst_writeNext 116 = .ok (.iload_n 3, 1) := by decide +kernel
theorem d_Lst_writeNext_117 : decode b_Lst_writeNext 117 = .ok (.bipush 8, 2) := by decide +kernel
theorem d_Lst_writeNext_119 : decode b_Lst_writeNext 119 = .ok (.iadd, 1) := by decide +kernel
theorem d_Lst_writeNext_120 : decode b_Lst_writeNext 120 = .ok (.aload_n 1, 1) := by decide +kernel
theorem d_Lst_writeNext_121 : decode b_Lst_writeNext 121 = .ok (.getfield 109, 3) := by decide +kernel
theorem d_Lst_writeNext_124 : decode b_Lst_writeNext 124 = .ok (.arraylength, 1) := by decide +kernel
theorem d_Lst_writeNext_125 : decode b_Lst_writeNext 125 = .ok (.invokestatic 112, 3) := by decide +kernel
theorem d_Lst_writeNext_128 : decode b_Lst_writeNext 128 = .ok (.return_, 1) := by decide +kernel
theorem d_Lst_writeHeader_0 : decode b_Lst_writeHeader 0 = .ok (.aload_n 0, 1) := by decide +kernel
theorem d_Lst_writeHeader_1 : decode b_Lst_writeHeader 1 = .ok (.getfield 35, 3) := by decide +kernel
theorem d_Lst_writeHeader_4 : decode b_Lst_writeHeader 4 = .ok (.getfield 77, 3) := by decide +kernel
theorem d_Lst_writeHeader_7 : decode b_Lst_writeHeader 7 = .ok (.istore_n 3, 1) := by decide +kernel
theorem d_Lst_writeHeader_8 : decode b_Lst_writeHeader 8 = .ok (.aload_n 0, 1) := by decide +kernel
theorem d_Lst_writeHeader_9 : decode b_Lst_writeHeader 9 = .ok (.iload_n 3, 1) := by decide +kernel
theorem d_Lst_writeHeader_10 : decode b_Lst_writeHeader 10 = .ok (.iconst 4, 1) := by decide +kernel
theorem d_Lst_writeHeader_11 : decode b_Lst_writeHeader 11 = .ok (.iadd, 1) := by decide +kernel
theorem d_Lst_writeHeader_12 : decode b_Lst_writeHeader 12 = .ok (.aload_n 1, 1) := by decide +kernel
theorem d_Lst_writeHeader_13 : decode b_Lst_writeHeader 13 = .ok (.getfield 118, 3) := by decide +kernel
theorem d_Lst_writeHeader_16 : decode b_Lst_writeHeader 16 = .ok (.invokevirtual 87, 3) := by decide +kernel
theorem d_Lst_writeHeader_19 : decode b_Lst_writeHeader 19 = .ok (.aload_n 0, 1) := by decide +kernel
theorem d_Lst_writeHeader_20 : decode b_Lst_writeHeader 20 = .ok (.iload_n 3, 1) := by decide +kernel
theorem d_Lst_writeHeader_21 : decode b_Lst_writeHeader 21 = .ok (.bipush 8, 2) := by decide +kernel
theorem d_Lst_writeHeader_23 : decode b_Lst_writeHeader 23 = .ok (.iadd, 1) := by decide +kernel
theorem d_Lst_writeHeader_24 : decode b_Lst_writeHeader 24 = .ok (.aload_n 1, 1) := by decide +kernel
theorem d_Lst_writeHeader_25 : decode b_Lst_writeHeader 25 = .ok (.getfield 100, 3) := by decide +kernel
theorem d_Lst_writeHeader_28 : decode b_Lst_writeHeader 28 = .ok (.invokevirtual 87, 3) := by decide +kernel
theorem d_Lst_writeHeader_31 : decode b_Lst_writeHeader 31 = .ok (.aload_n 0, 1) := by decide +kernel
theorem d_Lst_writeHeader_32 : decode b_Lst_writeHeader 32 = .ok (.iload_n 3, 1) := by decide +kernel
theorem d_Lst_writeHeader_33 : decode b_Lst_writeHeader 33 = .ok (.invokevirtual 121, 3) := by decide +kernel
theorem d_Lst_writeHeader_36 : decode b_Lst_writeHeader 36 = .ok (.aload_n 0, 1) := by decide +kernel
theorem d_Lst_writeHeader_37 : decode b_Lst_writeHeader 37 = .ok (.iload_n 2, 1) := by decide +kernel
theorem d_Lst_writeHeader_38 : decode b_Lst_writeHeader 38 = .ok (.invokevirtual 121, 3) := by decide +kernel
theorem d_Lst_writeHeader_41 : decode b_Lst_writeHeader 41 = .ok (.if_icmp .eq 28, 3) := by decide +kernel
theorem d_Lst_writeHeader_44 : decode b_Lst_writeHeader 44 = .ok (.aload_n 0, 1) := by decide +kernel
theorem d_Lst_writeHeader_45 : decode b_Lst_writeHeader 45 = .ok (.getfield 28, 3) := by decide +kernel
theorem d_Lst_writeHeader_48 : decode b_Lst_writeHeader 48 = .ok (.new 125, 3) := by decide +kernel
theorem d_Lst_writeHeader_51 : decode b_Lst_writeHeader 51 = .ok (.dup, 1) := by decide +kernel
theorem d_Lst_writeHeader_52 : decode b_Lst_writeHeader 52 = .ok (.iload_n 3, 1) := by decide +kernel
theorem d_Lst_writeHeader_53 : decode b_Lst_writeHeader 53 = .ok (.aload_n 0, 1) := by decide +kernel
theorem d_Lst_writeHeader_54 : decode b_Lst_writeHeader 54 = .ok (.iload_n 3, 1) := by decide +kernel
theorem d_Lst_writeHeader_55 : decode b_Lst_writeHeader 55 = .ok (.invokevirtual 127, 3) := by decide +kernel
theorem d_Lst_writeHeader_58 : decode b_Lst_writeHeader 58 = .ok (.aload_n 1, 1) := by decide +kernel
theorem d_Lst_writeHeader_59 : decode b_Lst_writeHeader 59 = .ok (.getfield 109, 3) := by decide +kernel
theorem d_Lst_writeHeader_62 : decode b_Lst_writeHeader 62 = .ok (.invokespecial 130, 3) := by decide +kernel
theorem d_Lst_writeHeader_65 : decode b_Lst_writeHeader 65 = .ok (.invokevirtual 133, 3) := by decide +kernel
theorem d_Lst_writeHeader_68 : decode b_Lst_writeHeader 68 = .ok (.pop, 1) := by decide +kernel
theorem d_Lst_writeHeader_69 : decode b_Lst_writeHeader 69 = .ok (.aload_n 0, 1) := by decide +kernel
theorem d_Lst_writeHeader_70 : decode b_Lst_writeHeader 70 = .ok (.dup, 1) := by decide +kernel
theorem d_Lst_writeHeader_71 : decode b_Lst_writeHeader 71 = .ok (.getfield 19, 3) := by decide +kernel
theorem d_Lst_writeHeader_74 : decode b_Lst_writeHeader 74 = .ok (.iconst 1, 1) := by decide +kernel
theorem d_Lst_writeHeader_75 : decode b_Lst_writeHeader 75 = .ok (.iadd, 1) := by decide +kernel
theorem d_Lst_writeHeader_76 : decode b_Lst_writeHeader 76 = .ok (.putfield 19, 3) := by decide +kernel
theorem d_Lst_writeHeader_79 : decode b_Lst_writeHeader 79 = .ok (.return_, 1) := by decide +kernel
theorem d_Lst_putU4_0 : decode b_Lst_putU4 0 = .ok (.aload_n 0, 1) := by decide +kernel
theorem d_Lst_putU4_1 : decode b_Lst_putU4 1 = .ok (.iload_n 1, 1) := by decide +kernel
theorem d_Lst_putU4_2 : decode b_Lst_putU4 2 = .ok (.iload_n 2, 1) := by decide +kernel
theorem d_Lst_putU4_3 : decode b_Lst_putU4 3 = .ok (.invokevirtual 97, 3) := by decide +kernel
theorem d_Lst_putU4_6 : decode b_Lst_putU4 6 = .ok (.aload_n 0, 1) := by decide +kernel
theorem d_Lst_putU4_7 : decode b_Lst_putU4 7 = .ok (.iload_n 1, 1) := by decide +kernel
theorem d_Lst_putU4_8 : decode b_Lst_putU4 8 = .ok (.iconst 2, 1) := by decide +kernel
theorem d_Lst_putU4_9 : decode b_Lst_putU4 9 = .ok (.iadd, 1) := by decide +kernel
theorem d_Lst_putU4_10 : decode b_Lst_putU4 10 = .ok (.iload_n 2, 1) := by decide +kernel
theorem d_Lst_putU4_11 : decode b_Lst_putU4 11 = .ok (.bipush 16, 2) := by decide +kernel
theorem d_Lst_putU4_13 : decode b_Lst_putU4 13 = .ok (.ishr, 1) := by decide +kernel
theorem d_Lst_putU4_14 : decode b_Lst_putU4 14 = .ok (.invokevirtual 97, 3) := by decide +kernel
theorem d_Lst_putU4_17 : decode b_Lst_putU4 17 = .ok (.return_, 1) := by decide +kernel
theorem d_Lst_putU2_0 : decode b_Lst_putU2 0 = .ok (.aload_n 0, 1) := by decide +kernel
theorem d_Lst_putU2_1 : decode b_Lst_putU2 1 = .ok (.getfield 11, 3) := by decide +kernel
theorem d_Lst_putU2_4 : decode b_Lst_putU2 4 = .ok (.iload_n 1, 1) := by decide +kernel
theorem d_Lst_putU2_5 : decode b_Lst_putU2 5 = .ok (.iload_n 2, 1) := by decide +kernel
theorem d_Lst_putU2_6 : decode b_Lst_putU2 6 = .ok (.i2b, 1) := by decide +kernel
theorem d_Lst_putU2_7 : decode b_Lst_putU2 7 = .ok (.bastore, 1) := by decide +kernel
theorem d_Lst_putU2_8 : decode b_Lst_putU2 8 = .ok (.aload_n 0, 1) := by decide +kernel
theorem d_Lst_putU2_9 : decode b_Lst_putU2 9 = .ok (.getfield 11, 3) := by decide +kernel
theorem d_Lst_putU2_12 : decode b_Lst_putU2 12 = .ok (.iload_n 1, 1) := by decide +kernel
theorem d_Lst_putU2_13 : decode b_Lst_putU2 13 = .ok (.iconst 1, 1) := by decide +kernel
theorem d_Lst_putU2_14 : decode b_Lst_putU2 14 = .ok (.iadd, 1) := by decide +kernel
theorem d_Lst_putU2_15 : decode b_Lst_putU2 15 = .ok (.iload_n 2, 1) := by decide +kernel
theorem d_Lst_putU2_16 : decode b_Lst_putU2 16 = .ok (.bipush 8, 2) := by decide +kernel
theorem d_Lst_putU2_18 : decode b_Lst_putU2 18 = .ok (.ishr, 1) := by decide +kernel
theorem d_Lst_putU2_19 : decode b_Lst_putU2 19 = .ok (.i2b, 1) := by decide +kernel
theorem d_Lst_putU2_20 : decode b_Lst_putU2 20 = .ok (.bastore, 1) := by decide +kernel
theorem d_Lst_putU2_21 : decode b_Lst_putU2 21 = .ok (.return_, 1) := by decide +kernel
theorem d_Lst_pieceOf_0 : decode b_Lst_pieceOf 0 = .ok (.aload_n 0, 1) := by decide +kernel
theorem d_Lst_pieceOf_1 : decode b_Lst_pieceOf 1 = .ok (.getfield 22, 3) := by decide +kernel
theorem d_Lst_pieceOf_4 : decode b_Lst_pieceOf 4 = .ok (.iload_n 1, 1) := by decide +kernel
theorem d_Lst_pieceOf_5 : decode b_Lst_pieceOf 5 = .ok (.invokestatic 137, 3) := by decide +kernel
theorem d_Lst_pieceOf_8 : decode b_Lst_pieceOf 8 = .ok (.ireturn, 1) := by decide +kernel
theorem d_Lst_startOfPieceWith_0 : decode b_Lst_startOfPieceWith 0 = .ok (.sipush 8194, 3) := by decide +kernel
theorem d_Lst_startOfPieceWith_3 : decode b_Lst_startOfPieceWith 3 = .ok (.aload_n 0, 1) := by decide +kernel
theorem d_Lst_startOfPieceWith_4 : decode b_Lst_startOfPieceWith 4 = .ok (.iload_n 1, 1) := by decide +kernel
theorem d_Lst_startOfPieceWith_5 : decode b_Lst_startOfPieceWith 5 = .ok (.invokevirtual 121, 3) := by decide +kernel
theorem d_Lst_startOfPieceWith_8 : decode b_Lst_startOfPieceWith 8 = .ok (.imul, 1) := by decide +kernel
theorem d_Lst_startOfPieceWith_9 : decode b_Lst_startOfPieceWith 9 = .ok (.ireturn, 1) := by decide +kernel
theorem d_Mark_init_0 : decode b_Mark_init 0 = .ok (.aload_n 0, 1) := by decide +kernel
theorem d_Mark_init_1 : decode b_Mark_init 1 = .ok (.invokespecial 1, 3) := by decide +kernel
theorem d_Mark_init_4 : decode b_Mark_init 4 = .ok (.aload_n 0, 1) := by decide +kernel
theorem d_Mark_init_5 : decode b_Mark_init 5 = .ok (.iload_n 1, 1) := by decide +kernel
theorem d_Mark_init_6 : decode b_Mark_init 6 = .ok (.putfield 7, 3) := by decide +kernel
theorem d_Mark_init_9 : decode b_Mark_init 9 = .ok (.aload_n 0, 1) := by decide +kernel
theorem d_Mark_init_10 : decode b_Mark_init 10 = .ok (.iload_n 2, 1) := by decide +kernel
theorem d_Mark_init_11 : decode b_Mark_init 11 = .ok (.putfield 13, 3) := by decide +kernel
theorem d_Mark_init_14 : decode b_Mark_init 14 = .ok (.aload_n 0, 1) := by decide +kernel
theorem d_Mark_init_15 : decode b_Mark_init 15 = .ok (.aload_n 3, 1) := by decide +kernel
theorem d_Mark_init_16 : decode b_Mark_init 16 = .ok (.putfield 16, 3) := by decide +kernel
theorem d_Mark_init_19 : decode b_Mark_init 19 = .ok (.return_, 1) := by decide +kernel
theorem d_AL_add1_0 : decode b_AL_add1 0 = .ok (.aload_n 0, 1) := by decide +kernel
theorem d_AL_add1_1 : decode b_AL_add1 1 = .ok (.dup, 1) := by decide +kernel
theorem d_AL_add1_2 : decode b_AL_add1 2 = .ok (.getfield 63, 3) := by decide +kernel
theorem d_AL_add1_5 : decode b_AL_add1 5 = .ok (.iconst 1, 1) := by decide +kernel
theorem d_AL_add1_6 : decode b_AL_add1 6 = .ok (.iadd, 1) := by decide +kernel
theorem d_AL_add1_7 : decode b_AL_add1 7 = .ok (.putfield 63, 3) := by decide +kernel
theorem d_AL_add1_10 : decode b_AL_add1 10 = .ok (.aload_n 0, 1) := by decide +kernel
theorem d_AL_add1_11 : decode b_AL_add1 11 = .ok (.aload_n 1, 1) := by decide +kernel
theorem d_AL_add1_12 : decode b_AL_add1 12 = .ok (.aload_n 0, 1) := by decide +kernel
theorem d_AL_add1_13 : decode b_AL_add1 13 = .ok (.getfield 9, 3) := by decide +kernel
theorem d_AL_add1_16 : decode b_AL_add1 16 = .ok (.aload_n 0, 1) := by decide +kernel
theorem d_AL_add1_17 : decode b_AL_add1 17 = .ok (.getfield 48, 3) := by decide +kernel
theorem d_AL_add1_20 : decode b_AL_add1 20 = .ok (.invokevirtual 131, 3) := by decide +kernel
theorem d_AL_add1_23 : decode b_AL_add1 23 = .ok (.iconst 1, 1) := by decide +kernel
theorem d_AL_add1_24 : decode b_AL_add1 24 = .ok (.ireturn, 1) := by decide +kernel
theorem d_AL_add3_0 : decode b_AL_add3 0 = .ok (.iload_n 3, 1) := by decide +kernel
theorem d_AL_add3_1 : decode b_AL_add3 1 = .ok (.aload_n 2, 1) := by decide +kernel
theorem d_AL_add3_2 : decode b_AL_add3 2 = .ok (.arraylength, 1) := by decide +kernel
theorem d_AL_add3_3 : decode b_AL_add3 3 = .ok (.if_icmp .ne 8, 3) := by decide +kernel
theorem d_AL_add3_6 : decode b_AL_add3 6 = .ok (.aload_n 0, 1) := by decide +kernel
theorem d_AL_add3_7 : decode b_AL_add3 7 = .ok (.invokevirtual 129, 3) := by decide +kernel
theorem d_AL_add3_10 : decode b_AL_add3 10 = .ok (.astore_n 2, 1) := by decide +kernel
theorem d_AL_add3_11 : decode b_AL_add3 11 = .ok (.aload_n 2, 1) := by decide +kernel
theorem d_AL_add3_12 : decode b_AL_add3 12 = .ok (.iload_n 3, 1) := by decide +kernel
theorem d_AL_add3_13 : decode b_AL_add3 13 = .ok (.aload_n 1, 1) := by decide +kernel
theorem d_AL_add3_14 : decode b_AL_add3 14 = .ok (.aastore, 1) := by decide +kernel
theorem d_AL_add3_15 : decode b_AL_add3 15 = .ok (.aload_n 0, 1) := by decide +kernel
theorem d_AL_add3_16 : decode b_AL_add3 16 = .ok (.iload_n 3, 1) := by decide +kernel
theorem d_AL_add3_17 : decode b_AL_add3 17 = .ok (.iconst 1, 1) := by decide +kernel
theorem d_AL_add3_18 : decode b_AL_add3 18 = .ok (.iadd, 1) := by decide +kernel
theorem d_AL_add3_19 : decode b_AL_add3 19 = .ok (.putfield 48, 3) := by decide +kernel
theorem d_AL_add3_22 : decode b_AL_add3 22 = .ok (.return_, 1) := by decide +kernel
theorem d_Row_size_0 : decode b_Row_size 0 = .ok (.iload_n 1, 1) := by decide +kernel
theorem d_Row_size_1 : decode b_Row_size 1 = .ok (.tableswitch 66 0 3 #[31, 39, 47, 58], 31) := by decide +kernel
theorem d_Row_size_32 : decode b_Row_size 32 = .ok (.aload_n 0, 1) := by decide +kernel
theorem d_Row_size_33 : decode b_Row_size 33 = .ok (.getfield 33, 3) := by decide +kernel
theorem d_Row_size_36 : decode b_Row_size 36 = .ok (.getfield 137, 3) := by decide +kernel
theorem d_Row_size_39 : decode b_Row_size 39 = .ok (.ireturn, 1) := by decide +kernel
theorem d_Row_size_40 : decode b_Row_size 40 = .ok (.aload_n 0, 1) := by decide +kernel
theorem d_Row_size_41 : decode b_Row_size 41 = .ok (.getfield 33, 3) := by decide +kernel
theorem d_Row_size_44 : decode b_Row_size 44 = .ok (.getfield 138, 3) := by decide +kernel
theorem d_Row_size_47 : decode b_Row_size 47 = .ok (.ireturn, 1) := by decide +kernel
theorem d_Row_size_48 : decode b_Row_size 48 = .ok (.aload_n 0, 1) := by decide +kernel
theorem d_Row_size_49 : decode b_Row_size 49 = .ok (.getfield 33, 3) := by decide +kernel
theorem d_Row_size_52 : decode b_Row_size 52 = .ok (.getfield 141, 3) := by decide +kernel
theorem d_Row_size_55 : decode b_Row_size 55 = .ok (.invokevirtual 145, 3) := by decide +kernel
theorem d_Row_size_58 : decode b_Row_size 58 = .ok (.ireturn, 1) := by decide +kernel
theorem d_Row_size_59 : decode b_Row_size 59 = .ok (.aload_n 0, 1) := by decide +kernel
theorem d_Row_size_60 : decode b_Row_size 60 = .ok (.getfield 33, 3) := by decide +kernel
theorem d_Row_size_63 : decode b_Row_size 63 = .ok (.getfield 150, 3) := by decide +kernel
theorem d_Row_size_66 : decode b_Row_size 66 = .ok (.ireturn, 1) := by decide +kernel
theorem d_Row_size_67 : decode b_Row_size 67 = .ok (.iconst (-1), 1) := by decide +kernel
theorem d_Row_size_68 : decode b_Row_size 68 = .ok (.ireturn, 1) := by decide +kernel
theorem d_Row_bytes_0 : decode b_Row_bytes 0 = .ok (.iload_n 1, 1) := by decide +kernel
theorem d_Row_bytes_1 : decode b_Row_bytes 1 = .ok (.ifCond .lt 17, 3) := by decide +kernel
theorem d_Row_bytes_4 : decode b_Row_bytes 4 = .ok (.iload_n 1, 1) := by decide +kernel
theorem d_Row_bytes_5 : decode b_Row_bytes 5 = .ok (.aload_n 0, 1) := by decide +kernel
theorem d_Row_bytes_6 : decode b_Row_bytes 6 = .ok (.getfield 33, 3) := by decide +kernel
theorem d_Row_bytes_9 : decode b_Row_bytes 9 = .ok (.getfield 137, 3) := by decide +kernel
theorem d_Row_bytes_12 : decode b_Row_bytes 12 = .ok (.bipush 8, 2) := by decide +kernel
theorem d_Row_bytes_14 : decode b_Row_bytes 14 = .ok (.idiv, 1) := by decide +kernel
theorem d_Row_bytes_15 : decode b_Row_bytes 15 = .ok (.if_icmp .le 5, 3) := by decide +kernel
theorem d_Row_bytes_18 : decode b_Row_bytes 18 = .ok (.lconst 0, 1) := by decide +kernel
theorem d_Row_bytes_19 : decode b_Row_bytes 19 = .ok (.lreturn, 1) := by decide +kernel
theorem d_Row_bytes_20 : decode b_Row_bytes 20 = .ok (.lconst 0, 1) := by decide +kernel
theorem d_Row_bytes_21 : decode b_Row_bytes 21 = .ok (.lstore_n 2, 1) := by decide +kernel
theorem d_Row_bytes_22 : decode b_Row_bytes 22 = .ok (.bipush 7, 2) := by decide +kernel
theorem d_Row_bytes_24 : decode b_Row_bytes 24 = .ok (.istore 4, 2) := by decide +kernel
theorem d_Row_bytes_26 : decode b_Row_bytes 26 = .ok (.iload 4, 2) := by decide +kernel
theorem d_Row_bytes_28 : decode b_Row_bytes 28 = .ok (.ifCond .lt 30, 3) := by decide +kernel
theorem d_Row_bytes_31 : decode b_Row_bytes 31 = .ok (.lload_n 2, 1) := by decide +kernel
theorem d_Row_bytes_32 : decode b_Row_bytes 32 = .ok (.bipush 8, 2) := by decide +kernel
theorem d_Row_bytes_34 : decode b_Row_bytes 34 = .ok (.lshl, 1) := by decide +kernel
theorem d_Row_bytes_35 : decode b_Row_bytes 35 = .ok (.aload_n 0, 1) := by decide +kernel
theorem d_Row_bytes_36 : decode b_Row_bytes 36 = .ok (.getfield 33, 3) := by decide +kernel
theorem d_Row_bytes_39 : decode b_Row_bytes 39 = .ok (.bipush 8, 2) := by decide +kernel
theorem d_Row_bytes_41 : decode b_Row_bytes 41 = .ok (.iload_n 1, 1) := by decide +kernel
theorem d_Row_bytes_42 : decode b_Row_bytes 42 = .ok (.imul, 1) := by decide +kernel
theorem d_Row_bytes_43 : decode b_Row_bytes 43 = .ok (.iload 4, 2) := by decide +kernel
theorem d_Row_bytes_45 : decode b_Row_bytes 45 = .ok (.iadd, 1) := by decide +kernel
theorem d_Row_bytes_46 : decode b_Row_bytes 46 = .ok (.invokevirtual 153, 3) := by decide +kernel
theorem d_Row_bytes_49 : decode b_Row_bytes 49 = .ok (.i2l, 1) := by decide +kernel
theorem d_Row_bytes_50 : decode b_Row_bytes 50 = .ok (.lor, 1) := by decide +kernel
theorem d_Row_bytes_51 : decode b_Row_bytes 51 = .ok (.lstore_n 2, 1) := by decide +kernel
theorem d_Row_bytes_52 : decode b_Row_bytes 52 = .ok (.iinc 4 (-1), 3) := by decide +kernel
theorem d_Row_bytes_55 : decode b_Row_bytes 55 = .ok (.goto (-29), 3) := by decide +kernel
theorem d_Row_bytes_58 : decode b_Row_bytes 58 = .ok (.lload_n 2, 1) := by decide +kernel
theorem d_Row_bytes_59 : decode b_Row_bytes 59 = .ok (.lreturn, 1) := by decide +kernel
theorem d_Lst_byteOrZero_0 : decode b_Lst_byteOrZero 0 = .ok (.iload_n 1, 1) := by decide +kernel
theorem d_Lst_byteOrZero_1 : decode b_Lst_byteOrZero 1 = .ok (.ifCond .lt 24, 3) := by decide +kernel
theorem d_Lst_byteOrZero_4 : decode b_Lst_byteOrZero 4 = .ok (.iload_n 1, 1) := by decide +kernel
theorem d_Lst_byteOrZero_5 : decode b_Lst_byteOrZero 5 = .ok (.aload_n 0, 1) := by decide +kernel
theorem d_Lst_byteOrZero_6 : decode b_Lst_byteOrZero 6 = .ok (.getfield 15, 3) := by decide +kernel
theorem d_Lst_byteOrZero_9 : decode b_Lst_byteOrZero 9 = .ok (.if_icmp .ge 16, 3) := by decide +kernel
theorem d_Lst_byteOrZero_12 : decode b_Lst_byteOrZero 12 = .ok (.aload_n 0, 1) := by decide +kernel
theorem d_Lst_byteOrZero_13 : decode b_Lst_byteOrZero 13 = .ok (.getfield 11, 3) := by decide +kernel
theorem d_Lst_byteOrZero_16 : decode b_Lst_byteOrZero 16 = .ok (.iload_n 1, 1) := by decide +kernel
theorem d_Lst_byteOrZero_17 : decode b_Lst_byteOrZero 17 = .ok (.baload, 1) := by decide +kernel
theorem d_Lst_byteOrZero_18 : decode b_Lst_byteOrZero 18 = .ok (.sipush 255, 3) := by decide +kernel
theorem d_Lst_byteOrZero_21 : decode b_Lst_byteOrZero 21 = .ok (.iand, 1) := by decide +kernel
theorem d_Lst_byteOrZero_22 : decode b_Lst_byteOrZero 22 = .ok (.goto 4, 3) := by decide +kernel
theorem d_Lst_byteOrZero_25 : decode b_Lst_byteOrZero 25 = .ok (.iconst 0, 1) := by decide +kernel
theorem d_Lst_byteOrZero_26 : decode b_Lst_byteOrZero 26 = .ok (.ireturn, 1) := by decide +kernel
theorem d_Row_index_0 : decode b_Row_index 0 = .ok (.iload_n 2, 1) := by decide +kernel
theorem d_Row_index_1 : decode b_Row_index 1 = .ok (.ifCond .lt 8, 3) := by decide +kernel
theorem d_Row_index_4 : decode b_Row_index 4 = .ok (.iload_n 2, 1) := by decide +kernel
theorem d_Row_index_5 : decode b_Row_index 5 = .ok (.iconst 2, 1) := by decide +kernel
theorem d_Row_index_6 : decode b_Row_index 6 = .ok (.if_icmp .le 5, 3) := by decide +kernel
theorem d_Row_index_9 : decode b_Row_index 9 = .ok (.iconst (-1), 1) := by decide +kernel
theorem d_Row_index_10 : decode b_Row_index 10 = .ok (.ireturn, 1) := by decide +kernel
theorem d_Row_index_11 : decode b_Row_index 11 = .ok (.aload_n 0, 1) := by decide +kernel
theorem d_Row_index_12 : decode b_Row_index 12 = .ok (.getfield 33, 3) := by decide +kernel
theorem d_Row_index_15 : decode b_Row_index 15 = .ok (.iload_n 1, 1) := by decide +kernel
theorem d_Row_index_16 : decode b_Row_index 16 = .ok (.invokevirtual 157, 3) := by decide +kernel
theorem d_Row_index_19 : decode b_Row_index 19 = .ok (.ifCond .ne 6, 3) := by decide +kernel
theorem d_Row_index_22 : decode b_Row_index 22 = .ok (.bipush (-2), 2) := by decide +kernel
theorem d_Row_index_24 : decode b_Row_index 24 = .ok (.ireturn, 1) := by decide +kernel
theorem d_Row_index_25 : decode b_Row_index 25 = .ok (.aload_n 0, 1) := by decide +kernel
theorem d_Row_index_26 : decode b_Row_index 26 = .ok (.getfield 33, 3) := by decide +kernel
theorem d_Row_index_29 : decode b_Row_index 29 = .ok (.getfield 141, 3) := by decide +kernel
theorem d_Row_index_32 : decode b_Row_index 32 = .ok (.iload_n 1, 1) := by decide +kernel
theorem d_Row_index_33 : decode b_Row_index 33 = .ok (.invokevirtual 160, 3) := by decide +kernel
theorem d_Row_index_36 : decode b_Row_index 36 = .ok (.checkcast 164, 3) := by decide +kernel
theorem d_Row_index_39 : decode b_Row_index 39 = .ok (.astore_n 3, 1) := by decide +kernel
theorem d_Row_index_40 : decode b_Row_index 40 = .ok (.iload_n 2, 1) := by decide +kernel
theorem d_Row_index_41 : decode b_Row_index 41 = .ok (.lookupswitch 37 #[(0, 27), (1, 32)], 27) := by decide +kernel
theorem d_Row_index_68 : decode b_Row_index 68 = .ok (.aload_n 3, 1) := by decide +kernel
theorem d_Row_index_69 : decode b_Row_index 69 = .ok (.getfield 166, 3) := by decide +kernel
theorem d_Row_index_72 : decode b_Row_index 72 = .ok (.ireturn, 1) := by decide +kernel
theorem d_Row_index_73 : decode b_Row_index 73 = .ok (.aload_n 3, 1) := by decide +kernel
theorem d_Row_index_74 : decode b_Row_index 74 = .ok (.getfield 169, 3) := by decide +kernel
theorem d_Row_index_77 : decode b_Row_index 77 = .ok (.ireturn, 1) := by decide +kernel
theorem d_Row_index_78 : decode b_Row_index 78 = .ok (.aload_n 3, 1) := by decide +kernel
theorem d_Row_index_79 : decode b_Row_index 79 = .ok (.getfield 172, 3) := by decide +kernel
theorem d_Row_index_82 : decode b_Row_index 82 = .ok (.arraylength, 1) := by decide +kernel
theorem d_Row_index_83 : decode b_Row_index 83 = .ok (.ireturn, 1) := by decide +kernel
theorem d_Lst_hasMark_0 : decode b_Lst_hasMark 0 = .ok (.iload_n 1, 1) := by decide +kernel
theorem d_Lst_hasMark_1 : decode b_Lst_hasMark 1 = .ok (.ifCond .lt 18, 3) := by decide +kernel
theorem d_Lst_hasMark_4 : decode b_Lst_hasMark 4 = .ok (.iload_n 1, 1) := by decide +kernel
theorem d_Lst_hasMark_5 : decode b_Lst_hasMark 5 = .ok (.aload_n 0, 1) := by decide +kernel
theorem d_Lst_hasMark_6 : decode b_Lst_hasMark 6 = .ok (.getfield 28, 3) := by decide +kernel
theorem d_Lst_hasMark_9 : decode b_Lst_hasMark 9 = .ok (.invokevirtual 56, 3) := by decide +kernel
theorem d_Lst_hasMark_12 : decode b_Lst_hasMark 12 = .ok (.if_icmp .ge 7, 3) := by decide +kernel
theorem d_Lst_hasMark_15 : decode b_Lst_hasMark 15 = .ok (.iconst 1, 1) := by decide +kernel
theorem d_Lst_hasMark_16 : decode b_Lst_hasMark 16 = .ok (.goto 4, 3) := by decide +kernel
theorem d_Lst_hasMark_19 : decode b_Lst_hasMark 19 = .ok (.iconst 0, 1) := by decide +kernel
theorem d_Lst_hasMark_20 : decode b_Lst_hasMark 20 = .ok (.ireturn, 1) := by decide +kernel
theorem d_Row_patch_0 : decode b_Row_patch 0 = .ok (.iload_n 1, 1) := by decide +kernel
theorem d_Row_patch_1 : decode b_Row_patch 1 = .ok (.ifCond .lt 14, 3) := by decide +kernel
theorem d_Row_patch_4 : decode b_Row_patch 4 = .ok (.iload_n 1, 1) := by decide +kernel
theorem d_Row_patch_5 : decode b_Row_patch 5 = .ok (.aload_n 0, 1) := by decide +kernel
theorem d_Row_patch_6 : decode b_Row_patch 6 = .ok (.getfield 33, 3) := by decide +kernel
theorem d_Row_patch_9 : decode b_Row_patch 9 = .ok (.getfield 137, 3) := by decide +kernel
theorem d_Row_patch_12 : decode b_Row_patch 12 = .ok (.if_icmp .lt 6, 3) := by decide +kernel
theorem d_Row_patch_15 : decode b_Row_patch 15 = .ok (.bipush (-2), 2) := by decide +kernel
theorem d_Row_patch_17 : decode b_Row_patch 17 = .ok (.ireturn, 1) := by decide +kernel
theorem d_Row_patch_18 : decode b_Row_patch 18 = .ok (.aload_n 0, 1) := by decide +kernel
theorem d_Row_patch_19 : decode b_Row_patch 19 = .ok (.getfield 33, 3) := by decide +kernel
theorem d_Row_patch_22 : decode b_Row_patch 22 = .ok (.iload_n 1, 1) := by decide +kernel
theorem d_Row_patch_23 : decode b_Row_patch 23 = .ok (.invokevirtual 153, 3) := by decide +kernel
theorem d_Row_patch_26 : decode b_Row_patch 26 = .ok (.istore_n 3, 1) := by decide +kernel
theorem d_Row_patch_27 : decode b_Row_patch 27 = .ok (.aload_n 0, 1) := by decide +kernel
theorem d_Row_patch_28 : decode b_Row_patch 28 = .ok (.getfield 33, 3) := by decide +kernel
theorem d_Row_patch_31 : decode b_Row_patch 31 = .ok (.getfield 175, 3) := by decide +kernel
theorem d_Row_patch_34 : decode b_Row_patch 34 = .ok (.iload_n 1, 1) := by decide +kernel
theorem d_Row_patch_35 : decode b_Row_patch 35 = .ok (.iload_n 2, 1) := by decide +kernel
theorem d_Row_patch_36 : decode b_Row_patch 36 = .ok (.i2b, 1) := by decide +kernel
theorem d_Row_patch_37 : decode b_Row_patch 37 = .ok (.bastore, 1) := by decide +kernel
theorem d_Row_patch_38 : decode b_Row_patch 38 = .ok (.aload_n 0, 1) := by decide +kernel
theorem d_Row_patch_39 : decode b_Row_patch 39 = .ok (.getfield 51, 3) := by decide +kernel
theorem d_Row_patch_42 : decode b_Row_patch 42 = .ok (.invokevirtual 119, 3) := by decide +kernel
theorem d_Row_patch_45 : decode b_Row_patch 45 = .ok (.iload_n 3, 1) := by decide +kernel
theorem d_Row_patch_46 : decode b_Row_patch 46 = .ok (.ireturn, 1) := by decide +kernel
theorem d_Row_cut_0 : decode b_Row_cut 0 = .ok (.iload_n 1, 1) := by decide +kernel
theorem d_Row_cut_1 : decode b_Row_cut 1 = .ok (.ifCond .lt 14, 3) := by decide +kernel
theorem d_Row_cut_4 : decode b_Row_cut 4 = .ok (.iload_n 1, 1) := by decide +kernel
theorem d_Row_cut_5 : decode b_Row_cut 5 = .ok (.aload_n 0, 1) := by decide +kernel
theorem d_Row_cut_6 : decode b_Row_cut 6 = .ok (.getfield 33, 3) := by decide +kernel
theorem d_Row_cut_9 : decode b_Row_cut 9 = .ok (.getfield 137, 3) := by decide +kernel
theorem d_Row_cut_12 : decode b_Row_cut 12 = .ok (.if_icmp .le 5, 3) := by decide +kernel
theorem d_Row_cut_15 : decode b_Row_cut 15 = .ok (.iconst (-1), 1) := by decide +kernel
theorem d_Row_cut_16 : decode b_Row_cut 16 = .ok (.ireturn, 1) := by decide +kernel
theorem d_Row_cut_17 : decode b_Row_cut 17 = .ok (.aload_n 0, 1) := by decide +kernel
theorem d_Row_cut_18 : decode b_Row_cut 18 = .ok (.getfield 33, 3) := by decide +kernel
theorem d_Row_cut_21 : decode b_Row_cut 21 = .ok (.getfield 137, 3) := by decide +kernel
theorem d_Row_cut_24 : decode b_Row_cut 24 = .ok (.iload_n 1, 1) := by decide +kernel
theorem d_Row_cut_25 : decode b_Row_cut 25 = .ok (.isub, 1) := by decide +kernel
theorem d_Row_cut_26 : decode b_Row_cut 26 = .ok (.istore_n 2, 1) := by decide +kernel
theorem d_Row_cut_27 : decode b_Row_cut 27 = .ok (.aload_n 0, 1) := by decide +kernel
theorem d_Row_cut_28 : decode b_Row_cut 28 = .ok (.getfield 33, 3) := by decide +kernel
theorem d_Row_cut_31 : decode b_Row_cut 31 = .ok (.iload_n 1, 1) := by decide +kernel
theorem d_Row_cut_32 : decode b_Row_cut 32 = .ok (.putfield 137, 3) := by decide +kernel
theorem d_Row_cut_35 : decode b_Row_cut 35 = .ok (.aload_n 0, 1) := by decide +kernel
theorem d_Row_cut_36 : decode b_Row_cut 36 = .ok (.getfield 51, 3) := by decide +kernel
theorem d_Row_cut_39 : decode b_Row_cut 39 = .ok (.invokevirtual 119, 3) := by decide +kernel
theorem d_Row_cut_42 : decode b_Row_cut 42 = .ok (.iload_n 2, 1) := by decide +kernel
theorem d_Row_cut_43 : decode b_Row_cut 43 = .ok (.ireturn, 1) := by decide +kernel
