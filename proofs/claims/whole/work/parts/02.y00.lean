theorem d_Row_init_0 : decode b_Row_init 0 = .ok (.aload_n 0, 1) := by decide +kernel
theorem d_Row_init_1 : decode b_Row_init 1 = .ok (.invokespecial 1, 3) := by decide +kernel
theorem d_Row_init_4 : decode b_Row_init 4 = .ok (.aload_n 0, 1) := by decide +kernel
theorem d_Row_init_5 : decode b_Row_init 5 = .ok (.new 7, 3) := by decide +kernel
theorem d_Row_init_8 : decode b_Row_init 8 = .ok (.dup, 1) := by decide +kernel
theorem d_Row_init_9 : decode b_Row_init 9 = .ok (.invokespecial 9, 3) := by decide +kernel
theorem d_Row_init_12 : decode b_Row_init 12 = .ok (.putfield 10, 3) := by decide +kernel
theorem d_Row_init_15 : decode b_Row_init 15 = .ok (.aload_n 0, 1) := by decide +kernel
theorem d_Row_init_16 : decode b_Row_init 16 = .ok (.new 16, 3) := by decide +kernel
theorem d_Row_init_19 : decode b_Row_init 19 = .ok (.dup, 1) := by decide +kernel
theorem d_Row_init_20 : decode b_Row_init 20 = .ok (.invokespecial 18, 3) := by decide +kernel
theorem d_Row_init_23 : decode b_Row_init 23 = .ok (.putfield 19, 3) := by decide +kernel
theorem d_Row_init_26 : decode b_Row_init 26 = .ok (.aload_n 0, 1) := by decide +kernel
theorem d_Row_init_27 : decode b_Row_init 27 = .ok (.new 23, 3) := by decide +kernel
theorem d_Row_init_30 : decode b_Row_init 30 = .ok (.dup, 1) := by decide +kernel
theorem d_Row_init_31 : decode b_Row_init 31 = .ok (.invokespecial 25, 3) := by decide +kernel
theorem d_Row_init_34 : decode b_Row_init 34 = .ok (.putfield 26, 3) := by decide +kernel
theorem d_Row_init_37 : decode b_Row_init 37 = .ok (.aload_n 0, 1) := by decide +kernel
theorem d_Row_init_38 : decode b_Row_init 38 = .ok (.new 30, 3) := by decide +kernel
theorem d_Row_init_41 : decode b_Row_init 41 = .ok (.dup, 1) := by decide +kernel
theorem d_Row_init_42 : decode b_Row_init 42 = .ok (.invokespecial 32, 3) := by decide +kernel
theorem d_Row_init_45 : decode b_Row_init 45 = .ok (.putfield 33, 3) := by decide +kernel
theorem d_Row_init_48 : decode b_Row_init 48 = .ok (.aload_n 0, 1) := by decide +kernel
theorem d_Row_init_49 : decode b_Row_init 49 = .ok (.new 37, 3) := by decide +kernel
theorem d_Row_init_52 : decode b_Row_init 52 = .ok (.dup, 1) := by decide +kernel
theorem d_Row_init_53 : decode b_Row_init 53 = .ok (.aload_n 0, 1) := by decide +kernel
theorem d_Row_init_54 : decode b_Row_init 54 = .ok (.getfield 33, 3) := by decide +kernel
theorem d_Row_init_57 : decode b_Row_init 57 = .ok (.invokespecial 39, 3) := by decide +kernel
theorem d_Row_init_60 : decode b_Row_init 60 = .ok (.putfield 42, 3) := by decide +kernel
theorem d_Row_init_63 : decode b_Row_init 63 = .ok (.aload_n 0, 1) := by decide +kernel
theorem d_Row_init_64 : decode b_Row_init 64 = .ok (.new 46, 3) := by decide +kernel
theorem d_Row_init_67 : decode b_Row_init 67 = .ok (.dup, 1) := by decide +kernel
theorem d_Row_init_68 : decode b_Row_init 68 = .ok (.aload_n 0, 1) := by decide +kernel
theorem d_Row_init_69 : decode b_Row_init 69 = .ok (.getfield 33, 3) := by decide +kernel
theorem d_Row_init_72 : decode b_Row_init 72 = .ok (.aload_n 0, 1) := by decide +kernel
theorem d_Row_init_73 : decode b_Row_init 73 = .ok (.getfield 42, 3) := by decide +kernel
theorem d_Row_init_76 : decode b_Row_init 76 = .ok (.aload_n 0, 1) := by decide +kernel
theorem d_Row_init_77 : decode b_Row_init 77 = .ok (.getfield 26, 3) := by decide +kernel
theorem d_Row_init_80 : decode b_Row_init 80 = .ok (.invokespecial 48, 3) := by decide +kernel
theorem d_Row_init_83 : decode b_Row_init 83 = .ok (.putfield 51, 3) := by decide +kernel
theorem d_Row_init_86 : decode b_Row_init 86 = .ok (.aload_n 0, 1) := by decide +kernel
theorem d_Row_init_87 : decode b_Row_init 87 = .ok (.iconst 0, 1) := by decide +kernel
theorem d_Row_init_88 : decode b_Row_init 88 = .ok (.putfield 55, 3) := by decide +kernel
theorem d_Row_init_91 : decode b_Row_init 91 = .ok (.return_, 1) := by decide +kernel
theorem d_Tape_init_0 : decode b_Tape_init 0 = .ok (.aload_n 0, 1) := by decide +kernel
theorem d_Tape_init_1 : decode b_Tape_init 1 = .ok (.invokespecial 3, 3) := by decide +kernel
theorem d_Tape_init_4 : decode b_Tape_init 4 = .ok (.aload_n 0, 1) := by decide +kernel
theorem d_Tape_init_5 : decode b_Tape_init 5 = .ok (.sipush 300, 3) := by decide +kernel
theorem d_Tape_init_8 : decode b_Tape_init 8 = .ok (.newarray .byte, 2) := by decide +kernel
theorem d_Tape_init_10 : decode b_Tape_init 10 = .ok (.putfield 9, 3) := by decide +kernel
theorem d_Tape_init_13 : decode b_Tape_init 13 = .ok (.aload_n 0, 1) := by decide +kernel
theorem d_Tape_init_14 : decode b_Tape_init 14 = .ok (.iconst 0, 1) := by decide +kernel
theorem d_Tape_init_15 : decode b_Tape_init 15 = .ok (.putfield 15, 3) := by decide +kernel
theorem d_Tape_init_18 : decode b_Tape_init 18 = .ok (.return_, 1) := by decide +kernel
theorem d_Dir_init_0 : decode b_Dir_init 0 = .ok (.aload_n 0, 1) := by decide +kernel
theorem d_Dir_init_1 : decode b_Dir_init 1 = .ok (.invokespecial 3, 3) := by decide +kernel
theorem d_Dir_init_4 : decode b_Dir_init 4 = .ok (.aload_n 0, 1) := by decide +kernel
theorem d_Dir_init_5 : decode b_Dir_init 5 = .ok (.new 9, 3) := by decide +kernel
theorem d_Dir_init_8 : decode b_Dir_init 8 = .ok (.dup, 1) := by decide +kernel
theorem d_Dir_init_9 : decode b_Dir_init 9 = .ok (.invokespecial 11, 3) := by decide +kernel
theorem d_Dir_init_12 : decode b_Dir_init 12 = .ok (.putfield 12, 3) := by decide +kernel
theorem d_Dir_init_15 : decode b_Dir_init 15 = .ok (.return_, 1) := by decide +kernel
theorem d_AL_init_0 : decode b_AL_init 0 = .ok (.aload_n 0, 1) := by decide +kernel
theorem d_AL_init_1 : decode b_AL_init 1 = .ok (.invokespecial 1, 3) := by decide +kernel
theorem d_AL_init_4 : decode b_AL_init 4 = .ok (.aload_n 0, 1) := by decide +kernel
theorem d_AL_init_5 : decode b_AL_init 5 = .ok (.getstatic 39, 3) := by decide +kernel
theorem d_AL_init_8 : decode b_AL_init 8 = .ok (.putfield 9, 3) := by decide +kernel
theorem d_AL_init_11 : decode b_AL_init 11 = .ok (.return_, 1) := by decide +kernel
theorem d_ABL_init_0 : decode b_ABL_init 0 = .ok (.aload_n 0, 1) := by decide +kernel
theorem d_ABL_init_1 : decode b_ABL_init 1 = .ok (.invokespecial 1, 3) := by decide +kernel
theorem d_ABL_init_4 : decode b_ABL_init 4 = .ok (.aload_n 0, 1) := by decide +kernel
theorem d_ABL_init_5 : decode b_ABL_init 5 = .ok (.iconst 0, 1) := by decide +kernel
theorem d_ABL_init_6 : decode b_ABL_init 6 = .ok (.putfield 7, 3) := by decide +kernel
theorem d_ABL_init_9 : decode b_ABL_init 9 = .ok (.return_, 1) := by decide +kernel
theorem d_ABC_init_0 : decode b_ABC_init 0 = .ok (.aload_n 0, 1) := by decide +kernel
theorem d_ABC_init_1 : decode b_ABC_init 1 = .ok (.invokespecial 1, 3) := by decide +kernel
theorem d_ABC_init_4 : decode b_ABC_init 4 = .ok (.return_, 1) := by decide +kernel
theorem d_Known_init_0 : decode b_Known_init 0 = .ok (.aload_n 0, 1) := by decide +kernel
theorem d_Known_init_1 : decode b_Known_init 1 = .ok (.invokespecial 3, 3) := by decide +kernel
theorem d_Known_init_4 : decode b_Known_init 4 = .ok (.aload_n 0, 1) := by decide +kernel
theorem d_Known_init_5 : decode b_Known_init 5 = .ok (.new 9, 3) := by decide +kernel
theorem d_Known_init_8 : decode b_Known_init 8 = .ok (.dup, 1) := by decide +kernel
theorem d_Known_init_9 : decode b_Known_init 9 = .ok (.invokespecial 11, 3) := by decide +kernel
theorem d_Known_init_12 : decode b_Known_init 12 = .ok (.putfield 12, 3) := by decide +kernel
theorem d_Known_init_15 : decode b_Known_init 15 = .ok (.return_, 1) := by decide +kernel
theorem d_Lst_init_0 : decode b_Lst_init 0 = .ok (.aload_n 0, 1) := by decide +kernel
theorem d_Lst_init_1 : decode b_Lst_init 1 = .ok (.invokespecial 3, 3) := by decide +kernel
theorem d_Lst_init_4 : decode b_Lst_init 4 = .ok (.aload_n 0, 1) := by decide +kernel
theorem d_Lst_init_5 : decode b_Lst_init 5 = .ok (.sipush 8192, 3) := by decide +kernel
theorem d_Lst_init_8 : decode b_Lst_init 8 = .ok (.newarray .byte, 2) := by decide +kernel
theorem d_Lst_init_10 : decode b_Lst_init 10 = .ok (.putfield 11, 3) := by decide +kernel
theorem d_Lst_init_13 : decode b_Lst_init 13 = .ok (.aload_n 0, 1) := by decide +kernel
theorem d_Lst_init_14 : decode b_Lst_init 14 = .ok (.iconst 0, 1) := by decide +kernel
theorem d_Lst_init_15 : decode b_Lst_init 15 = .ok (.putfield 15, 3) := by decide +kernel
theorem d_Lst_init_18 : decode b_Lst_init 18 = .ok (.aload_n 0, 1) := by decide +kernel
theorem d_Lst_init_19 : decode b_Lst_init 19 = .ok (.iconst 0, 1) := by decide +kernel
theorem d_Lst_init_20 : decode b_Lst_init 20 = .ok (.putfield 19, 3) := by decide +kernel
theorem d_Lst_init_23 : decode b_Lst_init 23 = .ok (.aload_n 0, 1) := by decide +kernel
theorem d_Lst_init_24 : decode b_Lst_init 24 = .ok (.iconst 0, 1) := by decide +kernel
theorem d_Lst_init_25 : decode b_Lst_init 25 = .ok (.putfield 22, 3) := by decide +kernel
theorem d_Lst_init_28 : decode b_Lst_init 28 = .ok (.aload_n 0, 1) := by decide +kernel
theorem d_Lst_init_29 : decode b_Lst_init 29 = .ok (.new 25, 3) := by decide +kernel
theorem d_Lst_init_32 : decode b_Lst_init 32 = .ok (.dup, 1) := by decide +kernel
theorem d_Lst_init_33 : decode b_Lst_init 33 = .ok (.invokespecial 27, 3) := by decide +kernel
theorem d_Lst_init_36 : decode b_Lst_init 36 = .ok (.putfield 28, 3) := by decide +kernel
theorem d_Lst_init_39 : decode b_Lst_init 39 = .ok (.aload_n 0, 1) := by decide +kernel
theorem d_Lst_init_40 : decode b_Lst_init 40 = .ok (.new 32, 3) := by decide +kernel
theorem d_Lst_init_43 : decode b_Lst_init 43 = .ok (.dup, 1) := by decide +kernel
theorem d_Lst_init_44 : decode b_Lst_init 44 = .ok (.invokespecial 34, 3) := by decide +kernel
theorem d_Lst_init_47 : decode b_Lst_init 47 = .ok (.putfield 35, 3) := by decide +kernel
theorem d_Lst_init_50 : decode b_Lst_init 50 = .ok (.return_, 1) := by decide +kernel
theorem d_Lay_init_0 : decode b_Lay_init 0 = .ok (.aload_n 0, 1) := by decide +kernel
theorem d_Lay_init_1 : decode b_Lay_init 1 = .ok (.invokespecial 3, 3) := by decide +kernel
theorem d_Lay_init_4 : decode b_Lay_init 4 = .ok (.return_, 1) := by decide +kernel
theorem d_Walk_init_0 : decode b_Walk_init 0 = .ok (.aload_n 0, 1) := by decide +kernel
theorem d_Walk_init_1 : decode b_Walk_init 1 = .ok (.invokespecial 3, 3) := by decide +kernel
theorem d_Walk_init_4 : decode b_Walk_init 4 = .ok (.aload_n 0, 1) := by decide +kernel
theorem d_Walk_init_5 : decode b_Walk_init 5 = .ok (.aload_n 1, 1) := by decide +kernel
theorem d_Walk_init_6 : decode b_Walk_init 6 = .ok (.putfield 9, 3) := by decide +kernel
theorem d_Walk_init_9 : decode b_Walk_init 9 = .ok (.return_, 1) := by decide +kernel
theorem d_Judge_init_0 : decode b_Judge_init 0 = .ok (.aload_n 0, 1) := by decide +kernel
theorem d_Judge_init_1 : decode b_Judge_init 1 = .ok (.invokespecial 3, 3) := by decide +kernel
theorem d_Judge_init_4 : decode b_Judge_init 4 = .ok (.aload_n 0, 1) := by decide +kernel
theorem d_Judge_init_5 : decode b_Judge_init 5 = .ok (.bipush (-3), 2) := by decide +kernel
theorem d_Judge_init_7 : decode b_Judge_init 7 = .ok (.putfield 11, 3) := by decide +kernel
theorem d_Judge_init_10 : decode b_Judge_init 10 = .ok (.aload_n 0, 1) := by decide +kernel
theorem d_Judge_init_11 : decode b_Judge_init 11 = .ok (.iconst 0, 1) := by decide +kernel
theorem d_Judge_init_12 : decode b_Judge_init 12 = .ok (.putfield 15, 3) := by decide +kernel
theorem d_Judge_init_15 : decode b_Judge_init 15 = .ok (.aload_n 0, 1) := by decide +kernel
theorem d_Judge_init_16 : decode b_Judge_init 16 = .ok (.aload_n 1, 1) := by decide +kernel
theorem d_Judge_init_17 : decode b_Judge_init 17 = .ok (.putfield 18, 3) := by decide +kernel
theorem d_Judge_init_20 : decode b_Judge_init 20 = .ok (.aload_n 0, 1) := by decide +kernel
theorem d_Judge_init_21 : decode b_Judge_init 21 = .ok (.aload_n 2, 1) := by decide +kernel
theorem d_Judge_init_22 : decode b_Judge_init 22 = .ok (.putfield 22, 3) := by decide +kernel
theorem d_Judge_init_25 : decode b_Judge_init 25 = .ok (.aload_n 0, 1) := by decide +kernel
theorem d_Judge_init_26 : decode b_Judge_init 26 = .ok (.aload_n 3, 1) := by decide +kernel
theorem d_Judge_init_27 : decode b_Judge_init 27 = .ok (.putfield 26, 3) := by decide +kernel
theorem d_Judge_init_30 : decode b_Judge_init 30 = .ok (.return_, 1) := by decide +kernel
theorem d_Row_feed_0 : decode b_Row_feed 0 = .ok (.iload_n 3, 1) := by decide +kernel
theorem d_Row_feed_1 : decode b_Row_feed 1 = .ok (.iconst 1, 1) := by decide +kernel
theorem d_Row_feed_2 : decode b_Row_feed 2 = .ok (.if_icmp .lt 9, 3) := by decide +kernel
theorem d_Row_feed_5 : decode b_Row_feed 5 = .ok (.iload_n 3, 1) := by decide +kernel
theorem d_Row_feed_6 : decode b_Row_feed 6 = .ok (.bipush 8, 2) := by decide +kernel
theorem d_Row_feed_8 : decode b_Row_feed 8 = .ok (.if_icmp .le 5, 3) := by decide +kernel
theorem d_Row_feed_11 : decode b_Row_feed 11 = .ok (.iconst (-1), 1) := by decide +kernel
theorem d_Row_feed_12 : decode b_Row_feed 12 = .ok (.ireturn, 1) := by decide +kernel
theorem d_Row_feed_13 : decode b_Row_feed 13 = .ok (.aload_n 0, 1) := by decide +kernel
theorem d_Row_feed_14 : decode b_Row_feed 14 = .ok (.getfield 10, 3) := by decide +kernel
theorem d_Row_feed_17 : decode b_Row_feed 17 = .ok (.lload_n 1, 1) := by decide +kernel
theorem d_Row_feed_18 : decode b_Row_feed 18 = .ok (.iload_n 3, 1) := by decide +kernel
theorem d_Row_feed_19 : decode b_Row_feed 19 = .ok (.invokevirtual 59, 3) := by decide +kernel
theorem d_Row_feed_22 : decode b_Row_feed 22 = .ok (.ifCond .eq 13, 3) := by decide +kernel
theorem d_Row_feed_25 : decode b_Row_feed 25 = .ok (.aload_n 0, 1) := by decide +kernel
theorem d_Row_feed_26 : decode b_Row_feed 26 = .ok (.getfield 10, 3) := by decide +kernel
theorem d_Row_feed_29 : decode b_Row_feed 29 = .ok (.getfield 63, 3) := by decide +kernel
theorem d_Row_feed_32 : decode b_Row_feed 32 = .ok (.goto 5, 3) := by decide +kernel
theorem d_Row_feed_35 : decode b_Row_feed 35 = .ok (.bipush (-4), 2) := by decide +kernel
theorem d_Row_feed_37 : decode b_Row_feed 37 = .ok (.ireturn, 1) := by decide +kernel
theorem d_Tape_append_0 : decode b_Tape_append 0 = .ok (.aload_n 0, 1) := by decide +kernel
theorem d_Tape_append_1 : decode b_Tape_append 1 = .ok (.getfield 15, 3) := by decide +kernel
theorem d_Tape_append_4 : decode b_Tape_append 4 = .ok (.iload_n 3, 1) := by decide +kernel
theorem d_Tape_append_5 : decode b_Tape_append 5 = .ok (.iadd, 1) := by decide +kernel
theorem d_Tape_append_6 : decode b_Tape_append 6 = .ok (.sipush 300, 3) := by decide +kernel
theorem d_Tape_append_9 : decode b_Tape_append 9 = .ok (.if_icmp .le 5, 3) := by decide +kernel
theorem d_Tape_append_12 : decode b_Tape_append 12 = .ok (.iconst 0, 1) := by decide +kernel
theorem d_Tape_append_13 : decode b_Tape_append 13 = .ok (.ireturn, 1) := by decide +kernel
theorem d_Tape_append_14 : decode b_Tape_append 14 = .ok (.iconst 0, 1) := by decide +kernel
theorem d_Tape_append_15 : decode b_Tape_append 15 = .ok (.istore 4, 2) := by decide +kernel
theorem d_Tape_append_17 : decode b_Tape_append 17 = .ok (.iload 4, 2) := by decide +kernel
theorem d_Tape_append_19 : decode b_Tape_append 19 = .ok (.iload_n 3, 1) := by decide +kernel
theorem d_Tape_append_20 : decode b_Tape_append 20 = .ok (.if_icmp .ge 30, 3) := by decide +kernel
theorem d_Tape_append_23 : decode b_Tape_append 23 = .ok (.aload_n 0, 1) := by decide +kernel
theorem d_Tape_append_24 : decode b_Tape_append 24 = .ok (.getfield 9, 3) := by decide +kernel
theorem d_Tape_append_27 : decode b_Tape_append 27 = .ok (.aload_n 0, 1) := by decide +kernel
theorem d_Tape_append_28 : decode b_Tape_append 28 = .ok (.getfield 15, 3) := by decide +kernel
theorem d_Tape_append_31 : decode b_Tape_append 31 = .ok (.iload 4, 2) := by decide +kernel
theorem d_Tape_append_33 : decode b_Tape_append 33 = .ok (.iadd, 1) := by decide +kernel
theorem d_Tape_append_34 : decode b_Tape_append 34 = .ok (.lload_n 1, 1) := by decide +kernel
theorem d_Tape_append_35 : decode b_Tape_append 35 = .ok (.bipush 8, 2) := by decide +kernel
theorem d_Tape_append_37 : decode b_Tape_append 37 = .ok (.iload 4, 2) := by decide +kernel
theorem d_Tape_append_39 : decode b_Tape_append 39 = .ok (.imul, 1) := by decide +kernel
theorem d_Tape_append_40 : decode b_Tape_append 40 = .ok (.lshr, 1) := by decide +kernel
theorem d_Tape_append_41 : decode b_Tape_append 41 = .ok (.l2i, 1) := by decide +kernel
theorem d_Tape_append_42 : decode b_Tape_append 42 = .ok (.i2b, 1) := by decide +kernel
theorem d_Tape_append_43 : decode b_Tape_append 43 = .ok (.bastore, 1) := by decide +kernel
theorem d_Tape_append_44 : decode b_Tape_append 44 = .ok (.iinc 4 1, 3) := by decide +kernel
theorem d_Tape_append_47 : decode b_Tape_append 47 = .ok (.goto (-30), 3) := by decide +kernel
theorem d_Tape_append_50 : decode b_Tape_append 50 = .ok (.aload_n 0, 1) := by decide +kernel
theorem d_Tape_append_51 : decode b_Tape_append 51 = .ok (.dup, 1) := by decide +kernel
theorem d_Tape_append_52 : decode b_Tape_append 52 = .ok (.getfield 15, 3) := by decide +kernel
theorem d_Tape_append_55 : decode b_Tape_append 55 = .ok (.iload_n 3, 1) := by decide +kernel
theorem d_Tape_append_56 : decode b_Tape_append 56 = .ok (.iadd, 1) := by decide +kernel
theorem d_Tape_append_57 : decode b_Tape_append 57 = .ok (.putfield 15, 3) := by decide +kernel
theorem d_Tape_append_60 : decode b_Tape_append 60 = .ok (.iconst 1, 1) := by decide +kernel
theorem d_Tape_append_61 : decode b_Tape_append 61 = .ok (.ireturn, 1) := by decide +kernel
theorem d_Row_add_0 : decode b_Row_add 0 = .ok (.aload_n 0, 1) := by decide +kernel
theorem d_Row_add_1 : decode b_Row_add 1 = .ok (.getfield 10, 3) := by decide +kernel
theorem d_Row_add_4 : decode b_Row_add 4 = .ok (.invokevirtual 66, 3) := by decide +kernel
theorem d_Row_add_7 : decode b_Row_add 7 = .ok (.istore 5, 2) := by decide +kernel
theorem d_Row_add_9 : decode b_Row_add 9 = .ok (.aload_n 0, 1) := by decide +kernel
theorem d_Row_add_10 : decode b_Row_add 10 = .ok (.getfield 10, 3) := by decide +kernel
theorem d_Row_add_13 : decode b_Row_add 13 = .ok (.getfield 70, 3) := by decide +kernel
theorem d_Row_add_16 : decode b_Row_add 16 = .ok (.iconst 0, 1) := by decide +kernel
theorem d_Row_add_17 : decode b_Row_add 17 = .ok (.iload 5, 2) := by decide +kernel
theorem d_Row_add_19 : decode b_Row_add 19 = .ok (.invokestatic 74, 3) := by decide +kernel
theorem d_Row_add_22 : decode b_Row_add 22 = .ok (.ifCond .eq 14, 3) := by decide +kernel
theorem d_Row_add_25 : decode b_Row_add 25 = .ok (.iload_n 1, 1) := by decide +kernel
theorem d_Row_add_26 : decode b_Row_add 26 = .ok (.iload_n 2, 1) := by decide +kernel
theorem d_Row_add_27 : decode b_Row_add 27 = .ok (.iload_n 3, 1) := by decide +kernel
theorem d_Row_add_28 : decode b_Row_add 28 = .ok (.iload 4, 2) := by decide +kernel
theorem d_Row_add_30 : decode b_Row_add 30 = .ok (.invokestatic 80, 3) := by decide +kernel
theorem d_Row_add_33 : decode b_Row_add 33 = .ok (.ifCond .ne 5, 3) := by decide +kernel
theorem d_Row_add_36 : decode b_Row_add 36 = .ok (.iconst (-1), 1) := by decide +kernel
theorem d_Row_add_37 : decode b_Row_add 37 = .ok (.ireturn, 1) := by decide +kernel
theorem d_Row_add_38 : decode b_Row_add 38 = .ok (.aload_n 0, 1) := by decide +kernel
theorem d_Row_add_39 : decode b_Row_add 39 = .ok (.getfield 19, 3) := by decide +kernel
theorem d_Row_add_42 : decode b_Row_add 42 = .ok (.aload_n 0, 1) := by decide +kernel
theorem d_Row_add_43 : decode b_Row_add 43 = .ok (.getfield 10, 3) := by decide +kernel
theorem d_Row_add_46 : decode b_Row_add 46 = .ok (.getfield 70, 3) := by decide +kernel
theorem d_Row_add_49 : decode b_Row_add 49 = .ok (.iload 5, 2) := by decide +kernel
theorem d_Row_add_51 : decode b_Row_add 51 = .ok (.invokevirtual 86, 3) := by decide +kernel
theorem d_Row_add_54 : decode b_Row_add 54 = .ok (.istore 6, 2) := by decide +kernel
theorem d_Row_add_56 : decode b_Row_add 56 = .ok (.aload_n 0, 1) := by decide +kernel
theorem d_Row_add_57 : decode b_Row_add 57 = .ok (.getfield 19, 3) := by decide +kernel
theorem d_Row_add_60 : decode b_Row_add 60 = .ok (.iload 6, 2) := by decide +kernel
theorem d_Row_add_62 : decode b_Row_add 62 = .ok (.aload_n 0, 1) := by decide +kernel
theorem d_Row_add_63 : decode b_Row_add 63 = .ok (.getfield 10, 3) := by decide +kernel
theorem d_Row_add_66 : decode b_Row_add 66 = .ok (.getfield 70, 3) := by decide +kernel
theorem d_Row_add_69 : decode b_Row_add 69 = .ok (.iload 5, 2) := by decide +kernel
theorem d_Row_add_71 : decode b_Row_add 71 = .ok (.invokevirtual 90, 3) := by decide +kernel
theorem d_Row_add_74 : decode b_Row_add 74 = .ok (.ifCond .eq 6, 3) := by decide +kernel
theorem d_Row_add_77 : decode b_Row_add 77 = .ok (.bipush (-3), 2) := by decide +kernel
theorem d_Row_add_79 : decode b_Row_add 79 = .ok (.ireturn, 1) := by decide +kernel
theorem d_Row_add_80 : decode b_Row_add 80 = .ok (.aload_n 0, 1) := by decide +kernel
theorem d_Row_add_81 : decode b_Row_add 81 = .ok (.getfield 19, 3) := by decide +kernel
theorem d_Row_add_84 : decode b_Row_add 84 = .ok (.invokevirtual 94, 3) := by decide +kernel
theorem d_Row_add_87 : decode b_Row_add 87 = .ok (.ifCond .ne 14, 3) := by decide +kernel
theorem d_Row_add_90 : decode b_Row_add 90 = .ok (.aload_n 0, 1) := by decide +kernel
theorem d_Row_add_91 : decode b_Row_add 91 = .ok (.getfield 26, 3) := by decide +kernel
theorem d_Row_add_94 : decode b_Row_add 94 = .ok (.iload_n 1, 1) := by decide +kernel
theorem d_Row_add_95 : decode b_Row_add 95 = .ok (.invokevirtual 98, 3) := by decide +kernel
theorem d_Row_add_98 : decode b_Row_add 98 = .ok (.ifCond .ne 6, 3) := by decide +kernel
theorem d_Row_add_101 : decode b_Row_add 101 = .ok (.bipush (-4), 2) := by decide +kernel
theorem d_Row_add_103 : decode b_Row_add 103 = .ok (.ireturn, 1) := by decide +kernel
theorem d_Row_add_104 : decode b_Row_add 104 = .ok (.new 81, 3) := by decide +kernel
theorem d_Row_add_107 : decode b_Row_add 107 = .ok (.dup, 1) := by decide +kernel
theorem d_Row_add_108 : decode b_Row_add 108 = .ok (.aload_n 0, 1) := by decide +kernel
theorem d_Row_add_109 : decode b_Row_add 109 = .ok (.getfield 10, 3) := by decide +kernel
theorem d_Row_add_112 : decode b_Row_add 112 = .ok (.getfield 70, 3) := by decide +kernel
theorem d_Row_add_115 : decode b_Row_add 115 = .ok (.iload 5, 2) := by decide +kernel
theorem d_Row_add_117 : decode b_Row_add 117 = .ok (.invokestatic 102, 3) := by decide +kernel
theorem d_Row_add_120 : decode b_Row_add 120 = .ok (.iload_n 1, 1) := by decide +kernel
theorem d_Row_add_121 : decode b_Row_add 121 = .ok (.iload_n 2, 1) := by decide +kernel
theorem d_Row_add_122 : decode b_Row_add 122 = .ok (.iload_n 3, 1) := by decide +kernel
theorem d_Row_add_123 : decode b_Row_add 123 = .ok (.iload 4, 2) := by decide +kernel
theorem d_Row_add_125 : decode b_Row_add 125 = .ok (.invokespecial 108, 3) := by decide +kernel
theorem d_Row_add_128 : decode b_Row_add 128 = .ok (.astore 7, 2) := by decide +kernel
theorem d_Row_add_130 : decode b_Row_add 130 = .ok (.aload_n 0, 1) := by decide +kernel
theorem d_Row_add_131 : decode b_Row_add 131 = .ok (.getfield 19, 3) := by decide +kernel
theorem d_Row_add_134 : decode b_Row_add 134 = .ok (.iload 6, 2) := by decide +kernel
theorem d_Row_add_136 : decode b_Row_add 136 = .ok (.aload 7, 2) := by decide +kernel
theorem d_Row_add_138 : decode b_Row_add 138 = .ok (.invokevirtual 111, 3) := by decide +kernel
theorem d_Row_add_141 : decode b_Row_add 141 = .ok (.aload_n 0, 1) := by decide +kernel
theorem d_Row_add_142 : decode b_Row_add 142 = .ok (.getfield 26, 3) := by decide +kernel
theorem d_Row_add_145 : decode b_Row_add 145 = .ok (.aload 7, 2) := by decide +kernel
theorem d_Row_add_147 : decode b_Row_add 147 = .ok (.invokevirtual 115, 3) := by decide +kernel
theorem d_Row_add_150 : decode b_Row_add 150 = .ok (.aload_n 0, 1) := by decide +kernel
theorem d_Row_add_151 : decode b_Row_add 151 = .ok (.getfield 51, 3) := by decide +kernel
theorem d_Row_add_154 : decode b_Row_add 154 = .ok (.invokevirtual 119, 3) := by decide +kernel
theorem d_Row_add_157 : decode b_Row_add 157 = .ok (.aload_n 0, 1) := by decide +kernel
theorem d_Row_add_158 : decode b_Row_add 158 = .ok (.getfield 19, 3) := by decide +kernel
theorem d_Row_add_161 : decode b_Row_add 161 = .ok (.invokevirtual 122, 3) := by decide +kernel
theorem d_Row_add_164 : decode b_Row_add 164 = .ok (.ireturn, 1) := by decide +kernel
theorem d_Tape_useUp_0 : decode b_Tape_useUp 0 = .ok (.aload_n 0, 1) := by decide +kernel
theorem d_Tape_useUp_1 : decode b_Tape_useUp 1 = .ok (.getfield 15, 3) := by decide +kernel
theorem d_Tape_useUp_4 : decode b_Tape_useUp 4 = .ok (.istore_n 1, 1) := by decide +kernel
theorem d_Tape_useUp_5 : decode b_Tape_useUp 5 = .ok (.aload_n 0, 1) := by decide +kernel
theorem d_Tape_useUp_6 : decode b_Tape_useUp 6 = .ok (.iconst 0, 1) := by decide +kernel
theorem d_Tape_useUp_7 : decode b_Tape_useUp 7 = .ok (.putfield 15, 3) := by decide +kernel
theorem d_Tape_useUp_10 : decode b_Tape_useUp 10 = .ok (.iload_n 1, 1) := by decide +kernel
theorem d_Tape_useUp_11 : decode b_Tape_useUp 11 = .ok (.ireturn, 1) := by decide +kernel
theorem d_Nam_isName_0 : decode b_Nam_isName 0 = .ok (.iload_n 2, 1) := by decide +kernel
theorem d_Nam_isName_1 : decode b_Nam_isName 1 = .ok (.iconst 1, 1) := by decide +kernel
theorem d_Nam_isName_2 : decode b_Nam_isName 2 = .ok (.if_icmp .lt 10, 3) := by decide +kernel
theorem d_Nam_isName_5 : decode b_Nam_isName 5 = .ok (.iload_n 2, 1) := by decide +kernel
theorem d_Nam_isName_6 : decode b_Nam_isName 6 = .ok (.sipush 256, 3) := by decide +kernel
theorem d_Nam_isName_9 : decode b_Nam_isName 9 = .ok (.if_icmp .le 5, 3) := by decide +kernel
theorem d_Nam_isName_12 : decode b_Nam_isName 12 = .ok (.iconst 0, 1) := by decide +kernel
theorem d_Nam_isName_13 : decode b_Nam_isName 13 = .ok (.ireturn, 1) := by decide +kernel
theorem d_Nam_isName_14 : decode b_Nam_isName 14 = .ok (.iconst 0, 1) := by decide +kernel
theorem d_Nam_isName_15 : decode b_Nam_isName 15 = .ok (.istore_n 3, 1) := by decide +kernel
theorem d_Nam_isName_16 : decode b_Nam_isName 16 = .ok (.iload_n 1, 1) := by decide +kernel
theorem d_Nam_isName_17 : decode b_Nam_isName 17 = .ok (.istore 4, 2) := by decide +kernel
theorem d_Nam_isName_19 : decode b_Nam_isName 19 = .ok (.iload 4, 2) := by decide +kernel
theorem d_Nam_isName_21 : decode b_Nam_isName 21 = .ok (.iload_n 1, 1) := by decide +kernel
theorem d_Nam_isName_22 : decode b_Nam_isName 22 = .ok (.iload_n 2, 1) := by decide +kernel
theorem d_Nam_isName_23 : decode b_Nam_isName 23 = .ok (.iadd, 1) := by decide +kernel
theorem d_Nam_isName_24 : decode b_Nam_isName 24 = .ok (.if_icmp .ge 39, 3) := by decide +kernel
theorem d_Nam_isName_27 : decode b_Nam_isName 27 = .ok (.aload_n 0, 1) := by decide +kernel
theorem d_Nam_isName_28 : decode b_Nam_isName 28 = .ok (.iload 4, 2) := by decide +kernel
theorem d_Nam_isName_30 : decode b_Nam_isName 30 = .ok (.baload, 1) := by decide +kernel
theorem d_Nam_isName_31 : decode b_Nam_isName 31 = .ok (.ifCond .eq 12, 3) := by decide +kernel
theorem d_Nam_isName_34 : decode b_Nam_isName 34 = .ok (.aload_n 0, 1) := by decide +kernel
theorem d_Nam_isName_35 : decode b_Nam_isName 35 = .ok (.iload 4, 2) := by decide +kernel
theorem d_Nam_isName_37 : decode b_Nam_isName 37 = .ok (.baload, 1) := by decide +kernel
theorem d_Nam_isName_38 : decode b_Nam_isName 38 = .ok (.bipush 47, 2) := by decide +kernel
theorem d_Nam_isName_40 : decode b_Nam_isName 40 = .ok (.if_icmp .ne 5, 3) := by decide +kernel
theorem d_Nam_isName_43 : decode b_Nam_isName 43 = .ok (.iconst 0, 1) := by decide +kernel
theorem d_Nam_isName_44 : decode b_Nam_isName 44 = .ok (.ireturn, 1) := by decide +kernel
theorem d_Nam_isName_45 : decode b_Nam_isName 45 = .ok (.aload_n 0, 1) := by decide +kernel
theorem d_Nam_isName_46 : decode b_Nam_isName 46 = .ok (.iload 4, 2) := by decide +kernel
theorem d_Nam_isName_48 : decode b_Nam_isName 48 = .ok (.baload, 1) := by decide +kernel
theorem d_Nam_isName_49 : decode b_Nam_isName 49 = .ok (.bipush 46, 2) := by decide +kernel
theorem d_Nam_isName_51 : decode b_Nam_isName 51 = .ok (.if_icmp .ne 6, 3) := by decide +kernel
theorem d_Nam_isName_54 : decode b_Nam_isName 54 = .ok (.iinc 3 1, 3) := by decide +kernel
theorem d_Nam_isName_57 : decode b_Nam_isName 57 = .ok (.iinc 4 1, 3) := by decide +kernel
theorem d_Nam_isName_60 : decode b_Nam_isName 60 = .ok (.goto (-41), 3) := by decide +kernel
theorem d_Nam_isName_63 : decode b_Nam_isName 63 = .ok (.iload_n 3, 1) := by decide +kernel
theorem d_Nam_isName_64 : decode b_Nam_isName 64 = .ok (.iload_n 2, 1) := by decide +kernel
theorem d_Nam_isName_65 : decode b_Nam_isName 65 = .ok (.if_icmp .lt 8, 3) := by decide +kernel
theorem d_Nam_isName_68 : decode b_Nam_isName 68 = .ok (.iload_n 2, 1) := by decide +kernel
theorem d_Nam_isName_69 : decode b_Nam_isName 69 = .ok (.iconst 2, 1) := by decide +kernel
theorem d_Nam_isName_70 : decode b_Nam_isName 70 = .ok (.if_icmp .le 7, 3) := by decide +kernel
theorem d_Nam_isName_73 : decode b_Nam_isName 73 = .ok (.iconst 1, 1) := by decide +kernel
theorem d_Nam_isName_74 : decode b_Nam_isName 74 = .ok (.goto 4, 3) := by decide +kernel
theorem d_Nam_isName_77 : decode b_Nam_isName 77 = .ok (.iconst 0, 1) := by decide +kernel
theorem d_Nam_isName_78 : decode b_Nam_isName 78 = .ok (.ireturn, 1) := by decide +kernel
theorem d_Ent_canHave_0 : decode b_Ent_canHave 0 = .ok (.iload_n 0, 1) := by decide +kernel
theorem d_Ent_canHave_1 : decode b_Ent_canHave 1 = .ok (.iconst 1, 1) := by decide +kernel
theorem d_Ent_canHave_2 : decode b_Ent_canHave 2 = .ok (.if_icmp .lt 45, 3) := by decide +kernel
theorem d_Ent_canHave_5 : decode b_Ent_canHave 5 = .ok (.iload_n 0, 1) := by decide +kernel
theorem d_Ent_canHave_6 : decode b_Ent_canHave 6 = .ok (.ldc 28, 2) := by decide +kernel
theorem d_Ent_canHave_8 : decode b_Ent_canHave 8 = .ok (.if_icmp .gt 39, 3) := by decide +kernel
theorem d_Ent_canHave_11 : decode b_Ent_canHave 11 = .ok (.iload_n 1, 1) := by decide +kernel
theorem d_Ent_canHave_12 : decode b_Ent_canHave 12 = .ok (.ifCond .lt 35, 3) := by decide +kernel
theorem d_Ent_canHave_15 : decode b_Ent_canHave 15 = .ok (.iload_n 1, 1) := by decide +kernel
theorem d_Ent_canHave_16 : decode b_Ent_canHave 16 = .ok (.ldc 29, 2) := by decide +kernel
theorem d_Ent_canHave_18 : decode b_Ent_canHave 18 = .ok (.if_icmp .gt 29, 3) := by decide +kernel
theorem d_Ent_canHave_21 : decode b_Ent_canHave 21 = .ok (.iload_n 2, 1) := by decide +kernel
theorem d_Ent_canHave_22 : decode b_Ent_canHave 22 = .ok (.ifCond .lt 25, 3) := by decide +kernel
theorem d_Ent_canHave_25 : decode b_Ent_canHave 25 = .ok (.iload_n 2, 1) := by decide +kernel
theorem d_Ent_canHave_26 : decode b_Ent_canHave 26 = .ok (.sipush 8191, 3) := by decide +kernel
theorem d_Ent_canHave_29 : decode b_Ent_canHave 29 = .ok (.if_icmp .gt 18, 3) := by decide +kernel
theorem d_Ent_canHave_32 : decode b_Ent_canHave 32 = .ok (.iload_n 3, 1) := by decide +kernel
theorem d_Ent_canHave_33 : decode b_Ent_canHave 33 = .ok (.iconst 1, 1) := by decide +kernel
theorem d_Ent_canHave_34 : decode b_Ent_canHave 34 = .ok (.if_icmp .lt 13, 3) := by decide +kernel
theorem d_Ent_canHave_37 : decode b_Ent_canHave 37 = .ok (.iload_n 3, 1) := by decide +kernel
theorem d_Ent_canHave_38 : decode b_Ent_canHave 38 = .ok (.bipush 7, 2) := by decide +kernel
theorem d_Ent_canHave_40 : decode b_Ent_canHave 40 = .ok (.if_icmp .gt 7, 3) := by decide +kernel
theorem d_Ent_canHave_43 : decode b_Ent_canHave 43 = .ok (.iconst 1, 1) := by decide +kernel
theorem d_Ent_canHave_44 : decode b_Ent_canHave 44 = .ok (.goto 4, 3) := by decide +kernel
theorem d_Ent_canHave_47 : decode b_Ent_canHave 47 = .ok (.iconst 0, 1) := by decide +kernel
theorem d_Ent_canHave_48 : decode b_Ent_canHave 48 = .ok (.ireturn, 1) := by decide +kernel
theorem d_Dir_placeOf_0 : decode b_Dir_placeOf 0 = .ok (.iconst 0, 1) := by decide +kernel
theorem d_Dir_placeOf_1 : decode b_Dir_placeOf 1 = .ok (.istore_n 3, 1) := by decide +kernel
theorem d_Dir_placeOf_2 : decode b_Dir_placeOf 2 = .ok (.aload_n 0, 1) := by decide +kernel
theorem d_Dir_placeOf_3 : decode b_Dir_placeOf 3 = .ok (.getfield 12, 3) := by decide +kernel
theorem d_Dir_placeOf_6 : decode b_Dir_placeOf 6 = .ok (.invokevirtual 18, 3) := by decide +kernel
theorem d_Dir_placeOf_9 : decode b_Dir_placeOf 9 = .ok (.istore 4, 2) := by decide +kernel
theorem d_Dir_placeOf_11 : decode b_Dir_placeOf 11 = .ok (.iconst 0, 1) := by decide +kernel
theorem d_Dir_placeOf_12 : decode b_Dir_placeOf 12 = .ok (.istore 5, 2) := by decide +kernel
theorem d_Dir_placeOf_14 : decode b_Dir_placeOf 14 = .ok (.iload 5, 2) := by decide +kernel
theorem d_Dir_placeOf_16 : decode b_Dir_placeOf 16 = .ok (.sipush 600, 3) := by decide +kernel
theorem d_Dir_placeOf_19 : decode b_Dir_placeOf 19 = .ok (.if_icmp .ge 46, 3) := by decide +kernel
theorem d_Dir_placeOf_22 : decode b_Dir_placeOf 22 = .ok (.iload_n 3, 1) := by decide +kernel
theorem d_Dir_placeOf_23 : decode b_Dir_placeOf 23 = .ok (.iload 4, 2) := by decide +kernel
theorem d_Dir_placeOf_25 : decode b_Dir_placeOf 25 = .ok (.if_icmp .ge 40, 3) := by decide +kernel
theorem d_Dir_placeOf_28 : decode b_Dir_placeOf 28 = .ok (.iload_n 3, 1) := by decide +kernel
theorem d_Dir_placeOf_29 : decode b_Dir_placeOf 29 = .ok (.iload 4, 2) := by decide +kernel
theorem d_Dir_placeOf_31 : decode b_Dir_placeOf 31 = .ok (.iadd, 1) := by decide +kernel
theorem d_Dir_placeOf_32 : decode b_Dir_placeOf 32 = .ok (.iconst 2, 1) := by decide +kernel
theorem d_Dir_placeOf_33 : decode b_Dir_placeOf 33 = .ok (.idiv, 1) := by decide +kernel
theorem d_Dir_placeOf_34 : decode b_Dir_placeOf 34 = .ok (.istore 6, 2) := by decide +kernel
theorem d_Dir_placeOf_36 : decode b_Dir_placeOf 36 = .ok (.aload_n 0, 1) := by decide +kernel
theorem d_Dir_placeOf_37 : decode b_Dir_placeOf 37 = .ok (.iload 6, 2) := by decide +kernel
theorem d_Dir_placeOf_39 : decode b_Dir_placeOf 39 = .ok (.aload_n 1, 1) := by decide +kernel
theorem d_Dir_placeOf_40 : decode b_Dir_placeOf 40 = .ok (.iload_n 2, 1) := by decide +kernel
theorem d_Dir_placeOf_41 : decode b_Dir_placeOf 41 = .ok (.invokevirtual 22, 3) := by decide +kernel
theorem d_Dir_placeOf_44 : decode b_Dir_placeOf 44 = .ok (.ifCond .ge 11, 3) := by decide +kernel
theorem d_Dir_placeOf_47 : decode b_Dir_placeOf 47 = .ok (.iload 6, 2) := by decide +kernel
theorem d_Dir_placeOf_49 : decode b_Dir_placeOf 49 = .ok (.iconst 1, 1) := by decide +kernel
theorem d_Dir_placeOf_50 : decode b_Dir_placeOf 50 = .ok (.iadd, 1) := by decide +kernel
theorem d_Dir_placeOf_51 : decode b_Dir_placeOf 51 = .ok (.istore_n 3, 1) := by decide +kernel
theorem d_Dir_placeOf_52 : decode b_Dir_placeOf 52 = .ok (.goto 7, 3) := by decide +kernel
theorem d_Dir_placeOf_55 : decode b_Dir_placeOf 55 = .ok (.iload 6, 2) := by decide +kernel
theorem d_Dir_placeOf_57 : decode b_Dir_placeOf 57 = .ok (.istore 4, 2) := by decide +kernel
theorem d_Dir_placeOf_59 : decode b_Dir_placeOf 59 = .ok (.iinc 5 1, 3) := by decide +kernel
theorem d_Dir_placeOf_62 : decode b_Dir_placeOf 62 = .ok (.goto (-48), 3) := by decide +kernel
theorem d_Dir_placeOf_65 : decode b_Dir_placeOf 65 = .ok (.iload_n 3, 1) := by decide +kernel
theorem d_Dir_placeOf_66 : decode b_Dir_placeOf 66 = .ok (.ireturn, 1) := by decide +kernel
theorem d_AL_size_0 : decode b_AL_size 0 = .ok (.aload_n 0, 1) := by decide +kernel
theorem d_AL_size_1 : decode b_AL_size 1 = .ok (.getfield 48, 3) := by decide +kernel
theorem d_AL_size_4 : decode b_AL_size 4 = .ok (.ireturn, 1) := by decide +kernel
