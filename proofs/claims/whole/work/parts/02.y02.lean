theorem d_Known_learn_0 : decode b_Known_learn 0 = .ok (.aload_n 0, 1) := by decide +kernel
theorem d_Known_learn_1 : decode b_Known_learn 1 = .ok (.aload_n 1, 1) := by decide +kernel
theorem d_Known_learn_2 : decode b_Known_learn 2 = .ok (.getfield 28, 3) := by decide +kernel
theorem d_Known_learn_5 : decode b_Known_learn 5 = .ok (.invokevirtual 32, 3) := by decide +kernel
theorem d_Known_learn_8 : decode b_Known_learn 8 = .ok (.istore_n 2, 1) := by decide +kernel
theorem d_Known_learn_9 : decode b_Known_learn 9 = .ok (.aload_n 0, 1) := by decide +kernel
theorem d_Known_learn_10 : decode b_Known_learn 10 = .ok (.iload_n 2, 1) := by decide +kernel
theorem d_Known_learn_11 : decode b_Known_learn 11 = .ok (.aload_n 1, 1) := by decide +kernel
theorem d_Known_learn_12 : decode b_Known_learn 12 = .ok (.getfield 28, 3) := by decide +kernel
theorem d_Known_learn_15 : decode b_Known_learn 15 = .ok (.invokevirtual 36, 3) := by decide +kernel
theorem d_Known_learn_18 : decode b_Known_learn 18 = .ok (.ifCond .eq 16, 3) := by decide +kernel
theorem d_Known_learn_21 : decode b_Known_learn 21 = .ok (.aload_n 0, 1) := by decide +kernel
theorem d_Known_learn_22 : decode b_Known_learn 22 = .ok (.getfield 12, 3) := by decide +kernel
theorem d_Known_learn_25 : decode b_Known_learn 25 = .ok (.iload_n 2, 1) := by decide +kernel
theorem d_Known_learn_26 : decode b_Known_learn 26 = .ok (.aload_n 1, 1) := by decide +kernel
theorem d_Known_learn_27 : decode b_Known_learn 27 = .ok (.invokevirtual 40, 3) := by decide +kernel
theorem d_Known_learn_30 : decode b_Known_learn 30 = .ok (.pop, 1) := by decide +kernel
theorem d_Known_learn_31 : decode b_Known_learn 31 = .ok (.goto 12, 3) := by decide +kernel
theorem d_Known_learn_34 : decode b_Known_learn 34 = .ok (.aload_n 0, 1) := by decide +kernel
theorem d_Known_learn_35 : decode b_Known_learn 35 = .ok (.getfield 12, 3) := by decide +kernel
theorem d_Known_learn_38 : decode b_Known_learn 38 = .ok (.iload_n 2, 1) := by decide +kernel
theorem d_Known_learn_39 : decode b_Known_learn 39 = .ok (.aload_n 1, 1) := by decide +kernel
theorem d_Known_learn_40 : decode b_Known_learn 40 = .ok (.invokevirtual 44, 3) := by decide +kernel
theorem d_Known_learn_43 : decode b_Known_learn 43 = .ok (.return_, 1) := by decide +kernel
theorem d_AL_set_0 : decode b_AL_set 0 = .ok (.iload_n 1, 1) := by decide +kernel
theorem d_AL_set_1 : decode b_AL_set 1 = .ok (.aload_n 0, 1) := by decide +kernel
theorem d_AL_set_2 : decode b_AL_set 2 = .ok (.getfield 48, 3) := by decide +kernel
theorem d_AL_set_5 : decode b_AL_set 5 = .ok (.invokestatic 118, 3) := by decide +kernel
theorem d_AL_set_8 : decode b_AL_set 8 = .ok (.pop, 1) := by decide +kernel
theorem d_AL_set_9 : decode b_AL_set 9 = .ok (.aload_n 0, 1) := by decide +kernel
theorem d_AL_set_10 : decode b_AL_set 10 = .ok (.iload_n 1, 1) := by decide +kernel
theorem d_AL_set_11 : decode b_AL_set 11 = .ok (.invokevirtual 123, 3) := by decide +kernel
theorem d_AL_set_14 : decode b_AL_set 14 = .ok (.astore_n 3, 1) := by decide +kernel
theorem d_AL_set_15 : decode b_AL_set 15 = .ok (.aload_n 0, 1) := by decide +kernel
theorem d_AL_set_16 : decode b_AL_set 16 = .ok (.getfield 9, 3) := by decide +kernel
theorem d_AL_set_19 : decode b_AL_set 19 = .ok (.iload_n 1, 1) := by decide +kernel
theorem d_AL_set_20 : decode b_AL_set 20 = .ok (.aload_n 2, 1) := by decide +kernel
theorem d_AL_set_21 : decode b_AL_set 21 = .ok (.aastore, 1) := by decide +kernel
theorem d_AL_set_22 : decode b_AL_set 22 = .ok (.aload_n 3, 1) := by decide +kernel
theorem d_AL_set_23 : decode b_AL_set 23 = .ok (.areturn, 1) := by decide +kernel
theorem d_Judge_forget_0 : decode b_Judge_forget 0 = .ok (.aload_n 0, 1) := by decide +kernel
theorem d_Judge_forget_1 : decode b_Judge_forget 1 = .ok (.bipush (-3), 2) := by decide +kernel
theorem d_Judge_forget_3 : decode b_Judge_forget 3 = .ok (.putfield 11, 3) := by decide +kernel
theorem d_Judge_forget_6 : decode b_Judge_forget 6 = .ok (.return_, 1) := by decide +kernel
theorem d_Dir_count_0 : decode b_Dir_count 0 = .ok (.aload_n 0, 1) := by decide +kernel
theorem d_Dir_count_1 : decode b_Dir_count 1 = .ok (.getfield 12, 3) := by decide +kernel
theorem d_Dir_count_4 : decode b_Dir_count 4 = .ok (.invokevirtual 18, 3) := by decide +kernel
theorem d_Dir_count_7 : decode b_Dir_count 7 = .ok (.ireturn, 1) := by decide +kernel
theorem d_Row_drop_0 : decode b_Row_drop 0 = .ok (.aload_n 0, 1) := by decide +kernel
theorem d_Row_drop_1 : decode b_Row_drop 1 = .ok (.getfield 10, 3) := by decide +kernel
theorem d_Row_drop_4 : decode b_Row_drop 4 = .ok (.invokevirtual 66, 3) := by decide +kernel
theorem d_Row_drop_7 : decode b_Row_drop 7 = .ok (.istore_n 1, 1) := by decide +kernel
theorem d_Row_drop_8 : decode b_Row_drop 8 = .ok (.aload_n 0, 1) := by decide +kernel
theorem d_Row_drop_9 : decode b_Row_drop 9 = .ok (.getfield 10, 3) := by decide +kernel
theorem d_Row_drop_12 : decode b_Row_drop 12 = .ok (.getfield 70, 3) := by decide +kernel
theorem d_Row_drop_15 : decode b_Row_drop 15 = .ok (.iconst 0, 1) := by decide +kernel
theorem d_Row_drop_16 : decode b_Row_drop 16 = .ok (.iload_n 1, 1) := by decide +kernel
theorem d_Row_drop_17 : decode b_Row_drop 17 = .ok (.invokestatic 74, 3) := by decide +kernel
theorem d_Row_drop_20 : decode b_Row_drop 20 = .ok (.ifCond .ne 5, 3) := by decide +kernel
theorem d_Row_drop_23 : decode b_Row_drop 23 = .ok (.iconst (-1), 1) := by decide +kernel
theorem d_Row_drop_24 : decode b_Row_drop 24 = .ok (.ireturn, 1) := by decide +kernel
theorem d_Row_drop_25 : decode b_Row_drop 25 = .ok (.aload_n 0, 1) := by decide +kernel
theorem d_Row_drop_26 : decode b_Row_drop 26 = .ok (.getfield 19, 3) := by decide +kernel
theorem d_Row_drop_29 : decode b_Row_drop 29 = .ok (.aload_n 0, 1) := by decide +kernel
theorem d_Row_drop_30 : decode b_Row_drop 30 = .ok (.getfield 10, 3) := by decide +kernel
theorem d_Row_drop_33 : decode b_Row_drop 33 = .ok (.getfield 70, 3) := by decide +kernel
theorem d_Row_drop_36 : decode b_Row_drop 36 = .ok (.iload_n 1, 1) := by decide +kernel
theorem d_Row_drop_37 : decode b_Row_drop 37 = .ok (.invokevirtual 86, 3) := by decide +kernel
theorem d_Row_drop_40 : decode b_Row_drop 40 = .ok (.istore_n 2, 1) := by decide +kernel
theorem d_Row_drop_41 : decode b_Row_drop 41 = .ok (.aload_n 0, 1) := by decide +kernel
theorem d_Row_drop_42 : decode b_Row_drop 42 = .ok (.getfield 19, 3) := by decide +kernel
theorem d_Row_drop_45 : decode b_Row_drop 45 = .ok (.iload_n 2, 1) := by decide +kernel
theorem d_Row_drop_46 : decode b_Row_drop 46 = .ok (.aload_n 0, 1) := by decide +kernel
theorem d_Row_drop_47 : decode b_Row_drop 47 = .ok (.getfield 10, 3) := by decide +kernel
theorem d_Row_drop_50 : decode b_Row_drop 50 = .ok (.getfield 70, 3) := by decide +kernel
theorem d_Row_drop_53 : decode b_Row_drop 53 = .ok (.iload_n 1, 1) := by decide +kernel
theorem d_Row_drop_54 : decode b_Row_drop 54 = .ok (.invokevirtual 90, 3) := by decide +kernel
theorem d_Row_drop_57 : decode b_Row_drop 57 = .ok (.ifCond .ne 6, 3) := by decide +kernel
theorem d_Row_drop_60 : decode b_Row_drop 60 = .ok (.bipush (-2), 2) := by decide +kernel
theorem d_Row_drop_62 : decode b_Row_drop 62 = .ok (.ireturn, 1) := by decide +kernel
theorem d_Row_drop_63 : decode b_Row_drop 63 = .ok (.aload_n 0, 1) := by decide +kernel
theorem d_Row_drop_64 : decode b_Row_drop 64 = .ok (.getfield 19, 3) := by decide +kernel
theorem d_Row_drop_67 : decode b_Row_drop 67 = .ok (.iload_n 2, 1) := by decide +kernel
theorem d_Row_drop_68 : decode b_Row_drop 68 = .ok (.invokevirtual 125, 3) := by decide +kernel
theorem d_Row_drop_71 : decode b_Row_drop 71 = .ok (.aload_n 0, 1) := by decide +kernel
theorem d_Row_drop_72 : decode b_Row_drop 72 = .ok (.getfield 19, 3) := by decide +kernel
theorem d_Row_drop_75 : decode b_Row_drop 75 = .ok (.invokevirtual 122, 3) := by decide +kernel
theorem d_Row_drop_78 : decode b_Row_drop 78 = .ok (.ireturn, 1) := by decide +kernel
theorem d_Dir_removeAt_0 : decode b_Dir_removeAt 0 = .ok (.aload_n 0, 1) := by decide +kernel
theorem d_Dir_removeAt_1 : decode b_Dir_removeAt 1 = .ok (.getfield 12, 3) := by decide +kernel
theorem d_Dir_removeAt_4 : decode b_Dir_removeAt 4 = .ok (.iload_n 1, 1) := by decide +kernel
theorem d_Dir_removeAt_5 : decode b_Dir_removeAt 5 = .ok (.invokevirtual 46, 3) := by decide +kernel
theorem d_Dir_removeAt_8 : decode b_Dir_removeAt 8 = .ok (.pop, 1) := by decide +kernel
theorem d_Dir_removeAt_9 : decode b_Dir_removeAt 9 = .ok (.return_, 1) := by decide +kernel
theorem d_AL_remove_0 : decode b_AL_remove 0 = .ok (.iload_n 1, 1) := by decide +kernel
theorem d_AL_remove_1 : decode b_AL_remove 1 = .ok (.aload_n 0, 1) := by decide +kernel
theorem d_AL_remove_2 : decode b_AL_remove 2 = .ok (.getfield 48, 3) := by decide +kernel
theorem d_AL_remove_5 : decode b_AL_remove 5 = .ok (.invokestatic 118, 3) := by decide +kernel
theorem d_AL_remove_8 : decode b_AL_remove 8 = .ok (.pop, 1) := by decide +kernel
theorem d_AL_remove_9 : decode b_AL_remove 9 = .ok (.aload_n 0, 1) := by decide +kernel
theorem d_AL_remove_10 : decode b_AL_remove 10 = .ok (.getfield 9, 3) := by decide +kernel
theorem d_AL_remove_13 : decode b_AL_remove 13 = .ok (.astore_n 2, 1) := by decide +kernel
theorem d_AL_remove_14 : decode b_AL_remove 14 = .ok (.aload_n 2, 1) := by decide +kernel
theorem d_AL_remove_15 : decode b_AL_remove 15 = .ok (.iload_n 1, 1) := by decide +kernel
theorem d_AL_remove_16 : decode b_AL_remove 16 = .ok (.aaload, 1) := by decide +kernel
theorem d_AL_remove_17 : decode b_AL_remove 17 = .ok (.astore_n 3, 1) := by decide +kernel
theorem d_AL_remove_18 : decode b_AL_remove 18 = .ok (.aload_n 0, 1) := by decide +kernel
theorem d_AL_remove_19 : decode b_AL_remove 19 = .ok (.aload_n 2, 1) := by decide +kernel
theorem d_AL_remove_20 : decode b_AL_remove 20 = .ok (.iload_n 1, 1) := by decide +kernel
theorem d_AL_remove_21 : decode b_AL_remove 21 = .ok (.invokevirtual 144, 3) := by decide +kernel
theorem d_AL_remove_24 : decode b_AL_remove 24 = .ok (.aload_n 3, 1) := by decide +kernel
theorem d_AL_remove_25 : decode b_AL_remove 25 = .ok (.areturn, 1) := by decide +kernel
theorem d_AL_fastRemove_0 : decode b_AL_fastRemove 0 = .ok (.aload_n 0, 1) := by decide +kernel
theorem d_AL_fastRemove_1 : decode b_AL_fastRemove 1 = .ok (.dup, 1) := by decide +kernel
theorem d_AL_fastRemove_2 : decode b_AL_fastRemove 2 = .ok (.getfield 63, 3) := by decide +kernel
theorem d_AL_fastRemove_5 : decode b_AL_fastRemove 5 = .ok (.iconst 1, 1) := by decide +kernel
theorem d_AL_fastRemove_6 : decode b_AL_fastRemove 6 = .ok (.iadd, 1) := by decide +kernel
theorem d_AL_fastRemove_7 : decode b_AL_fastRemove 7 = .ok (.putfield 63, 3) := by decide +kernel
theorem d_AL_fastRemove_10 : decode b_AL_fastRemove 10 = .ok (.aload_n 0, 1) := by decide +kernel
theorem d_AL_fastRemove_11 : decode b_AL_fastRemove 11 = .ok (.getfield 48, 3) := by decide +kernel
theorem d_AL_fastRemove_14 : decode b_AL_fastRemove 14 = .ok (.iconst 1, 1) := by decide +kernel
theorem d_AL_fastRemove_15 : decode b_AL_fastRemove 15 = .ok (.isub, 1) := by decide +kernel
theorem d_AL_fastRemove_16 : decode b_AL_fastRemove 16 = .ok (.dup, 1) := by decide +kernel
theorem d_AL_fastRemove_17 : decode b_AL_fastRemove 17 = .ok (.istore_n 3, 1) := by decide +kernel
theorem d_AL_fastRemove_18 : decode b_AL_fastRemove 18 = .ok (.iload_n 2, 1) := by decide +kernel
theorem d_AL_fastRemove_19 : decode b_AL_fastRemove 19 = .ok (.if_icmp .le 15, 3) := by decide +kernel
theorem d_AL_fastRemove_22 : decode b_AL_fastRemove 22 = .ok (.aload_n 1, 1) := by decide +kernel
theorem d_AL_fastRemove_23 : decode b_AL_fastRemove 23 = .ok (.iload_n 2, 1) := by decide +kernel
theorem d_AL_fastRemove_24 : decode b_AL_fastRemove 24 = .ok (.iconst 1, 1) := by decide +kernel
theorem d_AL_fastRemove_25 : decode b_AL_fastRemove 25 = .ok (.iadd, 1) := by decide +kernel
theorem d_AL_fastRemove_26 : decode b_AL_fastRemove 26 = .ok (.aload_n 1, 1) := by decide +kernel
theorem d_AL_fastRemove_27 : decode b_AL_fastRemove 27 = .ok (.iload_n 2, 1) := by decide +kernel
theorem d_AL_fastRemove_28 : decode b_AL_fastRemove 28 = .ok (.iload_n 3, 1) := by decide +kernel
theorem d_AL_fastRemove_29 : decode b_AL_fastRemove 29 = .ok (.iload_n 2, 1) := by decide +kernel
theorem d_AL_fastRemove_30 : decode b_AL_fastRemove 30 = .ok (.isub, 1) := by decide +kernel
theorem d_AL_fastRemove_31 : decode b_AL_fastRemove 31 = .ok (.invokestatic 112, 3) := by decide +kernel
theorem d_AL_fastRemove_34 : decode b_AL_fastRemove 34 = .ok (.aload_n 1, 1) := by decide +kernel
theorem d_AL_fastRemove_35 : decode b_AL_fastRemove 35 = .ok (.aload_n 0, 1) := by decide +kernel
theorem d_AL_fastRemove_36 : decode b_AL_fastRemove 36 = .ok (.iload_n 3, 1) := by decide +kernel
theorem d_AL_fastRemove_37 : decode b_AL_fastRemove 37 = .ok (.dup_x1, 1) := by decide +kernel
theorem d_AL_fastRemove_38 : decode b_AL_fastRemove 38 = .ok (.putfield 48, 3) := by decide +kernel
theorem d_AL_fastRemove_41 : decode b_AL_fastRemove 41 = .ok (.aconst_null, 1) := by decide +kernel
theorem d_AL_fastRemove_42 : decode b_AL_fastRemove 42 = .ok (.aastore, 1) := by decide +kernel
theorem d_AL_fastRemove_43 : decode b_AL_fastRemove 43 = .ok (.return_, 1) := by decide +kernel
theorem d_Row_clear_0 : decode b_Row_clear 0 = .ok (.aload_n 0, 1) := by decide +kernel
theorem d_Row_clear_1 : decode b_Row_clear 1 = .ok (.getfield 19, 3) := by decide +kernel
theorem d_Row_clear_4 : decode b_Row_clear 4 = .ok (.invokevirtual 122, 3) := by decide +kernel
theorem d_Row_clear_7 : decode b_Row_clear 7 = .ok (.istore_n 1, 1) := by decide +kernel
theorem d_Row_clear_8 : decode b_Row_clear 8 = .ok (.aload_n 0, 1) := by decide +kernel
theorem d_Row_clear_9 : decode b_Row_clear 9 = .ok (.getfield 19, 3) := by decide +kernel
theorem d_Row_clear_12 : decode b_Row_clear 12 = .ok (.invokevirtual 129, 3) := by decide +kernel
theorem d_Row_clear_15 : decode b_Row_clear 15 = .ok (.iload_n 1, 1) := by decide +kernel
theorem d_Row_clear_16 : decode b_Row_clear 16 = .ok (.ireturn, 1) := by decide +kernel
theorem d_Dir_removeAll_0 : decode b_Dir_removeAll 0 = .ok (.aload_n 0, 1) := by decide +kernel
theorem d_Dir_removeAll_1 : decode b_Dir_removeAll 1 = .ok (.getfield 12, 3) := by decide +kernel
theorem d_Dir_removeAll_4 : decode b_Dir_removeAll 4 = .ok (.invokevirtual 49, 3) := by decide +kernel
theorem d_Dir_removeAll_7 : decode b_Dir_removeAll 7 = .ok (.return_, 1) := by decide +kernel
theorem d_AL_clear_0 : decode b_AL_clear 0 = .ok (.aload_n 0, 1) := by decide +kernel
theorem d_AL_clear_1 : decode b_AL_clear 1 = .ok (.dup, 1) := by decide +kernel
theorem d_AL_clear_2 : decode b_AL_clear 2 = .ok (.getfield 63, 3) := by decide +kernel
theorem d_AL_clear_5 : decode b_AL_clear 5 = .ok (.iconst 1, 1) := by decide +kernel
theorem d_AL_clear_6 : decode b_AL_clear 6 = .ok (.iadd, 1) := by decide +kernel
theorem d_AL_clear_7 : decode b_AL_clear 7 = .ok (.putfield 63, 3) := by decide +kernel
theorem d_AL_clear_10 : decode b_AL_clear 10 = .ok (.aload_n 0, 1) := by decide +kernel
theorem d_AL_clear_11 : decode b_AL_clear 11 = .ok (.getfield 9, 3) := by decide +kernel
theorem d_AL_clear_14 : decode b_AL_clear 14 = .ok (.astore_n 1, 1) := by decide +kernel
theorem d_AL_clear_15 : decode b_AL_clear 15 = .ok (.aload_n 0, 1) := by decide +kernel
theorem d_AL_clear_16 : decode b_AL_clear 16 = .ok (.getfield 48, 3) := by decide +kernel
theorem d_AL_clear_19 : decode b_AL_clear 19 = .ok (.istore_n 2, 1) := by decide +kernel
theorem d_AL_clear_20 : decode b_AL_clear 20 = .ok (.aload_n 0, 1) := by decide +kernel
theorem d_AL_clear_21 : decode b_AL_clear 21 = .ok (.iconst 0, 1) := by decide +kernel
theorem d_AL_clear_22 : decode b_AL_clear 22 = .ok (.dup_x1, 1) := by decide +kernel
theorem d_AL_clear_23 : decode b_AL_clear 23 = .ok (.putfield 48, 3) := by decide +kernel
theorem d_AL_clear_26 : decode b_AL_clear 26 = .ok (.istore_n 3, 1) := by decide +kernel
theorem d_AL_clear_27 : decode b_AL_clear 27 = .ok (.iload_n 3, 1) := by decide +kernel
theorem d_AL_clear_28 : decode b_AL_clear 28 = .ok (.iload_n 2, 1) := by decide +kernel
theorem d_AL_clear_29 : decode b_AL_clear 29 = .ok (.if_icmp .ge 13, 3) := by decide +kernel
theorem d_AL_clear_32 : decode b_AL_clear 32 = .ok (.aload_n 1, 1) := by decide +kernel
theorem d_AL_clear_33 : decode b_AL_clear 33 = .ok (.iload_n 3, 1) := by decide +kernel
theorem d_AL_clear_34 : decode b_AL_clear 34 = .ok (.aconst_null, 1) := by decide +kernel
theorem d_AL_clear_35 : decode b_AL_clear 35 = .ok (.aastore, 1) := by decide +kernel
theorem d_AL_clear_36 : decode b_AL_clear 36 = .ok (.iinc 3 1, 3) := by decide +kernel
theorem d_AL_clear_39 : decode b_AL_clear 39 = .ok (.goto (-12), 3) := by decide +kernel
theorem d_AL_clear_42 : decode b_AL_clear 42 = .ok (.return_, 1) := by decide +kernel
theorem d_Row_make_0 : decode b_Row_make 0 = .ok (.iload_n 1, 1) := by decide +kernel
theorem d_Row_make_1 : decode b_Row_make 1 = .ok (.ifCond .lt 9, 3) := by decide +kernel
theorem d_Row_make_4 : decode b_Row_make 4 = .ok (.iload_n 1, 1) := by decide +kernel
theorem d_Row_make_5 : decode b_Row_make 5 = .ok (.ldc 132, 2) := by decide +kernel
theorem d_Row_make_7 : decode b_Row_make 7 = .ok (.if_icmp .le 5, 3) := by decide +kernel
theorem d_Row_make_10 : decode b_Row_make 10 = .ok (.iconst (-1), 1) := by decide +kernel
theorem d_Row_make_11 : decode b_Row_make 11 = .ok (.ireturn, 1) := by decide +kernel
theorem d_Row_make_12 : decode b_Row_make 12 = .ok (.aload_n 0, 1) := by decide +kernel
theorem d_Row_make_13 : decode b_Row_make 13 = .ok (.getfield 33, 3) := by decide +kernel
theorem d_Row_make_16 : decode b_Row_make 16 = .ok (.aload_n 0, 1) := by decide +kernel
theorem d_Row_make_17 : decode b_Row_make 17 = .ok (.getfield 19, 3) := by decide +kernel
theorem d_Row_make_20 : decode b_Row_make 20 = .ok (.iload_n 1, 1) := by decide +kernel
theorem d_Row_make_21 : decode b_Row_make 21 = .ok (.invokevirtual 133, 3) := by decide +kernel
theorem d_Row_make_24 : decode b_Row_make 24 = .ok (.ifCond .ne 6, 3) := by decide +kernel
theorem d_Row_make_27 : decode b_Row_make 27 = .ok (.bipush (-4), 2) := by decide +kernel
theorem d_Row_make_29 : decode b_Row_make 29 = .ok (.ireturn, 1) := by decide +kernel
theorem d_Row_make_30 : decode b_Row_make 30 = .ok (.aload_n 0, 1) := by decide +kernel
theorem d_Row_make_31 : decode b_Row_make 31 = .ok (.getfield 51, 3) := by decide +kernel
theorem d_Row_make_34 : decode b_Row_make 34 = .ok (.invokevirtual 119, 3) := by decide +kernel
theorem d_Row_make_37 : decode b_Row_make 37 = .ok (.aload_n 0, 1) := by decide +kernel
theorem d_Row_make_38 : decode b_Row_make 38 = .ok (.getfield 33, 3) := by decide +kernel
theorem d_Row_make_41 : decode b_Row_make 41 = .ok (.getfield 137, 3) := by decide +kernel
theorem d_Row_make_44 : decode b_Row_make 44 = .ok (.ireturn, 1) := by decide +kernel
theorem d_Lst_write_0 : decode b_Lst_write 0 = .ok (.aload_n 0, 1) := by decide +kernel
theorem d_Lst_write_1 : decode b_Lst_write 1 = .ok (.aload_n 1, 1) := by decide +kernel
theorem d_Lst_write_2 : decode b_Lst_write 2 = .ok (.iload_n 2, 1) := by decide +kernel
theorem d_Lst_write_3 : decode b_Lst_write 3 = .ok (.invokevirtual 39, 3) := by decide +kernel
theorem d_Lst_write_6 : decode b_Lst_write 6 = .ok (.istore_n 3, 1) := by decide +kernel
theorem d_Lst_write_7 : decode b_Lst_write 7 = .ok (.iload_n 3, 1) := by decide +kernel
theorem d_Lst_write_8 : decode b_Lst_write 8 = .ok (.ldc 43, 2) := by decide +kernel
theorem d_Lst_write_10 : decode b_Lst_write 10 = .ok (.if_icmp .le 5, 3) := by decide +kernel
theorem d_Lst_write_13 : decode b_Lst_write 13 = .ok (.iconst 0, 1) := by decide +kernel
theorem d_Lst_write_14 : decode b_Lst_write 14 = .ok (.ireturn, 1) := by decide +kernel
theorem d_Lst_write_15 : decode b_Lst_write 15 = .ok (.iload_n 3, 1) := by decide +kernel
theorem d_Lst_write_16 : decode b_Lst_write 16 = .ok (.aload_n 0, 1) := by decide +kernel
theorem d_Lst_write_17 : decode b_Lst_write 17 = .ok (.getfield 11, 3) := by decide +kernel
theorem d_Lst_write_20 : decode b_Lst_write 20 = .ok (.arraylength, 1) := by decide +kernel
theorem d_Lst_write_21 : decode b_Lst_write 21 = .ok (.if_icmp .le 11, 3) := by decide +kernel
theorem d_Lst_write_24 : decode b_Lst_write 24 = .ok (.aload_n 0, 1) := by decide +kernel
theorem d_Lst_write_25 : decode b_Lst_write 25 = .ok (.ldc 43, 2) := by decide +kernel
theorem d_Lst_write_27 : decode b_Lst_write 27 = .ok (.newarray .byte, 2) := by decide +kernel
theorem d_Lst_write_29 : decode b_Lst_write 29 = .ok (.putfield 11, 3) := by decide +kernel
theorem d_Lst_write_32 : decode b_Lst_write 32 = .ok (.aload_n 0, 1) := by decide +kernel
theorem d_Lst_write_33 : decode b_Lst_write 33 = .ok (.iload_n 3, 1) := by decide +kernel
theorem d_Lst_write_34 : decode b_Lst_write 34 = .ok (.putfield 15, 3) := by decide +kernel
theorem d_Lst_write_37 : decode b_Lst_write 37 = .ok (.aload_n 0, 1) := by decide +kernel
theorem d_Lst_write_38 : decode b_Lst_write 38 = .ok (.iconst 0, 1) := by decide +kernel
theorem d_Lst_write_39 : decode b_Lst_write 39 = .ok (.putfield 19, 3) := by decide +kernel
theorem d_Lst_write_42 : decode b_Lst_write 42 = .ok (.aload_n 0, 1) := by decide +kernel
theorem d_Lst_write_43 : decode b_Lst_write 43 = .ok (.iload_n 2, 1) := by decide +kernel
theorem d_Lst_write_44 : decode b_Lst_write 44 = .ok (.putfield 22, 3) := by decide +kernel
theorem d_Lst_write_47 : decode b_Lst_write 47 = .ok (.aload_n 0, 1) := by decide +kernel
theorem d_Lst_write_48 : decode b_Lst_write 48 = .ok (.getfield 28, 3) := by decide +kernel
theorem d_Lst_write_51 : decode b_Lst_write 51 = .ok (.invokevirtual 44, 3) := by decide +kernel
theorem d_Lst_write_54 : decode b_Lst_write 54 = .ok (.aload_n 0, 1) := by decide +kernel
theorem d_Lst_write_55 : decode b_Lst_write 55 = .ok (.getfield 35, 3) := by decide +kernel
theorem d_Lst_write_58 : decode b_Lst_write 58 = .ok (.iload_n 2, 1) := by decide +kernel
theorem d_Lst_write_59 : decode b_Lst_write 59 = .ok (.invokevirtual 47, 3) := by decide +kernel
theorem d_Lst_write_62 : decode b_Lst_write 62 = .ok (.iconst 0, 1) := by decide +kernel
theorem d_Lst_write_63 : decode b_Lst_write 63 = .ok (.istore 4, 2) := by decide +kernel
theorem d_Lst_write_65 : decode b_Lst_write 65 = .ok (.iload 4, 2) := by decide +kernel
theorem d_Lst_write_67 : decode b_Lst_write 67 = .ok (.aload_n 1, 1) := by decide +kernel
theorem d_Lst_write_68 : decode b_Lst_write 68 = .ok (.getfield 51, 3) := by decide +kernel
theorem d_Lst_write_71 : decode b_Lst_write 71 = .ok (.invokevirtual 56, 3) := by decide +kernel
theorem d_Lst_write_74 : decode b_Lst_write 74 = .ok (.if_icmp .ge 25, 3) := by decide +kernel
theorem d_Lst_write_77 : decode b_Lst_write 77 = .ok (.aload_n 0, 1) := by decide +kernel
theorem d_Lst_write_78 : decode b_Lst_write 78 = .ok (.aload_n 1, 1) := by decide +kernel
theorem d_Lst_write_79 : decode b_Lst_write 79 = .ok (.getfield 51, 3) := by decide +kernel
theorem d_Lst_write_82 : decode b_Lst_write 82 = .ok (.iload 4, 2) := by decide +kernel
theorem d_Lst_write_84 : decode b_Lst_write 84 = .ok (.invokevirtual 60, 3) := by decide +kernel
theorem d_Lst_write_87 : decode b_Lst_write 87 = .ok (.checkcast 64, 3) := by decide +kernel
theorem d_Lst_write_90 : decode b_Lst_write 90 = .ok (.invokevirtual 66, 3) := by decide +kernel
theorem d_Lst_write_93 : decode b_Lst_write 93 = .ok (.iinc 4 1, 3) := by decide +kernel
theorem d_Lst_write_96 : decode b_Lst_write 96 = .ok (.goto (-31), 3) := by decide +kernel
theorem d_Lst_write_99 : decode b_Lst_write 99 = .ok (.iconst 1, 1) := by decide +kernel
theorem d_Lst_write_100 : decode b_Lst_write 100 = .ok (.ireturn, 1) := by decide +kernel
theorem d_Lst_measure_0 : decode b_Lst_measure 0 = .ok (.aload_n 0, 1) := by decide +kernel
theorem d_Lst_measure_1 : decode b_Lst_measure 1 = .ok (.getfield 35, 3) := by decide +kernel
theorem d_Lst_measure_4 : decode b_Lst_measure 4 = .ok (.iload_n 2, 1) := by decide +kernel
theorem d_Lst_measure_5 : decode b_Lst_measure 5 = .ok (.invokevirtual 47, 3) := by decide +kernel
theorem d_Lst_measure_8 : decode b_Lst_measure 8 = .ok (.iconst 0, 1) := by decide +kernel
theorem d_Lst_measure_9 : decode b_Lst_measure 9 = .ok (.istore_n 3, 1) := by decide +kernel
theorem d_Lst_measure_10 : decode b_Lst_measure 10 = .ok (.iload_n 3, 1) := by decide +kernel
theorem d_Lst_measure_11 : decode b_Lst_measure 11 = .ok (.aload_n 1, 1) := by decide +kernel
theorem d_Lst_measure_12 : decode b_Lst_measure 12 = .ok (.getfield 51, 3) := by decide +kernel
theorem d_Lst_measure_15 : decode b_Lst_measure 15 = .ok (.invokevirtual 56, 3) := by decide +kernel
theorem d_Lst_measure_18 : decode b_Lst_measure 18 = .ok (.if_icmp .ge 28, 3) := by decide +kernel
theorem d_Lst_measure_21 : decode b_Lst_measure 21 = .ok (.aload_n 0, 1) := by decide +kernel
theorem d_Lst_measure_22 : decode b_Lst_measure 22 = .ok (.getfield 35, 3) := by decide +kernel
theorem d_Lst_measure_25 : decode b_Lst_measure 25 = .ok (.aload_n 1, 1) := by decide +kernel
theorem d_Lst_measure_26 : decode b_Lst_measure 26 = .ok (.getfield 51, 3) := by decide +kernel
theorem d_Lst_measure_29 : decode b_Lst_measure 29 = .ok (.iload_n 3, 1) := by decide +kernel
theorem d_Lst_measure_30 : decode b_Lst_measure 30 = .ok (.invokevirtual 60, 3) := by decide +kernel
theorem d_Lst_measure_33 : decode b_Lst_measure 33 = .ok (.checkcast 64, 3) := by decide +kernel
theorem d_Lst_measure_36 : decode b_Lst_measure 36 = .ok (.invokevirtual 70, 3) := by decide +kernel
theorem d_Lst_measure_39 : decode b_Lst_measure 39 = .ok (.pop, 1) := by decide +kernel
theorem d_Lst_measure_40 : decode b_Lst_measure 40 = .ok (.iinc 3 1, 3) := by decide +kernel
theorem d_Lst_measure_43 : decode b_Lst_measure 43 = .ok (.goto (-33), 3) := by decide +kernel
theorem d_Lst_measure_46 : decode b_Lst_measure 46 = .ok (.aload_n 0, 1) := by decide +kernel
theorem d_Lst_measure_47 : decode b_Lst_measure 47 = .ok (.getfield 35, 3) := by decide +kernel
theorem d_Lst_measure_50 : decode b_Lst_measure 50 = .ok (.getfield 74, 3) := by decide +kernel
theorem d_Lst_measure_53 : decode b_Lst_measure 53 = .ok (.ireturn, 1) := by decide +kernel
theorem d_Lay_restart_0 : decode b_Lay_restart 0 = .ok (.aload_n 0, 1) := by decide +kernel
theorem d_Lay_restart_1 : decode b_Lay_restart 1 = .ok (.iload_n 1, 1) := by decide +kernel
theorem d_Lay_restart_2 : decode b_Lay_restart 2 = .ok (.putfield 9, 3) := by decide +kernel
theorem d_Lay_restart_5 : decode b_Lay_restart 5 = .ok (.aload_n 0, 1) := by decide +kernel
theorem d_Lay_restart_6 : decode b_Lay_restart 6 = .ok (.iconst 0, 1) := by decide +kernel
theorem d_Lay_restart_7 : decode b_Lay_restart 7 = .ok (.putfield 15, 3) := by decide +kernel
theorem d_Lay_restart_10 : decode b_Lay_restart 10 = .ok (.aload_n 0, 1) := by decide +kernel
theorem d_Lay_restart_11 : decode b_Lay_restart 11 = .ok (.iconst 0, 1) := by decide +kernel
theorem d_Lay_restart_12 : decode b_Lay_restart 12 = .ok (.putfield 18, 3) := by decide +kernel
theorem d_Lay_restart_15 : decode b_Lay_restart 15 = .ok (.aload_n 0, 1) := by decide +kernel
theorem d_Lay_restart_16 : decode b_Lay_restart 16 = .ok (.iconst 0, 1) := by decide +kernel
theorem d_Lay_restart_17 : decode b_Lay_restart 17 = .ok (.putfield 21, 3) := by decide +kernel
theorem d_Lay_restart_20 : decode b_Lay_restart 20 = .ok (.return_, 1) := by decide +kernel
theorem d_Lay_lay_0 : decode b_Lay_lay 0 = .ok (.aload_n 0, 1) := by decide +kernel
theorem d_Lay_lay_1 : decode b_Lay_lay 1 = .ok (.aload_n 1, 1) := by decide +kernel
theorem d_Lay_lay_2 : decode b_Lay_lay 2 = .ok (.invokevirtual 24, 3) := by decide +kernel
theorem d_Lay_lay_5 : decode b_Lay_lay 5 = .ok (.ifCond .ne 7, 3) := by decide +kernel
theorem d_Lay_lay_8 : decode b_Lay_lay 8 = .ok (.iconst 1, 1) := by decide +kernel
theorem d_Lay_lay_9 : decode b_Lay_lay 9 = .ok (.goto 4, 3) := by decide +kernel
theorem d_Lay_lay_12 : decode b_Lay_lay 12 = .ok (.iconst 0, 1) := by decide +kernel
theorem d_Lay_lay_13 : decode b_Lay_lay 13 = .ok (.istore_n 2, 1) := by decide +kernel
theorem d_Lay_lay_14 : decode b_Lay_lay 14 = .ok (.iload_n 2, 1) := by decide +kernel
theorem d_Lay_lay_15 : decode b_Lay_lay 15 = .ok (.ifCond .eq 8, 3) := by decide +kernel
theorem d_Lay_lay_18 : decode b_Lay_lay 18 = .ok (.aload_n 0, 1) := by decide +kernel
theorem d_Lay_lay_19 : decode b_Lay_lay 19 = .ok (.aload_n 1, 1) := by decide +kernel
theorem d_Lay_lay_20 : decode b_Lay_lay 20 = .ok (.invokevirtual 28, 3) := by decide +kernel
theorem d_Lay_lay_23 : decode b_Lay_lay 23 = .ok (.aload_n 0, 1) := by decide +kernel
theorem d_Lay_lay_24 : decode b_Lay_lay 24 = .ok (.dup, 1) := by decide +kernel
theorem d_Lay_lay_25 : decode b_Lay_lay 25 = .ok (.getfield 21, 3) := by decide +kernel
theorem d_Lay_lay_28 : decode b_Lay_lay 28 = .ok (.iconst 1, 1) := by decide +kernel
theorem d_Lay_lay_29 : decode b_Lay_lay 29 = .ok (.iadd, 1) := by decide +kernel
theorem d_Lay_lay_30 : decode b_Lay_lay 30 = .ok (.putfield 21, 3) := by decide +kernel
theorem d_Lay_lay_33 : decode b_Lay_lay 33 = .ok (.aload_n 0, 1) := by decide +kernel
theorem d_Lay_lay_34 : decode b_Lay_lay 34 = .ok (.aload_n 0, 1) := by decide +kernel
theorem d_Lay_lay_35 : decode b_Lay_lay 35 = .ok (.getfield 15, 3) := by decide +kernel
theorem d_Lay_lay_38 : decode b_Lay_lay 38 = .ok (.putfield 32, 3) := by decide +kernel
theorem d_Lay_lay_41 : decode b_Lay_lay 41 = .ok (.aload_n 0, 1) := by decide +kernel
theorem d_Lay_lay_42 : decode b_Lay_lay 42 = .ok (.dup, 1) := by decide +kernel
theorem d_Lay_lay_43 : decode b_Lay_lay 43 = .ok (.getfield 15, 3) := by decide +kernel
theorem d_Lay_lay_46 : decode b_Lay_lay 46 = .ok (.bipush 8, 2) := by decide +kernel
theorem d_Lay_lay_48 : decode b_Lay_lay 48 = .ok (.aload_n 1, 1) := by decide +kernel
theorem d_Lay_lay_49 : decode b_Lay_lay 49 = .ok (.getfield 35, 3) := by decide +kernel
theorem d_Lay_lay_52 : decode b_Lay_lay 52 = .ok (.arraylength, 1) := by decide +kernel
theorem d_Lay_lay_53 : decode b_Lay_lay 53 = .ok (.iadd, 1) := by decide +kernel
theorem d_Lay_lay_54 : decode b_Lay_lay 54 = .ok (.iadd, 1) := by decide +kernel
theorem d_Lay_lay_55 : decode b_Lay_lay 55 = .ok (.putfield 15, 3) := by decide +kernel
theorem d_Lay_lay_58 : decode b_Lay_lay 58 = .ok (.iload_n 2, 1) := by decide +kernel
theorem d_Lay_lay_59 : decode b_Lay_lay 59 = .ok (.ireturn, 1) := by decide +kernel
theorem d_Lay_fitsUnderHeader_0 : decode b_Lay_fitsUnderHeader 0 = .ok (.aload_n 1, 1) := by decide +kernel
theorem d_Lay_fitsUnderHeader_1 : decode b_Lay_fitsUnderHeader 1 = .ok (.getfield 41, 3) := by decide +kernel
theorem d_Lay_fitsUnderHeader_4 : decode b_Lay_fitsUnderHeader 4 = .ok (.aload_n 0, 1) := by decide +kernel
theorem d_Lay_fitsUnderHeader_5 : decode b_Lay_fitsUnderHeader 5 = .ok (.getfield 44, 3) := by decide +kernel
theorem d_Lay_fitsUnderHeader_8 : decode b_Lay_fitsUnderHeader 8 = .ok (.isub, 1) := by decide +kernel
theorem d_Lay_fitsUnderHeader_9 : decode b_Lay_fitsUnderHeader 9 = .ok (.istore_n 2, 1) := by decide +kernel
theorem d_Lay_fitsUnderHeader_10 : decode b_Lay_fitsUnderHeader 10 = .ok (.aload_n 0, 1) := by decide +kernel
theorem d_Lay_fitsUnderHeader_11 : decode b_Lay_fitsUnderHeader 11 = .ok (.getfield 21, 3) := by decide +kernel
theorem d_Lay_fitsUnderHeader_14 : decode b_Lay_fitsUnderHeader 14 = .ok (.ifCond .le 67, 3) := by decide +kernel
theorem d_Lay_fitsUnderHeader_17 : decode b_Lay_fitsUnderHeader 17 = .ok (.aload_n 0, 1) := by decide +kernel
theorem d_Lay_fitsUnderHeader_18 : decode b_Lay_fitsUnderHeader 18 = .ok (.getfield 21, 3) := by decide +kernel
theorem d_Lay_fitsUnderHeader_21 : decode b_Lay_fitsUnderHeader 21 = .ok (.sipush 256, 3) := by decide +kernel
theorem d_Lay_fitsUnderHeader_24 : decode b_Lay_fitsUnderHeader 24 = .ok (.if_icmp .ge 57, 3) := by decide +kernel
theorem d_Lay_fitsUnderHeader_27 : decode b_Lay_fitsUnderHeader 27 = .ok (.aload_n 1, 1) := by decide +kernel
theorem d_Lay_fitsUnderHeader_28 : decode b_Lay_fitsUnderHeader 28 = .ok (.getfield 47, 3) := by decide +kernel
theorem d_Lay_fitsUnderHeader_31 : decode b_Lay_fitsUnderHeader 31 = .ok (.aload_n 0, 1) := by decide +kernel
theorem d_Lay_fitsUnderHeader_32 : decode b_Lay_fitsUnderHeader 32 = .ok (.getfield 50, 3) := by decide +kernel
theorem d_Lay_fitsUnderHeader_35 : decode b_Lay_fitsUnderHeader 35 = .ok (.if_icmp .ne 46, 3) := by decide +kernel
theorem d_Lay_fitsUnderHeader_38 : decode b_Lay_fitsUnderHeader 38 = .ok (.iload_n 2, 1) := by decide +kernel
theorem d_Lay_fitsUnderHeader_39 : decode b_Lay_fitsUnderHeader 39 = .ok (.sipush (-32768), 3) := by decide +kernel
theorem d_Lay_fitsUnderHeader_42 : decode b_Lay_fitsUnderHeader 42 = .ok (.if_icmp .lt 39, 3) := by decide +kernel
theorem d_Lay_fitsUnderHeader_45 : decode b_Lay_fitsUnderHeader 45 = .ok (.iload_n 2, 1) := by decide +kernel
theorem d_Lay_fitsUnderHeader_46 : decode b_Lay_fitsUnderHeader 46 = .ok (.sipush 32767, 3) := by decide +kernel
theorem d_Lay_fitsUnderHeader_49 : decode b_Lay_fitsUnderHeader 49 = .ok (.if_icmp .gt 32, 3) := by decide +kernel
theorem d_Lay_fitsUnderHeader_52 : decode b_Lay_fitsUnderHeader 52 = .ok (.aload_n 0, 1) := by decide +kernel
theorem d_Lay_fitsUnderHeader_53 : decode b_Lay_fitsUnderHeader 53 = .ok (.getfield 9, 3) := by decide +kernel
theorem d_Lay_fitsUnderHeader_56 : decode b_Lay_fitsUnderHeader 56 = .ok (.aload_n 0, 1) := by decide +kernel
theorem d_Lay_fitsUnderHeader_57 : decode b_Lay_fitsUnderHeader 57 = .ok (.getfield 15, 3) := by decide +kernel
theorem d_Lay_fitsUnderHeader_60 : decode b_Lay_fitsUnderHeader 60 = .ok (.invokestatic 53, 3) := by decide +kernel
theorem d_Lay_fitsUnderHeader_63 : decode b_Lay_fitsUnderHeader 63 = .ok (.aload_n 0, 1) := by decide +kernel
theorem d_Lay_fitsUnderHeader_64 : decode b_Lay_fitsUnderHeader 64 = .ok (.getfield 9, 3) := by decide +kernel
theorem d_Lay_fitsUnderHeader_67 : decode b_Lay_fitsUnderHeader 67 = .ok (.aload_n 0, 1) := by decide +kernel
theorem d_Lay_fitsUnderHeader_68 : decode b_Lay_fitsUnderHeader 68 = .ok (.getfield 18, 3) := by decide +kernel
theorem d_Lay_fitsUnderHeader_71 : decode b_Lay_fitsUnderHeader 71 = .ok (.invokestatic 53, 3) := by decide +kernel
theorem d_Lay_fitsUnderHeader_74 : decode b_Lay_fitsUnderHeader 74 = .ok (.if_icmp .ne 7, 3) := by decide +kernel
theorem d_Lay_fitsUnderHeader_77 : decode b_Lay_fitsUnderHeader 77 = .ok (.iconst 1, 1) := by decide +kernel
theorem d_Lay_fitsUnderHeader_78 : decode b_Lay_fitsUnderHeader 78 = .ok (.goto 4, 3) := by decide +kernel
theorem d_Lay_fitsUnderHeader_81 : decode b_Lay_fitsUnderHeader 81 = .ok (.iconst 0, 1) := by decide +kernel
theorem d_Lay_fitsUnderHeader_82 : decode b_Lay_fitsUnderHeader 82 = .ok (.ireturn, 1) := by decide +kernel
theorem d_Lay_pieceOf_0 : decode b_Lay_pieceOf 0 = .ok (.iload_n 0, 1) := by decide +kernel
theorem d_Lay_pieceOf_1 : decode b_Lay_pieceOf 1 = .ok (.iload_n 1, 1) := by decide +kernel
theorem d_Lay_pieceOf_2 : decode b_Lay_pieceOf 2 = .ok (.iadd, 1) := by decide +kernel
theorem d_Lay_pieceOf_3 : decode b_Lay_pieceOf 3 = .ok (.sipush 8192, 3) := by decide +kernel
theorem d_Lay_pieceOf_6 : decode b_Lay_pieceOf 6 = .ok (.idiv, 1) := by decide +kernel
theorem d_Lay_pieceOf_7 : decode b_Lay_pieceOf 7 = .ok (.ireturn, 1) := by decide +kernel
