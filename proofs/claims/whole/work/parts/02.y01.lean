theorem d_Dir_compareAt_0 : decode b_Dir_compareAt 0 = .ok (.aload_n 0, 1) := by decide +kernel
theorem d_Dir_compareAt_1 : decode b_Dir_compareAt 1 = .ok (.getfield 12, 3) := by decide +kernel
theorem d_Dir_compareAt_4 : decode b_Dir_compareAt 4 = .ok (.iload_n 1, 1) := by decide +kernel
theorem d_Dir_compareAt_5 : decode b_Dir_compareAt 5 = .ok (.invokevirtual 26, 3) := by decide +kernel
theorem d_Dir_compareAt_8 : decode b_Dir_compareAt 8 = .ok (.checkcast 30, 3) := by decide +kernel
theorem d_Dir_compareAt_11 : decode b_Dir_compareAt 11 = .ok (.getfield 32, 3) := by decide +kernel
theorem d_Dir_compareAt_14 : decode b_Dir_compareAt 14 = .ok (.astore 4, 2) := by decide +kernel
theorem d_Dir_compareAt_16 : decode b_Dir_compareAt 16 = .ok (.aload 4, 2) := by decide +kernel
theorem d_Dir_compareAt_18 : decode b_Dir_compareAt 18 = .ok (.iconst 0, 1) := by decide +kernel
theorem d_Dir_compareAt_19 : decode b_Dir_compareAt 19 = .ok (.aload 4, 2) := by decide +kernel
theorem d_Dir_compareAt_21 : decode b_Dir_compareAt 21 = .ok (.arraylength, 1) := by decide +kernel
theorem d_Dir_compareAt_22 : decode b_Dir_compareAt 22 = .ok (.aload_n 2, 1) := by decide +kernel
theorem d_Dir_compareAt_23 : decode b_Dir_compareAt 23 = .ok (.iconst 0, 1) := by decide +kernel
theorem d_Dir_compareAt_24 : decode b_Dir_compareAt 24 = .ok (.iload_n 3, 1) := by decide +kernel
theorem d_Dir_compareAt_25 : decode b_Dir_compareAt 25 = .ok (.invokestatic 36, 3) := by decide +kernel
theorem d_Dir_compareAt_28 : decode b_Dir_compareAt 28 = .ok (.ireturn, 1) := by decide +kernel
theorem d_AL_get_0 : decode b_AL_get 0 = .ok (.iload_n 1, 1) := by decide +kernel
theorem d_AL_get_1 : decode b_AL_get 1 = .ok (.aload_n 0, 1) := by decide +kernel
theorem d_AL_get_2 : decode b_AL_get 2 = .ok (.getfield 48, 3) := by decide +kernel
theorem d_AL_get_5 : decode b_AL_get 5 = .ok (.invokestatic 118, 3) := by decide +kernel
theorem d_AL_get_8 : decode b_AL_get 8 = .ok (.pop, 1) := by decide +kernel
theorem d_AL_get_9 : decode b_AL_get 9 = .ok (.aload_n 0, 1) := by decide +kernel
theorem d_AL_get_10 : decode b_AL_get 10 = .ok (.iload_n 1, 1) := by decide +kernel
theorem d_AL_get_11 : decode b_AL_get 11 = .ok (.invokevirtual 123, 3) := by decide +kernel
theorem d_AL_get_14 : decode b_AL_get 14 = .ok (.areturn, 1) := by decide +kernel
theorem d_OBJ_checkIndex_0 : decode b_OBJ_checkIndex 0 = .ok (.iload_n 0, 1) := by decide +kernel
theorem d_OBJ_checkIndex_1 : decode b_OBJ_checkIndex 1 = .ok (.iload_n 1, 1) := by decide +kernel
theorem d_OBJ_checkIndex_2 : decode b_OBJ_checkIndex 2 = .ok (.aconst_null, 1) := by decide +kernel
theorem d_OBJ_checkIndex_3 : decode b_OBJ_checkIndex 3 = .ok (.invokestatic 105, 3) := by decide +kernel
theorem d_OBJ_checkIndex_6 : decode b_OBJ_checkIndex 6 = .ok (.ireturn, 1) := by decide +kernel
theorem d_PRE_checkIndex_0 : decode b_PRE_checkIndex 0 = .ok (.iload_n 0, 1) := by decide +kernel
theorem d_PRE_checkIndex_1 : decode b_PRE_checkIndex 1 = .ok (.ifCond .lt 8, 3) := by decide +kernel
theorem d_PRE_checkIndex_4 : decode b_PRE_checkIndex 4 = .ok (.iload_n 0, 1) := by decide +kernel
theorem d_PRE_checkIndex_5 : decode b_PRE_checkIndex 5 = .ok (.iload_n 1, 1) := by decide +kernel
theorem d_PRE_checkIndex_6 : decode b_PRE_checkIndex 6 = .ok (.if_icmp .lt 10, 3) := by decide +kernel
theorem d_PRE_checkIndex_9 : decode b_PRE_checkIndex 9 = .ok (.aload_n 2, 1) := by decide +kernel
theorem d_PRE_checkIndex_10 : decode b_PRE_checkIndex 10 = .ok (.iload_n 0, 1) := by decide +kernel
theorem d_PRE_checkIndex_11 : decode b_PRE_checkIndex 11 = .ok (.iload_n 1, 1) := by decide +kernel
theorem d_PRE_checkIndex_12 : decode b_PRE_checkIndex 12 = .ok (.invokestatic 95, 3) := by decide +kernel
theorem d_PRE_checkIndex_15 : decode b_PRE_checkIndex 15 = .ok (.athrow, 1) := by decide +kernel
theorem d_PRE_checkIndex_16 : decode b_PRE_checkIndex 16 = .ok (.iload_n 0, 1) := by decide +kernel
theorem d_PRE_checkIndex_17 : decode b_PRE_checkIndex 17 = .ok (.ireturn, 1) := by decide +kernel
theorem d_AL_elementData_0 : decode b_AL_elementData 0 = .ok (.aload_n 0, 1) := by decide +kernel
theorem d_AL_elementData_1 : decode b_AL_elementData 1 = .ok (.getfield 9, 3) := by decide +kernel
theorem d_AL_elementData_4 : decode b_AL_elementData 4 = .ok (.iload_n 1, 1) := by decide +kernel
theorem d_AL_elementData_5 : decode b_AL_elementData 5 = .ok (.aaload, 1) := by decide +kernel
theorem d_AL_elementData_6 : decode b_AL_elementData 6 = .ok (.areturn, 1) := by decide +kernel
theorem d_Nam_compare_0 : decode b_Nam_compare 0 = .ok (.iload_n 2, 1) := by decide +kernel
theorem d_Nam_compare_1 : decode b_Nam_compare 1 = .ok (.iload 5, 2) := by decide +kernel
theorem d_Nam_compare_3 : decode b_Nam_compare 3 = .ok (.invokestatic 9, 3) := by decide +kernel
theorem d_Nam_compare_6 : decode b_Nam_compare 6 = .ok (.istore 6, 2) := by decide +kernel
theorem d_Nam_compare_8 : decode b_Nam_compare 8 = .ok (.iconst 0, 1) := by decide +kernel
theorem d_Nam_compare_9 : decode b_Nam_compare 9 = .ok (.istore 7, 2) := by decide +kernel
theorem d_Nam_compare_11 : decode b_Nam_compare 11 = .ok (.iload 7, 2) := by decide +kernel
theorem d_Nam_compare_13 : decode b_Nam_compare 13 = .ok (.iload 6, 2) := by decide +kernel
theorem d_Nam_compare_15 : decode b_Nam_compare 15 = .ok (.if_icmp .ge 41, 3) := by decide +kernel
theorem d_Nam_compare_18 : decode b_Nam_compare 18 = .ok (.aload_n 0, 1) := by decide +kernel
theorem d_Nam_compare_19 : decode b_Nam_compare 19 = .ok (.iload_n 1, 1) := by decide +kernel
theorem d_Nam_compare_20 : decode b_Nam_compare 20 = .ok (.iload 7, 2) := by decide +kernel
theorem d_Nam_compare_22 : decode b_Nam_compare 22 = .ok (.iadd, 1) := by decide +kernel
theorem d_Nam_compare_23 : decode b_Nam_compare 23 = .ok (.baload, 1) := by decide +kernel
theorem d_Nam_compare_24 : decode b_Nam_compare 24 = .ok (.sipush 255, 3) := by decide +kernel
theorem d_Nam_compare_27 : decode b_Nam_compare 27 = .ok (.iand, 1) := by decide +kernel
theorem d_Nam_compare_28 : decode b_Nam_compare 28 = .ok (.aload_n 3, 1) := by decide +kernel
theorem d_Nam_compare_29 : decode b_Nam_compare 29 = .ok (.iload 4, 2) := by decide +kernel
theorem d_Nam_compare_31 : decode b_Nam_compare 31 = .ok (.iload 7, 2) := by decide +kernel
theorem d_Nam_compare_33 : decode b_Nam_compare 33 = .ok (.iadd, 1) := by decide +kernel
theorem d_Nam_compare_34 : decode b_Nam_compare 34 = .ok (.baload, 1) := by decide +kernel
theorem d_Nam_compare_35 : decode b_Nam_compare 35 = .ok (.sipush 255, 3) := by decide +kernel
theorem d_Nam_compare_38 : decode b_Nam_compare 38 = .ok (.iand, 1) := by decide +kernel
theorem d_Nam_compare_39 : decode b_Nam_compare 39 = .ok (.isub, 1) := by decide +kernel
theorem d_Nam_compare_40 : decode b_Nam_compare 40 = .ok (.istore 8, 2) := by decide +kernel
theorem d_Nam_compare_42 : decode b_Nam_compare 42 = .ok (.iload 8, 2) := by decide +kernel
theorem d_Nam_compare_44 : decode b_Nam_compare 44 = .ok (.ifCond .eq 6, 3) := by decide +kernel
theorem d_Nam_compare_47 : decode b_Nam_compare 47 = .ok (.iload 8, 2) := by decide +kernel
theorem d_Nam_compare_49 : decode b_Nam_compare 49 = .ok (.ireturn, 1) := by decide +kernel
theorem d_Nam_compare_50 : decode b_Nam_compare 50 = .ok (.iinc 7 1, 3) := by decide +kernel
theorem d_Nam_compare_53 : decode b_Nam_compare 53 = .ok (.goto (-42), 3) := by decide +kernel
theorem d_Nam_compare_56 : decode b_Nam_compare 56 = .ok (.iload_n 2, 1) := by decide +kernel
theorem d_Nam_compare_57 : decode b_Nam_compare 57 = .ok (.iload 5, 2) := by decide +kernel
theorem d_Nam_compare_59 : decode b_Nam_compare 59 = .ok (.isub, 1) := by decide +kernel
theorem d_Nam_compare_60 : decode b_Nam_compare 60 = .ok (.ireturn, 1) := by decide +kernel
theorem d_Dir_hasAt_0 : decode b_Dir_hasAt 0 = .ok (.iload_n 1, 1) := by decide +kernel
theorem d_Dir_hasAt_1 : decode b_Dir_hasAt 1 = .ok (.aload_n 0, 1) := by decide +kernel
theorem d_Dir_hasAt_2 : decode b_Dir_hasAt 2 = .ok (.getfield 12, 3) := by decide +kernel
theorem d_Dir_hasAt_5 : decode b_Dir_hasAt 5 = .ok (.invokevirtual 18, 3) := by decide +kernel
theorem d_Dir_hasAt_8 : decode b_Dir_hasAt 8 = .ok (.if_icmp .ge 17, 3) := by decide +kernel
theorem d_Dir_hasAt_11 : decode b_Dir_hasAt 11 = .ok (.aload_n 0, 1) := by decide +kernel
theorem d_Dir_hasAt_12 : decode b_Dir_hasAt 12 = .ok (.iload_n 1, 1) := by decide +kernel
theorem d_Dir_hasAt_13 : decode b_Dir_hasAt 13 = .ok (.aload_n 2, 1) := by decide +kernel
theorem d_Dir_hasAt_14 : decode b_Dir_hasAt 14 = .ok (.iload_n 3, 1) := by decide +kernel
theorem d_Dir_hasAt_15 : decode b_Dir_hasAt 15 = .ok (.invokevirtual 22, 3) := by decide +kernel
theorem d_Dir_hasAt_18 : decode b_Dir_hasAt 18 = .ok (.ifCond .ne 7, 3) := by decide +kernel
theorem d_Dir_hasAt_21 : decode b_Dir_hasAt 21 = .ok (.iconst 1, 1) := by decide +kernel
theorem d_Dir_hasAt_22 : decode b_Dir_hasAt 22 = .ok (.goto 4, 3) := by decide +kernel
theorem d_Dir_hasAt_25 : decode b_Dir_hasAt 25 = .ok (.iconst 0, 1) := by decide +kernel
theorem d_Dir_hasAt_26 : decode b_Dir_hasAt 26 = .ok (.ireturn, 1) := by decide +kernel
theorem d_Dir_isFull_0 : decode b_Dir_isFull 0 = .ok (.aload_n 0, 1) := by decide +kernel
theorem d_Dir_isFull_1 : decode b_Dir_isFull 1 = .ok (.getfield 12, 3) := by decide +kernel
theorem d_Dir_isFull_4 : decode b_Dir_isFull 4 = .ok (.invokevirtual 18, 3) := by decide +kernel
theorem d_Dir_isFull_7 : decode b_Dir_isFull 7 = .ok (.sipush 600, 3) := by decide +kernel
theorem d_Dir_isFull_10 : decode b_Dir_isFull 10 = .ok (.if_icmp .lt 7, 3) := by decide +kernel
theorem d_Dir_isFull_13 : decode b_Dir_isFull 13 = .ok (.iconst 1, 1) := by decide +kernel
theorem d_Dir_isFull_14 : decode b_Dir_isFull 14 = .ok (.goto 4, 3) := by decide +kernel
theorem d_Dir_isFull_17 : decode b_Dir_isFull 17 = .ok (.iconst 0, 1) := by decide +kernel
theorem d_Dir_isFull_18 : decode b_Dir_isFull 18 = .ok (.ireturn, 1) := by decide +kernel
theorem d_Known_hasRoomFor_0 : decode b_Known_hasRoomFor 0 = .ok (.aload_n 0, 1) := by decide +kernel
theorem d_Known_hasRoomFor_1 : decode b_Known_hasRoomFor 1 = .ok (.getfield 12, 3) := by decide +kernel
theorem d_Known_hasRoomFor_4 : decode b_Known_hasRoomFor 4 = .ok (.invokevirtual 18, 3) := by decide +kernel
theorem d_Known_hasRoomFor_7 : decode b_Known_hasRoomFor 7 = .ok (.sipush 1500, 3) := by decide +kernel
theorem d_Known_hasRoomFor_10 : decode b_Known_hasRoomFor 10 = .ok (.if_icmp .lt 16, 3) := by decide +kernel
theorem d_Known_hasRoomFor_13 : decode b_Known_hasRoomFor 13 = .ok (.aload_n 0, 1) := by decide +kernel
theorem d_Known_hasRoomFor_14 : decode b_Known_hasRoomFor 14 = .ok (.aload_n 0, 1) := by decide +kernel
theorem d_Known_hasRoomFor_15 : decode b_Known_hasRoomFor 15 = .ok (.iload_n 1, 1) := by decide +kernel
theorem d_Known_hasRoomFor_16 : decode b_Known_hasRoomFor 16 = .ok (.invokevirtual 32, 3) := by decide +kernel
theorem d_Known_hasRoomFor_19 : decode b_Known_hasRoomFor 19 = .ok (.iload_n 1, 1) := by decide +kernel
theorem d_Known_hasRoomFor_20 : decode b_Known_hasRoomFor 20 = .ok (.invokevirtual 36, 3) := by decide +kernel
theorem d_Known_hasRoomFor_23 : decode b_Known_hasRoomFor 23 = .ok (.ifCond .eq 7, 3) := by decide +kernel
theorem d_Known_hasRoomFor_26 : decode b_Known_hasRoomFor 26 = .ok (.iconst 1, 1) := by decide +kernel
theorem d_Known_hasRoomFor_27 : decode b_Known_hasRoomFor 27 = .ok (.goto 4, 3) := by decide +kernel
theorem d_Known_hasRoomFor_30 : decode b_Known_hasRoomFor 30 = .ok (.iconst 0, 1) := by decide +kernel
theorem d_Known_hasRoomFor_31 : decode b_Known_hasRoomFor 31 = .ok (.ireturn, 1) := by decide +kernel
theorem d_Known_placeOf_0 : decode b_Known_placeOf 0 = .ok (.iconst 0, 1) := by decide +kernel
theorem d_Known_placeOf_1 : decode b_Known_placeOf 1 = .ok (.istore_n 2, 1) := by decide +kernel
theorem d_Known_placeOf_2 : decode b_Known_placeOf 2 = .ok (.aload_n 0, 1) := by decide +kernel
theorem d_Known_placeOf_3 : decode b_Known_placeOf 3 = .ok (.getfield 12, 3) := by decide +kernel
theorem d_Known_placeOf_6 : decode b_Known_placeOf 6 = .ok (.invokevirtual 18, 3) := by decide +kernel
theorem d_Known_placeOf_9 : decode b_Known_placeOf 9 = .ok (.istore_n 3, 1) := by decide +kernel
theorem d_Known_placeOf_10 : decode b_Known_placeOf 10 = .ok (.iconst 0, 1) := by decide +kernel
theorem d_Known_placeOf_11 : decode b_Known_placeOf 11 = .ok (.istore 4, 2) := by decide +kernel
theorem d_Known_placeOf_13 : decode b_Known_placeOf 13 = .ok (.iload 4, 2) := by decide +kernel
theorem d_Known_placeOf_15 : decode b_Known_placeOf 15 = .ok (.sipush 1500, 3) := by decide +kernel
theorem d_Known_placeOf_18 : decode b_Known_placeOf 18 = .ok (.if_icmp .ge 51, 3) := by decide +kernel
theorem d_Known_placeOf_21 : decode b_Known_placeOf 21 = .ok (.iload_n 2, 1) := by decide +kernel
theorem d_Known_placeOf_22 : decode b_Known_placeOf 22 = .ok (.iload_n 3, 1) := by decide +kernel
theorem d_Known_placeOf_23 : decode b_Known_placeOf 23 = .ok (.if_icmp .ge 46, 3) := by decide +kernel
theorem d_Known_placeOf_26 : decode b_Known_placeOf 26 = .ok (.iload_n 2, 1) := by decide +kernel
theorem d_Known_placeOf_27 : decode b_Known_placeOf 27 = .ok (.iload_n 3, 1) := by decide +kernel
theorem d_Known_placeOf_28 : decode b_Known_placeOf 28 = .ok (.iadd, 1) := by decide +kernel
theorem d_Known_placeOf_29 : decode b_Known_placeOf 29 = .ok (.iconst 2, 1) := by decide +kernel
theorem d_Known_placeOf_30 : decode b_Known_placeOf 30 = .ok (.idiv, 1) := by decide +kernel
theorem d_Known_placeOf_31 : decode b_Known_placeOf 31 = .ok (.istore 5, 2) := by decide +kernel
theorem d_Known_placeOf_33 : decode b_Known_placeOf 33 = .ok (.aload_n 0, 1) := by decide +kernel
theorem d_Known_placeOf_34 : decode b_Known_placeOf 34 = .ok (.getfield 12, 3) := by decide +kernel
theorem d_Known_placeOf_37 : decode b_Known_placeOf 37 = .ok (.iload 5, 2) := by decide +kernel
theorem d_Known_placeOf_39 : decode b_Known_placeOf 39 = .ok (.invokevirtual 22, 3) := by decide +kernel
theorem d_Known_placeOf_42 : decode b_Known_placeOf 42 = .ok (.checkcast 26, 3) := by decide +kernel
theorem d_Known_placeOf_45 : decode b_Known_placeOf 45 = .ok (.getfield 28, 3) := by decide +kernel
theorem d_Known_placeOf_48 : decode b_Known_placeOf 48 = .ok (.iload_n 1, 1) := by decide +kernel
theorem d_Known_placeOf_49 : decode b_Known_placeOf 49 = .ok (.if_icmp .ge 11, 3) := by decide +kernel
theorem d_Known_placeOf_52 : decode b_Known_placeOf 52 = .ok (.iload 5, 2) := by decide +kernel
theorem d_Known_placeOf_54 : decode b_Known_placeOf 54 = .ok (.iconst 1, 1) := by decide +kernel
theorem d_Known_placeOf_55 : decode b_Known_placeOf 55 = .ok (.iadd, 1) := by decide +kernel
theorem d_Known_placeOf_56 : decode b_Known_placeOf 56 = .ok (.istore_n 2, 1) := by decide +kernel
theorem d_Known_placeOf_57 : decode b_Known_placeOf 57 = .ok (.goto 6, 3) := by decide +kernel
theorem d_Known_placeOf_60 : decode b_Known_placeOf 60 = .ok (.iload 5, 2) := by decide +kernel
theorem d_Known_placeOf_62 : decode b_Known_placeOf 62 = .ok (.istore_n 3, 1) := by decide +kernel
theorem d_Known_placeOf_63 : decode b_Known_placeOf 63 = .ok (.iinc 4 1, 3) := by decide +kernel
theorem d_Known_placeOf_66 : decode b_Known_placeOf 66 = .ok (.goto (-53), 3) := by decide +kernel
theorem d_Known_placeOf_69 : decode b_Known_placeOf 69 = .ok (.iload_n 2, 1) := by decide +kernel
theorem d_Known_placeOf_70 : decode b_Known_placeOf 70 = .ok (.ireturn, 1) := by decide +kernel
theorem d_Known_hasAt_0 : decode b_Known_hasAt 0 = .ok (.iload_n 1, 1) := by decide +kernel
theorem d_Known_hasAt_1 : decode b_Known_hasAt 1 = .ok (.aload_n 0, 1) := by decide +kernel
theorem d_Known_hasAt_2 : decode b_Known_hasAt 2 = .ok (.getfield 12, 3) := by decide +kernel
theorem d_Known_hasAt_5 : decode b_Known_hasAt 5 = .ok (.invokevirtual 18, 3) := by decide +kernel
theorem d_Known_hasAt_8 : decode b_Known_hasAt 8 = .ok (.if_icmp .ge 25, 3) := by decide +kernel
theorem d_Known_hasAt_11 : decode b_Known_hasAt 11 = .ok (.aload_n 0, 1) := by decide +kernel
theorem d_Known_hasAt_12 : decode b_Known_hasAt 12 = .ok (.getfield 12, 3) := by decide +kernel
theorem d_Known_hasAt_15 : decode b_Known_hasAt 15 = .ok (.iload_n 1, 1) := by decide +kernel
theorem d_Known_hasAt_16 : decode b_Known_hasAt 16 = .ok (.invokevirtual 22, 3) := by decide +kernel
theorem d_Known_hasAt_19 : decode b_Known_hasAt 19 = .ok (.checkcast 26, 3) := by decide +kernel
theorem d_Known_hasAt_22 : decode b_Known_hasAt 22 = .ok (.getfield 28, 3) := by decide +kernel
theorem d_Known_hasAt_25 : decode b_Known_hasAt 25 = .ok (.iload_n 2, 1) := by decide +kernel
theorem d_Known_hasAt_26 : decode b_Known_hasAt 26 = .ok (.if_icmp .ne 7, 3) := by decide +kernel
theorem d_Known_hasAt_29 : decode b_Known_hasAt 29 = .ok (.iconst 1, 1) := by decide +kernel
theorem d_Known_hasAt_30 : decode b_Known_hasAt 30 = .ok (.goto 4, 3) := by decide +kernel
theorem d_Known_hasAt_33 : decode b_Known_hasAt 33 = .ok (.iconst 0, 1) := by decide +kernel
theorem d_Known_hasAt_34 : decode b_Known_hasAt 34 = .ok (.ireturn, 1) := by decide +kernel
theorem d_ARR_copyB_0 : decode b_ARR_copyB 0 = .ok (.iload_n 1, 1) := by decide +kernel
theorem d_ARR_copyB_1 : decode b_ARR_copyB 1 = .ok (.aload_n 0, 1) := by decide +kernel
theorem d_ARR_copyB_2 : decode b_ARR_copyB 2 = .ok (.arraylength, 1) := by decide +kernel
theorem d_ARR_copyB_3 : decode b_ARR_copyB 3 = .ok (.if_icmp .ne 11, 3) := by decide +kernel
theorem d_ARR_copyB_6 : decode b_ARR_copyB 6 = .ok (.aload_n 0, 1) := by decide +kernel
theorem d_ARR_copyB_7 : decode b_ARR_copyB 7 = .ok (.invokevirtual 310, 3) := by decide +kernel
theorem d_ARR_copyB_10 : decode b_ARR_copyB 10 = .ok (.checkcast 311, 3) := by decide +kernel
theorem d_ARR_copyB_13 : decode b_ARR_copyB 13 = .ok (.areturn, 1) := by decide +kernel
theorem d_ARR_copyB_14 : decode b_ARR_copyB 14 = .ok (.iload_n 1, 1) := by decide +kernel
theorem d_ARR_copyB_15 : decode b_ARR_copyB 15 = .ok (.newarray .byte, 2) := by decide +kernel
theorem d_ARR_copyB_17 : decode b_ARR_copyB 17 = .ok (.astore_n 2, 1) := by decide +kernel
theorem d_ARR_copyB_18 : decode b_ARR_copyB 18 = .ok (.aload_n 0, 1) := by decide +kernel
theorem d_ARR_copyB_19 : decode b_ARR_copyB 19 = .ok (.iconst 0, 1) := by decide +kernel
theorem d_ARR_copyB_20 : decode b_ARR_copyB 20 = .ok (.aload_n 2, 1) := by decide +kernel
theorem d_ARR_copyB_21 : decode b_ARR_copyB 21 = .ok (.iconst 0, 1) := by decide +kernel
theorem d_ARR_copyB_22 : decode b_ARR_copyB 22 = .ok (.aload_n 0, 1) := by decide +kernel
theorem d_ARR_copyB_23 : decode b_ARR_copyB 23 = .ok (.arraylength, 1) := by decide +kernel
theorem d_ARR_copyB_24 : decode b_ARR_copyB 24 = .ok (.iload_n 1, 1) := by decide +kernel
theorem d_ARR_copyB_25 : decode b_ARR_copyB 25 = .ok (.invokestatic 304, 3) := by decide +kernel
theorem d_ARR_copyB_28 : decode b_ARR_copyB 28 = .ok (.invokestatic 150, 3) := by decide +kernel
theorem d_ARR_copyB_31 : decode b_ARR_copyB 31 = .ok (.aload_n 2, 1) := by decide +kernel
theorem d_ARR_copyB_32 : decode b_ARR_copyB 32 = .ok (.areturn, 1) := by decide +kernel
theorem d_Ent_init_0 : decode b_Ent_init 0 = .ok (.aload_n 0, 1) := by decide +kernel
theorem d_Ent_init_1 : decode b_Ent_init 1 = .ok (.invokespecial 3, 3) := by decide +kernel
theorem d_Ent_init_4 : decode b_Ent_init 4 = .ok (.aload_n 0, 1) := by decide +kernel
theorem d_Ent_init_5 : decode b_Ent_init 5 = .ok (.aload_n 1, 1) := by decide +kernel
theorem d_Ent_init_6 : decode b_Ent_init 6 = .ok (.putfield 9, 3) := by decide +kernel
theorem d_Ent_init_9 : decode b_Ent_init 9 = .ok (.aload_n 0, 1) := by decide +kernel
theorem d_Ent_init_10 : decode b_Ent_init 10 = .ok (.iload_n 2, 1) := by decide +kernel
theorem d_Ent_init_11 : decode b_Ent_init 11 = .ok (.putfield 15, 3) := by decide +kernel
theorem d_Ent_init_14 : decode b_Ent_init 14 = .ok (.aload_n 0, 1) := by decide +kernel
theorem d_Ent_init_15 : decode b_Ent_init 15 = .ok (.iload_n 3, 1) := by decide +kernel
theorem d_Ent_init_16 : decode b_Ent_init 16 = .ok (.putfield 19, 3) := by decide +kernel
theorem d_Ent_init_19 : decode b_Ent_init 19 = .ok (.aload_n 0, 1) := by decide +kernel
theorem d_Ent_init_20 : decode b_Ent_init 20 = .ok (.iload 4, 2) := by decide +kernel
theorem d_Ent_init_22 : decode b_Ent_init 22 = .ok (.putfield 22, 3) := by decide +kernel
theorem d_Ent_init_25 : decode b_Ent_init 25 = .ok (.aload_n 0, 1) := by decide +kernel
theorem d_Ent_init_26 : decode b_Ent_init 26 = .ok (.iload 5, 2) := by decide +kernel
theorem d_Ent_init_28 : decode b_Ent_init 28 = .ok (.putfield 25, 3) := by decide +kernel
theorem d_Ent_init_31 : decode b_Ent_init 31 = .ok (.return_, 1) := by decide +kernel
theorem d_Dir_insert_0 : decode b_Dir_insert 0 = .ok (.aload_n 0, 1) := by decide +kernel
theorem d_Dir_insert_1 : decode b_Dir_insert 1 = .ok (.getfield 12, 3) := by decide +kernel
theorem d_Dir_insert_4 : decode b_Dir_insert 4 = .ok (.iload_n 1, 1) := by decide +kernel
theorem d_Dir_insert_5 : decode b_Dir_insert 5 = .ok (.aload_n 2, 1) := by decide +kernel
theorem d_Dir_insert_6 : decode b_Dir_insert 6 = .ok (.invokevirtual 42, 3) := by decide +kernel
theorem d_Dir_insert_9 : decode b_Dir_insert 9 = .ok (.return_, 1) := by decide +kernel
theorem d_AL_add2_0 : decode b_AL_add2 0 = .ok (.aload_n 0, 1) := by decide +kernel
theorem d_AL_add2_1 : decode b_AL_add2 1 = .ok (.iload_n 1, 1) := by decide +kernel
theorem d_AL_add2_2 : decode b_AL_add2 2 = .ok (.invokevirtual 135, 3) := by decide +kernel
theorem d_AL_add2_5 : decode b_AL_add2 5 = .ok (.aload_n 0, 1) := by decide +kernel
theorem d_AL_add2_6 : decode b_AL_add2 6 = .ok (.dup, 1) := by decide +kernel
theorem d_AL_add2_7 : decode b_AL_add2 7 = .ok (.getfield 63, 3) := by decide +kernel
theorem d_AL_add2_10 : decode b_AL_add2 10 = .ok (.iconst 1, 1) := by decide +kernel
theorem d_AL_add2_11 : decode b_AL_add2 11 = .ok (.iadd, 1) := by decide +kernel
theorem d_AL_add2_12 : decode b_AL_add2 12 = .ok (.putfield 63, 3) := by decide +kernel
theorem d_AL_add2_15 : decode b_AL_add2 15 = .ok (.aload_n 0, 1) := by decide +kernel
theorem d_AL_add2_16 : decode b_AL_add2 16 = .ok (.getfield 48, 3) := by decide +kernel
theorem d_AL_add2_19 : decode b_AL_add2 19 = .ok (.dup, 1) := by decide +kernel
theorem d_AL_add2_20 : decode b_AL_add2 20 = .ok (.istore_n 3, 1) := by decide +kernel
theorem d_AL_add2_21 : decode b_AL_add2 21 = .ok (.aload_n 0, 1) := by decide +kernel
theorem d_AL_add2_22 : decode b_AL_add2 22 = .ok (.getfield 9, 3) := by decide +kernel
theorem d_AL_add2_25 : decode b_AL_add2 25 = .ok (.dup, 1) := by decide +kernel
theorem d_AL_add2_26 : decode b_AL_add2 26 = .ok (.astore 4, 2) := by decide +kernel
theorem d_AL_add2_28 : decode b_AL_add2 28 = .ok (.arraylength, 1) := by decide +kernel
theorem d_AL_add2_29 : decode b_AL_add2 29 = .ok (.if_icmp .ne 9, 3) := by decide +kernel
theorem d_AL_add2_32 : decode b_AL_add2 32 = .ok (.aload_n 0, 1) := by decide +kernel
theorem d_AL_add2_33 : decode b_AL_add2 33 = .ok (.invokevirtual 129, 3) := by decide +kernel
theorem d_AL_add2_36 : decode b_AL_add2 36 = .ok (.astore 4, 2) := by decide +kernel
theorem d_AL_add2_38 : decode b_AL_add2 38 = .ok (.aload 4, 2) := by decide +kernel
theorem d_AL_add2_40 : decode b_AL_add2 40 = .ok (.iload_n 1, 1) := by decide +kernel
theorem d_AL_add2_41 : decode b_AL_add2 41 = .ok (.aload 4, 2) := by decide +kernel
theorem d_AL_add2_43 : decode b_AL_add2 43 = .ok (.iload_n 1, 1) := by decide +kernel
theorem d_AL_add2_44 : decode b_AL_add2 44 = .ok (.iconst 1, 1) := by decide +kernel
theorem d_AL_add2_45 : decode b_AL_add2 45 = .ok (.iadd, 1) := by decide +kernel
theorem d_AL_add2_46 : decode b_AL_add2 46 = .ok (.iload_n 3, 1) := by decide +kernel
theorem d_AL_add2_47 : decode b_AL_add2 47 = .ok (.iload_n 1, 1) := by decide +kernel
theorem d_AL_add2_48 : decode b_AL_add2 48 = .ok (.isub, 1) := by decide +kernel
theorem d_AL_add2_49 : decode b_AL_add2 49 = .ok (.invokestatic 112, 3) := by decide +kernel
theorem d_AL_add2_52 : decode b_AL_add2 52 = .ok (.aload 4, 2) := by decide +kernel
theorem d_AL_add2_54 : decode b_AL_add2 54 = .ok (.iload_n 1, 1) := by decide +kernel
theorem d_AL_add2_55 : decode b_AL_add2 55 = .ok (.aload_n 2, 1) := by decide +kernel
theorem d_AL_add2_56 : decode b_AL_add2 56 = .ok (.aastore, 1) := by decide +kernel
theorem d_AL_add2_57 : decode b_AL_add2 57 = .ok (.aload_n 0, 1) := by decide +kernel
theorem d_AL_add2_58 : decode b_AL_add2 58 = .ok (.iload_n 3, 1) := by decide +kernel
theorem d_AL_add2_59 : decode b_AL_add2 59 = .ok (.iconst 1, 1) := by decide +kernel
theorem d_AL_add2_60 : decode b_AL_add2 60 = .ok (.iadd, 1) := by decide +kernel
theorem d_AL_add2_61 : decode b_AL_add2 61 = .ok (.putfield 48, 3) := by decide +kernel
theorem d_AL_add2_64 : decode b_AL_add2 64 = .ok (.return_, 1) := by decide +kernel
theorem d_AL_rangeCheckForAdd_0 : decode b_AL_rangeCheckForAdd 0 = .ok (.iload_n 1, 1) := by decide +kernel
theorem d_AL_rangeCheckForAdd_1 : decode b_AL_rangeCheckForAdd 1 = .ok (.aload_n 0, 1) := by decide +kernel
theorem d_AL_rangeCheckForAdd_2 : decode b_AL_rangeCheckForAdd 2 = .ok (.getfield 48, 3) := by decide +kernel
theorem d_AL_rangeCheckForAdd_5 : decode b_AL_rangeCheckForAdd 5 = .ok (.if_icmp .gt 7, 3) := by decide +kernel
theorem d_AL_rangeCheckForAdd_8 : decode b_AL_rangeCheckForAdd 8 = .ok (.iload_n 1, 1) := by decide +kernel
theorem d_AL_rangeCheckForAdd_9 : decode b_AL_rangeCheckForAdd 9 = .ok (.ifCond .ge 16, 3) := by decide +kernel
theorem d_AL_rangeCheckForAdd_12 : decode b_AL_rangeCheckForAdd 12 = .ok (.new 187, 3) := by decide +kernel
theorem d_AL_rangeCheckForAdd_15 : decode b_AL_rangeCheckForAdd 15 = .ok (.dup, 1) := by decide +kernel
theorem d_AL_rangeCheckForAdd_16 : decode b_AL_rangeCheckForAdd 16 = .ok (.aload_n 0, 1) := by decide +kernel
theorem d_AL_rangeCheckForAdd_17 : decode b_AL_rangeCheckForAdd 17 = .ok (.iload_n 1, 1) := by decide +kernel
theorem d_AL_rangeCheckForAdd_18 : decode b_AL_rangeCheckForAdd 18 = .ok (.invokevirtual 198, 3) := by decide +kernel
theorem d_AL_rangeCheckForAdd_21 : decode b_AL_rangeCheckForAdd 21 = .ok (.invokespecial 193, 3) := by decide +kernel
theorem d_AL_rangeCheckForAdd_24 : decode b_AL_rangeCheckForAdd 24 = .ok (.athrow, 1) := by decide +kernel
theorem d_AL_rangeCheckForAdd_25 : decode b_AL_rangeCheckForAdd 25 = .ok (.return_, 1) := by decide +kernel
theorem d_AL_grow0_0 : decode b_AL_grow0 0 = .ok (.aload_n 0, 1) := by decide +kernel
theorem d_AL_grow0_1 : decode b_AL_grow0 1 = .ok (.aload_n 0, 1) := by decide +kernel
theorem d_AL_grow0_2 : decode b_AL_grow0 2 = .ok (.getfield 48, 3) := by decide +kernel
theorem d_AL_grow0_5 : decode b_AL_grow0 5 = .ok (.iconst 1, 1) := by decide +kernel
theorem d_AL_grow0_6 : decode b_AL_grow0 6 = .ok (.iadd, 1) := by decide +kernel
theorem d_AL_grow0_7 : decode b_AL_grow0 7 = .ok (.invokevirtual 69, 3) := by decide +kernel
theorem d_AL_grow0_10 : decode b_AL_grow0 10 = .ok (.areturn, 1) := by decide +kernel
theorem d_AL_grow1_0 : decode b_AL_grow1 0 = .ok (.aload_n 0, 1) := by decide +kernel
theorem d_AL_grow1_1 : decode b_AL_grow1 1 = .ok (.getfield 9, 3) := by decide +kernel
theorem d_AL_grow1_4 : decode b_AL_grow1 4 = .ok (.arraylength, 1) := by decide +kernel
theorem d_AL_grow1_5 : decode b_AL_grow1 5 = .ok (.istore_n 2, 1) := by decide +kernel
theorem d_AL_grow1_6 : decode b_AL_grow1 6 = .ok (.iload_n 2, 1) := by decide +kernel
theorem d_AL_grow1_7 : decode b_AL_grow1 7 = .ok (.ifCond .gt 13, 3) := by decide +kernel
theorem d_AL_grow1_10 : decode b_AL_grow1 10 = .ok (.aload_n 0, 1) := by decide +kernel
theorem d_AL_grow1_11 : decode b_AL_grow1 11 = .ok (.getfield 9, 3) := by decide +kernel
theorem d_AL_grow1_14 : decode b_AL_grow1 14 = .ok (.getstatic 39, 3) := by decide +kernel
theorem d_AL_grow1_17 : decode b_AL_grow1 17 = .ok (.if_acmp .eq 28, 3) := by decide +kernel
theorem d_AL_grow1_20 : decode b_AL_grow1 20 = .ok (.iload_n 2, 1) := by decide +kernel
theorem d_AL_grow1_21 : decode b_AL_grow1 21 = .ok (.iload_n 1, 1) := by decide +kernel
theorem d_AL_grow1_22 : decode b_AL_grow1 22 = .ok (.iload_n 2, 1) := by decide +kernel
theorem d_AL_grow1_23 : decode b_AL_grow1 23 = .ok (.isub, 1) := by decide +kernel
theorem d_AL_grow1_24 : decode b_AL_grow1 24 = .ok (.iload_n 2, 1) := by decide +kernel
theorem d_AL_grow1_25 : decode b_AL_grow1 25 = .ok (.iconst 1, 1) := by decide +kernel
theorem d_AL_grow1_26 : decode b_AL_grow1 26 = .ok (.ishr, 1) := by decide +kernel
theorem d_AL_grow1_27 : decode b_AL_grow1 27 = .ok (.invokestatic 73, 3) := by decide +kernel
theorem d_AL_grow1_30 : decode b_AL_grow1 30 = .ok (.istore_n 3, 1) := by decide +kernel
theorem d_AL_grow1_31 : decode b_AL_grow1 31 = .ok (.aload_n 0, 1) := by decide +kernel
theorem d_AL_grow1_32 : decode b_AL_grow1 32 = .ok (.aload_n 0, 1) := by decide +kernel
theorem d_AL_grow1_33 : decode b_AL_grow1 33 = .ok (.getfield 9, 3) := by decide +kernel
theorem d_AL_grow1_36 : decode b_AL_grow1 36 = .ok (.iload_n 3, 1) := by decide +kernel
theorem d_AL_grow1_37 : decode b_AL_grow1 37 = .ok (.invokestatic 66, 3) := by decide +kernel
theorem d_AL_grow1_40 : decode b_AL_grow1 40 = .ok (.dup_x1, 1) := by decide +kernel
theorem d_AL_grow1_41 : decode b_AL_grow1 41 = .ok (.putfield 9, 3) := by decide +kernel
theorem d_AL_grow1_44 : decode b_AL_grow1 44 = .ok (.areturn, 1) := by decide +kernel
theorem d_AL_grow1_45 : decode b_AL_grow1 45 = .ok (.aload_n 0, 1) := by decide +kernel
theorem d_AL_grow1_46 : decode b_AL_grow1 46 = .ok (.bipush 10, 2) := by decide +kernel
theorem d_AL_grow1_48 : decode b_AL_grow1 48 = .ok (.iload_n 1, 1) := by decide +kernel
theorem d_AL_grow1_49 : decode b_AL_grow1 49 = .ok (.invokestatic 79, 3) := by decide +kernel
theorem d_AL_grow1_52 : decode b_AL_grow1 52 = .ok (.anewarray 7, 3) := by decide +kernel
theorem d_AL_grow1_55 : decode b_AL_grow1 55 = .ok (.dup_x1, 1) := by decide +kernel
theorem d_AL_grow1_56 : decode b_AL_grow1 56 = .ok (.putfield 9, 3) := by decide +kernel
theorem d_AL_grow1_59 : decode b_AL_grow1 59 = .ok (.areturn, 1) := by decide +kernel
theorem d_ASP_newLength_0 : decode b_ASP_newLength 0 = .ok (.iload_n 0, 1) := by decide +kernel
theorem d_ASP_newLength_1 : decode b_ASP_newLength 1 = .ok (.iload_n 1, 1) := by decide +kernel
theorem d_ASP_newLength_2 : decode b_ASP_newLength 2 = .ok (.iload_n 2, 1) := by decide +kernel
theorem d_ASP_newLength_3 : decode b_ASP_newLength 3 = .ok (.invokestatic 194, 3) := by decide +kernel
theorem d_ASP_newLength_6 : decode b_ASP_newLength 6 = .ok (.iadd, 1) := by decide +kernel
theorem d_ASP_newLength_7 : decode b_ASP_newLength 7 = .ok (.istore_n 3, 1) := by decide +kernel
theorem d_ASP_newLength_8 : decode b_ASP_newLength 8 = .ok (.iconst 0, 1) := by decide +kernel
theorem d_ASP_newLength_9 : decode b_ASP_newLength 9 = .ok (.iload_n 3, 1) := by decide +kernel
theorem d_ASP_newLength_10 : decode b_ASP_newLength 10 = .ok (.if_icmp .ge 11, 3) := by decide +kernel
theorem d_ASP_newLength_13 : decode b_ASP_newLength 13 = .ok (.iload_n 3, 1) := by decide +kernel
theorem d_ASP_newLength_14 : decode b_ASP_newLength 14 = .ok (.ldc 200, 2) := by decide +kernel
theorem d_ASP_newLength_16 : decode b_ASP_newLength 16 = .ok (.if_icmp .gt 5, 3) := by decide +kernel
theorem d_ASP_newLength_19 : decode b_ASP_newLength 19 = .ok (.iload_n 3, 1) := by decide +kernel
theorem d_ASP_newLength_20 : decode b_ASP_newLength 20 = .ok (.ireturn, 1) := by decide +kernel
theorem d_ASP_newLength_21 : decode b_ASP_newLength 21 = .ok (.iload_n 0, 1) := by decide +kernel
theorem d_ASP_newLength_22 : decode b_ASP_newLength 22 = .ok (.iload_n 1, 1) := by decide +kernel
theorem d_ASP_newLength_23 : decode b_ASP_newLength 23 = .ok (.invokestatic 201, 3) := by decide +kernel
theorem d_ASP_newLength_26 : decode b_ASP_newLength 26 = .ok (.ireturn, 1) := by decide +kernel
theorem d_ASP_hugeLength_0 : decode b_ASP_hugeLength 0 = .ok (.iload_n 0, 1) := by decide +kernel
theorem d_ASP_hugeLength_1 : decode b_ASP_hugeLength 1 = .ok (.iload_n 1, 1) := by decide +kernel
theorem d_ASP_hugeLength_2 : decode b_ASP_hugeLength 2 = .ok (.iadd, 1) := by decide +kernel
theorem d_ASP_hugeLength_3 : decode b_ASP_hugeLength 3 = .ok (.istore_n 2, 1) := by decide +kernel
theorem d_ASP_hugeLength_4 : decode b_ASP_hugeLength 4 = .ok (.iload_n 2, 1) := by decide +kernel
theorem d_ASP_hugeLength_5 : decode b_ASP_hugeLength 5 = .ok (.ifCond .ge 44, 3) := by decide +kernel
theorem d_ASP_hugeLength_8 : decode b_ASP_hugeLength 8 = .ok (.new 204, 3) := by decide +kernel
theorem d_ASP_hugeLength_11 : decode b_ASP_hugeLength 11 = .ok (.dup, 1) := by decide +kernel
theorem d_ASP_hugeLength_12 : decode b_ASP_hugeLength 12 = .ok (.new 89, 3) := by decide +kernel
theorem d_ASP_hugeLength_15 : decode b_ASP_hugeLength 15 = .ok (.dup, 1) := by decide +kernel
theorem d_ASP_hugeLength_16 : decode b_ASP_hugeLength 16 = .ok (.invokespecial 91, 3) := by decide +kernel
theorem d_ASP_hugeLength_19 : decode b_ASP_hugeLength 19 = .ok (.ldc 206, 2) := by decide +kernel
theorem d_ASP_hugeLength_21 : decode b_ASP_hugeLength 21 = .ok (.invokevirtual 94, 3) := by decide +kernel
theorem d_ASP_hugeLength_24 : decode b_ASP_hugeLength 24 = .ok (.iload_n 0, 1) := by decide +kernel
theorem d_ASP_hugeLength_25 : decode b_ASP_hugeLength 25 = .ok (.invokevirtual 98, 3) := by decide +kernel
theorem d_ASP_hugeLength_28 : decode b_ASP_hugeLength 28 = .ok (.ldc 208, 2) := by decide +kernel
theorem d_ASP_hugeLength_30 : decode b_ASP_hugeLength 30 = .ok (.invokevirtual 94, 3) := by decide +kernel
theorem d_ASP_hugeLength_33 : decode b_ASP_hugeLength 33 = .ok (.iload_n 1, 1) := by decide +kernel
theorem d_ASP_hugeLength_34 : decode b_ASP_hugeLength 34 = .ok (.invokevirtual 98, 3) := by decide +kernel
theorem d_ASP_hugeLength_37 : decode b_ASP_hugeLength 37 = .ok (.ldc 210, 2) := by decide +kernel
theorem d_ASP_hugeLength_39 : decode b_ASP_hugeLength 39 = .ok (.invokevirtual 94, 3) := by decide +kernel
theorem d_ASP_hugeLength_42 : decode b_ASP_hugeLength 42 = .ok (.invokevirtual 101, 3) := by decide +kernel
theorem d_ASP_hugeLength_45 : decode b_ASP_hugeLength 45 = .ok (.invokespecial 212, 3) := by decide +kernel
theorem d_ASP_hugeLength_48 : decode b_ASP_hugeLength 48 = .ok (.athrow, 1) := by decide +kernel
theorem d_ASP_hugeLength_49 : decode b_ASP_hugeLength 49 = .ok (.iload_n 2, 1) := by decide +kernel
theorem d_ASP_hugeLength_50 : decode b_ASP_hugeLength 50 = .ok (.ldc 200, 2) := by decide +kernel
theorem d_ASP_hugeLength_52 : decode b_ASP_hugeLength 52 = .ok (.if_icmp .gt 6, 3) := by decide +kernel
theorem d_ASP_hugeLength_55 : decode b_ASP_hugeLength 55 = .ok (.ldc 200, 2) := by decide +kernel
theorem d_ASP_hugeLength_57 : decode b_ASP_hugeLength 57 = .ok (.ireturn, 1) := by decide +kernel
theorem d_ASP_hugeLength_58 : decode b_ASP_hugeLength 58 = .ok (.iload_n 2, 1) := by decide +kernel
theorem d_ASP_hugeLength_59 : decode b_ASP_hugeLength 59 = .ok (.ireturn, 1) := by decide +kernel
theorem d_ARR_copy2_0 : decode b_ARR_copy2 0 = .ok (.aload_n 0, 1) := by decide +kernel
theorem d_ARR_copy2_1 : decode b_ARR_copy2 1 = .ok (.iload_n 1, 1) := by decide +kernel
theorem d_ARR_copy2_2 : decode b_ARR_copy2 2 = .ok (.aload_n 0, 1) := by decide +kernel
theorem d_ARR_copy2_3 : decode b_ARR_copy2 3 = .ok (.invokevirtual 86, 3) := by decide +kernel
theorem d_ARR_copy2_6 : decode b_ARR_copy2 6 = .ok (.invokestatic 300, 3) := by decide +kernel
theorem d_ARR_copy2_9 : decode b_ARR_copy2 9 = .ok (.areturn, 1) := by decide +kernel
theorem d_ARR_copy3_0 : decode b_ARR_copy3 0 = .ok (.aload_n 2, 1) := by decide +kernel
theorem d_ARR_copy3_1 : decode b_ARR_copy3 1 = .ok (.ldc 110, 2) := by decide +kernel
theorem d_ARR_copy3_3 : decode b_ARR_copy3 3 = .ok (.if_acmp .ne 10, 3) := by decide +kernel
theorem d_ARR_copy3_6 : decode b_ARR_copy3 6 = .ok (.iload_n 1, 1) := by decide +kernel
theorem d_ARR_copy3_7 : decode b_ARR_copy3 7 = .ok (.anewarray 2, 3) := by decide +kernel
theorem d_ARR_copy3_10 : decode b_ARR_copy3 10 = .ok (.goto 14, 3) := by decide +kernel
theorem d_ARR_copy3_13 : decode b_ARR_copy3 13 = .ok (.aload_n 2, 1) := by decide +kernel
theorem d_ARR_copy3_14 : decode b_ARR_copy3 14 = .ok (.invokevirtual 90, 3) := by decide +kernel
theorem d_ARR_copy3_17 : decode b_ARR_copy3 17 = .ok (.iload_n 1, 1) := by decide +kernel
theorem d_ARR_copy3_18 : decode b_ARR_copy3 18 = .ok (.invokestatic 95, 3) := by decide +kernel
theorem d_ARR_copy3_21 : decode b_ARR_copy3 21 = .ok (.checkcast 110, 3) := by decide +kernel
theorem d_ARR_copy3_24 : decode b_ARR_copy3 24 = .ok (.astore_n 3, 1) := by decide +kernel
theorem d_ARR_copy3_25 : decode b_ARR_copy3 25 = .ok (.aload_n 0, 1) := by decide +kernel
theorem d_ARR_copy3_26 : decode b_ARR_copy3 26 = .ok (.iconst 0, 1) := by decide +kernel
theorem d_ARR_copy3_27 : decode b_ARR_copy3 27 = .ok (.aload_n 3, 1) := by decide +kernel
theorem d_ARR_copy3_28 : decode b_ARR_copy3 28 = .ok (.iconst 0, 1) := by decide +kernel
theorem d_ARR_copy3_29 : decode b_ARR_copy3 29 = .ok (.aload_n 0, 1) := by decide +kernel
theorem d_ARR_copy3_30 : decode b_ARR_copy3 30 = .ok (.arraylength, 1) := by decide +kernel
theorem d_ARR_copy3_31 : decode b_ARR_copy3 31 = .ok (.iload_n 1, 1) := by decide +kernel
theorem d_ARR_copy3_32 : decode b_ARR_copy3 32 = .ok (.invokestatic 304, 3) := by decide +kernel
theorem d_ARR_copy3_35 : decode b_ARR_copy3 35 = .ok (.invokestatic 150, 3) := by decide +kernel
theorem d_ARR_copy3_38 : decode b_ARR_copy3 38 = .ok (.aload_n 3, 1) := by decide +kernel
theorem d_ARR_copy3_39 : decode b_ARR_copy3 39 = .ok (.areturn, 1) := by decide +kernel
