theorem d_Row_init_0 : decode b_Row_init 0 = .ok (.aload_n 0, 1) := by decide +kernel
theorem d_Row_init_1 : decode b_Row_init 1 = .ok (.invokespecial 1, 3) := by decide +kernel
theorem d_Row_init_4 : decode b_Row_init 4 = .ok (.aload_n 0, 1) := by decide +kernel
theorem d_Row_init_5 : decode b_Row_init 5 = .ok (.iload_n 1, 1) := by decide +kernel
theorem d_Row_init_6 : decode b_Row_init 6 = .ok (.newarray .int, 2) := by decide +kernel
theorem d_Row_init_8 : decode b_Row_init 8 = .ok (.putfield 7, 3) := by decide +kernel
theorem d_Row_init_11 : decode b_Row_init 11 = .ok (.aload_n 0, 1) := by decide +kernel
theorem d_Row_init_12 : decode b_Row_init 12 = .ok (.iconst 0, 1) := by decide +kernel
theorem d_Row_init_13 : decode b_Row_init 13 = .ok (.putfield 13, 3) := by decide +kernel
theorem d_Row_init_16 : decode b_Row_init 16 = .ok (.return_, 1) := by decide +kernel
theorem d_Exp_init_0 : decode b_Exp_init 0 = .ok (.aload_n 0, 1) := by decide +kernel
theorem d_Exp_init_1 : decode b_Exp_init 1 = .ok (.invokespecial 3, 3) := by decide +kernel
theorem d_Exp_init_4 : decode b_Exp_init 4 = .ok (.aload_n 0, 1) := by decide +kernel
theorem d_Exp_init_5 : decode b_Exp_init 5 = .ok (.iconst 4, 1) := by decide +kernel
theorem d_Exp_init_6 : decode b_Exp_init 6 = .ok (.anewarray 9, 3) := by decide +kernel
theorem d_Exp_init_9 : decode b_Exp_init 9 = .ok (.putfield 11, 3) := by decide +kernel
theorem d_Exp_init_12 : decode b_Exp_init 12 = .ok (.aload_n 0, 1) := by decide +kernel
theorem d_Exp_init_13 : decode b_Exp_init 13 = .ok (.sipush 200, 3) := by decide +kernel
theorem d_Exp_init_16 : decode b_Exp_init 16 = .ok (.newarray .int, 2) := by decide +kernel
theorem d_Exp_init_18 : decode b_Exp_init 18 = .ok (.putfield 17, 3) := by decide +kernel
theorem d_Exp_init_21 : decode b_Exp_init 21 = .ok (.aload_n 0, 1) := by decide +kernel
theorem d_Exp_init_22 : decode b_Exp_init 22 = .ok (.new 21, 3) := by decide +kernel
theorem d_Exp_init_25 : decode b_Exp_init 25 = .ok (.dup, 1) := by decide +kernel
theorem d_Exp_init_26 : decode b_Exp_init 26 = .ok (.sipush 200, 3) := by decide +kernel
theorem d_Exp_init_29 : decode b_Exp_init 29 = .ok (.invokespecial 23, 3) := by decide +kernel
theorem d_Exp_init_32 : decode b_Exp_init 32 = .ok (.putfield 26, 3) := by decide +kernel
theorem d_Exp_init_35 : decode b_Exp_init 35 = .ok (.aload_n 0, 1) := by decide +kernel
theorem d_Exp_init_36 : decode b_Exp_init 36 = .ok (.bipush 8, 2) := by decide +kernel
theorem d_Exp_init_38 : decode b_Exp_init 38 = .ok (.newarray .int, 2) := by decide +kernel
theorem d_Exp_init_40 : decode b_Exp_init 40 = .ok (.putfield 30, 3) := by decide +kernel
theorem d_Exp_init_43 : decode b_Exp_init 43 = .ok (.iconst 0, 1) := by decide +kernel
theorem d_Exp_init_44 : decode b_Exp_init 44 = .ok (.istore_n 1, 1) := by decide +kernel
theorem d_Exp_init_45 : decode b_Exp_init 45 = .ok (.iload_n 1, 1) := by decide +kernel
theorem d_Exp_init_46 : decode b_Exp_init 46 = .ok (.iconst 4, 1) := by decide +kernel
theorem d_Exp_init_47 : decode b_Exp_init 47 = .ok (.if_icmp .ge 22, 3) := by decide +kernel
theorem d_Exp_init_50 : decode b_Exp_init 50 = .ok (.aload_n 0, 1) := by decide +kernel
theorem d_Exp_init_51 : decode b_Exp_init 51 = .ok (.getfield 11, 3) := by decide +kernel
theorem d_Exp_init_54 : decode b_Exp_init 54 = .ok (.iload_n 1, 1) := by decide +kernel
theorem d_Exp_init_55 : decode b_Exp_init 55 = .ok (.new 9, 3) := by decide +kernel
theorem d_Exp_init_58 : decode b_Exp_init 58 = .ok (.dup, 1) := by decide +kernel
theorem d_Exp_init_59 : decode b_Exp_init 59 = .ok (.invokespecial 33, 3) := by decide +kernel
theorem d_Exp_init_62 : decode b_Exp_init 62 = .ok (.aastore, 1) := by decide +kernel
theorem d_Exp_init_63 : decode b_Exp_init 63 = .ok (.iinc 1 1, 3) := by decide +kernel
theorem d_Exp_init_66 : decode b_Exp_init 66 = .ok (.goto (-21), 3) := by decide +kernel
theorem d_Exp_init_69 : decode b_Exp_init 69 = .ok (.return_, 1) := by decide +kernel
theorem d_Mac_init_0 : decode b_Mac_init 0 = .ok (.aload_n 0, 1) := by decide +kernel
theorem d_Mac_init_1 : decode b_Mac_init 1 = .ok (.invokespecial 3, 3) := by decide +kernel
theorem d_Mac_init_4 : decode b_Mac_init 4 = .ok (.aload_n 0, 1) := by decide +kernel
theorem d_Mac_init_5 : decode b_Mac_init 5 = .ok (.new 9, 3) := by decide +kernel
theorem d_Mac_init_8 : decode b_Mac_init 8 = .ok (.dup, 1) := by decide +kernel
theorem d_Mac_init_9 : decode b_Mac_init 9 = .ok (.bipush 24, 2) := by decide +kernel
theorem d_Mac_init_11 : decode b_Mac_init 11 = .ok (.invokespecial 11, 3) := by decide +kernel
theorem d_Mac_init_14 : decode b_Mac_init 14 = .ok (.putfield 14, 3) := by decide +kernel
theorem d_Mac_init_17 : decode b_Mac_init 17 = .ok (.aload_n 0, 1) := by decide +kernel
theorem d_Mac_init_18 : decode b_Mac_init 18 = .ok (.iconst 0, 1) := by decide +kernel
theorem d_Mac_init_19 : decode b_Mac_init 19 = .ok (.putfield 20, 3) := by decide +kernel
theorem d_Mac_init_22 : decode b_Mac_init 22 = .ok (.return_, 1) := by decide +kernel
theorem d_Row_isFull_0 : decode b_Row_isFull 0 = .ok (.aload_n 0, 1) := by decide +kernel
theorem d_Row_isFull_1 : decode b_Row_isFull 1 = .ok (.getfield 13, 3) := by decide +kernel
theorem d_Row_isFull_4 : decode b_Row_isFull 4 = .ok (.aload_n 0, 1) := by decide +kernel
theorem d_Row_isFull_5 : decode b_Row_isFull 5 = .ok (.getfield 7, 3) := by decide +kernel
theorem d_Row_isFull_8 : decode b_Row_isFull 8 = .ok (.arraylength, 1) := by decide +kernel
theorem d_Row_isFull_9 : decode b_Row_isFull 9 = .ok (.if_icmp .ne 7, 3) := by decide +kernel
theorem d_Row_isFull_12 : decode b_Row_isFull 12 = .ok (.iconst 1, 1) := by decide +kernel
theorem d_Row_isFull_13 : decode b_Row_isFull 13 = .ok (.goto 4, 3) := by decide +kernel
theorem d_Row_isFull_16 : decode b_Row_isFull 16 = .ok (.iconst 0, 1) := by decide +kernel
theorem d_Row_isFull_17 : decode b_Row_isFull 17 = .ok (.ireturn, 1) := by decide +kernel
theorem d_Row_add_0 : decode b_Row_add 0 = .ok (.aload_n 0, 1) := by decide +kernel
theorem d_Row_add_1 : decode b_Row_add 1 = .ok (.getfield 13, 3) := by decide +kernel
theorem d_Row_add_4 : decode b_Row_add 4 = .ok (.aload_n 0, 1) := by decide +kernel
theorem d_Row_add_5 : decode b_Row_add 5 = .ok (.getfield 7, 3) := by decide +kernel
theorem d_Row_add_8 : decode b_Row_add 8 = .ok (.arraylength, 1) := by decide +kernel
theorem d_Row_add_9 : decode b_Row_add 9 = .ok (.if_icmp .ge 23, 3) := by decide +kernel
theorem d_Row_add_12 : decode b_Row_add 12 = .ok (.aload_n 0, 1) := by decide +kernel
theorem d_Row_add_13 : decode b_Row_add 13 = .ok (.getfield 7, 3) := by decide +kernel
theorem d_Row_add_16 : decode b_Row_add 16 = .ok (.aload_n 0, 1) := by decide +kernel
theorem d_Row_add_17 : decode b_Row_add 17 = .ok (.getfield 13, 3) := by decide +kernel
theorem d_Row_add_20 : decode b_Row_add 20 = .ok (.iload_n 1, 1) := by decide +kernel
theorem d_Row_add_21 : decode b_Row_add 21 = .ok (.iastore, 1) := by decide +kernel
theorem d_Row_add_22 : decode b_Row_add 22 = .ok (.aload_n 0, 1) := by decide +kernel
theorem d_Row_add_23 : decode b_Row_add 23 = .ok (.dup, 1) := by decide +kernel
theorem d_Row_add_24 : decode b_Row_add 24 = .ok (.getfield 13, 3) := by decide +kernel
theorem d_Row_add_27 : decode b_Row_add 27 = .ok (.iconst 1, 1) := by decide +kernel
theorem d_Row_add_28 : decode b_Row_add 28 = .ok (.iadd, 1) := by decide +kernel
theorem d_Row_add_29 : decode b_Row_add 29 = .ok (.putfield 13, 3) := by decide +kernel
theorem d_Row_add_32 : decode b_Row_add 32 = .ok (.return_, 1) := by decide +kernel
theorem d_Row_clear_0 : decode b_Row_clear 0 = .ok (.aload_n 0, 1) := by decide +kernel
theorem d_Row_clear_1 : decode b_Row_clear 1 = .ok (.iconst 0, 1) := by decide +kernel
theorem d_Row_clear_2 : decode b_Row_clear 2 = .ok (.putfield 13, 3) := by decide +kernel
theorem d_Row_clear_5 : decode b_Row_clear 5 = .ok (.return_, 1) := by decide +kernel
theorem d_Mac_become_0 : decode b_Mac_become 0 = .ok (.aload_n 0, 1) := by decide +kernel
theorem d_Mac_become_1 : decode b_Mac_become 1 = .ok (.getfield 14, 3) := by decide +kernel
theorem d_Mac_become_4 : decode b_Mac_become 4 = .ok (.aload_n 1, 1) := by decide +kernel
theorem d_Mac_become_5 : decode b_Mac_become 5 = .ok (.invokevirtual 24, 3) := by decide +kernel
theorem d_Mac_become_8 : decode b_Mac_become 8 = .ok (.aload_n 0, 1) := by decide +kernel
theorem d_Mac_become_9 : decode b_Mac_become 9 = .ok (.iconst 1, 1) := by decide +kernel
theorem d_Mac_become_10 : decode b_Mac_become 10 = .ok (.putfield 20, 3) := by decide +kernel
theorem d_Mac_become_13 : decode b_Mac_become 13 = .ok (.return_, 1) := by decide +kernel
theorem d_Row_become_0 : decode b_Row_become 0 = .ok (.aload_n 0, 1) := by decide +kernel
theorem d_Row_become_1 : decode b_Row_become 1 = .ok (.invokevirtual 17, 3) := by decide +kernel
theorem d_Row_become_4 : decode b_Row_become 4 = .ok (.iconst 0, 1) := by decide +kernel
theorem d_Row_become_5 : decode b_Row_become 5 = .ok (.istore_n 2, 1) := by decide +kernel
theorem d_Row_become_6 : decode b_Row_become 6 = .ok (.iload_n 2, 1) := by decide +kernel
theorem d_Row_become_7 : decode b_Row_become 7 = .ok (.aload_n 1, 1) := by decide +kernel
theorem d_Row_become_8 : decode b_Row_become 8 = .ok (.getfield 13, 3) := by decide +kernel
theorem d_Row_become_11 : decode b_Row_become 11 = .ok (.if_icmp .ge 19, 3) := by decide +kernel
theorem d_Row_become_14 : decode b_Row_become 14 = .ok (.aload_n 0, 1) := by decide +kernel
theorem d_Row_become_15 : decode b_Row_become 15 = .ok (.aload_n 1, 1) := by decide +kernel
theorem d_Row_become_16 : decode b_Row_become 16 = .ok (.getfield 7, 3) := by decide +kernel
theorem d_Row_become_19 : decode b_Row_become 19 = .ok (.iload_n 2, 1) := by decide +kernel
theorem d_Row_become_20 : decode b_Row_become 20 = .ok (.iaload, 1) := by decide +kernel
theorem d_Row_become_21 : decode b_Row_become 21 = .ok (.invokevirtual 20, 3) := by decide +kernel
theorem d_Row_become_24 : decode b_Row_become 24 = .ok (.iinc 2 1, 3) := by decide +kernel
theorem d_Row_become_27 : decode b_Row_become 27 = .ok (.goto (-21), 3) := by decide +kernel
theorem d_Row_become_30 : decode b_Row_become 30 = .ok (.return_, 1) := by decide +kernel
theorem d_Exp_expand_0 : decode b_Exp_expand 0 = .ok (.aload_n 0, 1) := by decide +kernel
theorem d_Exp_expand_1 : decode b_Exp_expand 1 = .ok (.aload_n 1, 1) := by decide +kernel
theorem d_Exp_expand_2 : decode b_Exp_expand 2 = .ok (.invokevirtual 34, 3) := by decide +kernel
theorem d_Exp_expand_5 : decode b_Exp_expand 5 = .ok (.aload_n 2, 1) := by decide +kernel
theorem d_Exp_expand_6 : decode b_Exp_expand 6 = .ok (.iconst 0, 1) := by decide +kernel
theorem d_Exp_expand_7 : decode b_Exp_expand 7 = .ok (.putfield 38, 3) := by decide +kernel
theorem d_Exp_expand_10 : decode b_Exp_expand 10 = .ok (.iconst 0, 1) := by decide +kernel
theorem d_Exp_expand_11 : decode b_Exp_expand 11 = .ok (.istore_n 3, 1) := by decide +kernel
theorem d_Exp_expand_12 : decode b_Exp_expand 12 = .ok (.iload_n 3, 1) := by decide +kernel
theorem d_Exp_expand_13 : decode b_Exp_expand 13 = .ok (.sipush 8060, 3) := by decide +kernel
theorem d_Exp_expand_16 : decode b_Exp_expand 16 = .ok (.if_icmp .ge 35, 3) := by decide +kernel
theorem d_Exp_expand_19 : decode b_Exp_expand 19 = .ok (.aload_n 0, 1) := by decide +kernel
theorem d_Exp_expand_20 : decode b_Exp_expand 20 = .ok (.invokevirtual 44, 3) := by decide +kernel
theorem d_Exp_expand_23 : decode b_Exp_expand 23 = .ok (.ifCond .ne 28, 3) := by decide +kernel
theorem d_Exp_expand_26 : decode b_Exp_expand 26 = .ok (.aload_n 0, 1) := by decide +kernel
theorem d_Exp_expand_27 : decode b_Exp_expand 27 = .ok (.aload_n 0, 1) := by decide +kernel
theorem d_Exp_expand_28 : decode b_Exp_expand 28 = .ok (.invokevirtual 48, 3) := by decide +kernel
theorem d_Exp_expand_31 : decode b_Exp_expand 31 = .ok (.aload_n 2, 1) := by decide +kernel
theorem d_Exp_expand_32 : decode b_Exp_expand 32 = .ok (.invokevirtual 52, 3) := by decide +kernel
theorem d_Exp_expand_35 : decode b_Exp_expand 35 = .ok (.istore 4, 2) := by decide +kernel
theorem d_Exp_expand_37 : decode b_Exp_expand 37 = .ok (.iload 4, 2) := by decide +kernel
theorem d_Exp_expand_39 : decode b_Exp_expand 39 = .ok (.ifCond .eq 6, 3) := by decide +kernel
theorem d_Exp_expand_42 : decode b_Exp_expand 42 = .ok (.iload 4, 2) := by decide +kernel
theorem d_Exp_expand_44 : decode b_Exp_expand 44 = .ok (.ireturn, 1) := by decide +kernel
theorem d_Exp_expand_45 : decode b_Exp_expand 45 = .ok (.iinc 3 1, 3) := by decide +kernel
theorem d_Exp_expand_48 : decode b_Exp_expand 48 = .ok (.goto (-36), 3) := by decide +kernel
theorem d_Exp_expand_51 : decode b_Exp_expand 51 = .ok (.aload_n 0, 1) := by decide +kernel
theorem d_Exp_expand_52 : decode b_Exp_expand 52 = .ok (.getfield 56, 3) := by decide +kernel
theorem d_Exp_expand_55 : decode b_Exp_expand 55 = .ok (.ifCond .le 8, 3) := by decide +kernel
theorem d_Exp_expand_58 : decode b_Exp_expand 58 = .ok (.bipush (-3), 2) := by decide +kernel
theorem d_Exp_expand_60 : decode b_Exp_expand 60 = .ok (.goto 4, 3) := by decide +kernel
theorem d_Exp_expand_63 : decode b_Exp_expand 63 = .ok (.iconst 0, 1) := by decide +kernel
theorem d_Exp_expand_64 : decode b_Exp_expand 64 = .ok (.ireturn, 1) := by decide +kernel
theorem d_Exp_begin_0 : decode b_Exp_begin 0 = .ok (.aload_n 0, 1) := by decide +kernel
theorem d_Exp_begin_1 : decode b_Exp_begin 1 = .ok (.sipush 200, 3) := by decide +kernel
theorem d_Exp_begin_4 : decode b_Exp_begin 4 = .ok (.aload_n 1, 1) := by decide +kernel
theorem d_Exp_begin_5 : decode b_Exp_begin 5 = .ok (.getfield 59, 3) := by decide +kernel
theorem d_Exp_begin_8 : decode b_Exp_begin 8 = .ok (.isub, 1) := by decide +kernel
theorem d_Exp_begin_9 : decode b_Exp_begin 9 = .ok (.putfield 60, 3) := by decide +kernel
theorem d_Exp_begin_12 : decode b_Exp_begin 12 = .ok (.iconst 0, 1) := by decide +kernel
theorem d_Exp_begin_13 : decode b_Exp_begin 13 = .ok (.istore_n 2, 1) := by decide +kernel
theorem d_Exp_begin_14 : decode b_Exp_begin 14 = .ok (.iload_n 2, 1) := by decide +kernel
theorem d_Exp_begin_15 : decode b_Exp_begin 15 = .ok (.aload_n 1, 1) := by decide +kernel
theorem d_Exp_begin_16 : decode b_Exp_begin 16 = .ok (.getfield 59, 3) := by decide +kernel
theorem d_Exp_begin_19 : decode b_Exp_begin 19 = .ok (.if_icmp .ge 26, 3) := by decide +kernel
theorem d_Exp_begin_22 : decode b_Exp_begin 22 = .ok (.aload_n 0, 1) := by decide +kernel
theorem d_Exp_begin_23 : decode b_Exp_begin 23 = .ok (.getfield 17, 3) := by decide +kernel
theorem d_Exp_begin_26 : decode b_Exp_begin 26 = .ok (.aload_n 0, 1) := by decide +kernel
theorem d_Exp_begin_27 : decode b_Exp_begin 27 = .ok (.getfield 60, 3) := by decide +kernel
theorem d_Exp_begin_30 : decode b_Exp_begin 30 = .ok (.iload_n 2, 1) := by decide +kernel
theorem d_Exp_begin_31 : decode b_Exp_begin 31 = .ok (.iadd, 1) := by decide +kernel
theorem d_Exp_begin_32 : decode b_Exp_begin 32 = .ok (.aload_n 1, 1) := by decide +kernel
theorem d_Exp_begin_33 : decode b_Exp_begin 33 = .ok (.getfield 63, 3) := by decide +kernel
theorem d_Exp_begin_36 : decode b_Exp_begin 36 = .ok (.iload_n 2, 1) := by decide +kernel
theorem d_Exp_begin_37 : decode b_Exp_begin 37 = .ok (.iaload, 1) := by decide +kernel
theorem d_Exp_begin_38 : decode b_Exp_begin 38 = .ok (.iastore, 1) := by decide +kernel
theorem d_Exp_begin_39 : decode b_Exp_begin 39 = .ok (.iinc 2 1, 3) := by decide +kernel
theorem d_Exp_begin_42 : decode b_Exp_begin 42 = .ok (.goto (-28), 3) := by decide +kernel
theorem d_Exp_begin_45 : decode b_Exp_begin 45 = .ok (.aload_n 0, 1) := by decide +kernel
theorem d_Exp_begin_46 : decode b_Exp_begin 46 = .ok (.iconst 0, 1) := by decide +kernel
theorem d_Exp_begin_47 : decode b_Exp_begin 47 = .ok (.putfield 56, 3) := by decide +kernel
theorem d_Exp_begin_50 : decode b_Exp_begin 50 = .ok (.aload_n 0, 1) := by decide +kernel
theorem d_Exp_begin_51 : decode b_Exp_begin 51 = .ok (.iconst 4, 1) := by decide +kernel
theorem d_Exp_begin_52 : decode b_Exp_begin 52 = .ok (.putfield 66, 3) := by decide +kernel
theorem d_Exp_begin_55 : decode b_Exp_begin 55 = .ok (.aload_n 0, 1) := by decide +kernel
theorem d_Exp_begin_56 : decode b_Exp_begin 56 = .ok (.iconst 0, 1) := by decide +kernel
theorem d_Exp_begin_57 : decode b_Exp_begin 57 = .ok (.putfield 69, 3) := by decide +kernel
theorem d_Exp_begin_60 : decode b_Exp_begin 60 = .ok (.return_, 1) := by decide +kernel
theorem d_Exp_isListEmpty_0 : decode b_Exp_isListEmpty 0 = .ok (.aload_n 0, 1) := by decide +kernel
theorem d_Exp_isListEmpty_1 : decode b_Exp_isListEmpty 1 = .ok (.getfield 60, 3) := by decide +kernel
theorem d_Exp_isListEmpty_4 : decode b_Exp_isListEmpty 4 = .ok (.sipush 200, 3) := by decide +kernel
theorem d_Exp_isListEmpty_7 : decode b_Exp_isListEmpty 7 = .ok (.if_icmp .lt 7, 3) := by decide +kernel
theorem d_Exp_isListEmpty_10 : decode b_Exp_isListEmpty 10 = .ok (.iconst 1, 1) := by decide +kernel
theorem d_Exp_isListEmpty_11 : decode b_Exp_isListEmpty 11 = .ok (.goto 4, 3) := by decide +kernel
theorem d_Exp_isListEmpty_14 : decode b_Exp_isListEmpty 14 = .ok (.iconst 0, 1) := by decide +kernel
theorem d_Exp_isListEmpty_15 : decode b_Exp_isListEmpty 15 = .ok (.ireturn, 1) := by decide +kernel
theorem d_Exp_takeOff_0 : decode b_Exp_takeOff 0 = .ok (.aload_n 0, 1) := by decide +kernel
theorem d_Exp_takeOff_1 : decode b_Exp_takeOff 1 = .ok (.getfield 17, 3) := by decide +kernel
theorem d_Exp_takeOff_4 : decode b_Exp_takeOff 4 = .ok (.aload_n 0, 1) := by decide +kernel
theorem d_Exp_takeOff_5 : decode b_Exp_takeOff 5 = .ok (.getfield 60, 3) := by decide +kernel
theorem d_Exp_takeOff_8 : decode b_Exp_takeOff 8 = .ok (.iaload, 1) := by decide +kernel
theorem d_Exp_takeOff_9 : decode b_Exp_takeOff 9 = .ok (.istore_n 1, 1) := by decide +kernel
theorem d_Exp_takeOff_10 : decode b_Exp_takeOff 10 = .ok (.aload_n 0, 1) := by decide +kernel
theorem d_Exp_takeOff_11 : decode b_Exp_takeOff 11 = .ok (.dup, 1) := by decide +kernel
theorem d_Exp_takeOff_12 : decode b_Exp_takeOff 12 = .ok (.getfield 60, 3) := by decide +kernel
theorem d_Exp_takeOff_15 : decode b_Exp_takeOff 15 = .ok (.iconst 1, 1) := by decide +kernel
theorem d_Exp_takeOff_16 : decode b_Exp_takeOff 16 = .ok (.iadd, 1) := by decide +kernel
theorem d_Exp_takeOff_17 : decode b_Exp_takeOff 17 = .ok (.putfield 60, 3) := by decide +kernel
theorem d_Exp_takeOff_20 : decode b_Exp_takeOff 20 = .ok (.iload_n 1, 1) := by decide +kernel
theorem d_Exp_takeOff_21 : decode b_Exp_takeOff 21 = .ok (.ireturn, 1) := by decide +kernel
theorem d_Exp_obey_0 : decode b_Exp_obey 0 = .ok (.iload_n 1, 1) := by decide +kernel
theorem d_Exp_obey_1 : decode b_Exp_obey 1 = .ok (.invokestatic 72, 3) := by decide +kernel
theorem d_Exp_obey_4 : decode b_Exp_obey 4 = .ok (.ifCond .eq 17, 3) := by decide +kernel
theorem d_Exp_obey_7 : decode b_Exp_obey 7 = .ok (.aload_n 0, 1) := by decide +kernel
theorem d_Exp_obey_8 : decode b_Exp_obey 8 = .ok (.aload_n 0, 1) := by decide +kernel
theorem d_Exp_obey_9 : decode b_Exp_obey 9 = .ok (.getfield 11, 3) := by decide +kernel
theorem d_Exp_obey_12 : decode b_Exp_obey 12 = .ok (.iload_n 1, 1) := by decide +kernel
theorem d_Exp_obey_13 : decode b_Exp_obey 13 = .ok (.bipush 65, 2) := by decide +kernel
theorem d_Exp_obey_15 : decode b_Exp_obey 15 = .ok (.isub, 1) := by decide +kernel
theorem d_Exp_obey_16 : decode b_Exp_obey 16 = .ok (.aaload, 1) := by decide +kernel
theorem d_Exp_obey_17 : decode b_Exp_obey 17 = .ok (.invokevirtual 76, 3) := by decide +kernel
theorem d_Exp_obey_20 : decode b_Exp_obey 20 = .ok (.ireturn, 1) := by decide +kernel
theorem d_Exp_obey_21 : decode b_Exp_obey 21 = .ok (.iload_n 1, 1) := by decide +kernel
theorem d_Exp_obey_22 : decode b_Exp_obey 22 = .ok (.bipush 123, 2) := by decide +kernel
theorem d_Exp_obey_24 : decode b_Exp_obey 24 = .ok (.if_icmp .ne 8, 3) := by decide +kernel
theorem d_Exp_obey_27 : decode b_Exp_obey 27 = .ok (.aload_n 0, 1) := by decide +kernel
theorem d_Exp_obey_28 : decode b_Exp_obey 28 = .ok (.invokevirtual 80, 3) := by decide +kernel
theorem d_Exp_obey_31 : decode b_Exp_obey 31 = .ok (.ireturn, 1) := by decide +kernel
theorem d_Exp_obey_32 : decode b_Exp_obey 32 = .ok (.iload_n 1, 1) := by decide +kernel
theorem d_Exp_obey_33 : decode b_Exp_obey 33 = .ok (.bipush 125, 2) := by decide +kernel
theorem d_Exp_obey_35 : decode b_Exp_obey 35 = .ok (.if_icmp .ne 8, 3) := by decide +kernel
theorem d_Exp_obey_38 : decode b_Exp_obey 38 = .ok (.aload_n 0, 1) := by decide +kernel
theorem d_Exp_obey_39 : decode b_Exp_obey 39 = .ok (.invokevirtual 83, 3) := by decide +kernel
theorem d_Exp_obey_42 : decode b_Exp_obey 42 = .ok (.ireturn, 1) := by decide +kernel
theorem d_Exp_obey_43 : decode b_Exp_obey 43 = .ok (.iload_n 1, 1) := by decide +kernel
theorem d_Exp_obey_44 : decode b_Exp_obey 44 = .ok (.bipush 61, 2) := by decide +kernel
theorem d_Exp_obey_46 : decode b_Exp_obey 46 = .ok (.if_icmp .ne 8, 3) := by decide +kernel
theorem d_Exp_obey_49 : decode b_Exp_obey 49 = .ok (.aload_n 0, 1) := by decide +kernel
theorem d_Exp_obey_50 : decode b_Exp_obey 50 = .ok (.invokevirtual 86, 3) := by decide +kernel
theorem d_Exp_obey_53 : decode b_Exp_obey 53 = .ok (.ireturn, 1) := by decide +kernel
theorem d_Exp_obey_54 : decode b_Exp_obey 54 = .ok (.iload_n 1, 1) := by decide +kernel
theorem d_Exp_obey_55 : decode b_Exp_obey 55 = .ok (.invokestatic 89, 3) := by decide +kernel
theorem d_Exp_obey_58 : decode b_Exp_obey 58 = .ok (.ifCond .ne 6, 3) := by decide +kernel
theorem d_Exp_obey_61 : decode b_Exp_obey 61 = .ok (.bipush (-3), 2) := by decide +kernel
theorem d_Exp_obey_63 : decode b_Exp_obey 63 = .ok (.ireturn, 1) := by decide +kernel
theorem d_Exp_obey_64 : decode b_Exp_obey 64 = .ok (.aload_n 2, 1) := by decide +kernel
theorem d_Exp_obey_65 : decode b_Exp_obey 65 = .ok (.iload_n 1, 1) := by decide +kernel
theorem d_Exp_obey_66 : decode b_Exp_obey 66 = .ok (.iload_n 1, 1) := by decide +kernel
theorem d_Exp_obey_67 : decode b_Exp_obey 67 = .ok (.invokestatic 92, 3) := by decide +kernel
theorem d_Exp_obey_70 : decode b_Exp_obey 70 = .ok (.ifCond .eq 10, 3) := by decide +kernel
theorem d_Exp_obey_73 : decode b_Exp_obey 73 = .ok (.aload_n 0, 1) := by decide +kernel
theorem d_Exp_obey_74 : decode b_Exp_obey 74 = .ok (.getfield 66, 3) := by decide +kernel
theorem d_Exp_obey_77 : decode b_Exp_obey 77 = .ok (.goto 4, 3) := by decide +kernel
theorem d_Exp_obey_80 : decode b_Exp_obey 80 = .ok (.iconst 0, 1) := by decide +kernel
theorem d_Exp_obey_81 : decode b_Exp_obey 81 = .ok (.invokevirtual 95, 3) := by decide +kernel
theorem d_Exp_obey_84 : decode b_Exp_obey 84 = .ok (.ifCond .eq 7, 3) := by decide +kernel
theorem d_Exp_obey_87 : decode b_Exp_obey 87 = .ok (.iconst 0, 1) := by decide +kernel
theorem d_Exp_obey_88 : decode b_Exp_obey 88 = .ok (.goto 5, 3) := by decide +kernel
theorem d_Exp_obey_91 : decode b_Exp_obey 91 = .ok (.bipush (-4), 2) := by decide +kernel
theorem d_Exp_obey_93 : decode b_Exp_obey 93 = .ok (.ireturn, 1) := by decide +kernel
theorem d_Exp_callMacro_0 : decode b_Exp_callMacro 0 = .ok (.aload_n 1, 1) := by decide +kernel
theorem d_Exp_callMacro_1 : decode b_Exp_callMacro 1 = .ok (.getfield 99, 3) := by decide +kernel
theorem d_Exp_callMacro_4 : decode b_Exp_callMacro 4 = .ok (.ifCond .ne 6, 3) := by decide +kernel
theorem d_Exp_callMacro_7 : decode b_Exp_callMacro 7 = .ok (.bipush (-3), 2) := by decide +kernel
theorem d_Exp_callMacro_9 : decode b_Exp_callMacro 9 = .ok (.ireturn, 1) := by decide +kernel
theorem d_Exp_callMacro_10 : decode b_Exp_callMacro 10 = .ok (.aload_n 0, 1) := by decide +kernel
theorem d_Exp_callMacro_11 : decode b_Exp_callMacro 11 = .ok (.getfield 69, 3) := by decide +kernel
theorem d_Exp_callMacro_14 : decode b_Exp_callMacro 14 = .ok (.bipush 40, 2) := by decide +kernel
theorem d_Exp_callMacro_16 : decode b_Exp_callMacro 16 = .ok (.if_icmp .ne 6, 3) := by decide +kernel
theorem d_Exp_callMacro_19 : decode b_Exp_callMacro 19 = .ok (.bipush (-4), 2) := by decide +kernel
theorem d_Exp_callMacro_21 : decode b_Exp_callMacro 21 = .ok (.ireturn, 1) := by decide +kernel
theorem d_Exp_callMacro_22 : decode b_Exp_callMacro 22 = .ok (.aload_n 0, 1) := by decide +kernel
theorem d_Exp_callMacro_23 : decode b_Exp_callMacro 23 = .ok (.dup, 1) := by decide +kernel
theorem d_Exp_callMacro_24 : decode b_Exp_callMacro 24 = .ok (.getfield 69, 3) := by decide +kernel
theorem d_Exp_callMacro_27 : decode b_Exp_callMacro 27 = .ok (.iconst 1, 1) := by decide +kernel
theorem d_Exp_callMacro_28 : decode b_Exp_callMacro 28 = .ok (.iadd, 1) := by decide +kernel
theorem d_Exp_callMacro_29 : decode b_Exp_callMacro 29 = .ok (.putfield 69, 3) := by decide +kernel
theorem d_Exp_callMacro_32 : decode b_Exp_callMacro 32 = .ok (.aload_n 1, 1) := by decide +kernel
theorem d_Exp_callMacro_33 : decode b_Exp_callMacro 33 = .ok (.getfield 103, 3) := by decide +kernel
theorem d_Exp_callMacro_36 : decode b_Exp_callMacro 36 = .ok (.bipush 35, 2) := by decide +kernel
theorem d_Exp_callMacro_38 : decode b_Exp_callMacro 38 = .ok (.invokevirtual 106, 3) := by decide +kernel
theorem d_Exp_callMacro_41 : decode b_Exp_callMacro 41 = .ok (.istore_n 2, 1) := by decide +kernel
theorem d_Exp_callMacro_42 : decode b_Exp_callMacro 42 = .ok (.iload_n 2, 1) := by decide +kernel
theorem d_Exp_callMacro_43 : decode b_Exp_callMacro 43 = .ok (.ifCond .le 13, 3) := by decide +kernel
theorem d_Exp_callMacro_46 : decode b_Exp_callMacro 46 = .ok (.aload_n 0, 1) := by decide +kernel
theorem d_Exp_callMacro_47 : decode b_Exp_callMacro 47 = .ok (.invokevirtual 110, 3) := by decide +kernel
theorem d_Exp_callMacro_50 : decode b_Exp_callMacro 50 = .ok (.ifCond .ne 6, 3) := by decide +kernel
theorem d_Exp_callMacro_53 : decode b_Exp_callMacro 53 = .ok (.bipush (-3), 2) := by decide +kernel
theorem d_Exp_callMacro_55 : decode b_Exp_callMacro 55 = .ok (.ireturn, 1) := by decide +kernel
theorem d_Exp_callMacro_56 : decode b_Exp_callMacro 56 = .ok (.aload_n 1, 1) := by decide +kernel
theorem d_Exp_callMacro_57 : decode b_Exp_callMacro 57 = .ok (.getfield 103, 3) := by decide +kernel
theorem d_Exp_callMacro_60 : decode b_Exp_callMacro 60 = .ok (.getfield 59, 3) := by decide +kernel
theorem d_Exp_callMacro_63 : decode b_Exp_callMacro 63 = .ok (.iload_n 2, 1) := by decide +kernel
theorem d_Exp_callMacro_64 : decode b_Exp_callMacro 64 = .ok (.aload_n 0, 1) := by decide +kernel
theorem d_Exp_callMacro_65 : decode b_Exp_callMacro 65 = .ok (.getfield 26, 3) := by decide +kernel
theorem d_Exp_callMacro_68 : decode b_Exp_callMacro 68 = .ok (.getfield 59, 3) := by decide +kernel
theorem d_Exp_callMacro_71 : decode b_Exp_callMacro 71 = .ok (.iconst 1, 1) := by decide +kernel
theorem d_Exp_callMacro_72 : decode b_Exp_callMacro 72 = .ok (.isub, 1) := by decide +kernel
theorem d_Exp_callMacro_73 : decode b_Exp_callMacro 73 = .ok (.imul, 1) := by decide +kernel
theorem d_Exp_callMacro_74 : decode b_Exp_callMacro 74 = .ok (.iadd, 1) := by decide +kernel
theorem d_Exp_callMacro_75 : decode b_Exp_callMacro 75 = .ok (.istore_n 3, 1) := by decide +kernel
theorem d_Exp_callMacro_76 : decode b_Exp_callMacro 76 = .ok (.iload_n 3, 1) := by decide +kernel
theorem d_Exp_callMacro_77 : decode b_Exp_callMacro 77 = .ok (.aload_n 0, 1) := by decide +kernel
theorem d_Exp_callMacro_78 : decode b_Exp_callMacro 78 = .ok (.getfield 60, 3) := by decide +kernel
theorem d_Exp_callMacro_81 : decode b_Exp_callMacro 81 = .ok (.if_icmp .le 6, 3) := by decide +kernel
theorem d_Exp_callMacro_84 : decode b_Exp_callMacro 84 = .ok (.bipush (-4), 2) := by decide +kernel
theorem d_Exp_callMacro_86 : decode b_Exp_callMacro 86 = .ok (.ireturn, 1) := by decide +kernel
theorem d_Exp_callMacro_87 : decode b_Exp_callMacro 87 = .ok (.aload_n 0, 1) := by decide +kernel
theorem d_Exp_callMacro_88 : decode b_Exp_callMacro 88 = .ok (.dup, 1) := by decide +kernel
theorem d_Exp_callMacro_89 : decode b_Exp_callMacro 89 = .ok (.getfield 60, 3) := by decide +kernel
theorem d_Exp_callMacro_92 : decode b_Exp_callMacro 92 = .ok (.iload_n 3, 1) := by decide +kernel
theorem d_Exp_callMacro_93 : decode b_Exp_callMacro 93 = .ok (.isub, 1) := by decide +kernel
theorem d_Exp_callMacro_94 : decode b_Exp_callMacro 94 = .ok (.putfield 60, 3) := by decide +kernel
theorem d_Exp_callMacro_97 : decode b_Exp_callMacro 97 = .ok (.aload_n 0, 1) := by decide +kernel
theorem d_Exp_callMacro_98 : decode b_Exp_callMacro 98 = .ok (.aload_n 1, 1) := by decide +kernel
theorem d_Exp_callMacro_99 : decode b_Exp_callMacro 99 = .ok (.getfield 103, 3) := by decide +kernel
theorem d_Exp_callMacro_102 : decode b_Exp_callMacro 102 = .ok (.invokevirtual 113, 3) := by decide +kernel
theorem d_Exp_callMacro_105 : decode b_Exp_callMacro 105 = .ok (.iconst 0, 1) := by decide +kernel
theorem d_Exp_callMacro_106 : decode b_Exp_callMacro 106 = .ok (.ireturn, 1) := by decide +kernel
theorem d_Row_howMany_0 : decode b_Row_howMany 0 = .ok (.iconst 0, 1) := by decide +kernel
theorem d_Row_howMany_1 : decode b_Row_howMany 1 = .ok (.istore_n 2, 1) := by decide +kernel
theorem d_Row_howMany_2 : decode b_Row_howMany 2 = .ok (.iconst 0, 1) := by decide +kernel
theorem d_Row_howMany_3 : decode b_Row_howMany 3 = .ok (.istore_n 3, 1) := by decide +kernel
theorem d_Row_howMany_4 : decode b_Row_howMany 4 = .ok (.iload_n 3, 1) := by decide +kernel
theorem d_Row_howMany_5 : decode b_Row_howMany 5 = .ok (.aload_n 0, 1) := by decide +kernel
theorem d_Row_howMany_6 : decode b_Row_howMany 6 = .ok (.getfield 13, 3) := by decide +kernel
theorem d_Row_howMany_9 : decode b_Row_howMany 9 = .ok (.if_icmp .ge 22, 3) := by decide +kernel
theorem d_Row_howMany_12 : decode b_Row_howMany 12 = .ok (.aload_n 0, 1) := by decide +kernel
theorem d_Row_howMany_13 : decode b_Row_howMany 13 = .ok (.getfield 7, 3) := by decide +kernel
theorem d_Row_howMany_16 : decode b_Row_howMany 16 = .ok (.iload_n 3, 1) := by decide +kernel
theorem d_Row_howMany_17 : decode b_Row_howMany 17 = .ok (.iaload, 1) := by decide +kernel
theorem d_Row_howMany_18 : decode b_Row_howMany 18 = .ok (.iload_n 1, 1) := by decide +kernel
theorem d_Row_howMany_19 : decode b_Row_howMany 19 = .ok (.if_icmp .ne 6, 3) := by decide +kernel
theorem d_Row_howMany_22 : decode b_Row_howMany 22 = .ok (.iinc 2 1, 3) := by decide +kernel
theorem d_Row_howMany_25 : decode b_Row_howMany 25 = .ok (.iinc 3 1, 3) := by decide +kernel
theorem d_Row_howMany_28 : decode b_Row_howMany 28 = .ok (.goto (-24), 3) := by decide +kernel
theorem d_Row_howMany_31 : decode b_Row_howMany 31 = .ok (.iload_n 2, 1) := by decide +kernel
theorem d_Row_howMany_32 : decode b_Row_howMany 32 = .ok (.ireturn, 1) := by decide +kernel
theorem d_Exp_takeArgument_0 : decode b_Exp_takeArgument 0 = .ok (.aload_n 0, 1) := by decide +kernel
theorem d_Exp_takeArgument_1 : decode b_Exp_takeArgument 1 = .ok (.getfield 26, 3) := by decide +kernel
theorem d_Exp_takeArgument_4 : decode b_Exp_takeArgument 4 = .ok (.invokevirtual 116, 3) := by decide +kernel
theorem d_Exp_takeArgument_7 : decode b_Exp_takeArgument 7 = .ok (.aload_n 0, 1) := by decide +kernel
theorem d_Exp_takeArgument_8 : decode b_Exp_takeArgument 8 = .ok (.invokevirtual 44, 3) := by decide +kernel
theorem d_Exp_takeArgument_11 : decode b_Exp_takeArgument 11 = .ok (.ifCond .ne 17, 3) := by decide +kernel
theorem d_Exp_takeArgument_14 : decode b_Exp_takeArgument 14 = .ok (.aload_n 0, 1) := by decide +kernel
theorem d_Exp_takeArgument_15 : decode b_Exp_takeArgument 15 = .ok (.getfield 17, 3) := by decide +kernel
theorem d_Exp_takeArgument_18 : decode b_Exp_takeArgument 18 = .ok (.aload_n 0, 1) := by decide +kernel
theorem d_Exp_takeArgument_19 : decode b_Exp_takeArgument 19 = .ok (.getfield 60, 3) := by decide +kernel
theorem d_Exp_takeArgument_22 : decode b_Exp_takeArgument 22 = .ok (.iaload, 1) := by decide +kernel
theorem d_Exp_takeArgument_23 : decode b_Exp_takeArgument 23 = .ok (.bipush 125, 2) := by decide +kernel
theorem d_Exp_takeArgument_25 : decode b_Exp_takeArgument 25 = .ok (.if_icmp .ne 5, 3) := by decide +kernel
theorem d_Exp_takeArgument_28 : decode b_Exp_takeArgument 28 = .ok (.iconst 0, 1) := by decide +kernel
theorem d_Exp_takeArgument_29 : decode b_Exp_takeArgument 29 = .ok (.ireturn, 1) := by decide +kernel
theorem d_Exp_takeArgument_30 : decode b_Exp_takeArgument 30 = .ok (.aload_n 0, 1) := by decide +kernel
theorem d_Exp_takeArgument_31 : decode b_Exp_takeArgument 31 = .ok (.invokevirtual 48, 3) := by decide +kernel
theorem d_Exp_takeArgument_34 : decode b_Exp_takeArgument 34 = .ok (.istore_n 1, 1) := by decide +kernel
theorem d_Exp_takeArgument_35 : decode b_Exp_takeArgument 35 = .ok (.iload_n 1, 1) := by decide +kernel
theorem d_Exp_takeArgument_36 : decode b_Exp_takeArgument 36 = .ok (.bipush 123, 2) := by decide +kernel
theorem d_Exp_takeArgument_38 : decode b_Exp_takeArgument 38 = .ok (.if_icmp .ne 8, 3) := by decide +kernel
theorem d_Exp_takeArgument_41 : decode b_Exp_takeArgument 41 = .ok (.aload_n 0, 1) := by decide +kernel
theorem d_Exp_takeArgument_42 : decode b_Exp_takeArgument 42 = .ok (.invokevirtual 119, 3) := by decide +kernel
theorem d_Exp_takeArgument_45 : decode b_Exp_takeArgument 45 = .ok (.ireturn, 1) := by decide +kernel
theorem d_Exp_takeArgument_46 : decode b_Exp_takeArgument 46 = .ok (.aload_n 0, 1) := by decide +kernel
theorem d_Exp_takeArgument_47 : decode b_Exp_takeArgument 47 = .ok (.getfield 26, 3) := by decide +kernel
theorem d_Exp_takeArgument_50 : decode b_Exp_takeArgument 50 = .ok (.iload_n 1, 1) := by decide +kernel
theorem d_Exp_takeArgument_51 : decode b_Exp_takeArgument 51 = .ok (.invokevirtual 122, 3) := by decide +kernel
theorem d_Exp_takeArgument_54 : decode b_Exp_takeArgument 54 = .ok (.iconst 1, 1) := by decide +kernel
theorem d_Exp_takeArgument_55 : decode b_Exp_takeArgument 55 = .ok (.ireturn, 1) := by decide +kernel
theorem d_Exp_takeGroup_0 : decode b_Exp_takeGroup 0 = .ok (.iconst 1, 1) := by decide +kernel
theorem d_Exp_takeGroup_1 : decode b_Exp_takeGroup 1 = .ok (.istore_n 1, 1) := by decide +kernel
theorem d_Exp_takeGroup_2 : decode b_Exp_takeGroup 2 = .ok (.aload_n 0, 1) := by decide +kernel
theorem d_Exp_takeGroup_3 : decode b_Exp_takeGroup 3 = .ok (.getfield 60, 3) := by decide +kernel
theorem d_Exp_takeGroup_6 : decode b_Exp_takeGroup 6 = .ok (.istore_n 2, 1) := by decide +kernel
theorem d_Exp_takeGroup_7 : decode b_Exp_takeGroup 7 = .ok (.iload_n 2, 1) := by decide +kernel
theorem d_Exp_takeGroup_8 : decode b_Exp_takeGroup 8 = .ok (.sipush 200, 3) := by decide +kernel
theorem d_Exp_takeGroup_11 : decode b_Exp_takeGroup 11 = .ok (.if_icmp .ge 66, 3) := by decide +kernel
theorem d_Exp_takeGroup_14 : decode b_Exp_takeGroup 14 = .ok (.aload_n 0, 1) := by decide +kernel
theorem d_Exp_takeGroup_15 : decode b_Exp_takeGroup 15 = .ok (.getfield 17, 3) := by decide +kernel
theorem d_Exp_takeGroup_18 : decode b_Exp_takeGroup 18 = .ok (.iload_n 2, 1) := by decide +kernel
theorem d_Exp_takeGroup_19 : decode b_Exp_takeGroup 19 = .ok (.iaload, 1) := by decide +kernel
theorem d_Exp_takeGroup_20 : decode b_Exp_takeGroup 20 = .ok (.bipush 123, 2) := by decide +kernel
theorem d_Exp_takeGroup_22 : decode b_Exp_takeGroup 22 = .ok (.if_icmp .ne 9, 3) := by decide +kernel
theorem d_Exp_takeGroup_25 : decode b_Exp_takeGroup 25 = .ok (.iinc 1 1, 3) := by decide +kernel
theorem d_Exp_takeGroup_28 : decode b_Exp_takeGroup 28 = .ok (.goto 17, 3) := by decide +kernel
theorem d_Exp_takeGroup_31 : decode b_Exp_takeGroup 31 = .ok (.aload_n 0, 1) := by decide +kernel
theorem d_Exp_takeGroup_32 : decode b_Exp_takeGroup 32 = .ok (.getfield 17, 3) := by decide +kernel
theorem d_Exp_takeGroup_35 : decode b_Exp_takeGroup 35 = .ok (.iload_n 2, 1) := by decide +kernel
theorem d_Exp_takeGroup_36 : decode b_Exp_takeGroup 36 = .ok (.iaload, 1) := by decide +kernel
theorem d_Exp_takeGroup_37 : decode b_Exp_takeGroup 37 = .ok (.bipush 125, 2) := by decide +kernel
theorem d_Exp_takeGroup_39 : decode b_Exp_takeGroup 39 = .ok (.if_icmp .ne 6, 3) := by decide +kernel
theorem d_Exp_takeGroup_42 : decode b_Exp_takeGroup 42 = .ok (.iinc 1 (-1), 3) := by decide +kernel
theorem d_Exp_takeGroup_45 : decode b_Exp_takeGroup 45 = .ok (.iload_n 1, 1) := by decide +kernel
theorem d_Exp_takeGroup_46 : decode b_Exp_takeGroup 46 = .ok (.ifCond .ne 12, 3) := by decide +kernel
theorem d_Exp_takeGroup_49 : decode b_Exp_takeGroup 49 = .ok (.aload_n 0, 1) := by decide +kernel
theorem d_Exp_takeGroup_50 : decode b_Exp_takeGroup 50 = .ok (.iload_n 2, 1) := by decide +kernel
theorem d_Exp_takeGroup_51 : decode b_Exp_takeGroup 51 = .ok (.iconst 1, 1) := by decide +kernel
theorem d_Exp_takeGroup_52 : decode b_Exp_takeGroup 52 = .ok (.iadd, 1) := by decide +kernel
theorem d_Exp_takeGroup_53 : decode b_Exp_takeGroup 53 = .ok (.putfield 60, 3) := by decide +kernel
theorem d_Exp_takeGroup_56 : decode b_Exp_takeGroup 56 = .ok (.iconst 1, 1) := by decide +kernel
theorem d_Exp_takeGroup_57 : decode b_Exp_takeGroup 57 = .ok (.ireturn, 1) := by decide +kernel
theorem d_Exp_takeGroup_58 : decode b_Exp_takeGroup 58 = .ok (.aload_n 0, 1) := by decide +kernel
theorem d_Exp_takeGroup_59 : decode b_Exp_takeGroup 59 = .ok (.getfield 26, 3) := by decide +kernel
theorem d_Exp_takeGroup_62 : decode b_Exp_takeGroup 62 = .ok (.aload_n 0, 1) := by decide +kernel
theorem d_Exp_takeGroup_63 : decode b_Exp_takeGroup 63 = .ok (.getfield 17, 3) := by decide +kernel
theorem d_Exp_takeGroup_66 : decode b_Exp_takeGroup 66 = .ok (.iload_n 2, 1) := by decide +kernel
theorem d_Exp_takeGroup_67 : decode b_Exp_takeGroup 67 = .ok (.iaload, 1) := by decide +kernel
theorem d_Exp_takeGroup_68 : decode b_Exp_takeGroup 68 = .ok (.invokevirtual 122, 3) := by decide +kernel
theorem d_Exp_takeGroup_71 : decode b_Exp_takeGroup 71 = .ok (.iinc 2 1, 3) := by decide +kernel
theorem d_Exp_takeGroup_74 : decode b_Exp_takeGroup 74 = .ok (.goto (-67), 3) := by decide +kernel
theorem d_Exp_takeGroup_77 : decode b_Exp_takeGroup 77 = .ok (.iconst 0, 1) := by decide +kernel
theorem d_Exp_takeGroup_78 : decode b_Exp_takeGroup 78 = .ok (.ireturn, 1) := by decide +kernel
theorem d_Exp_putInFront_0 : decode b_Exp_putInFront 0 = .ok (.aload_n 0, 1) := by decide +kernel
theorem d_Exp_putInFront_1 : decode b_Exp_putInFront 1 = .ok (.getfield 60, 3) := by decide +kernel
theorem d_Exp_putInFront_4 : decode b_Exp_putInFront 4 = .ok (.istore_n 2, 1) := by decide +kernel
theorem d_Exp_putInFront_5 : decode b_Exp_putInFront 5 = .ok (.iconst 0, 1) := by decide +kernel
theorem d_Exp_putInFront_6 : decode b_Exp_putInFront 6 = .ok (.istore_n 3, 1) := by decide +kernel
theorem d_Exp_putInFront_7 : decode b_Exp_putInFront 7 = .ok (.iload_n 3, 1) := by decide +kernel
theorem d_Exp_putInFront_8 : decode b_Exp_putInFront 8 = .ok (.aload_n 1, 1) := by decide +kernel
theorem d_Exp_putInFront_9 : decode b_Exp_putInFront 9 = .ok (.getfield 59, 3) := by decide +kernel
theorem d_Exp_putInFront_12 : decode b_Exp_putInFront 12 = .ok (.if_icmp .ge 88, 3) := by decide +kernel
theorem d_Exp_putInFront_15 : decode b_Exp_putInFront 15 = .ok (.aload_n 1, 1) := by decide +kernel
theorem d_Exp_putInFront_16 : decode b_Exp_putInFront 16 = .ok (.getfield 63, 3) := by decide +kernel
theorem d_Exp_putInFront_19 : decode b_Exp_putInFront 19 = .ok (.iload_n 3, 1) := by decide +kernel
theorem d_Exp_putInFront_20 : decode b_Exp_putInFront 20 = .ok (.iaload, 1) := by decide +kernel
theorem d_Exp_putInFront_21 : decode b_Exp_putInFront 21 = .ok (.bipush 35, 2) := by decide +kernel
theorem d_Exp_putInFront_23 : decode b_Exp_putInFront 23 = .ok (.if_icmp .ne 56, 3) := by decide +kernel
theorem d_Exp_putInFront_26 : decode b_Exp_putInFront 26 = .ok (.iconst 0, 1) := by decide +kernel
theorem d_Exp_putInFront_27 : decode b_Exp_putInFront 27 = .ok (.istore 4, 2) := by decide +kernel
theorem d_Exp_putInFront_29 : decode b_Exp_putInFront 29 = .ok (.iload 4, 2) := by decide +kernel
theorem d_Exp_putInFront_31 : decode b_Exp_putInFront 31 = .ok (.aload_n 0, 1) := by decide +kernel
theorem d_Exp_putInFront_32 : decode b_Exp_putInFront 32 = .ok (.getfield 26, 3) := by decide +kernel
theorem d_Exp_putInFront_35 : decode b_Exp_putInFront 35 = .ok (.getfield 59, 3) := by decide +kernel
theorem d_Exp_putInFront_38 : decode b_Exp_putInFront 38 = .ok (.if_icmp .ge 28, 3) := by decide +kernel
theorem d_Exp_putInFront_41 : decode b_Exp_putInFront 41 = .ok (.aload_n 0, 1) := by decide +kernel
theorem d_Exp_putInFront_42 : decode b_Exp_putInFront 42 = .ok (.getfield 17, 3) := by decide +kernel
theorem d_Exp_putInFront_45 : decode b_Exp_putInFront 45 = .ok (.iload_n 2, 1) := by decide +kernel
theorem d_Exp_putInFront_46 : decode b_Exp_putInFront 46 = .ok (.iload 4, 2) := by decide +kernel
theorem d_Exp_putInFront_48 : decode b_Exp_putInFront 48 = .ok (.iadd, 1) := by decide +kernel
theorem d_Exp_putInFront_49 : decode b_Exp_putInFront 49 = .ok (.aload_n 0, 1) := by decide +kernel
theorem d_Exp_putInFront_50 : decode b_Exp_putInFront 50 = .ok (.getfield 26, 3) := by decide +kernel
theorem d_Exp_putInFront_53 : decode b_Exp_putInFront 53 = .ok (.getfield 63, 3) := by decide +kernel
theorem d_Exp_putInFront_56 : decode b_Exp_putInFront 56 = .ok (.iload 4, 2) := by decide +kernel
theorem d_Exp_putInFront_58 : decode b_Exp_putInFront 58 = .ok (.iaload, 1) := by decide +kernel
theorem d_Exp_putInFront_59 : decode b_Exp_putInFront 59 = .ok (.iastore, 1) := by decide +kernel
theorem d_Exp_putInFront_60 : decode b_Exp_putInFront 60 = .ok (.iinc 4 1, 3) := by decide +kernel
theorem d_Exp_putInFront_63 : decode b_Exp_putInFront 63 = .ok (.goto (-34), 3) := by decide +kernel
theorem d_Exp_putInFront_66 : decode b_Exp_putInFront 66 = .ok (.iload_n 2, 1) := by decide +kernel
theorem d_Exp_putInFront_67 : decode b_Exp_putInFront 67 = .ok (.aload_n 0, 1) := by decide +kernel
theorem d_Exp_putInFront_68 : decode b_Exp_putInFront 68 = .ok (.getfield 26, 3) := by decide +kernel
theorem d_Exp_putInFront_71 : decode b_Exp_putInFront 71 = .ok (.getfield 59, 3) := by decide +kernel
theorem d_Exp_putInFront_74 : decode b_Exp_putInFront 74 = .ok (.iadd, 1) := by decide +kernel
theorem d_Exp_putInFront_75 : decode b_Exp_putInFront 75 = .ok (.istore_n 2, 1) := by decide +kernel
theorem d_Exp_putInFront_76 : decode b_Exp_putInFront 76 = .ok (.goto 18, 3) := by decide +kernel
theorem d_Exp_putInFront_79 : decode b_Exp_putInFront 79 = .ok (.aload_n 0, 1) := by decide +kernel
theorem d_Exp_putInFront_80 : decode b_Exp_putInFront 80 = .ok (.getfield 17, 3) := by decide +kernel
theorem d_Exp_putInFront_83 : decode b_Exp_putInFront 83 = .ok (.iload_n 2, 1) := by decide +kernel
theorem d_Exp_putInFront_84 : decode b_Exp_putInFront 84 = .ok (.aload_n 1, 1) := by decide +kernel
theorem d_Exp_putInFront_85 : decode b_Exp_putInFront 85 = .ok (.getfield 63, 3) := by decide +kernel
theorem d_Exp_putInFront_88 : decode b_Exp_putInFront 88 = .ok (.iload_n 3, 1) := by decide +kernel
theorem d_Exp_putInFront_89 : decode b_Exp_putInFront 89 = .ok (.iaload, 1) := by decide +kernel
theorem d_Exp_putInFront_90 : decode b_Exp_putInFront 90 = .ok (.iastore, 1) := by decide +kernel
theorem d_Exp_putInFront_91 : decode b_Exp_putInFront 91 = .ok (.iinc 2 1, 3) := by decide +kernel
theorem d_Exp_putInFront_94 : decode b_Exp_putInFront 94 = .ok (.iinc 3 1, 3) := by decide +kernel
theorem d_Exp_putInFront_97 : decode b_Exp_putInFront 97 = .ok (.goto (-90), 3) := by decide +kernel
theorem d_Exp_putInFront_100 : decode b_Exp_putInFront 100 = .ok (.return_, 1) := by decide +kernel
theorem d_Exp_openGroup_0 : decode b_Exp_openGroup 0 = .ok (.aload_n 0, 1) := by decide +kernel
theorem d_Exp_openGroup_1 : decode b_Exp_openGroup 1 = .ok (.getfield 56, 3) := by decide +kernel
theorem d_Exp_openGroup_4 : decode b_Exp_openGroup 4 = .ok (.bipush 8, 2) := by decide +kernel
theorem d_Exp_openGroup_6 : decode b_Exp_openGroup 6 = .ok (.if_icmp .ne 6, 3) := by decide +kernel
theorem d_Exp_openGroup_9 : decode b_Exp_openGroup 9 = .ok (.bipush (-4), 2) := by decide +kernel
theorem d_Exp_openGroup_11 : decode b_Exp_openGroup 11 = .ok (.ireturn, 1) := by decide +kernel
theorem d_Exp_openGroup_12 : decode b_Exp_openGroup 12 = .ok (.aload_n 0, 1) := by decide +kernel
theorem d_Exp_openGroup_13 : decode b_Exp_openGroup 13 = .ok (.getfield 30, 3) := by decide +kernel
theorem d_Exp_openGroup_16 : decode b_Exp_openGroup 16 = .ok (.aload_n 0, 1) := by decide +kernel
theorem d_Exp_openGroup_17 : decode b_Exp_openGroup 17 = .ok (.getfield 56, 3) := by decide +kernel
theorem d_Exp_openGroup_20 : decode b_Exp_openGroup 20 = .ok (.aload_n 0, 1) := by decide +kernel
theorem d_Exp_openGroup_21 : decode b_Exp_openGroup 21 = .ok (.getfield 66, 3) := by decide +kernel
theorem d_Exp_openGroup_24 : decode b_Exp_openGroup 24 = .ok (.iastore, 1) := by decide +kernel
theorem d_Exp_openGroup_25 : decode b_Exp_openGroup 25 = .ok (.aload_n 0, 1) := by decide +kernel
theorem d_Exp_openGroup_26 : decode b_Exp_openGroup 26 = .ok (.dup, 1) := by decide +kernel
theorem d_Exp_openGroup_27 : decode b_Exp_openGroup 27 = .ok (.getfield 56, 3) := by decide +kernel
theorem d_Exp_openGroup_30 : decode b_Exp_openGroup 30 = .ok (.iconst 1, 1) := by decide +kernel
theorem d_Exp_openGroup_31 : decode b_Exp_openGroup 31 = .ok (.iadd, 1) := by decide +kernel
theorem d_Exp_openGroup_32 : decode b_Exp_openGroup 32 = .ok (.putfield 56, 3) := by decide +kernel
theorem d_Exp_openGroup_35 : decode b_Exp_openGroup 35 = .ok (.iconst 0, 1) := by decide +kernel
theorem d_Exp_openGroup_36 : decode b_Exp_openGroup 36 = .ok (.ireturn, 1) := by decide +kernel
theorem d_Exp_closeGroup_0 : decode b_Exp_closeGroup 0 = .ok (.aload_n 0, 1) := by decide +kernel
theorem d_Exp_closeGroup_1 : decode b_Exp_closeGroup 1 = .ok (.getfield 56, 3) := by decide +kernel
theorem d_Exp_closeGroup_4 : decode b_Exp_closeGroup 4 = .ok (.ifCond .ne 6, 3) := by decide +kernel
theorem d_Exp_closeGroup_7 : decode b_Exp_closeGroup 7 = .ok (.bipush (-3), 2) := by decide +kernel
theorem d_Exp_closeGroup_9 : decode b_Exp_closeGroup 9 = .ok (.ireturn, 1) := by decide +kernel
theorem d_Exp_closeGroup_10 : decode b_Exp_closeGroup 10 = .ok (.aload_n 0, 1) := by decide +kernel
theorem d_Exp_closeGroup_11 : decode b_Exp_closeGroup 11 = .ok (.dup, 1) := by decide +kernel
theorem d_Exp_closeGroup_12 : decode b_Exp_closeGroup 12 = .ok (.getfield 56, 3) := by decide +kernel
theorem d_Exp_closeGroup_15 : decode b_Exp_closeGroup 15 = .ok (.iconst 1, 1) := by decide +kernel
theorem d_Exp_closeGroup_16 : decode b_Exp_closeGroup 16 = .ok (.isub, 1) := by decide +kernel
theorem d_Exp_closeGroup_17 : decode b_Exp_closeGroup 17 = .ok (.putfield 56, 3) := by decide +kernel
theorem d_Exp_closeGroup_20 : decode b_Exp_closeGroup 20 = .ok (.aload_n 0, 1) := by decide +kernel
theorem d_Exp_closeGroup_21 : decode b_Exp_closeGroup 21 = .ok (.aload_n 0, 1) := by decide +kernel
theorem d_Exp_closeGroup_22 : decode b_Exp_closeGroup 22 = .ok (.getfield 30, 3) := by decide +kernel
theorem d_Exp_closeGroup_25 : decode b_Exp_closeGroup 25 = .ok (.aload_n 0, 1) := by decide +kernel
theorem d_Exp_closeGroup_26 : decode b_Exp_closeGroup 26 = .ok (.getfield 56, 3) := by decide +kernel
theorem d_Exp_closeGroup_29 : decode b_Exp_closeGroup 29 = .ok (.iaload, 1) := by decide +kernel
theorem d_Exp_closeGroup_30 : decode b_Exp_closeGroup 30 = .ok (.putfield 66, 3) := by decide +kernel
theorem d_Exp_closeGroup_33 : decode b_Exp_closeGroup 33 = .ok (.iconst 0, 1) := by decide +kernel
theorem d_Exp_closeGroup_34 : decode b_Exp_closeGroup 34 = .ok (.ireturn, 1) := by decide +kernel
theorem d_Exp_changeSpace_0 : decode b_Exp_changeSpace 0 = .ok (.aload_n 0, 1) := by decide +kernel
theorem d_Exp_changeSpace_1 : decode b_Exp_changeSpace 1 = .ok (.invokevirtual 44, 3) := by decide +kernel
theorem d_Exp_changeSpace_4 : decode b_Exp_changeSpace 4 = .ok (.ifCond .eq 6, 3) := by decide +kernel
theorem d_Exp_changeSpace_7 : decode b_Exp_changeSpace 7 = .ok (.bipush (-3), 2) := by decide +kernel
theorem d_Exp_changeSpace_9 : decode b_Exp_changeSpace 9 = .ok (.ireturn, 1) := by decide +kernel
theorem d_Exp_changeSpace_10 : decode b_Exp_changeSpace 10 = .ok (.aload_n 0, 1) := by decide +kernel
theorem d_Exp_changeSpace_11 : decode b_Exp_changeSpace 11 = .ok (.invokevirtual 48, 3) := by decide +kernel
theorem d_Exp_changeSpace_14 : decode b_Exp_changeSpace 14 = .ok (.istore_n 1, 1) := by decide +kernel
theorem d_Exp_changeSpace_15 : decode b_Exp_changeSpace 15 = .ok (.iload_n 1, 1) := by decide +kernel
theorem d_Exp_changeSpace_16 : decode b_Exp_changeSpace 16 = .ok (.invokestatic 124, 3) := by decide +kernel
theorem d_Exp_changeSpace_19 : decode b_Exp_changeSpace 19 = .ok (.ifCond .eq 9, 3) := by decide +kernel
theorem d_Exp_changeSpace_22 : decode b_Exp_changeSpace 22 = .ok (.iload_n 1, 1) := by decide +kernel
theorem d_Exp_changeSpace_23 : decode b_Exp_changeSpace 23 = .ok (.bipush 48, 2) := by decide +kernel
theorem d_Exp_changeSpace_25 : decode b_Exp_changeSpace 25 = .ok (.if_icmp .ne 6, 3) := by decide +kernel
theorem d_Exp_changeSpace_28 : decode b_Exp_changeSpace 28 = .ok (.bipush (-3), 2) := by decide +kernel
theorem d_Exp_changeSpace_30 : decode b_Exp_changeSpace 30 = .ok (.ireturn, 1) := by decide +kernel
theorem d_Exp_changeSpace_31 : decode b_Exp_changeSpace 31 = .ok (.aload_n 0, 1) := by decide +kernel
theorem d_Exp_changeSpace_32 : decode b_Exp_changeSpace 32 = .ok (.iload_n 1, 1) := by decide +kernel
theorem d_Exp_changeSpace_33 : decode b_Exp_changeSpace 33 = .ok (.bipush 48, 2) := by decide +kernel
theorem d_Exp_changeSpace_35 : decode b_Exp_changeSpace 35 = .ok (.isub, 1) := by decide +kernel
theorem d_Exp_changeSpace_36 : decode b_Exp_changeSpace 36 = .ok (.putfield 66, 3) := by decide +kernel
theorem d_Exp_changeSpace_39 : decode b_Exp_changeSpace 39 = .ok (.iconst 0, 1) := by decide +kernel
theorem d_Exp_changeSpace_40 : decode b_Exp_changeSpace 40 = .ok (.ireturn, 1) := by decide +kernel
theorem d_Math_max_0 : decode b_Math_max 0 = .ok (.iload_n 0, 1) := by decide +kernel
theorem d_Math_max_1 : decode b_Math_max 1 = .ok (.iload_n 1, 1) := by decide +kernel
theorem d_Math_max_2 : decode b_Math_max 2 = .ok (.if_icmp .lt 7, 3) := by decide +kernel
theorem d_Math_max_5 : decode b_Math_max 5 = .ok (.iload_n 0, 1) := by decide +kernel
theorem d_Math_max_6 : decode b_Math_max 6 = .ok (.goto 4, 3) := by decide +kernel
theorem d_Math_max_9 : decode b_Math_max 9 = .ok (.iload_n 1, 1) := by decide +kernel
theorem d_Math_max_10 : decode b_Math_max 10 = .ok (.ireturn, 1) := by decide +kernel
theorem d_Math_abs_0 : decode b_Math_abs 0 = .ok (.iload_n 0, 1) := by decide +kernel
theorem d_Math_abs_1 : decode b_Math_abs 1 = .ok (.ifCond .ge 8, 3) := by decide +kernel
theorem d_Math_abs_4 : decode b_Math_abs 4 = .ok (.iload_n 0, 1) := by decide +kernel
theorem d_Math_abs_5 : decode b_Math_abs 5 = .ok (.ineg, 1) := by decide +kernel
theorem d_Math_abs_6 : decode b_Math_abs 6 = .ok (.goto 4, 3) := by decide +kernel
theorem d_Math_abs_9 : decode b_Math_abs 9 = .ok (.iload_n 0, 1) := by decide +kernel
theorem d_Math_abs_10 : decode b_Math_abs 10 = .ok (.ireturn, 1) := by decide +kernel
theorem d_Math_floorDiv_0 : decode b_Math_floorDiv 0 = .ok (.iload_n 0, 1) := by decide +kernel
theorem d_Math_floorDiv_1 : decode b_Math_floorDiv 1 = .ok (.iload_n 1, 1) := by decide +kernel
theorem d_Math_floorDiv_2 : decode b_Math_floorDiv 2 = .ok (.idiv, 1) := by decide +kernel
theorem d_Math_floorDiv_3 : decode b_Math_floorDiv 3 = .ok (.istore_n 2, 1) := by decide +kernel
theorem d_Math_floorDiv_4 : decode b_Math_floorDiv 4 = .ok (.iload_n 0, 1) := by decide +kernel
theorem d_Math_floorDiv_5 : decode b_Math_floorDiv 5 = .ok (.iload_n 1, 1) := by decide +kernel
theorem d_Math_floorDiv_6 : decode b_Math_floorDiv 6 = .ok (.ixor, 1) := by decide +kernel
theorem d_Math_floorDiv_7 : decode b_Math_floorDiv 7 = .ok (.ifCond .ge 14, 3) := by decide +kernel
theorem d_Math_floorDiv_10 : decode b_Math_floorDiv 10 = .ok (.iload_n 2, 1) := by decide +kernel
theorem d_Math_floorDiv_11 : decode b_Math_floorDiv 11 = .ok (.iload_n 1, 1) := by decide +kernel
theorem d_Math_floorDiv_12 : decode b_Math_floorDiv 12 = .ok (.imul, 1) := by decide +kernel
theorem d_Math_floorDiv_13 : decode b_Math_floorDiv 13 = .ok (.iload_n 0, 1) := by decide +kernel
theorem d_Math_floorDiv_14 : decode b_Math_floorDiv 14 = .ok (.if_icmp .eq 7, 3) := by decide +kernel
theorem d_Math_floorDiv_17 : decode b_Math_floorDiv 17 = .ok (.iload_n 2, 1) := by decide +kernel
theorem d_Math_floorDiv_18 : decode b_Math_floorDiv 18 = .ok (.iconst 1, 1) := by decide +kernel
theorem d_Math_floorDiv_19 : decode b_Math_floorDiv 19 = .ok (.isub, 1) := by decide +kernel
theorem d_Math_floorDiv_20 : decode b_Math_floorDiv 20 = .ok (.ireturn, 1) := by decide +kernel
theorem d_Math_floorDiv_21 : decode b_Math_floorDiv 21 = .ok (.iload_n 2, 1) := by decide +kernel
theorem d_Math_floorDiv_22 : decode b_Math_floorDiv 22 = .ok (.ireturn, 1) := by decide +kernel
