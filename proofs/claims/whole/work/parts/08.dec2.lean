theorem d_Hyp_init_0 : decode b_Hyp_init 0 = .ok (.aload_n 0, 1) := by decide +kernel
theorem d_Hyp_init_1 : decode b_Hyp_init 1 = .ok (.invokespecial 3, 3) := by decide +kernel
theorem d_Hyp_init_4 : decode b_Hyp_init 4 = .ok (.aload_n 0, 1) := by decide +kernel
theorem d_Hyp_init_5 : decode b_Hyp_init 5 = .ok (.bipush 20, 2) := by decide +kernel
theorem d_Hyp_init_7 : decode b_Hyp_init 7 = .ok (.anewarray 9, 3) := by decide +kernel
theorem d_Hyp_init_10 : decode b_Hyp_init 10 = .ok (.putfield 11, 3) := by decide +kernel
theorem d_Hyp_init_13 : decode b_Hyp_init 13 = .ok (.aload_n 0, 1) := by decide +kernel
theorem d_Hyp_init_14 : decode b_Hyp_init 14 = .ok (.iconst 0, 1) := by decide +kernel
theorem d_Hyp_init_15 : decode b_Hyp_init 15 = .ok (.putfield 17, 3) := by decide +kernel
theorem d_Hyp_init_18 : decode b_Hyp_init 18 = .ok (.aload_n 0, 1) := by decide +kernel
theorem d_Hyp_init_19 : decode b_Hyp_init 19 = .ok (.bipush 121, 2) := by decide +kernel
theorem d_Hyp_init_21 : decode b_Hyp_init 21 = .ok (.newarray .int, 2) := by decide +kernel
theorem d_Hyp_init_23 : decode b_Hyp_init 23 = .ok (.putfield 21, 3) := by decide +kernel
theorem d_Hyp_init_26 : decode b_Hyp_init 26 = .ok (.iconst 0, 1) := by decide +kernel
theorem d_Hyp_init_27 : decode b_Hyp_init 27 = .ok (.istore_n 1, 1) := by decide +kernel
theorem d_Hyp_init_28 : decode b_Hyp_init 28 = .ok (.iload_n 1, 1) := by decide +kernel
theorem d_Hyp_init_29 : decode b_Hyp_init 29 = .ok (.bipush 20, 2) := by decide +kernel
theorem d_Hyp_init_31 : decode b_Hyp_init 31 = .ok (.if_icmp .ge 22, 3) := by decide +kernel
theorem d_Hyp_init_34 : decode b_Hyp_init 34 = .ok (.aload_n 0, 1) := by decide +kernel
theorem d_Hyp_init_35 : decode b_Hyp_init 35 = .ok (.getfield 11, 3) := by decide +kernel
theorem d_Hyp_init_38 : decode b_Hyp_init 38 = .ok (.iload_n 1, 1) := by decide +kernel
theorem d_Hyp_init_39 : decode b_Hyp_init 39 = .ok (.new 9, 3) := by decide +kernel
theorem d_Hyp_init_42 : decode b_Hyp_init 42 = .ok (.dup, 1) := by decide +kernel
theorem d_Hyp_init_43 : decode b_Hyp_init 43 = .ok (.invokespecial 25, 3) := by decide +kernel
theorem d_Hyp_init_46 : decode b_Hyp_init 46 = .ok (.aastore, 1) := by decide +kernel
theorem d_Hyp_init_47 : decode b_Hyp_init 47 = .ok (.iinc 1 1, 3) := by decide +kernel
theorem d_Hyp_init_50 : decode b_Hyp_init 50 = .ok (.goto (-22), 3) := by decide +kernel
theorem d_Hyp_init_53 : decode b_Hyp_init 53 = .ok (.return_, 1) := by decide +kernel
theorem d_Pat_init_0 : decode b_Pat_init 0 = .ok (.aload_n 0, 1) := by decide +kernel
theorem d_Pat_init_1 : decode b_Pat_init 1 = .ok (.invokespecial 3, 3) := by decide +kernel
theorem d_Pat_init_4 : decode b_Pat_init 4 = .ok (.aload_n 0, 1) := by decide +kernel
theorem d_Pat_init_5 : decode b_Pat_init 5 = .ok (.iconst 5, 1) := by decide +kernel
theorem d_Pat_init_6 : decode b_Pat_init 6 = .ok (.newarray .int, 2) := by decide +kernel
theorem d_Pat_init_8 : decode b_Pat_init 8 = .ok (.putfield 9, 3) := by decide +kernel
theorem d_Pat_init_11 : decode b_Pat_init 11 = .ok (.aload_n 0, 1) := by decide +kernel
theorem d_Pat_init_12 : decode b_Pat_init 12 = .ok (.bipush 6, 2) := by decide +kernel
theorem d_Pat_init_14 : decode b_Pat_init 14 = .ok (.newarray .int, 2) := by decide +kernel
theorem d_Pat_init_16 : decode b_Pat_init 16 = .ok (.putfield 15, 3) := by decide +kernel
theorem d_Pat_init_19 : decode b_Pat_init 19 = .ok (.aload_n 0, 1) := by decide +kernel
theorem d_Pat_init_20 : decode b_Pat_init 20 = .ok (.iconst 0, 1) := by decide +kernel
theorem d_Pat_init_21 : decode b_Pat_init 21 = .ok (.putfield 18, 3) := by decide +kernel
theorem d_Pat_init_24 : decode b_Pat_init 24 = .ok (.return_, 1) := by decide +kernel
theorem d_Txt_init_0 : decode b_Txt_init 0 = .ok (.aload_n 0, 1) := by decide +kernel
theorem d_Txt_init_1 : decode b_Txt_init 1 = .ok (.invokespecial 3, 3) := by decide +kernel
theorem d_Txt_init_4 : decode b_Txt_init 4 = .ok (.aload_n 0, 1) := by decide +kernel
theorem d_Txt_init_5 : decode b_Txt_init 5 = .ok (.bipush 120, 2) := by decide +kernel
theorem d_Txt_init_7 : decode b_Txt_init 7 = .ok (.newarray .int, 2) := by decide +kernel
theorem d_Txt_init_9 : decode b_Txt_init 9 = .ok (.putfield 9, 3) := by decide +kernel
theorem d_Txt_init_12 : decode b_Txt_init 12 = .ok (.aload_n 0, 1) := by decide +kernel
theorem d_Txt_init_13 : decode b_Txt_init 13 = .ok (.bipush 120, 2) := by decide +kernel
theorem d_Txt_init_15 : decode b_Txt_init 15 = .ok (.newarray .int, 2) := by decide +kernel
theorem d_Txt_init_17 : decode b_Txt_init 17 = .ok (.putfield 15, 3) := by decide +kernel
theorem d_Txt_init_20 : decode b_Txt_init 20 = .ok (.aload_n 0, 1) := by decide +kernel
theorem d_Txt_init_21 : decode b_Txt_init 21 = .ok (.iconst 0, 1) := by decide +kernel
theorem d_Txt_init_22 : decode b_Txt_init 22 = .ok (.putfield 18, 3) := by decide +kernel
theorem d_Txt_init_25 : decode b_Txt_init 25 = .ok (.return_, 1) := by decide +kernel
theorem d_Brk_init_0 : decode b_Brk_init 0 = .ok (.aload_n 0, 1) := by decide +kernel
theorem d_Brk_init_1 : decode b_Brk_init 1 = .ok (.invokespecial 3, 3) := by decide +kernel
theorem d_Brk_init_4 : decode b_Brk_init 4 = .ok (.aload_n 0, 1) := by decide +kernel
theorem d_Brk_init_5 : decode b_Brk_init 5 = .ok (.bipush 25, 2) := by decide +kernel
theorem d_Brk_init_7 : decode b_Brk_init 7 = .ok (.newarray .int, 2) := by decide +kernel
theorem d_Brk_init_9 : decode b_Brk_init 9 = .ok (.putfield 9, 3) := by decide +kernel
theorem d_Brk_init_12 : decode b_Brk_init 12 = .ok (.aload_n 0, 1) := by decide +kernel
theorem d_Brk_init_13 : decode b_Brk_init 13 = .ok (.bipush 25, 2) := by decide +kernel
theorem d_Brk_init_15 : decode b_Brk_init 15 = .ok (.newarray .int, 2) := by decide +kernel
theorem d_Brk_init_17 : decode b_Brk_init 17 = .ok (.putfield 15, 3) := by decide +kernel
theorem d_Brk_init_20 : decode b_Brk_init 20 = .ok (.aload_n 0, 1) := by decide +kernel
theorem d_Brk_init_21 : decode b_Brk_init 21 = .ok (.bipush 25, 2) := by decide +kernel
theorem d_Brk_init_23 : decode b_Brk_init 23 = .ok (.newarray .int, 2) := by decide +kernel
theorem d_Brk_init_25 : decode b_Brk_init 25 = .ok (.putfield 18, 3) := by decide +kernel
theorem d_Brk_init_28 : decode b_Brk_init 28 = .ok (.aload_n 0, 1) := by decide +kernel
theorem d_Brk_init_29 : decode b_Brk_init 29 = .ok (.iconst 0, 1) := by decide +kernel
theorem d_Brk_init_30 : decode b_Brk_init 30 = .ok (.putfield 21, 3) := by decide +kernel
theorem d_Brk_init_33 : decode b_Brk_init 33 = .ok (.return_, 1) := by decide +kernel
theorem d_Sum_init_0 : decode b_Sum_init 0 = .ok (.aload_n 0, 1) := by decide +kernel
theorem d_Sum_init_1 : decode b_Sum_init 1 = .ok (.invokespecial 3, 3) := by decide +kernel
theorem d_Sum_init_4 : decode b_Sum_init 4 = .ok (.aload_n 0, 1) := by decide +kernel
theorem d_Sum_init_5 : decode b_Sum_init 5 = .ok (.bipush 121, 2) := by decide +kernel
theorem d_Sum_init_7 : decode b_Sum_init 7 = .ok (.newarray .int, 2) := by decide +kernel
theorem d_Sum_init_9 : decode b_Sum_init 9 = .ok (.putfield 9, 3) := by decide +kernel
theorem d_Sum_init_12 : decode b_Sum_init 12 = .ok (.aload_n 0, 1) := by decide +kernel
theorem d_Sum_init_13 : decode b_Sum_init 13 = .ok (.bipush 121, 2) := by decide +kernel
theorem d_Sum_init_15 : decode b_Sum_init 15 = .ok (.newarray .int, 2) := by decide +kernel
theorem d_Sum_init_17 : decode b_Sum_init 17 = .ok (.putfield 15, 3) := by decide +kernel
theorem d_Sum_init_20 : decode b_Sum_init 20 = .ok (.aload_n 0, 1) := by decide +kernel
theorem d_Sum_init_21 : decode b_Sum_init 21 = .ok (.bipush 121, 2) := by decide +kernel
theorem d_Sum_init_23 : decode b_Sum_init 23 = .ok (.newarray .int, 2) := by decide +kernel
theorem d_Sum_init_25 : decode b_Sum_init 25 = .ok (.putfield 18, 3) := by decide +kernel
theorem d_Sum_init_28 : decode b_Sum_init 28 = .ok (.aload_n 0, 1) := by decide +kernel
theorem d_Sum_init_29 : decode b_Sum_init 29 = .ok (.bipush 121, 2) := by decide +kernel
theorem d_Sum_init_31 : decode b_Sum_init 31 = .ok (.newarray .int, 2) := by decide +kernel
theorem d_Sum_init_33 : decode b_Sum_init 33 = .ok (.putfield 21, 3) := by decide +kernel
theorem d_Sum_init_36 : decode b_Sum_init 36 = .ok (.aload_n 0, 1) := by decide +kernel
theorem d_Sum_init_37 : decode b_Sum_init 37 = .ok (.bipush 121, 2) := by decide +kernel
theorem d_Sum_init_39 : decode b_Sum_init 39 = .ok (.newarray .int, 2) := by decide +kernel
theorem d_Sum_init_41 : decode b_Sum_init 41 = .ok (.putfield 24, 3) := by decide +kernel
theorem d_Sum_init_44 : decode b_Sum_init 44 = .ok (.return_, 1) := by decide +kernel
theorem d_Hyp_isFull_0 : decode b_Hyp_isFull 0 = .ok (.aload_n 0, 1) := by decide +kernel
theorem d_Hyp_isFull_1 : decode b_Hyp_isFull 1 = .ok (.getfield 17, 3) := by decide +kernel
theorem d_Hyp_isFull_4 : decode b_Hyp_isFull 4 = .ok (.bipush 20, 2) := by decide +kernel
theorem d_Hyp_isFull_6 : decode b_Hyp_isFull 6 = .ok (.if_icmp .ne 7, 3) := by decide +kernel
theorem d_Hyp_isFull_9 : decode b_Hyp_isFull 9 = .ok (.iconst 1, 1) := by decide +kernel
theorem d_Hyp_isFull_10 : decode b_Hyp_isFull 10 = .ok (.goto 4, 3) := by decide +kernel
theorem d_Hyp_isFull_13 : decode b_Hyp_isFull 13 = .ok (.iconst 0, 1) := by decide +kernel
theorem d_Hyp_isFull_14 : decode b_Hyp_isFull 14 = .ok (.ireturn, 1) := by decide +kernel
theorem d_Hyp_learn_0 : decode b_Hyp_learn 0 = .ok (.aload_n 0, 1) := by decide +kernel
theorem d_Hyp_learn_1 : decode b_Hyp_learn 1 = .ok (.invokevirtual 26, 3) := by decide +kernel
theorem d_Hyp_learn_4 : decode b_Hyp_learn 4 = .ok (.ifCond .ne 19, 3) := by decide +kernel
theorem d_Hyp_learn_7 : decode b_Hyp_learn 7 = .ok (.aload_n 0, 1) := by decide +kernel
theorem d_Hyp_learn_8 : decode b_Hyp_learn 8 = .ok (.getfield 11, 3) := by decide +kernel
theorem d_Hyp_learn_11 : decode b_Hyp_learn 11 = .ok (.aload_n 0, 1) := by decide +kernel
theorem d_Hyp_learn_12 : decode b_Hyp_learn 12 = .ok (.getfield 17, 3) := by decide +kernel
theorem d_Hyp_learn_15 : decode b_Hyp_learn 15 = .ok (.aaload, 1) := by decide +kernel
theorem d_Hyp_learn_16 : decode b_Hyp_learn 16 = .ok (.aload_n 1, 1) := by decide +kernel
theorem d_Hyp_learn_17 : decode b_Hyp_learn 17 = .ok (.invokevirtual 30, 3) := by decide +kernel
theorem d_Hyp_learn_20 : decode b_Hyp_learn 20 = .ok (.ifCond .ne 5, 3) := by decide +kernel
theorem d_Hyp_learn_23 : decode b_Hyp_learn 23 = .ok (.iconst 0, 1) := by decide +kernel
theorem d_Hyp_learn_24 : decode b_Hyp_learn 24 = .ok (.ireturn, 1) := by decide +kernel
theorem d_Hyp_learn_25 : decode b_Hyp_learn 25 = .ok (.aload_n 0, 1) := by decide +kernel
theorem d_Hyp_learn_26 : decode b_Hyp_learn 26 = .ok (.dup, 1) := by decide +kernel
theorem d_Hyp_learn_27 : decode b_Hyp_learn 27 = .ok (.getfield 17, 3) := by decide +kernel
theorem d_Hyp_learn_30 : decode b_Hyp_learn 30 = .ok (.iconst 1, 1) := by decide +kernel
theorem d_Hyp_learn_31 : decode b_Hyp_learn 31 = .ok (.iadd, 1) := by decide +kernel
theorem d_Hyp_learn_32 : decode b_Hyp_learn 32 = .ok (.putfield 17, 3) := by decide +kernel
theorem d_Hyp_learn_35 : decode b_Hyp_learn 35 = .ok (.iconst 1, 1) := by decide +kernel
theorem d_Hyp_learn_36 : decode b_Hyp_learn 36 = .ok (.ireturn, 1) := by decide +kernel
theorem d_Pat_read_0 : decode b_Pat_read 0 = .ok (.aload_n 0, 1) := by decide +kernel
theorem d_Pat_read_1 : decode b_Pat_read 1 = .ok (.iconst 0, 1) := by decide +kernel
theorem d_Pat_read_2 : decode b_Pat_read 2 = .ok (.putfield 18, 3) := by decide +kernel
theorem d_Pat_read_5 : decode b_Pat_read 5 = .ok (.aload_n 0, 1) := by decide +kernel
theorem d_Pat_read_6 : decode b_Pat_read 6 = .ok (.getfield 15, 3) := by decide +kernel
theorem d_Pat_read_9 : decode b_Pat_read 9 = .ok (.iconst 0, 1) := by decide +kernel
theorem d_Pat_read_10 : decode b_Pat_read 10 = .ok (.iconst 0, 1) := by decide +kernel
theorem d_Pat_read_11 : decode b_Pat_read 11 = .ok (.iastore, 1) := by decide +kernel
theorem d_Pat_read_12 : decode b_Pat_read 12 = .ok (.iconst 0, 1) := by decide +kernel
theorem d_Pat_read_13 : decode b_Pat_read 13 = .ok (.istore_n 2, 1) := by decide +kernel
theorem d_Pat_read_14 : decode b_Pat_read 14 = .ok (.iconst 0, 1) := by decide +kernel
theorem d_Pat_read_15 : decode b_Pat_read 15 = .ok (.istore_n 3, 1) := by decide +kernel
theorem d_Pat_read_16 : decode b_Pat_read 16 = .ok (.iload_n 3, 1) := by decide +kernel
theorem d_Pat_read_17 : decode b_Pat_read 17 = .ok (.aload_n 1, 1) := by decide +kernel
theorem d_Pat_read_18 : decode b_Pat_read 18 = .ok (.getfield 22, 3) := by decide +kernel
theorem d_Pat_read_21 : decode b_Pat_read 21 = .ok (.if_icmp .ge 63, 3) := by decide +kernel
theorem d_Pat_read_24 : decode b_Pat_read 24 = .ok (.aload_n 1, 1) := by decide +kernel
theorem d_Pat_read_25 : decode b_Pat_read 25 = .ok (.getfield 25, 3) := by decide +kernel
theorem d_Pat_read_28 : decode b_Pat_read 28 = .ok (.iload_n 3, 1) := by decide +kernel
theorem d_Pat_read_29 : decode b_Pat_read 29 = .ok (.iaload, 1) := by decide +kernel
theorem d_Pat_read_30 : decode b_Pat_read 30 = .ok (.istore 4, 2) := by decide +kernel
theorem d_Pat_read_32 : decode b_Pat_read 32 = .ok (.iload 4, 2) := by decide +kernel
theorem d_Pat_read_34 : decode b_Pat_read 34 = .ok (.invokestatic 28, 3) := by decide +kernel
theorem d_Pat_read_37 : decode b_Pat_read 37 = .ok (.ifCond .eq 28, 3) := by decide +kernel
theorem d_Pat_read_40 : decode b_Pat_read 40 = .ok (.iload_n 2, 1) := by decide +kernel
theorem d_Pat_read_41 : decode b_Pat_read 41 = .ok (.ifCond .eq 5, 3) := by decide +kernel
theorem d_Pat_read_44 : decode b_Pat_read 44 = .ok (.iconst 0, 1) := by decide +kernel
theorem d_Pat_read_45 : decode b_Pat_read 45 = .ok (.ireturn, 1) := by decide +kernel
theorem d_Pat_read_46 : decode b_Pat_read 46 = .ok (.aload_n 0, 1) := by decide +kernel
theorem d_Pat_read_47 : decode b_Pat_read 47 = .ok (.getfield 15, 3) := by decide +kernel
theorem d_Pat_read_50 : decode b_Pat_read 50 = .ok (.aload_n 0, 1) := by decide +kernel
theorem d_Pat_read_51 : decode b_Pat_read 51 = .ok (.getfield 18, 3) := by decide +kernel
theorem d_Pat_read_54 : decode b_Pat_read 54 = .ok (.iload 4, 2) := by decide +kernel
theorem d_Pat_read_56 : decode b_Pat_read 56 = .ok (.bipush 48, 2) := by decide +kernel
theorem d_Pat_read_58 : decode b_Pat_read 58 = .ok (.isub, 1) := by decide +kernel
theorem d_Pat_read_59 : decode b_Pat_read 59 = .ok (.iastore, 1) := by decide +kernel
theorem d_Pat_read_60 : decode b_Pat_read 60 = .ok (.iconst 1, 1) := by decide +kernel
theorem d_Pat_read_61 : decode b_Pat_read 61 = .ok (.istore_n 2, 1) := by decide +kernel
theorem d_Pat_read_62 : decode b_Pat_read 62 = .ok (.goto 16, 3) := by decide +kernel
theorem d_Pat_read_65 : decode b_Pat_read 65 = .ok (.aload_n 0, 1) := by decide +kernel
theorem d_Pat_read_66 : decode b_Pat_read 66 = .ok (.iload 4, 2) := by decide +kernel
theorem d_Pat_read_68 : decode b_Pat_read 68 = .ok (.invokevirtual 32, 3) := by decide +kernel
theorem d_Pat_read_71 : decode b_Pat_read 71 = .ok (.ifCond .ne 5, 3) := by decide +kernel
theorem d_Pat_read_74 : decode b_Pat_read 74 = .ok (.iconst 0, 1) := by decide +kernel
theorem d_Pat_read_75 : decode b_Pat_read 75 = .ok (.ireturn, 1) := by decide +kernel
theorem d_Pat_read_76 : decode b_Pat_read 76 = .ok (.iconst 0, 1) := by decide +kernel
theorem d_Pat_read_77 : decode b_Pat_read 77 = .ok (.istore_n 2, 1) := by decide +kernel
theorem d_Pat_read_78 : decode b_Pat_read 78 = .ok (.iinc 3 1, 3) := by decide +kernel
theorem d_Pat_read_81 : decode b_Pat_read 81 = .ok (.goto (-65), 3) := by decide +kernel
theorem d_Pat_read_84 : decode b_Pat_read 84 = .ok (.aload_n 0, 1) := by decide +kernel
theorem d_Pat_read_85 : decode b_Pat_read 85 = .ok (.getfield 18, 3) := by decide +kernel
theorem d_Pat_read_88 : decode b_Pat_read 88 = .ok (.ifCond .le 14, 3) := by decide +kernel
theorem d_Pat_read_91 : decode b_Pat_read 91 = .ok (.aload_n 0, 1) := by decide +kernel
theorem d_Pat_read_92 : decode b_Pat_read 92 = .ok (.invokevirtual 35, 3) := by decide +kernel
theorem d_Pat_read_95 : decode b_Pat_read 95 = .ok (.ifCond .eq 7, 3) := by decide +kernel
theorem d_Pat_read_98 : decode b_Pat_read 98 = .ok (.iconst 1, 1) := by decide +kernel
theorem d_Pat_read_99 : decode b_Pat_read 99 = .ok (.goto 4, 3) := by decide +kernel
theorem d_Pat_read_102 : decode b_Pat_read 102 = .ok (.iconst 0, 1) := by decide +kernel
theorem d_Pat_read_103 : decode b_Pat_read 103 = .ok (.ireturn, 1) := by decide +kernel
theorem d_Pat_addSign_0 : decode b_Pat_addSign 0 = .ok (.aload_n 0, 1) := by decide +kernel
theorem d_Pat_addSign_1 : decode b_Pat_addSign 1 = .ok (.getfield 18, 3) := by decide +kernel
theorem d_Pat_addSign_4 : decode b_Pat_addSign 4 = .ok (.iconst 5, 1) := by decide +kernel
theorem d_Pat_addSign_5 : decode b_Pat_addSign 5 = .ok (.if_icmp .eq 16, 3) := by decide +kernel
theorem d_Pat_addSign_8 : decode b_Pat_addSign 8 = .ok (.iload_n 1, 1) := by decide +kernel
theorem d_Pat_addSign_9 : decode b_Pat_addSign 9 = .ok (.invokestatic 39, 3) := by decide +kernel
theorem d_Pat_addSign_12 : decode b_Pat_addSign 12 = .ok (.ifCond .ne 11, 3) := by decide +kernel
theorem d_Pat_addSign_15 : decode b_Pat_addSign 15 = .ok (.iload_n 1, 1) := by decide +kernel
theorem d_Pat_addSign_16 : decode b_Pat_addSign 16 = .ok (.bipush 46, 2) := by decide +kernel
theorem d_Pat_addSign_18 : decode b_Pat_addSign 18 = .ok (.if_icmp .eq 5, 3) := by decide +kernel
theorem d_Pat_addSign_21 : decode b_Pat_addSign 21 = .ok (.iconst 0, 1) := by decide +kernel
theorem d_Pat_addSign_22 : decode b_Pat_addSign 22 = .ok (.ireturn, 1) := by decide +kernel
theorem d_Pat_addSign_23 : decode b_Pat_addSign 23 = .ok (.aload_n 0, 1) := by decide +kernel
theorem d_Pat_addSign_24 : decode b_Pat_addSign 24 = .ok (.getfield 9, 3) := by decide +kernel
theorem d_Pat_addSign_27 : decode b_Pat_addSign 27 = .ok (.aload_n 0, 1) := by decide +kernel
theorem d_Pat_addSign_28 : decode b_Pat_addSign 28 = .ok (.getfield 18, 3) := by decide +kernel
theorem d_Pat_addSign_31 : decode b_Pat_addSign 31 = .ok (.iload_n 1, 1) := by decide +kernel
theorem d_Pat_addSign_32 : decode b_Pat_addSign 32 = .ok (.iastore, 1) := by decide +kernel
theorem d_Pat_addSign_33 : decode b_Pat_addSign 33 = .ok (.aload_n 0, 1) := by decide +kernel
theorem d_Pat_addSign_34 : decode b_Pat_addSign 34 = .ok (.dup, 1) := by decide +kernel
theorem d_Pat_addSign_35 : decode b_Pat_addSign 35 = .ok (.getfield 18, 3) := by decide +kernel
theorem d_Pat_addSign_38 : decode b_Pat_addSign 38 = .ok (.iconst 1, 1) := by decide +kernel
theorem d_Pat_addSign_39 : decode b_Pat_addSign 39 = .ok (.iadd, 1) := by decide +kernel
theorem d_Pat_addSign_40 : decode b_Pat_addSign 40 = .ok (.putfield 18, 3) := by decide +kernel
theorem d_Pat_addSign_43 : decode b_Pat_addSign 43 = .ok (.aload_n 0, 1) := by decide +kernel
theorem d_Pat_addSign_44 : decode b_Pat_addSign 44 = .ok (.getfield 15, 3) := by decide +kernel
theorem d_Pat_addSign_47 : decode b_Pat_addSign 47 = .ok (.aload_n 0, 1) := by decide +kernel
theorem d_Pat_addSign_48 : decode b_Pat_addSign 48 = .ok (.getfield 18, 3) := by decide +kernel
theorem d_Pat_addSign_51 : decode b_Pat_addSign 51 = .ok (.iconst 0, 1) := by decide +kernel
theorem d_Pat_addSign_52 : decode b_Pat_addSign 52 = .ok (.iastore, 1) := by decide +kernel
theorem d_Pat_addSign_53 : decode b_Pat_addSign 53 = .ok (.iconst 1, 1) := by decide +kernel
theorem d_Pat_addSign_54 : decode b_Pat_addSign 54 = .ok (.ireturn, 1) := by decide +kernel
theorem d_Pat_hasPointsAtEdgesOnly_0 : decode b_Pat_hasPointsAtEdgesOnly 0 = .ok (.iconst 1, 1) := by decide +kernel
theorem d_Pat_hasPointsAtEdgesOnly_1 : decode b_Pat_hasPointsAtEdgesOnly 1 = .ok (.istore_n 1, 1) := by decide +kernel
theorem d_Pat_hasPointsAtEdgesOnly_2 : decode b_Pat_hasPointsAtEdgesOnly 2 = .ok (.iload_n 1, 1) := by decide +kernel
theorem d_Pat_hasPointsAtEdgesOnly_3 : decode b_Pat_hasPointsAtEdgesOnly 3 = .ok (.aload_n 0, 1) := by decide +kernel
theorem d_Pat_hasPointsAtEdgesOnly_4 : decode b_Pat_hasPointsAtEdgesOnly 4 = .ok (.getfield 18, 3) := by decide +kernel
theorem d_Pat_hasPointsAtEdgesOnly_7 : decode b_Pat_hasPointsAtEdgesOnly 7 = .ok (.iconst 1, 1) := by decide +kernel
theorem d_Pat_hasPointsAtEdgesOnly_8 : decode b_Pat_hasPointsAtEdgesOnly 8 = .ok (.isub, 1) := by decide +kernel
theorem d_Pat_hasPointsAtEdgesOnly_9 : decode b_Pat_hasPointsAtEdgesOnly 9 = .ok (.if_icmp .ge 22, 3) := by decide +kernel
theorem d_Pat_hasPointsAtEdgesOnly_12 : decode b_Pat_hasPointsAtEdgesOnly 12 = .ok (.aload_n 0, 1) := by decide +kernel
theorem d_Pat_hasPointsAtEdgesOnly_13 : decode b_Pat_hasPointsAtEdgesOnly 13 = .ok (.getfield 9, 3) := by decide +kernel
theorem d_Pat_hasPointsAtEdgesOnly_16 : decode b_Pat_hasPointsAtEdgesOnly 16 = .ok (.iload_n 1, 1) := by decide +kernel
theorem d_Pat_hasPointsAtEdgesOnly_17 : decode b_Pat_hasPointsAtEdgesOnly 17 = .ok (.iaload, 1) := by decide +kernel
theorem d_Pat_hasPointsAtEdgesOnly_18 : decode b_Pat_hasPointsAtEdgesOnly 18 = .ok (.bipush 46, 2) := by decide +kernel
theorem d_Pat_hasPointsAtEdgesOnly_20 : decode b_Pat_hasPointsAtEdgesOnly 20 = .ok (.if_icmp .ne 5, 3) := by decide +kernel
theorem d_Pat_hasPointsAtEdgesOnly_23 : decode b_Pat_hasPointsAtEdgesOnly 23 = .ok (.iconst 0, 1) := by decide +kernel
theorem d_Pat_hasPointsAtEdgesOnly_24 : decode b_Pat_hasPointsAtEdgesOnly 24 = .ok (.ireturn, 1) := by decide +kernel
theorem d_Pat_hasPointsAtEdgesOnly_25 : decode b_Pat_hasPointsAtEdgesOnly 25 = .ok (.iinc 1 1, 3) := by decide +kernel
theorem d_Pat_hasPointsAtEdgesOnly_28 : decode b_Pat_hasPointsAtEdgesOnly 28 = .ok (.goto (-26), 3) := by decide +kernel
theorem d_Pat_hasPointsAtEdgesOnly_31 : decode b_Pat_hasPointsAtEdgesOnly 31 = .ok (.iconst 1, 1) := by decide +kernel
theorem d_Pat_hasPointsAtEdgesOnly_32 : decode b_Pat_hasPointsAtEdgesOnly 32 = .ok (.ireturn, 1) := by decide +kernel
theorem d_Txt_add_0 : decode b_Txt_add 0 = .ok (.aload_n 0, 1) := by decide +kernel
theorem d_Txt_add_1 : decode b_Txt_add 1 = .ok (.getfield 18, 3) := by decide +kernel
theorem d_Txt_add_4 : decode b_Txt_add 4 = .ok (.bipush 120, 2) := by decide +kernel
theorem d_Txt_add_6 : decode b_Txt_add 6 = .ok (.if_icmp .ne 5, 3) := by decide +kernel
theorem d_Txt_add_9 : decode b_Txt_add 9 = .ok (.iconst 0, 1) := by decide +kernel
theorem d_Txt_add_10 : decode b_Txt_add 10 = .ok (.ireturn, 1) := by decide +kernel
theorem d_Txt_add_11 : decode b_Txt_add 11 = .ok (.aload_n 0, 1) := by decide +kernel
theorem d_Txt_add_12 : decode b_Txt_add 12 = .ok (.getfield 9, 3) := by decide +kernel
theorem d_Txt_add_15 : decode b_Txt_add 15 = .ok (.aload_n 0, 1) := by decide +kernel
theorem d_Txt_add_16 : decode b_Txt_add 16 = .ok (.getfield 18, 3) := by decide +kernel
theorem d_Txt_add_19 : decode b_Txt_add 19 = .ok (.iload_n 1, 1) := by decide +kernel
theorem d_Txt_add_20 : decode b_Txt_add 20 = .ok (.iastore, 1) := by decide +kernel
theorem d_Txt_add_21 : decode b_Txt_add 21 = .ok (.aload_n 0, 1) := by decide +kernel
theorem d_Txt_add_22 : decode b_Txt_add 22 = .ok (.getfield 15, 3) := by decide +kernel
theorem d_Txt_add_25 : decode b_Txt_add 25 = .ok (.aload_n 0, 1) := by decide +kernel
theorem d_Txt_add_26 : decode b_Txt_add 26 = .ok (.getfield 18, 3) := by decide +kernel
theorem d_Txt_add_29 : decode b_Txt_add 29 = .ok (.iload_n 2, 1) := by decide +kernel
theorem d_Txt_add_30 : decode b_Txt_add 30 = .ok (.iastore, 1) := by decide +kernel
theorem d_Txt_add_31 : decode b_Txt_add 31 = .ok (.aload_n 0, 1) := by decide +kernel
theorem d_Txt_add_32 : decode b_Txt_add 32 = .ok (.dup, 1) := by decide +kernel
theorem d_Txt_add_33 : decode b_Txt_add 33 = .ok (.getfield 18, 3) := by decide +kernel
theorem d_Txt_add_36 : decode b_Txt_add 36 = .ok (.iconst 1, 1) := by decide +kernel
theorem d_Txt_add_37 : decode b_Txt_add 37 = .ok (.iadd, 1) := by decide +kernel
theorem d_Txt_add_38 : decode b_Txt_add 38 = .ok (.putfield 18, 3) := by decide +kernel
theorem d_Txt_add_41 : decode b_Txt_add 41 = .ok (.iconst 1, 1) := by decide +kernel
theorem d_Txt_add_42 : decode b_Txt_add 42 = .ok (.ireturn, 1) := by decide +kernel
theorem d_Txt_tidy_0 : decode b_Txt_tidy 0 = .ok (.aload_n 0, 1) := by decide +kernel
theorem d_Txt_tidy_1 : decode b_Txt_tidy 1 = .ok (.invokevirtual 26, 3) := by decide +kernel
theorem d_Txt_tidy_4 : decode b_Txt_tidy 4 = .ok (.aload_n 0, 1) := by decide +kernel
theorem d_Txt_tidy_5 : decode b_Txt_tidy 5 = .ok (.invokevirtual 29, 3) := by decide +kernel
theorem d_Txt_tidy_8 : decode b_Txt_tidy 8 = .ok (.aload_n 0, 1) := by decide +kernel
theorem d_Txt_tidy_9 : decode b_Txt_tidy 9 = .ok (.invokevirtual 32, 3) := by decide +kernel
theorem d_Txt_tidy_12 : decode b_Txt_tidy 12 = .ok (.aload_n 0, 1) := by decide +kernel
theorem d_Txt_tidy_13 : decode b_Txt_tidy 13 = .ok (.getfield 18, 3) := by decide +kernel
theorem d_Txt_tidy_16 : decode b_Txt_tidy 16 = .ok (.ifCond .le 29, 3) := by decide +kernel
theorem d_Txt_tidy_19 : decode b_Txt_tidy 19 = .ok (.aload_n 0, 1) := by decide +kernel
theorem d_Txt_tidy_20 : decode b_Txt_tidy 20 = .ok (.getfield 9, 3) := by decide +kernel
theorem d_Txt_tidy_23 : decode b_Txt_tidy 23 = .ok (.aload_n 0, 1) := by decide +kernel
theorem d_Txt_tidy_24 : decode b_Txt_tidy 24 = .ok (.getfield 18, 3) := by decide +kernel
theorem d_Txt_tidy_27 : decode b_Txt_tidy 27 = .ok (.iconst 1, 1) := by decide +kernel
theorem d_Txt_tidy_28 : decode b_Txt_tidy 28 = .ok (.isub, 1) := by decide +kernel
theorem d_Txt_tidy_29 : decode b_Txt_tidy 29 = .ok (.iaload, 1) := by decide +kernel
theorem d_Txt_tidy_30 : decode b_Txt_tidy 30 = .ok (.bipush 124, 2) := by decide +kernel
theorem d_Txt_tidy_32 : decode b_Txt_tidy 32 = .ok (.if_icmp .ne 13, 3) := by decide +kernel
theorem d_Txt_tidy_35 : decode b_Txt_tidy 35 = .ok (.aload_n 0, 1) := by decide +kernel
theorem d_Txt_tidy_36 : decode b_Txt_tidy 36 = .ok (.dup, 1) := by decide +kernel
theorem d_Txt_tidy_37 : decode b_Txt_tidy 37 = .ok (.getfield 18, 3) := by decide +kernel
theorem d_Txt_tidy_40 : decode b_Txt_tidy 40 = .ok (.iconst 1, 1) := by decide +kernel
theorem d_Txt_tidy_41 : decode b_Txt_tidy 41 = .ok (.isub, 1) := by decide +kernel
theorem d_Txt_tidy_42 : decode b_Txt_tidy 42 = .ok (.putfield 18, 3) := by decide +kernel
theorem d_Txt_tidy_45 : decode b_Txt_tidy 45 = .ok (.return_, 1) := by decide +kernel
theorem d_Txt_dropBlanksBehind_0 : decode b_Txt_dropBlanksBehind 0 = .ok (.iconst 0, 1) := by decide +kernel
theorem d_Txt_dropBlanksBehind_1 : decode b_Txt_dropBlanksBehind 1 = .ok (.istore_n 1, 1) := by decide +kernel
theorem d_Txt_dropBlanksBehind_2 : decode b_Txt_dropBlanksBehind 2 = .ok (.iconst 0, 1) := by decide +kernel
theorem d_Txt_dropBlanksBehind_3 : decode b_Txt_dropBlanksBehind 3 = .ok (.istore_n 2, 1) := by decide +kernel
theorem d_Txt_dropBlanksBehind_4 : decode b_Txt_dropBlanksBehind 4 = .ok (.iload_n 2, 1) := by decide +kernel
theorem d_Txt_dropBlanksBehind_5 : decode b_Txt_dropBlanksBehind 5 = .ok (.aload_n 0, 1) := by decide +kernel
theorem d_Txt_dropBlanksBehind_6 : decode b_Txt_dropBlanksBehind 6 = .ok (.getfield 18, 3) := by decide +kernel
theorem d_Txt_dropBlanksBehind_9 : decode b_Txt_dropBlanksBehind 9 = .ok (.if_icmp .ge 69, 3) := by decide +kernel
theorem d_Txt_dropBlanksBehind_12 : decode b_Txt_dropBlanksBehind 12 = .ok (.aload_n 0, 1) := by decide +kernel
theorem d_Txt_dropBlanksBehind_13 : decode b_Txt_dropBlanksBehind 13 = .ok (.getfield 9, 3) := by decide +kernel
theorem d_Txt_dropBlanksBehind_16 : decode b_Txt_dropBlanksBehind 16 = .ok (.iload_n 2, 1) := by decide +kernel
theorem d_Txt_dropBlanksBehind_17 : decode b_Txt_dropBlanksBehind 17 = .ok (.iaload, 1) := by decide +kernel
theorem d_Txt_dropBlanksBehind_18 : decode b_Txt_dropBlanksBehind 18 = .ok (.bipush 32, 2) := by decide +kernel
theorem d_Txt_dropBlanksBehind_20 : decode b_Txt_dropBlanksBehind 20 = .ok (.if_icmp .ne 37, 3) := by decide +kernel
theorem d_Txt_dropBlanksBehind_23 : decode b_Txt_dropBlanksBehind 23 = .ok (.iload_n 1, 1) := by decide +kernel
theorem d_Txt_dropBlanksBehind_24 : decode b_Txt_dropBlanksBehind 24 = .ok (.ifCond .eq 29, 3) := by decide +kernel
theorem d_Txt_dropBlanksBehind_27 : decode b_Txt_dropBlanksBehind 27 = .ok (.aload_n 0, 1) := by decide +kernel
theorem d_Txt_dropBlanksBehind_28 : decode b_Txt_dropBlanksBehind 28 = .ok (.getfield 9, 3) := by decide +kernel
theorem d_Txt_dropBlanksBehind_31 : decode b_Txt_dropBlanksBehind 31 = .ok (.iload_n 1, 1) := by decide +kernel
theorem d_Txt_dropBlanksBehind_32 : decode b_Txt_dropBlanksBehind 32 = .ok (.iconst 1, 1) := by decide +kernel
theorem d_Txt_dropBlanksBehind_33 : decode b_Txt_dropBlanksBehind 33 = .ok (.isub, 1) := by decide +kernel
theorem d_Txt_dropBlanksBehind_34 : decode b_Txt_dropBlanksBehind 34 = .ok (.iaload, 1) := by decide +kernel
theorem d_Txt_dropBlanksBehind_35 : decode b_Txt_dropBlanksBehind 35 = .ok (.bipush 32, 2) := by decide +kernel
theorem d_Txt_dropBlanksBehind_37 : decode b_Txt_dropBlanksBehind 37 = .ok (.if_icmp .eq 16, 3) := by decide +kernel
theorem d_Txt_dropBlanksBehind_40 : decode b_Txt_dropBlanksBehind 40 = .ok (.aload_n 0, 1) := by decide +kernel
theorem d_Txt_dropBlanksBehind_41 : decode b_Txt_dropBlanksBehind 41 = .ok (.getfield 9, 3) := by decide +kernel
theorem d_Txt_dropBlanksBehind_44 : decode b_Txt_dropBlanksBehind 44 = .ok (.iload_n 1, 1) := by decide +kernel
theorem d_Txt_dropBlanksBehind_45 : decode b_Txt_dropBlanksBehind 45 = .ok (.iconst 1, 1) := by decide +kernel
theorem d_Txt_dropBlanksBehind_46 : decode b_Txt_dropBlanksBehind 46 = .ok (.isub, 1) := by decide +kernel
theorem d_Txt_dropBlanksBehind_47 : decode b_Txt_dropBlanksBehind 47 = .ok (.iaload, 1) := by decide +kernel
theorem d_Txt_dropBlanksBehind_48 : decode b_Txt_dropBlanksBehind 48 = .ok (.bipush 124, 2) := by decide +kernel
theorem d_Txt_dropBlanksBehind_50 : decode b_Txt_dropBlanksBehind 50 = .ok (.if_icmp .ne 7, 3) := by decide +kernel
theorem d_Txt_dropBlanksBehind_53 : decode b_Txt_dropBlanksBehind 53 = .ok (.iconst 1, 1) := by decide +kernel
theorem d_Txt_dropBlanksBehind_54 : decode b_Txt_dropBlanksBehind 54 = .ok (.goto 4, 3) := by decide +kernel
theorem d_Txt_dropBlanksBehind_57 : decode b_Txt_dropBlanksBehind 57 = .ok (.iconst 0, 1) := by decide +kernel
theorem d_Txt_dropBlanksBehind_58 : decode b_Txt_dropBlanksBehind 58 = .ok (.istore_n 3, 1) := by decide +kernel
theorem d_Txt_dropBlanksBehind_59 : decode b_Txt_dropBlanksBehind 59 = .ok (.iload_n 3, 1) := by decide +kernel
theorem d_Txt_dropBlanksBehind_60 : decode b_Txt_dropBlanksBehind 60 = .ok (.ifCond .ne 12, 3) := by decide +kernel
theorem d_Txt_dropBlanksBehind_63 : decode b_Txt_dropBlanksBehind 63 = .ok (.aload_n 0, 1) := by decide +kernel
theorem d_Txt_dropBlanksBehind_64 : decode b_Txt_dropBlanksBehind 64 = .ok (.iload_n 2, 1) := by decide +kernel
theorem d_Txt_dropBlanksBehind_65 : decode b_Txt_dropBlanksBehind 65 = .ok (.iload_n 1, 1) := by decide +kernel
theorem d_Txt_dropBlanksBehind_66 : decode b_Txt_dropBlanksBehind 66 = .ok (.invokevirtual 35, 3) := by decide +kernel
theorem d_Txt_dropBlanksBehind_69 : decode b_Txt_dropBlanksBehind 69 = .ok (.iinc 1 1, 3) := by decide +kernel
theorem d_Txt_dropBlanksBehind_72 : decode b_Txt_dropBlanksBehind 72 = .ok (.iinc 2 1, 3) := by decide +kernel
theorem d_Txt_dropBlanksBehind_75 : decode b_Txt_dropBlanksBehind 75 = .ok (.goto (-71), 3) := by decide +kernel
theorem d_Txt_dropBlanksBehind_78 : decode b_Txt_dropBlanksBehind 78 = .ok (.aload_n 0, 1) := by decide +kernel
theorem d_Txt_dropBlanksBehind_79 : decode b_Txt_dropBlanksBehind 79 = .ok (.iload_n 1, 1) := by decide +kernel
theorem d_Txt_dropBlanksBehind_80 : decode b_Txt_dropBlanksBehind 80 = .ok (.putfield 18, 3) := by decide +kernel
theorem d_Txt_dropBlanksBehind_83 : decode b_Txt_dropBlanksBehind 83 = .ok (.return_, 1) := by decide +kernel
theorem d_Txt_move_0 : decode b_Txt_move 0 = .ok (.aload_n 0, 1) := by decide +kernel
theorem d_Txt_move_1 : decode b_Txt_move 1 = .ok (.getfield 9, 3) := by decide +kernel
theorem d_Txt_move_4 : decode b_Txt_move 4 = .ok (.iload_n 2, 1) := by decide +kernel
theorem d_Txt_move_5 : decode b_Txt_move 5 = .ok (.aload_n 0, 1) := by decide +kernel
theorem d_Txt_move_6 : decode b_Txt_move 6 = .ok (.getfield 9, 3) := by decide +kernel
theorem d_Txt_move_9 : decode b_Txt_move 9 = .ok (.iload_n 1, 1) := by decide +kernel
theorem d_Txt_move_10 : decode b_Txt_move 10 = .ok (.iaload, 1) := by decide +kernel
theorem d_Txt_move_11 : decode b_Txt_move 11 = .ok (.iastore, 1) := by decide +kernel
theorem d_Txt_move_12 : decode b_Txt_move 12 = .ok (.aload_n 0, 1) := by decide +kernel
theorem d_Txt_move_13 : decode b_Txt_move 13 = .ok (.getfield 15, 3) := by decide +kernel
theorem d_Txt_move_16 : decode b_Txt_move 16 = .ok (.iload_n 2, 1) := by decide +kernel
theorem d_Txt_move_17 : decode b_Txt_move 17 = .ok (.aload_n 0, 1) := by decide +kernel
theorem d_Txt_move_18 : decode b_Txt_move 18 = .ok (.getfield 15, 3) := by decide +kernel
theorem d_Txt_move_21 : decode b_Txt_move 21 = .ok (.iload_n 1, 1) := by decide +kernel
theorem d_Txt_move_22 : decode b_Txt_move 22 = .ok (.iaload, 1) := by decide +kernel
theorem d_Txt_move_23 : decode b_Txt_move 23 = .ok (.iastore, 1) := by decide +kernel
theorem d_Txt_move_24 : decode b_Txt_move 24 = .ok (.return_, 1) := by decide +kernel
theorem d_Txt_dropBlanksBefore_0 : decode b_Txt_dropBlanksBefore 0 = .ok (.iconst 0, 1) := by decide +kernel
theorem d_Txt_dropBlanksBefore_1 : decode b_Txt_dropBlanksBefore 1 = .ok (.istore_n 1, 1) := by decide +kernel
theorem d_Txt_dropBlanksBefore_2 : decode b_Txt_dropBlanksBefore 2 = .ok (.iconst 0, 1) := by decide +kernel
theorem d_Txt_dropBlanksBefore_3 : decode b_Txt_dropBlanksBefore 3 = .ok (.istore_n 2, 1) := by decide +kernel
theorem d_Txt_dropBlanksBefore_4 : decode b_Txt_dropBlanksBefore 4 = .ok (.iload_n 2, 1) := by decide +kernel
theorem d_Txt_dropBlanksBefore_5 : decode b_Txt_dropBlanksBefore 5 = .ok (.aload_n 0, 1) := by decide +kernel
theorem d_Txt_dropBlanksBefore_6 : decode b_Txt_dropBlanksBefore 6 = .ok (.getfield 18, 3) := by decide +kernel
theorem d_Txt_dropBlanksBefore_9 : decode b_Txt_dropBlanksBefore 9 = .ok (.if_icmp .ge 62, 3) := by decide +kernel
theorem d_Txt_dropBlanksBefore_12 : decode b_Txt_dropBlanksBefore 12 = .ok (.aload_n 0, 1) := by decide +kernel
theorem d_Txt_dropBlanksBefore_13 : decode b_Txt_dropBlanksBefore 13 = .ok (.getfield 9, 3) := by decide +kernel
theorem d_Txt_dropBlanksBefore_16 : decode b_Txt_dropBlanksBefore 16 = .ok (.iload_n 2, 1) := by decide +kernel
theorem d_Txt_dropBlanksBefore_17 : decode b_Txt_dropBlanksBefore 17 = .ok (.iaload, 1) := by decide +kernel
theorem d_Txt_dropBlanksBefore_18 : decode b_Txt_dropBlanksBefore 18 = .ok (.bipush 32, 2) := by decide +kernel
theorem d_Txt_dropBlanksBefore_20 : decode b_Txt_dropBlanksBefore 20 = .ok (.if_icmp .ne 30, 3) := by decide +kernel
theorem d_Txt_dropBlanksBefore_23 : decode b_Txt_dropBlanksBefore 23 = .ok (.iload_n 2, 1) := by decide +kernel
theorem d_Txt_dropBlanksBefore_24 : decode b_Txt_dropBlanksBefore 24 = .ok (.iconst 1, 1) := by decide +kernel
theorem d_Txt_dropBlanksBefore_25 : decode b_Txt_dropBlanksBefore 25 = .ok (.iadd, 1) := by decide +kernel
theorem d_Txt_dropBlanksBefore_26 : decode b_Txt_dropBlanksBefore 26 = .ok (.aload_n 0, 1) := by decide +kernel
theorem d_Txt_dropBlanksBefore_27 : decode b_Txt_dropBlanksBefore 27 = .ok (.getfield 18, 3) := by decide +kernel
theorem d_Txt_dropBlanksBefore_30 : decode b_Txt_dropBlanksBefore 30 = .ok (.if_icmp .eq 16, 3) := by decide +kernel
theorem d_Txt_dropBlanksBefore_33 : decode b_Txt_dropBlanksBefore 33 = .ok (.aload_n 0, 1) := by decide +kernel
theorem d_Txt_dropBlanksBefore_34 : decode b_Txt_dropBlanksBefore 34 = .ok (.getfield 9, 3) := by decide +kernel
theorem d_Txt_dropBlanksBefore_37 : decode b_Txt_dropBlanksBefore 37 = .ok (.iload_n 2, 1) := by decide +kernel
theorem d_Txt_dropBlanksBefore_38 : decode b_Txt_dropBlanksBefore 38 = .ok (.iconst 1, 1) := by decide +kernel
theorem d_Txt_dropBlanksBefore_39 : decode b_Txt_dropBlanksBefore 39 = .ok (.iadd, 1) := by decide +kernel
theorem d_Txt_dropBlanksBefore_40 : decode b_Txt_dropBlanksBefore 40 = .ok (.iaload, 1) := by decide +kernel
theorem d_Txt_dropBlanksBefore_41 : decode b_Txt_dropBlanksBefore 41 = .ok (.bipush 124, 2) := by decide +kernel
theorem d_Txt_dropBlanksBefore_43 : decode b_Txt_dropBlanksBefore 43 = .ok (.if_icmp .ne 7, 3) := by decide +kernel
theorem d_Txt_dropBlanksBefore_46 : decode b_Txt_dropBlanksBefore 46 = .ok (.iconst 1, 1) := by decide +kernel
theorem d_Txt_dropBlanksBefore_47 : decode b_Txt_dropBlanksBefore 47 = .ok (.goto 4, 3) := by decide +kernel
theorem d_Txt_dropBlanksBefore_50 : decode b_Txt_dropBlanksBefore 50 = .ok (.iconst 0, 1) := by decide +kernel
theorem d_Txt_dropBlanksBefore_51 : decode b_Txt_dropBlanksBefore 51 = .ok (.istore_n 3, 1) := by decide +kernel
theorem d_Txt_dropBlanksBefore_52 : decode b_Txt_dropBlanksBefore 52 = .ok (.iload_n 3, 1) := by decide +kernel
theorem d_Txt_dropBlanksBefore_53 : decode b_Txt_dropBlanksBefore 53 = .ok (.ifCond .ne 12, 3) := by decide +kernel
theorem d_Txt_dropBlanksBefore_56 : decode b_Txt_dropBlanksBefore 56 = .ok (.aload_n 0, 1) := by decide +kernel
theorem d_Txt_dropBlanksBefore_57 : decode b_Txt_dropBlanksBefore 57 = .ok (.iload_n 2, 1) := by decide +kernel
theorem d_Txt_dropBlanksBefore_58 : decode b_Txt_dropBlanksBefore 58 = .ok (.iload_n 1, 1) := by decide +kernel
theorem d_Txt_dropBlanksBefore_59 : decode b_Txt_dropBlanksBefore 59 = .ok (.invokevirtual 35, 3) := by decide +kernel
theorem d_Txt_dropBlanksBefore_62 : decode b_Txt_dropBlanksBefore 62 = .ok (.iinc 1 1, 3) := by decide +kernel
theorem d_Txt_dropBlanksBefore_65 : decode b_Txt_dropBlanksBefore 65 = .ok (.iinc 2 1, 3) := by decide +kernel
theorem d_Txt_dropBlanksBefore_68 : decode b_Txt_dropBlanksBefore 68 = .ok (.goto (-64), 3) := by decide +kernel
theorem d_Txt_dropBlanksBefore_71 : decode b_Txt_dropBlanksBefore 71 = .ok (.aload_n 0, 1) := by decide +kernel
theorem d_Txt_dropBlanksBefore_72 : decode b_Txt_dropBlanksBefore 72 = .ok (.iload_n 1, 1) := by decide +kernel
theorem d_Txt_dropBlanksBefore_73 : decode b_Txt_dropBlanksBefore 73 = .ok (.putfield 18, 3) := by decide +kernel
theorem d_Txt_dropBlanksBefore_76 : decode b_Txt_dropBlanksBefore 76 = .ok (.return_, 1) := by decide +kernel
theorem d_Txt_dropBarsBehind_0 : decode b_Txt_dropBarsBehind 0 = .ok (.iconst 0, 1) := by decide +kernel
theorem d_Txt_dropBarsBehind_1 : decode b_Txt_dropBarsBehind 1 = .ok (.istore_n 1, 1) := by decide +kernel
theorem d_Txt_dropBarsBehind_2 : decode b_Txt_dropBarsBehind 2 = .ok (.iconst 0, 1) := by decide +kernel
theorem d_Txt_dropBarsBehind_3 : decode b_Txt_dropBarsBehind 3 = .ok (.istore_n 2, 1) := by decide +kernel
theorem d_Txt_dropBarsBehind_4 : decode b_Txt_dropBarsBehind 4 = .ok (.iload_n 2, 1) := by decide +kernel
theorem d_Txt_dropBarsBehind_5 : decode b_Txt_dropBarsBehind 5 = .ok (.aload_n 0, 1) := by decide +kernel
theorem d_Txt_dropBarsBehind_6 : decode b_Txt_dropBarsBehind 6 = .ok (.getfield 18, 3) := by decide +kernel
theorem d_Txt_dropBarsBehind_9 : decode b_Txt_dropBarsBehind 9 = .ok (.if_icmp .ge 56, 3) := by decide +kernel
theorem d_Txt_dropBarsBehind_12 : decode b_Txt_dropBarsBehind 12 = .ok (.aload_n 0, 1) := by decide +kernel
theorem d_Txt_dropBarsBehind_13 : decode b_Txt_dropBarsBehind 13 = .ok (.getfield 9, 3) := by decide +kernel
theorem d_Txt_dropBarsBehind_16 : decode b_Txt_dropBarsBehind 16 = .ok (.iload_n 2, 1) := by decide +kernel
theorem d_Txt_dropBarsBehind_17 : decode b_Txt_dropBarsBehind 17 = .ok (.iaload, 1) := by decide +kernel
theorem d_Txt_dropBarsBehind_18 : decode b_Txt_dropBarsBehind 18 = .ok (.bipush 124, 2) := by decide +kernel
theorem d_Txt_dropBarsBehind_20 : decode b_Txt_dropBarsBehind 20 = .ok (.if_icmp .ne 24, 3) := by decide +kernel
theorem d_Txt_dropBarsBehind_23 : decode b_Txt_dropBarsBehind 23 = .ok (.iload_n 1, 1) := by decide +kernel
theorem d_Txt_dropBarsBehind_24 : decode b_Txt_dropBarsBehind 24 = .ok (.ifCond .eq 16, 3) := by decide +kernel
theorem d_Txt_dropBarsBehind_27 : decode b_Txt_dropBarsBehind 27 = .ok (.aload_n 0, 1) := by decide +kernel
theorem d_Txt_dropBarsBehind_28 : decode b_Txt_dropBarsBehind 28 = .ok (.getfield 9, 3) := by decide +kernel
theorem d_Txt_dropBarsBehind_31 : decode b_Txt_dropBarsBehind 31 = .ok (.iload_n 1, 1) := by decide +kernel
theorem d_Txt_dropBarsBehind_32 : decode b_Txt_dropBarsBehind 32 = .ok (.iconst 1, 1) := by decide +kernel
theorem d_Txt_dropBarsBehind_33 : decode b_Txt_dropBarsBehind 33 = .ok (.isub, 1) := by decide +kernel
theorem d_Txt_dropBarsBehind_34 : decode b_Txt_dropBarsBehind 34 = .ok (.iaload, 1) := by decide +kernel
theorem d_Txt_dropBarsBehind_35 : decode b_Txt_dropBarsBehind 35 = .ok (.bipush 124, 2) := by decide +kernel
theorem d_Txt_dropBarsBehind_37 : decode b_Txt_dropBarsBehind 37 = .ok (.if_icmp .ne 7, 3) := by decide +kernel
theorem d_Txt_dropBarsBehind_40 : decode b_Txt_dropBarsBehind 40 = .ok (.iconst 1, 1) := by decide +kernel
theorem d_Txt_dropBarsBehind_41 : decode b_Txt_dropBarsBehind 41 = .ok (.goto 4, 3) := by decide +kernel
theorem d_Txt_dropBarsBehind_44 : decode b_Txt_dropBarsBehind 44 = .ok (.iconst 0, 1) := by decide +kernel
theorem d_Txt_dropBarsBehind_45 : decode b_Txt_dropBarsBehind 45 = .ok (.istore_n 3, 1) := by decide +kernel
theorem d_Txt_dropBarsBehind_46 : decode b_Txt_dropBarsBehind 46 = .ok (.iload_n 3, 1) := by decide +kernel
theorem d_Txt_dropBarsBehind_47 : decode b_Txt_dropBarsBehind 47 = .ok (.ifCond .ne 12, 3) := by decide +kernel
theorem d_Txt_dropBarsBehind_50 : decode b_Txt_dropBarsBehind 50 = .ok (.aload_n 0, 1) := by decide +kernel
theorem d_Txt_dropBarsBehind_51 : decode b_Txt_dropBarsBehind 51 = .ok (.iload_n 2, 1) := by decide +kernel
theorem d_Txt_dropBarsBehind_52 : decode b_Txt_dropBarsBehind 52 = .ok (.iload_n 1, 1) := by decide +kernel
theorem d_Txt_dropBarsBehind_53 : decode b_Txt_dropBarsBehind 53 = .ok (.invokevirtual 35, 3) := by decide +kernel
theorem d_Txt_dropBarsBehind_56 : decode b_Txt_dropBarsBehind 56 = .ok (.iinc 1 1, 3) := by decide +kernel
theorem d_Txt_dropBarsBehind_59 : decode b_Txt_dropBarsBehind 59 = .ok (.iinc 2 1, 3) := by decide +kernel
theorem d_Txt_dropBarsBehind_62 : decode b_Txt_dropBarsBehind 62 = .ok (.goto (-58), 3) := by decide +kernel
theorem d_Txt_dropBarsBehind_65 : decode b_Txt_dropBarsBehind 65 = .ok (.aload_n 0, 1) := by decide +kernel
theorem d_Txt_dropBarsBehind_66 : decode b_Txt_dropBarsBehind 66 = .ok (.iload_n 1, 1) := by decide +kernel
theorem d_Txt_dropBarsBehind_67 : decode b_Txt_dropBarsBehind 67 = .ok (.putfield 18, 3) := by decide +kernel
theorem d_Txt_dropBarsBehind_70 : decode b_Txt_dropBarsBehind 70 = .ok (.return_, 1) := by decide +kernel
theorem d_Hyp_weigh_0 : decode b_Hyp_weigh 0 = .ok (.iconst 0, 1) := by decide +kernel
theorem d_Hyp_weigh_1 : decode b_Hyp_weigh 1 = .ok (.istore_n 2, 1) := by decide +kernel
theorem d_Hyp_weigh_2 : decode b_Hyp_weigh 2 = .ok (.iload_n 2, 1) := by decide +kernel
theorem d_Hyp_weigh_3 : decode b_Hyp_weigh 3 = .ok (.bipush 120, 2) := by decide +kernel
theorem d_Hyp_weigh_5 : decode b_Hyp_weigh 5 = .ok (.if_icmp .gt 16, 3) := by decide +kernel
theorem d_Hyp_weigh_8 : decode b_Hyp_weigh 8 = .ok (.aload_n 0, 1) := by decide +kernel
theorem d_Hyp_weigh_9 : decode b_Hyp_weigh 9 = .ok (.getfield 21, 3) := by decide +kernel
theorem d_Hyp_weigh_12 : decode b_Hyp_weigh 12 = .ok (.iload_n 2, 1) := by decide +kernel
theorem d_Hyp_weigh_13 : decode b_Hyp_weigh 13 = .ok (.iconst 0, 1) := by decide +kernel
theorem d_Hyp_weigh_14 : decode b_Hyp_weigh 14 = .ok (.iastore, 1) := by decide +kernel
theorem d_Hyp_weigh_15 : decode b_Hyp_weigh 15 = .ok (.iinc 2 1, 3) := by decide +kernel
theorem d_Hyp_weigh_18 : decode b_Hyp_weigh 18 = .ok (.goto (-16), 3) := by decide +kernel
theorem d_Hyp_weigh_21 : decode b_Hyp_weigh 21 = .ok (.iconst 0, 1) := by decide +kernel
theorem d_Hyp_weigh_22 : decode b_Hyp_weigh 22 = .ok (.istore_n 2, 1) := by decide +kernel
theorem d_Hyp_weigh_23 : decode b_Hyp_weigh 23 = .ok (.iconst 0, 1) := by decide +kernel
theorem d_Hyp_weigh_24 : decode b_Hyp_weigh 24 = .ok (.istore_n 3, 1) := by decide +kernel
theorem d_Hyp_weigh_25 : decode b_Hyp_weigh 25 = .ok (.iload_n 3, 1) := by decide +kernel
theorem d_Hyp_weigh_26 : decode b_Hyp_weigh 26 = .ok (.aload_n 1, 1) := by decide +kernel
theorem d_Hyp_weigh_27 : decode b_Hyp_weigh 27 = .ok (.getfield 34, 3) := by decide +kernel
theorem d_Hyp_weigh_30 : decode b_Hyp_weigh 30 = .ok (.if_icmp .gt 28, 3) := by decide +kernel
theorem d_Hyp_weigh_33 : decode b_Hyp_weigh 33 = .ok (.aload_n 1, 1) := by decide +kernel
theorem d_Hyp_weigh_34 : decode b_Hyp_weigh 34 = .ok (.iload_n 3, 1) := by decide +kernel
theorem d_Hyp_weigh_35 : decode b_Hyp_weigh 35 = .ok (.invokevirtual 37, 3) := by decide +kernel
theorem d_Hyp_weigh_38 : decode b_Hyp_weigh 38 = .ok (.ifCond .ne 14, 3) := by decide +kernel
theorem d_Hyp_weigh_41 : decode b_Hyp_weigh 41 = .ok (.aload_n 0, 1) := by decide +kernel
theorem d_Hyp_weigh_42 : decode b_Hyp_weigh 42 = .ok (.aload_n 1, 1) := by decide +kernel
theorem d_Hyp_weigh_43 : decode b_Hyp_weigh 43 = .ok (.iload_n 2, 1) := by decide +kernel
theorem d_Hyp_weigh_44 : decode b_Hyp_weigh 44 = .ok (.iload_n 3, 1) := by decide +kernel
theorem d_Hyp_weigh_45 : decode b_Hyp_weigh 45 = .ok (.invokevirtual 41, 3) := by decide +kernel
theorem d_Hyp_weigh_48 : decode b_Hyp_weigh 48 = .ok (.iload_n 3, 1) := by decide +kernel
theorem d_Hyp_weigh_49 : decode b_Hyp_weigh 49 = .ok (.iconst 1, 1) := by decide +kernel
theorem d_Hyp_weigh_50 : decode b_Hyp_weigh 50 = .ok (.iadd, 1) := by decide +kernel
theorem d_Hyp_weigh_51 : decode b_Hyp_weigh 51 = .ok (.istore_n 2, 1) := by decide +kernel
theorem d_Hyp_weigh_52 : decode b_Hyp_weigh 52 = .ok (.iinc 3 1, 3) := by decide +kernel
theorem d_Hyp_weigh_55 : decode b_Hyp_weigh 55 = .ok (.goto (-30), 3) := by decide +kernel
theorem d_Hyp_weigh_58 : decode b_Hyp_weigh 58 = .ok (.return_, 1) := by decide +kernel
theorem d_Txt_isLetterAt_0 : decode b_Txt_isLetterAt 0 = .ok (.iload_n 1, 1) := by decide +kernel
theorem d_Txt_isLetterAt_1 : decode b_Txt_isLetterAt 1 = .ok (.ifCond .lt 27, 3) := by decide +kernel
theorem d_Txt_isLetterAt_4 : decode b_Txt_isLetterAt 4 = .ok (.iload_n 1, 1) := by decide +kernel
theorem d_Txt_isLetterAt_5 : decode b_Txt_isLetterAt 5 = .ok (.aload_n 0, 1) := by decide +kernel
theorem d_Txt_isLetterAt_6 : decode b_Txt_isLetterAt 6 = .ok (.getfield 18, 3) := by decide +kernel
theorem d_Txt_isLetterAt_9 : decode b_Txt_isLetterAt 9 = .ok (.if_icmp .ge 19, 3) := by decide +kernel
theorem d_Txt_isLetterAt_12 : decode b_Txt_isLetterAt 12 = .ok (.aload_n 0, 1) := by decide +kernel
theorem d_Txt_isLetterAt_13 : decode b_Txt_isLetterAt 13 = .ok (.getfield 9, 3) := by decide +kernel
theorem d_Txt_isLetterAt_16 : decode b_Txt_isLetterAt 16 = .ok (.iload_n 1, 1) := by decide +kernel
theorem d_Txt_isLetterAt_17 : decode b_Txt_isLetterAt 17 = .ok (.iaload, 1) := by decide +kernel
theorem d_Txt_isLetterAt_18 : decode b_Txt_isLetterAt 18 = .ok (.invokestatic 22, 3) := by decide +kernel
theorem d_Txt_isLetterAt_21 : decode b_Txt_isLetterAt 21 = .ok (.ifCond .eq 7, 3) := by decide +kernel
theorem d_Txt_isLetterAt_24 : decode b_Txt_isLetterAt 24 = .ok (.iconst 1, 1) := by decide +kernel
theorem d_Txt_isLetterAt_25 : decode b_Txt_isLetterAt 25 = .ok (.goto 4, 3) := by decide +kernel
theorem d_Txt_isLetterAt_28 : decode b_Txt_isLetterAt 28 = .ok (.iconst 0, 1) := by decide +kernel
theorem d_Txt_isLetterAt_29 : decode b_Txt_isLetterAt 29 = .ok (.ireturn, 1) := by decide +kernel
theorem d_Hyp_weighWord_0 : decode b_Hyp_weighWord 0 = .ok (.iconst 0, 1) := by decide +kernel
theorem d_Hyp_weighWord_1 : decode b_Hyp_weighWord 1 = .ok (.istore 4, 2) := by decide +kernel
theorem d_Hyp_weighWord_3 : decode b_Hyp_weighWord 3 = .ok (.iload 4, 2) := by decide +kernel
theorem d_Hyp_weighWord_5 : decode b_Hyp_weighWord 5 = .ok (.aload_n 0, 1) := by decide +kernel
theorem d_Hyp_weighWord_6 : decode b_Hyp_weighWord 6 = .ok (.getfield 17, 3) := by decide +kernel
theorem d_Hyp_weighWord_9 : decode b_Hyp_weighWord 9 = .ok (.if_icmp .ge 66, 3) := by decide +kernel
theorem d_Hyp_weighWord_12 : decode b_Hyp_weighWord 12 = .ok (.aload_n 0, 1) := by decide +kernel
theorem d_Hyp_weighWord_13 : decode b_Hyp_weighWord 13 = .ok (.getfield 11, 3) := by decide +kernel
theorem d_Hyp_weighWord_16 : decode b_Hyp_weighWord 16 = .ok (.iload 4, 2) := by decide +kernel
theorem d_Hyp_weighWord_18 : decode b_Hyp_weighWord 18 = .ok (.aaload, 1) := by decide +kernel
theorem d_Hyp_weighWord_19 : decode b_Hyp_weighWord 19 = .ok (.astore 5, 2) := by decide +kernel
theorem d_Hyp_weighWord_21 : decode b_Hyp_weighWord 21 = .ok (.iload_n 2, 1) := by decide +kernel
theorem d_Hyp_weighWord_22 : decode b_Hyp_weighWord 22 = .ok (.iconst 1, 1) := by decide +kernel
theorem d_Hyp_weighWord_23 : decode b_Hyp_weighWord 23 = .ok (.isub, 1) := by decide +kernel
theorem d_Hyp_weighWord_24 : decode b_Hyp_weighWord 24 = .ok (.istore 6, 2) := by decide +kernel
theorem d_Hyp_weighWord_26 : decode b_Hyp_weighWord 26 = .ok (.iload 6, 2) := by decide +kernel
theorem d_Hyp_weighWord_28 : decode b_Hyp_weighWord 28 = .ok (.aload 5, 2) := by decide +kernel
theorem d_Hyp_weighWord_30 : decode b_Hyp_weighWord 30 = .ok (.getfield 45, 3) := by decide +kernel
theorem d_Hyp_weighWord_33 : decode b_Hyp_weighWord 33 = .ok (.iadd, 1) := by decide +kernel
theorem d_Hyp_weighWord_34 : decode b_Hyp_weighWord 34 = .ok (.iconst 1, 1) := by decide +kernel
theorem d_Hyp_weighWord_35 : decode b_Hyp_weighWord 35 = .ok (.isub, 1) := by decide +kernel
theorem d_Hyp_weighWord_36 : decode b_Hyp_weighWord 36 = .ok (.iload_n 3, 1) := by decide +kernel
theorem d_Hyp_weighWord_37 : decode b_Hyp_weighWord 37 = .ok (.if_icmp .gt 32, 3) := by decide +kernel
theorem d_Hyp_weighWord_40 : decode b_Hyp_weighWord 40 = .ok (.aload 5, 2) := by decide +kernel
theorem d_Hyp_weighWord_42 : decode b_Hyp_weighWord 42 = .ok (.aload_n 1, 1) := by decide +kernel
theorem d_Hyp_weighWord_43 : decode b_Hyp_weighWord 43 = .ok (.iload 6, 2) := by decide +kernel
theorem d_Hyp_weighWord_45 : decode b_Hyp_weighWord 45 = .ok (.iload_n 2, 1) := by decide +kernel
theorem d_Hyp_weighWord_46 : decode b_Hyp_weighWord 46 = .ok (.iload_n 3, 1) := by decide +kernel
theorem d_Hyp_weighWord_47 : decode b_Hyp_weighWord 47 = .ok (.invokestatic 46, 3) := by decide +kernel
theorem d_Hyp_weighWord_50 : decode b_Hyp_weighWord 50 = .ok (.ifCond .eq 13, 3) := by decide +kernel
theorem d_Hyp_weighWord_53 : decode b_Hyp_weighWord 53 = .ok (.aload_n 0, 1) := by decide +kernel
theorem d_Hyp_weighWord_54 : decode b_Hyp_weighWord 54 = .ok (.aload 5, 2) := by decide +kernel
theorem d_Hyp_weighWord_56 : decode b_Hyp_weighWord 56 = .ok (.iload 6, 2) := by decide +kernel
theorem d_Hyp_weighWord_58 : decode b_Hyp_weighWord 58 = .ok (.iload_n 2, 1) := by decide +kernel
theorem d_Hyp_weighWord_59 : decode b_Hyp_weighWord 59 = .ok (.iload_n 3, 1) := by decide +kernel
theorem d_Hyp_weighWord_60 : decode b_Hyp_weighWord 60 = .ok (.invokevirtual 50, 3) := by decide +kernel
theorem d_Hyp_weighWord_63 : decode b_Hyp_weighWord 63 = .ok (.iinc 6 1, 3) := by decide +kernel
theorem d_Hyp_weighWord_66 : decode b_Hyp_weighWord 66 = .ok (.goto (-40), 3) := by decide +kernel
theorem d_Hyp_weighWord_69 : decode b_Hyp_weighWord 69 = .ok (.iinc 4 1, 3) := by decide +kernel
theorem d_Hyp_weighWord_72 : decode b_Hyp_weighWord 72 = .ok (.goto (-69), 3) := by decide +kernel
theorem d_Hyp_weighWord_75 : decode b_Hyp_weighWord 75 = .ok (.return_, 1) := by decide +kernel
theorem d_Hyp_stands_0 : decode b_Hyp_stands 0 = .ok (.iconst 0, 1) := by decide +kernel
theorem d_Hyp_stands_1 : decode b_Hyp_stands 1 = .ok (.istore 5, 2) := by decide +kernel
theorem d_Hyp_stands_3 : decode b_Hyp_stands 3 = .ok (.iload 5, 2) := by decide +kernel
theorem d_Hyp_stands_5 : decode b_Hyp_stands 5 = .ok (.aload_n 0, 1) := by decide +kernel
theorem d_Hyp_stands_6 : decode b_Hyp_stands 6 = .ok (.getfield 45, 3) := by decide +kernel
theorem d_Hyp_stands_9 : decode b_Hyp_stands 9 = .ok (.if_icmp .ge 68, 3) := by decide +kernel
theorem d_Hyp_stands_12 : decode b_Hyp_stands 12 = .ok (.iload_n 2, 1) := by decide +kernel
theorem d_Hyp_stands_13 : decode b_Hyp_stands 13 = .ok (.iload 5, 2) := by decide +kernel
theorem d_Hyp_stands_15 : decode b_Hyp_stands 15 = .ok (.iadd, 1) := by decide +kernel
theorem d_Hyp_stands_16 : decode b_Hyp_stands 16 = .ok (.iload_n 3, 1) := by decide +kernel
theorem d_Hyp_stands_17 : decode b_Hyp_stands 17 = .ok (.if_icmp .lt 16, 3) := by decide +kernel
theorem d_Hyp_stands_20 : decode b_Hyp_stands 20 = .ok (.iload_n 2, 1) := by decide +kernel
theorem d_Hyp_stands_21 : decode b_Hyp_stands 21 = .ok (.iload 5, 2) := by decide +kernel
theorem d_Hyp_stands_23 : decode b_Hyp_stands 23 = .ok (.iadd, 1) := by decide +kernel
theorem d_Hyp_stands_24 : decode b_Hyp_stands 24 = .ok (.iload 4, 2) := by decide +kernel
theorem d_Hyp_stands_26 : decode b_Hyp_stands 26 = .ok (.if_icmp .ge 7, 3) := by decide +kernel
theorem d_Hyp_stands_29 : decode b_Hyp_stands 29 = .ok (.iconst 1, 1) := by decide +kernel
theorem d_Hyp_stands_30 : decode b_Hyp_stands 30 = .ok (.goto 4, 3) := by decide +kernel
theorem d_Hyp_stands_33 : decode b_Hyp_stands 33 = .ok (.iconst 0, 1) := by decide +kernel
theorem d_Hyp_stands_34 : decode b_Hyp_stands 34 = .ok (.istore 6, 2) := by decide +kernel
theorem d_Hyp_stands_36 : decode b_Hyp_stands 36 = .ok (.iload 6, 2) := by decide +kernel
theorem d_Hyp_stands_38 : decode b_Hyp_stands 38 = .ok (.ifCond .eq 15, 3) := by decide +kernel
theorem d_Hyp_stands_41 : decode b_Hyp_stands 41 = .ok (.aload_n 1, 1) := by decide +kernel
theorem d_Hyp_stands_42 : decode b_Hyp_stands 42 = .ok (.getfield 54, 3) := by decide +kernel
theorem d_Hyp_stands_45 : decode b_Hyp_stands 45 = .ok (.iload_n 2, 1) := by decide +kernel
theorem d_Hyp_stands_46 : decode b_Hyp_stands 46 = .ok (.iload 5, 2) := by decide +kernel
theorem d_Hyp_stands_48 : decode b_Hyp_stands 48 = .ok (.iadd, 1) := by decide +kernel
theorem d_Hyp_stands_49 : decode b_Hyp_stands 49 = .ok (.iaload, 1) := by decide +kernel
theorem d_Hyp_stands_50 : decode b_Hyp_stands 50 = .ok (.goto 5, 3) := by decide +kernel
theorem d_Hyp_stands_53 : decode b_Hyp_stands 53 = .ok (.bipush 46, 2) := by decide +kernel
theorem d_Hyp_stands_55 : decode b_Hyp_stands 55 = .ok (.istore 7, 2) := by decide +kernel
theorem d_Hyp_stands_57 : decode b_Hyp_stands 57 = .ok (.iload 7, 2) := by decide +kernel
theorem d_Hyp_stands_59 : decode b_Hyp_stands 59 = .ok (.aload_n 0, 1) := by decide +kernel
theorem d_Hyp_stands_60 : decode b_Hyp_stands 60 = .ok (.getfield 57, 3) := by decide +kernel
theorem d_Hyp_stands_63 : decode b_Hyp_stands 63 = .ok (.iload 5, 2) := by decide +kernel
theorem d_Hyp_stands_65 : decode b_Hyp_stands 65 = .ok (.iaload, 1) := by decide +kernel
theorem d_Hyp_stands_66 : decode b_Hyp_stands 66 = .ok (.if_icmp .eq 5, 3) := by decide +kernel
theorem d_Hyp_stands_69 : decode b_Hyp_stands 69 = .ok (.iconst 0, 1) := by decide +kernel
theorem d_Hyp_stands_70 : decode b_Hyp_stands 70 = .ok (.ireturn, 1) := by decide +kernel
theorem d_Hyp_stands_71 : decode b_Hyp_stands 71 = .ok (.iinc 5 1, 3) := by decide +kernel
theorem d_Hyp_stands_74 : decode b_Hyp_stands 74 = .ok (.goto (-71), 3) := by decide +kernel
theorem d_Hyp_stands_77 : decode b_Hyp_stands 77 = .ok (.iconst 1, 1) := by decide +kernel
theorem d_Hyp_stands_78 : decode b_Hyp_stands 78 = .ok (.ireturn, 1) := by decide +kernel
theorem d_Hyp_raise_0 : decode b_Hyp_raise 0 = .ok (.iconst 0, 1) := by decide +kernel
theorem d_Hyp_raise_1 : decode b_Hyp_raise 1 = .ok (.istore 5, 2) := by decide +kernel
theorem d_Hyp_raise_3 : decode b_Hyp_raise 3 = .ok (.iload 5, 2) := by decide +kernel
theorem d_Hyp_raise_5 : decode b_Hyp_raise 5 = .ok (.aload_n 1, 1) := by decide +kernel
theorem d_Hyp_raise_6 : decode b_Hyp_raise 6 = .ok (.getfield 45, 3) := by decide +kernel
theorem d_Hyp_raise_9 : decode b_Hyp_raise 9 = .ok (.if_icmp .gt 56, 3) := by decide +kernel
theorem d_Hyp_raise_12 : decode b_Hyp_raise 12 = .ok (.iload_n 2, 1) := by decide +kernel
theorem d_Hyp_raise_13 : decode b_Hyp_raise 13 = .ok (.iload 5, 2) := by decide +kernel
theorem d_Hyp_raise_15 : decode b_Hyp_raise 15 = .ok (.iadd, 1) := by decide +kernel
theorem d_Hyp_raise_16 : decode b_Hyp_raise 16 = .ok (.istore 6, 2) := by decide +kernel
theorem d_Hyp_raise_18 : decode b_Hyp_raise 18 = .ok (.iload 6, 2) := by decide +kernel
theorem d_Hyp_raise_20 : decode b_Hyp_raise 20 = .ok (.iload_n 3, 1) := by decide +kernel
theorem d_Hyp_raise_21 : decode b_Hyp_raise 21 = .ok (.iconst 2, 1) := by decide +kernel
theorem d_Hyp_raise_22 : decode b_Hyp_raise 22 = .ok (.iadd, 1) := by decide +kernel
theorem d_Hyp_raise_23 : decode b_Hyp_raise 23 = .ok (.if_icmp .lt 36, 3) := by decide +kernel
theorem d_Hyp_raise_26 : decode b_Hyp_raise 26 = .ok (.iload 6, 2) := by decide +kernel
theorem d_Hyp_raise_28 : decode b_Hyp_raise 28 = .ok (.iload 4, 2) := by decide +kernel
theorem d_Hyp_raise_30 : decode b_Hyp_raise 30 = .ok (.iconst 2, 1) := by decide +kernel
theorem d_Hyp_raise_31 : decode b_Hyp_raise 31 = .ok (.isub, 1) := by decide +kernel
theorem d_Hyp_raise_32 : decode b_Hyp_raise 32 = .ok (.if_icmp .gt 27, 3) := by decide +kernel
theorem d_Hyp_raise_35 : decode b_Hyp_raise 35 = .ok (.aload_n 0, 1) := by decide +kernel
theorem d_Hyp_raise_36 : decode b_Hyp_raise 36 = .ok (.getfield 21, 3) := by decide +kernel
theorem d_Hyp_raise_39 : decode b_Hyp_raise 39 = .ok (.iload 6, 2) := by decide +kernel
theorem d_Hyp_raise_41 : decode b_Hyp_raise 41 = .ok (.aload_n 0, 1) := by decide +kernel
theorem d_Hyp_raise_42 : decode b_Hyp_raise 42 = .ok (.getfield 21, 3) := by decide +kernel
theorem d_Hyp_raise_45 : decode b_Hyp_raise 45 = .ok (.iload 6, 2) := by decide +kernel
theorem d_Hyp_raise_47 : decode b_Hyp_raise 47 = .ok (.iaload, 1) := by decide +kernel
theorem d_Hyp_raise_48 : decode b_Hyp_raise 48 = .ok (.aload_n 1, 1) := by decide +kernel
theorem d_Hyp_raise_49 : decode b_Hyp_raise 49 = .ok (.getfield 60, 3) := by decide +kernel
theorem d_Hyp_raise_52 : decode b_Hyp_raise 52 = .ok (.iload 5, 2) := by decide +kernel
theorem d_Hyp_raise_54 : decode b_Hyp_raise 54 = .ok (.iaload, 1) := by decide +kernel
theorem d_Hyp_raise_55 : decode b_Hyp_raise 55 = .ok (.invokestatic 61, 3) := by decide +kernel
theorem d_Hyp_raise_58 : decode b_Hyp_raise 58 = .ok (.iastore, 1) := by decide +kernel
theorem d_Hyp_raise_59 : decode b_Hyp_raise 59 = .ok (.iinc 5 1, 3) := by decide +kernel
theorem d_Hyp_raise_62 : decode b_Hyp_raise 62 = .ok (.goto (-59), 3) := by decide +kernel
theorem d_Hyp_raise_65 : decode b_Hyp_raise 65 = .ok (.return_, 1) := by decide +kernel
theorem d_Brk_find_0 : decode b_Brk_find 0 = .ok (.aload_n 0, 1) := by decide +kernel
theorem d_Brk_find_1 : decode b_Brk_find 1 = .ok (.iconst 0, 1) := by decide +kernel
theorem d_Brk_find_2 : decode b_Brk_find 2 = .ok (.putfield 21, 3) := by decide +kernel
theorem d_Brk_find_5 : decode b_Brk_find 5 = .ok (.aload_n 0, 1) := by decide +kernel
theorem d_Brk_find_6 : decode b_Brk_find 6 = .ok (.getfield 9, 3) := by decide +kernel
theorem d_Brk_find_9 : decode b_Brk_find 9 = .ok (.iconst 0, 1) := by decide +kernel
theorem d_Brk_find_10 : decode b_Brk_find 10 = .ok (.iconst (-1), 1) := by decide +kernel
theorem d_Brk_find_11 : decode b_Brk_find 11 = .ok (.iastore, 1) := by decide +kernel
theorem d_Brk_find_12 : decode b_Brk_find 12 = .ok (.aload_n 0, 1) := by decide +kernel
theorem d_Brk_find_13 : decode b_Brk_find 13 = .ok (.getfield 15, 3) := by decide +kernel
theorem d_Brk_find_16 : decode b_Brk_find 16 = .ok (.iconst 0, 1) := by decide +kernel
theorem d_Brk_find_17 : decode b_Brk_find 17 = .ok (.iconst 0, 1) := by decide +kernel
theorem d_Brk_find_18 : decode b_Brk_find 18 = .ok (.iastore, 1) := by decide +kernel
theorem d_Brk_find_19 : decode b_Brk_find 19 = .ok (.aload_n 0, 1) := by decide +kernel
theorem d_Brk_find_20 : decode b_Brk_find 20 = .ok (.getfield 18, 3) := by decide +kernel
theorem d_Brk_find_23 : decode b_Brk_find 23 = .ok (.iconst 0, 1) := by decide +kernel
theorem d_Brk_find_24 : decode b_Brk_find 24 = .ok (.iconst 0, 1) := by decide +kernel
theorem d_Brk_find_25 : decode b_Brk_find 25 = .ok (.iastore, 1) := by decide +kernel
theorem d_Brk_find_26 : decode b_Brk_find 26 = .ok (.iconst 0, 1) := by decide +kernel
theorem d_Brk_find_27 : decode b_Brk_find 27 = .ok (.istore_n 3, 1) := by decide +kernel
theorem d_Brk_find_28 : decode b_Brk_find 28 = .ok (.iload_n 3, 1) := by decide +kernel
theorem d_Brk_find_29 : decode b_Brk_find 29 = .ok (.aload_n 1, 1) := by decide +kernel
theorem d_Brk_find_30 : decode b_Brk_find 30 = .ok (.getfield 25, 3) := by decide +kernel
theorem d_Brk_find_33 : decode b_Brk_find 33 = .ok (.if_icmp .ge 38, 3) := by decide +kernel
theorem d_Brk_find_36 : decode b_Brk_find 36 = .ok (.aload_n 2, 1) := by decide +kernel
theorem d_Brk_find_37 : decode b_Brk_find 37 = .ok (.iload_n 3, 1) := by decide +kernel
theorem d_Brk_find_38 : decode b_Brk_find 38 = .ok (.invokevirtual 28, 3) := by decide +kernel
theorem d_Brk_find_41 : decode b_Brk_find 41 = .ok (.ifCond .eq 13, 3) := by decide +kernel
theorem d_Brk_find_44 : decode b_Brk_find 44 = .ok (.aload_n 0, 1) := by decide +kernel
theorem d_Brk_find_45 : decode b_Brk_find 45 = .ok (.iconst 2, 1) := by decide +kernel
theorem d_Brk_find_46 : decode b_Brk_find 46 = .ok (.iload_n 3, 1) := by decide +kernel
theorem d_Brk_find_47 : decode b_Brk_find 47 = .ok (.iload_n 3, 1) := by decide +kernel
theorem d_Brk_find_48 : decode b_Brk_find 48 = .ok (.invokevirtual 34, 3) := by decide +kernel
theorem d_Brk_find_51 : decode b_Brk_find 51 = .ok (.ifCond .eq 12, 3) := by decide +kernel
theorem d_Brk_find_54 : decode b_Brk_find 54 = .ok (.aload_n 0, 1) := by decide +kernel
theorem d_Brk_find_55 : decode b_Brk_find 55 = .ok (.aload_n 1, 1) := by decide +kernel
theorem d_Brk_find_56 : decode b_Brk_find 56 = .ok (.iload_n 3, 1) := by decide +kernel
theorem d_Brk_find_57 : decode b_Brk_find 57 = .ok (.invokevirtual 38, 3) := by decide +kernel
theorem d_Brk_find_60 : decode b_Brk_find 60 = .ok (.ifCond .ne 5, 3) := by decide +kernel
theorem d_Brk_find_63 : decode b_Brk_find 63 = .ok (.iconst 0, 1) := by decide +kernel
theorem d_Brk_find_64 : decode b_Brk_find 64 = .ok (.ireturn, 1) := by decide +kernel
theorem d_Brk_find_65 : decode b_Brk_find 65 = .ok (.iinc 3 1, 3) := by decide +kernel
theorem d_Brk_find_68 : decode b_Brk_find 68 = .ok (.goto (-40), 3) := by decide +kernel
theorem d_Brk_find_71 : decode b_Brk_find 71 = .ok (.aload_n 1, 1) := by decide +kernel
theorem d_Brk_find_72 : decode b_Brk_find 72 = .ok (.getfield 25, 3) := by decide +kernel
theorem d_Brk_find_75 : decode b_Brk_find 75 = .ok (.ifCond .eq 19, 3) := by decide +kernel
theorem d_Brk_find_78 : decode b_Brk_find 78 = .ok (.aload_n 0, 1) := by decide +kernel
theorem d_Brk_find_79 : decode b_Brk_find 79 = .ok (.iconst 4, 1) := by decide +kernel
theorem d_Brk_find_80 : decode b_Brk_find 80 = .ok (.aload_n 1, 1) := by decide +kernel
theorem d_Brk_find_81 : decode b_Brk_find 81 = .ok (.getfield 25, 3) := by decide +kernel
theorem d_Brk_find_84 : decode b_Brk_find 84 = .ok (.aload_n 1, 1) := by decide +kernel
theorem d_Brk_find_85 : decode b_Brk_find 85 = .ok (.getfield 25, 3) := by decide +kernel
theorem d_Brk_find_88 : decode b_Brk_find 88 = .ok (.invokevirtual 34, 3) := by decide +kernel
theorem d_Brk_find_91 : decode b_Brk_find 91 = .ok (.ifCond .eq 7, 3) := by decide +kernel
theorem d_Brk_find_94 : decode b_Brk_find 94 = .ok (.iconst 1, 1) := by decide +kernel
theorem d_Brk_find_95 : decode b_Brk_find 95 = .ok (.goto 4, 3) := by decide +kernel
theorem d_Brk_find_98 : decode b_Brk_find 98 = .ok (.iconst 0, 1) := by decide +kernel
theorem d_Brk_find_99 : decode b_Brk_find 99 = .ok (.ireturn, 1) := by decide +kernel
theorem d_Hyp_isPoint_0 : decode b_Hyp_isPoint 0 = .ok (.aload_n 0, 1) := by decide +kernel
theorem d_Hyp_isPoint_1 : decode b_Hyp_isPoint 1 = .ok (.getfield 21, 3) := by decide +kernel
theorem d_Hyp_isPoint_4 : decode b_Hyp_isPoint 4 = .ok (.iload_n 1, 1) := by decide +kernel
theorem d_Hyp_isPoint_5 : decode b_Hyp_isPoint 5 = .ok (.iaload, 1) := by decide +kernel
theorem d_Hyp_isPoint_6 : decode b_Hyp_isPoint 6 = .ok (.iconst 2, 1) := by decide +kernel
theorem d_Hyp_isPoint_7 : decode b_Hyp_isPoint 7 = .ok (.irem, 1) := by decide +kernel
theorem d_Hyp_isPoint_8 : decode b_Hyp_isPoint 8 = .ok (.iconst 1, 1) := by decide +kernel
theorem d_Hyp_isPoint_9 : decode b_Hyp_isPoint 9 = .ok (.if_icmp .ne 7, 3) := by decide +kernel
theorem d_Hyp_isPoint_12 : decode b_Hyp_isPoint 12 = .ok (.iconst 1, 1) := by decide +kernel
theorem d_Hyp_isPoint_13 : decode b_Hyp_isPoint 13 = .ok (.goto 4, 3) := by decide +kernel
theorem d_Hyp_isPoint_16 : decode b_Hyp_isPoint 16 = .ok (.iconst 0, 1) := by decide +kernel
theorem d_Hyp_isPoint_17 : decode b_Hyp_isPoint 17 = .ok (.ireturn, 1) := by decide +kernel
theorem d_Brk_add_0 : decode b_Brk_add 0 = .ok (.aload_n 0, 1) := by decide +kernel
theorem d_Brk_add_1 : decode b_Brk_add 1 = .ok (.getfield 21, 3) := by decide +kernel
theorem d_Brk_add_4 : decode b_Brk_add 4 = .ok (.bipush 24, 2) := by decide +kernel
theorem d_Brk_add_6 : decode b_Brk_add 6 = .ok (.if_icmp .ne 5, 3) := by decide +kernel
theorem d_Brk_add_9 : decode b_Brk_add 9 = .ok (.iconst 0, 1) := by decide +kernel
theorem d_Brk_add_10 : decode b_Brk_add 10 = .ok (.ireturn, 1) := by decide +kernel
theorem d_Brk_add_11 : decode b_Brk_add 11 = .ok (.aload_n 0, 1) := by decide +kernel
theorem d_Brk_add_12 : decode b_Brk_add 12 = .ok (.dup, 1) := by decide +kernel
theorem d_Brk_add_13 : decode b_Brk_add 13 = .ok (.getfield 21, 3) := by decide +kernel
theorem d_Brk_add_16 : decode b_Brk_add 16 = .ok (.iconst 1, 1) := by decide +kernel
theorem d_Brk_add_17 : decode b_Brk_add 17 = .ok (.iadd, 1) := by decide +kernel
theorem d_Brk_add_18 : decode b_Brk_add 18 = .ok (.putfield 21, 3) := by decide +kernel
theorem d_Brk_add_21 : decode b_Brk_add 21 = .ok (.aload_n 0, 1) := by decide +kernel
theorem d_Brk_add_22 : decode b_Brk_add 22 = .ok (.getfield 9, 3) := by decide +kernel
theorem d_Brk_add_25 : decode b_Brk_add 25 = .ok (.aload_n 0, 1) := by decide +kernel
theorem d_Brk_add_26 : decode b_Brk_add 26 = .ok (.getfield 21, 3) := by decide +kernel
theorem d_Brk_add_29 : decode b_Brk_add 29 = .ok (.iload_n 1, 1) := by decide +kernel
theorem d_Brk_add_30 : decode b_Brk_add 30 = .ok (.iastore, 1) := by decide +kernel
theorem d_Brk_add_31 : decode b_Brk_add 31 = .ok (.aload_n 0, 1) := by decide +kernel
theorem d_Brk_add_32 : decode b_Brk_add 32 = .ok (.getfield 15, 3) := by decide +kernel
theorem d_Brk_add_35 : decode b_Brk_add 35 = .ok (.aload_n 0, 1) := by decide +kernel
theorem d_Brk_add_36 : decode b_Brk_add 36 = .ok (.getfield 21, 3) := by decide +kernel
theorem d_Brk_add_39 : decode b_Brk_add 39 = .ok (.iload_n 2, 1) := by decide +kernel
theorem d_Brk_add_40 : decode b_Brk_add 40 = .ok (.iastore, 1) := by decide +kernel
theorem d_Brk_add_41 : decode b_Brk_add 41 = .ok (.aload_n 0, 1) := by decide +kernel
theorem d_Brk_add_42 : decode b_Brk_add 42 = .ok (.getfield 18, 3) := by decide +kernel
theorem d_Brk_add_45 : decode b_Brk_add 45 = .ok (.aload_n 0, 1) := by decide +kernel
theorem d_Brk_add_46 : decode b_Brk_add 46 = .ok (.getfield 21, 3) := by decide +kernel
theorem d_Brk_add_49 : decode b_Brk_add 49 = .ok (.iload_n 3, 1) := by decide +kernel
theorem d_Brk_add_50 : decode b_Brk_add 50 = .ok (.iastore, 1) := by decide +kernel
theorem d_Brk_add_51 : decode b_Brk_add 51 = .ok (.iconst 1, 1) := by decide +kernel
theorem d_Brk_add_52 : decode b_Brk_add 52 = .ok (.ireturn, 1) := by decide +kernel
theorem d_Brk_addAt_0 : decode b_Brk_addAt 0 = .ok (.aload_n 1, 1) := by decide +kernel
theorem d_Brk_addAt_1 : decode b_Brk_addAt 1 = .ok (.getfield 42, 3) := by decide +kernel
theorem d_Brk_addAt_4 : decode b_Brk_addAt 4 = .ok (.iload_n 2, 1) := by decide +kernel
theorem d_Brk_addAt_5 : decode b_Brk_addAt 5 = .ok (.iaload, 1) := by decide +kernel
theorem d_Brk_addAt_6 : decode b_Brk_addAt 6 = .ok (.istore_n 3, 1) := by decide +kernel
theorem d_Brk_addAt_7 : decode b_Brk_addAt 7 = .ok (.iload_n 3, 1) := by decide +kernel
theorem d_Brk_addAt_8 : decode b_Brk_addAt 8 = .ok (.bipush 32, 2) := by decide +kernel
theorem d_Brk_addAt_10 : decode b_Brk_addAt 10 = .ok (.if_icmp .ne 13, 3) := by decide +kernel
theorem d_Brk_addAt_13 : decode b_Brk_addAt 13 = .ok (.aload_n 0, 1) := by decide +kernel
theorem d_Brk_addAt_14 : decode b_Brk_addAt 14 = .ok (.iconst 0, 1) := by decide +kernel
theorem d_Brk_addAt_15 : decode b_Brk_addAt 15 = .ok (.iload_n 2, 1) := by decide +kernel
theorem d_Brk_addAt_16 : decode b_Brk_addAt 16 = .ok (.iload_n 2, 1) := by decide +kernel
theorem d_Brk_addAt_17 : decode b_Brk_addAt 17 = .ok (.iconst 1, 1) := by decide +kernel
theorem d_Brk_addAt_18 : decode b_Brk_addAt 18 = .ok (.iadd, 1) := by decide +kernel
theorem d_Brk_addAt_19 : decode b_Brk_addAt 19 = .ok (.invokevirtual 34, 3) := by decide +kernel
theorem d_Brk_addAt_22 : decode b_Brk_addAt 22 = .ok (.ireturn, 1) := by decide +kernel
theorem d_Brk_addAt_23 : decode b_Brk_addAt 23 = .ok (.iload_n 3, 1) := by decide +kernel
theorem d_Brk_addAt_24 : decode b_Brk_addAt 24 = .ok (.bipush 124, 2) := by decide +kernel
theorem d_Brk_addAt_26 : decode b_Brk_addAt 26 = .ok (.if_icmp .ne 13, 3) := by decide +kernel
theorem d_Brk_addAt_29 : decode b_Brk_addAt 29 = .ok (.aload_n 0, 1) := by decide +kernel
theorem d_Brk_addAt_30 : decode b_Brk_addAt 30 = .ok (.iconst 3, 1) := by decide +kernel
theorem d_Brk_addAt_31 : decode b_Brk_addAt 31 = .ok (.iload_n 2, 1) := by decide +kernel
theorem d_Brk_addAt_32 : decode b_Brk_addAt 32 = .ok (.iload_n 2, 1) := by decide +kernel
theorem d_Brk_addAt_33 : decode b_Brk_addAt 33 = .ok (.iconst 1, 1) := by decide +kernel
theorem d_Brk_addAt_34 : decode b_Brk_addAt 34 = .ok (.iadd, 1) := by decide +kernel
theorem d_Brk_addAt_35 : decode b_Brk_addAt 35 = .ok (.invokevirtual 34, 3) := by decide +kernel
theorem d_Brk_addAt_38 : decode b_Brk_addAt 38 = .ok (.ireturn, 1) := by decide +kernel
theorem d_Brk_addAt_39 : decode b_Brk_addAt 39 = .ok (.iload_n 3, 1) := by decide +kernel
theorem d_Brk_addAt_40 : decode b_Brk_addAt 40 = .ok (.bipush 45, 2) := by decide +kernel
theorem d_Brk_addAt_42 : decode b_Brk_addAt 42 = .ok (.if_icmp .ne 41, 3) := by decide +kernel
theorem d_Brk_addAt_45 : decode b_Brk_addAt 45 = .ok (.iload_n 2, 1) := by decide +kernel
theorem d_Brk_addAt_46 : decode b_Brk_addAt 46 = .ok (.iconst 1, 1) := by decide +kernel
theorem d_Brk_addAt_47 : decode b_Brk_addAt 47 = .ok (.iadd, 1) := by decide +kernel
theorem d_Brk_addAt_48 : decode b_Brk_addAt 48 = .ok (.aload_n 1, 1) := by decide +kernel
theorem d_Brk_addAt_49 : decode b_Brk_addAt 49 = .ok (.getfield 25, 3) := by decide +kernel
theorem d_Brk_addAt_52 : decode b_Brk_addAt 52 = .ok (.if_icmp .ge 31, 3) := by decide +kernel
theorem d_Brk_addAt_55 : decode b_Brk_addAt 55 = .ok (.aload_n 0, 1) := by decide +kernel
theorem d_Brk_addAt_56 : decode b_Brk_addAt 56 = .ok (.iconst 1, 1) := by decide +kernel
theorem d_Brk_addAt_57 : decode b_Brk_addAt 57 = .ok (.iload_n 2, 1) := by decide +kernel
theorem d_Brk_addAt_58 : decode b_Brk_addAt 58 = .ok (.iconst 1, 1) := by decide +kernel
theorem d_Brk_addAt_59 : decode b_Brk_addAt 59 = .ok (.iadd, 1) := by decide +kernel
theorem d_Brk_addAt_60 : decode b_Brk_addAt 60 = .ok (.aload_n 1, 1) := by decide +kernel
theorem d_Brk_addAt_61 : decode b_Brk_addAt 61 = .ok (.iload_n 2, 1) := by decide +kernel
theorem d_Brk_addAt_62 : decode b_Brk_addAt 62 = .ok (.iconst 1, 1) := by decide +kernel
theorem d_Brk_addAt_63 : decode b_Brk_addAt 63 = .ok (.iadd, 1) := by decide +kernel
theorem d_Brk_addAt_64 : decode b_Brk_addAt 64 = .ok (.invokevirtual 45, 3) := by decide +kernel
theorem d_Brk_addAt_67 : decode b_Brk_addAt 67 = .ok (.ifCond .eq 9, 3) := by decide +kernel
theorem d_Brk_addAt_70 : decode b_Brk_addAt 70 = .ok (.iload_n 2, 1) := by decide +kernel
theorem d_Brk_addAt_71 : decode b_Brk_addAt 71 = .ok (.iconst 2, 1) := by decide +kernel
theorem d_Brk_addAt_72 : decode b_Brk_addAt 72 = .ok (.iadd, 1) := by decide +kernel
theorem d_Brk_addAt_73 : decode b_Brk_addAt 73 = .ok (.goto 6, 3) := by decide +kernel
theorem d_Brk_addAt_76 : decode b_Brk_addAt 76 = .ok (.iload_n 2, 1) := by decide +kernel
theorem d_Brk_addAt_77 : decode b_Brk_addAt 77 = .ok (.iconst 1, 1) := by decide +kernel
theorem d_Brk_addAt_78 : decode b_Brk_addAt 78 = .ok (.iadd, 1) := by decide +kernel
theorem d_Brk_addAt_79 : decode b_Brk_addAt 79 = .ok (.invokevirtual 34, 3) := by decide +kernel
theorem d_Brk_addAt_82 : decode b_Brk_addAt 82 = .ok (.ireturn, 1) := by decide +kernel
theorem d_Brk_addAt_83 : decode b_Brk_addAt 83 = .ok (.iconst 1, 1) := by decide +kernel
theorem d_Brk_addAt_84 : decode b_Brk_addAt 84 = .ok (.ireturn, 1) := by decide +kernel
theorem d_Txt_isBlank_0 : decode b_Txt_isBlank 0 = .ok (.iload_n 1, 1) := by decide +kernel
theorem d_Txt_isBlank_1 : decode b_Txt_isBlank 1 = .ok (.ifCond .lt 26, 3) := by decide +kernel
theorem d_Txt_isBlank_4 : decode b_Txt_isBlank 4 = .ok (.iload_n 1, 1) := by decide +kernel
theorem d_Txt_isBlank_5 : decode b_Txt_isBlank 5 = .ok (.aload_n 0, 1) := by decide +kernel
theorem d_Txt_isBlank_6 : decode b_Txt_isBlank 6 = .ok (.getfield 18, 3) := by decide +kernel
theorem d_Txt_isBlank_9 : decode b_Txt_isBlank 9 = .ok (.if_icmp .ge 18, 3) := by decide +kernel
theorem d_Txt_isBlank_12 : decode b_Txt_isBlank 12 = .ok (.aload_n 0, 1) := by decide +kernel
theorem d_Txt_isBlank_13 : decode b_Txt_isBlank 13 = .ok (.getfield 9, 3) := by decide +kernel
theorem d_Txt_isBlank_16 : decode b_Txt_isBlank 16 = .ok (.iload_n 1, 1) := by decide +kernel
theorem d_Txt_isBlank_17 : decode b_Txt_isBlank 17 = .ok (.iaload, 1) := by decide +kernel
theorem d_Txt_isBlank_18 : decode b_Txt_isBlank 18 = .ok (.bipush 32, 2) := by decide +kernel
theorem d_Txt_isBlank_20 : decode b_Txt_isBlank 20 = .ok (.if_icmp .ne 7, 3) := by decide +kernel
theorem d_Txt_isBlank_23 : decode b_Txt_isBlank 23 = .ok (.iconst 1, 1) := by decide +kernel
theorem d_Txt_isBlank_24 : decode b_Txt_isBlank 24 = .ok (.goto 4, 3) := by decide +kernel
theorem d_Txt_isBlank_27 : decode b_Txt_isBlank 27 = .ok (.iconst 0, 1) := by decide +kernel
theorem d_Txt_isBlank_28 : decode b_Txt_isBlank 28 = .ok (.ireturn, 1) := by decide +kernel
theorem d_Sum_addUp_0 : decode b_Sum_addUp 0 = .ok (.iconst 0, 1) := by decide +kernel
theorem d_Sum_addUp_1 : decode b_Sum_addUp 1 = .ok (.istore_n 3, 1) := by decide +kernel
theorem d_Sum_addUp_2 : decode b_Sum_addUp 2 = .ok (.iload_n 3, 1) := by decide +kernel
theorem d_Sum_addUp_3 : decode b_Sum_addUp 3 = .ok (.aload_n 1, 1) := by decide +kernel
theorem d_Sum_addUp_4 : decode b_Sum_addUp 4 = .ok (.getfield 27, 3) := by decide +kernel
theorem d_Sum_addUp_7 : decode b_Sum_addUp 7 = .ok (.if_icmp .ge 155, 3) := by decide +kernel
theorem d_Sum_addUp_10 : decode b_Sum_addUp 10 = .ok (.aload_n 1, 1) := by decide +kernel
theorem d_Sum_addUp_11 : decode b_Sum_addUp 11 = .ok (.getfield 33, 3) := by decide +kernel
theorem d_Sum_addUp_14 : decode b_Sum_addUp 14 = .ok (.iload_n 3, 1) := by decide +kernel
theorem d_Sum_addUp_15 : decode b_Sum_addUp 15 = .ok (.iaload, 1) := by decide +kernel
theorem d_Sum_addUp_16 : decode b_Sum_addUp 16 = .ok (.istore 4, 2) := by decide +kernel
theorem d_Sum_addUp_18 : decode b_Sum_addUp 18 = .ok (.aload_n 1, 1) := by decide +kernel
theorem d_Sum_addUp_19 : decode b_Sum_addUp 19 = .ok (.getfield 36, 3) := by decide +kernel
theorem d_Sum_addUp_22 : decode b_Sum_addUp 22 = .ok (.iload_n 3, 1) := by decide +kernel
theorem d_Sum_addUp_23 : decode b_Sum_addUp 23 = .ok (.iaload, 1) := by decide +kernel
theorem d_Sum_addUp_24 : decode b_Sum_addUp 24 = .ok (.istore 5, 2) := by decide +kernel
theorem d_Sum_addUp_26 : decode b_Sum_addUp 26 = .ok (.aload_n 0, 1) := by decide +kernel
theorem d_Sum_addUp_27 : decode b_Sum_addUp 27 = .ok (.getfield 9, 3) := by decide +kernel
theorem d_Sum_addUp_30 : decode b_Sum_addUp 30 = .ok (.iload_n 3, 1) := by decide +kernel
theorem d_Sum_addUp_31 : decode b_Sum_addUp 31 = .ok (.iconst 1, 1) := by decide +kernel
theorem d_Sum_addUp_32 : decode b_Sum_addUp 32 = .ok (.iadd, 1) := by decide +kernel
theorem d_Sum_addUp_33 : decode b_Sum_addUp 33 = .ok (.aload_n 0, 1) := by decide +kernel
theorem d_Sum_addUp_34 : decode b_Sum_addUp 34 = .ok (.getfield 9, 3) := by decide +kernel
theorem d_Sum_addUp_37 : decode b_Sum_addUp 37 = .ok (.iload_n 3, 1) := by decide +kernel
theorem d_Sum_addUp_38 : decode b_Sum_addUp 38 = .ok (.iaload, 1) := by decide +kernel
theorem d_Sum_addUp_39 : decode b_Sum_addUp 39 = .ok (.iload 4, 2) := by decide +kernel
theorem d_Sum_addUp_41 : decode b_Sum_addUp 41 = .ok (.invokestatic 39, 3) := by decide +kernel
theorem d_Sum_addUp_44 : decode b_Sum_addUp 44 = .ok (.ifCond .eq 13, 3) := by decide +kernel
theorem d_Sum_addUp_47 : decode b_Sum_addUp 47 = .ok (.aload_n 2, 1) := by decide +kernel
theorem d_Sum_addUp_48 : decode b_Sum_addUp 48 = .ok (.iload 4, 2) := by decide +kernel
theorem d_Sum_addUp_50 : decode b_Sum_addUp 50 = .ok (.invokestatic 43, 3) := by decide +kernel
theorem d_Sum_addUp_53 : decode b_Sum_addUp 53 = .ok (.iaload, 1) := by decide +kernel
theorem d_Sum_addUp_54 : decode b_Sum_addUp 54 = .ok (.goto 5, 3) := by decide +kernel
theorem d_Sum_addUp_57 : decode b_Sum_addUp 57 = .ok (.iload 5, 2) := by decide +kernel
theorem d_Sum_addUp_59 : decode b_Sum_addUp 59 = .ok (.iadd, 1) := by decide +kernel
theorem d_Sum_addUp_60 : decode b_Sum_addUp 60 = .ok (.iastore, 1) := by decide +kernel
theorem d_Sum_addUp_61 : decode b_Sum_addUp 61 = .ok (.aload_n 0, 1) := by decide +kernel
theorem d_Sum_addUp_62 : decode b_Sum_addUp 62 = .ok (.getfield 15, 3) := by decide +kernel
theorem d_Sum_addUp_65 : decode b_Sum_addUp 65 = .ok (.iload_n 3, 1) := by decide +kernel
theorem d_Sum_addUp_66 : decode b_Sum_addUp 66 = .ok (.iconst 1, 1) := by decide +kernel
theorem d_Sum_addUp_67 : decode b_Sum_addUp 67 = .ok (.iadd, 1) := by decide +kernel
theorem d_Sum_addUp_68 : decode b_Sum_addUp 68 = .ok (.aload_n 0, 1) := by decide +kernel
theorem d_Sum_addUp_69 : decode b_Sum_addUp 69 = .ok (.getfield 15, 3) := by decide +kernel
theorem d_Sum_addUp_72 : decode b_Sum_addUp 72 = .ok (.iload_n 3, 1) := by decide +kernel
theorem d_Sum_addUp_73 : decode b_Sum_addUp 73 = .ok (.iaload, 1) := by decide +kernel
theorem d_Sum_addUp_74 : decode b_Sum_addUp 74 = .ok (.iload 5, 2) := by decide +kernel
theorem d_Sum_addUp_76 : decode b_Sum_addUp 76 = .ok (.iconst 1, 1) := by decide +kernel
theorem d_Sum_addUp_77 : decode b_Sum_addUp 77 = .ok (.iadd, 1) := by decide +kernel
theorem d_Sum_addUp_78 : decode b_Sum_addUp 78 = .ok (.iconst 2, 1) := by decide +kernel
theorem d_Sum_addUp_79 : decode b_Sum_addUp 79 = .ok (.idiv, 1) := by decide +kernel
theorem d_Sum_addUp_80 : decode b_Sum_addUp 80 = .ok (.iadd, 1) := by decide +kernel
theorem d_Sum_addUp_81 : decode b_Sum_addUp 81 = .ok (.iastore, 1) := by decide +kernel
theorem d_Sum_addUp_82 : decode b_Sum_addUp 82 = .ok (.aload_n 0, 1) := by decide +kernel
theorem d_Sum_addUp_83 : decode b_Sum_addUp 83 = .ok (.getfield 18, 3) := by decide +kernel
theorem d_Sum_addUp_86 : decode b_Sum_addUp 86 = .ok (.iload_n 3, 1) := by decide +kernel
theorem d_Sum_addUp_87 : decode b_Sum_addUp 87 = .ok (.iconst 1, 1) := by decide +kernel
theorem d_Sum_addUp_88 : decode b_Sum_addUp 88 = .ok (.iadd, 1) := by decide +kernel
theorem d_Sum_addUp_89 : decode b_Sum_addUp 89 = .ok (.aload_n 0, 1) := by decide +kernel
theorem d_Sum_addUp_90 : decode b_Sum_addUp 90 = .ok (.getfield 18, 3) := by decide +kernel
theorem d_Sum_addUp_93 : decode b_Sum_addUp 93 = .ok (.iload_n 3, 1) := by decide +kernel
theorem d_Sum_addUp_94 : decode b_Sum_addUp 94 = .ok (.iaload, 1) := by decide +kernel
theorem d_Sum_addUp_95 : decode b_Sum_addUp 95 = .ok (.iload 5, 2) := by decide +kernel
theorem d_Sum_addUp_97 : decode b_Sum_addUp 97 = .ok (.iconst 3, 1) := by decide +kernel
theorem d_Sum_addUp_98 : decode b_Sum_addUp 98 = .ok (.idiv, 1) := by decide +kernel
theorem d_Sum_addUp_99 : decode b_Sum_addUp 99 = .ok (.iadd, 1) := by decide +kernel
theorem d_Sum_addUp_100 : decode b_Sum_addUp 100 = .ok (.iastore, 1) := by decide +kernel
theorem d_Sum_addUp_101 : decode b_Sum_addUp 101 = .ok (.aload_n 0, 1) := by decide +kernel
theorem d_Sum_addUp_102 : decode b_Sum_addUp 102 = .ok (.getfield 21, 3) := by decide +kernel
theorem d_Sum_addUp_105 : decode b_Sum_addUp 105 = .ok (.iload_n 3, 1) := by decide +kernel
theorem d_Sum_addUp_106 : decode b_Sum_addUp 106 = .ok (.iconst 1, 1) := by decide +kernel
theorem d_Sum_addUp_107 : decode b_Sum_addUp 107 = .ok (.iadd, 1) := by decide +kernel
theorem d_Sum_addUp_108 : decode b_Sum_addUp 108 = .ok (.aload_n 0, 1) := by decide +kernel
theorem d_Sum_addUp_109 : decode b_Sum_addUp 109 = .ok (.getfield 21, 3) := by decide +kernel
theorem d_Sum_addUp_112 : decode b_Sum_addUp 112 = .ok (.iload_n 3, 1) := by decide +kernel
theorem d_Sum_addUp_113 : decode b_Sum_addUp 113 = .ok (.iaload, 1) := by decide +kernel
theorem d_Sum_addUp_114 : decode b_Sum_addUp 114 = .ok (.iload 4, 2) := by decide +kernel
theorem d_Sum_addUp_116 : decode b_Sum_addUp 116 = .ok (.invokestatic 47, 3) := by decide +kernel
theorem d_Sum_addUp_119 : decode b_Sum_addUp 119 = .ok (.ifCond .eq 7, 3) := by decide +kernel
theorem d_Sum_addUp_122 : decode b_Sum_addUp 122 = .ok (.iconst 1, 1) := by decide +kernel
theorem d_Sum_addUp_123 : decode b_Sum_addUp 123 = .ok (.goto 4, 3) := by decide +kernel
theorem d_Sum_addUp_126 : decode b_Sum_addUp 126 = .ok (.iconst 0, 1) := by decide +kernel
theorem d_Sum_addUp_127 : decode b_Sum_addUp 127 = .ok (.iadd, 1) := by decide +kernel
theorem d_Sum_addUp_128 : decode b_Sum_addUp 128 = .ok (.iastore, 1) := by decide +kernel
theorem d_Sum_addUp_129 : decode b_Sum_addUp 129 = .ok (.aload_n 0, 1) := by decide +kernel
theorem d_Sum_addUp_130 : decode b_Sum_addUp 130 = .ok (.getfield 24, 3) := by decide +kernel
theorem d_Sum_addUp_133 : decode b_Sum_addUp 133 = .ok (.iload_n 3, 1) := by decide +kernel
theorem d_Sum_addUp_134 : decode b_Sum_addUp 134 = .ok (.iconst 1, 1) := by decide +kernel
theorem d_Sum_addUp_135 : decode b_Sum_addUp 135 = .ok (.iadd, 1) := by decide +kernel
theorem d_Sum_addUp_136 : decode b_Sum_addUp 136 = .ok (.aload_n 0, 1) := by decide +kernel
theorem d_Sum_addUp_137 : decode b_Sum_addUp 137 = .ok (.getfield 24, 3) := by decide +kernel
theorem d_Sum_addUp_140 : decode b_Sum_addUp 140 = .ok (.iload_n 3, 1) := by decide +kernel
theorem d_Sum_addUp_141 : decode b_Sum_addUp 141 = .ok (.iaload, 1) := by decide +kernel
theorem d_Sum_addUp_142 : decode b_Sum_addUp 142 = .ok (.iload 4, 2) := by decide +kernel
theorem d_Sum_addUp_144 : decode b_Sum_addUp 144 = .ok (.bipush 45, 2) := by decide +kernel
theorem d_Sum_addUp_146 : decode b_Sum_addUp 146 = .ok (.if_icmp .ne 7, 3) := by decide +kernel
theorem d_Sum_addUp_149 : decode b_Sum_addUp 149 = .ok (.iconst 1, 1) := by decide +kernel
theorem d_Sum_addUp_150 : decode b_Sum_addUp 150 = .ok (.goto 4, 3) := by decide +kernel
theorem d_Sum_addUp_153 : decode b_Sum_addUp 153 = .ok (.iconst 0, 1) := by decide +kernel
theorem d_Sum_addUp_154 : decode b_Sum_addUp 154 = .ok (.iadd, 1) := by decide +kernel
theorem d_Sum_addUp_155 : decode b_Sum_addUp 155 = .ok (.iastore, 1) := by decide +kernel
theorem d_Sum_addUp_156 : decode b_Sum_addUp 156 = .ok (.iinc 3 1, 3) := by decide +kernel
theorem d_Sum_addUp_159 : decode b_Sum_addUp 159 = .ok (.goto (-157), 3) := by decide +kernel
theorem d_Sum_addUp_162 : decode b_Sum_addUp 162 = .ok (.return_, 1) := by decide +kernel
theorem d_Brk_points_0 : decode b_Brk_points 0 = .ok (.iconst 0, 1) := by decide +kernel
theorem d_Brk_points_1 : decode b_Brk_points 1 = .ok (.istore_n 1, 1) := by decide +kernel
theorem d_Brk_points_2 : decode b_Brk_points 2 = .ok (.iconst 1, 1) := by decide +kernel
theorem d_Brk_points_3 : decode b_Brk_points 3 = .ok (.istore_n 2, 1) := by decide +kernel
theorem d_Brk_points_4 : decode b_Brk_points 4 = .ok (.iload_n 2, 1) := by decide +kernel
theorem d_Brk_points_5 : decode b_Brk_points 5 = .ok (.aload_n 0, 1) := by decide +kernel
theorem d_Brk_points_6 : decode b_Brk_points 6 = .ok (.getfield 21, 3) := by decide +kernel
theorem d_Brk_points_9 : decode b_Brk_points 9 = .ok (.if_icmp .gt 22, 3) := by decide +kernel
theorem d_Brk_points_12 : decode b_Brk_points 12 = .ok (.aload_n 0, 1) := by decide +kernel
theorem d_Brk_points_13 : decode b_Brk_points 13 = .ok (.getfield 9, 3) := by decide +kernel
theorem d_Brk_points_16 : decode b_Brk_points 16 = .ok (.iload_n 2, 1) := by decide +kernel
theorem d_Brk_points_17 : decode b_Brk_points 17 = .ok (.iaload, 1) := by decide +kernel
theorem d_Brk_points_18 : decode b_Brk_points 18 = .ok (.iconst 2, 1) := by decide +kernel
theorem d_Brk_points_19 : decode b_Brk_points 19 = .ok (.if_icmp .ne 6, 3) := by decide +kernel
theorem d_Brk_points_22 : decode b_Brk_points 22 = .ok (.iinc 1 1, 3) := by decide +kernel
theorem d_Brk_points_25 : decode b_Brk_points 25 = .ok (.iinc 2 1, 3) := by decide +kernel
theorem d_Brk_points_28 : decode b_Brk_points 28 = .ok (.goto (-24), 3) := by decide +kernel
theorem d_Brk_points_31 : decode b_Brk_points 31 = .ok (.iload_n 1, 1) := by decide +kernel
theorem d_Brk_points_32 : decode b_Brk_points 32 = .ok (.ireturn, 1) := by decide +kernel
