theorem d_PS_init_0 : decode b_PS_init 0 = .ok (.aload_n 0, 1) := by decide +kernel
theorem d_PS_init_1 : decode b_PS_init 1 = .ok (.invokespecial 3, 3) := by decide +kernel
theorem d_PS_init_4 : decode b_PS_init 4 = .ok (.aload_n 0, 1) := by decide +kernel
theorem d_PS_init_5 : decode b_PS_init 5 = .ok (.new 9, 3) := by decide +kernel
theorem d_PS_init_8 : decode b_PS_init 8 = .ok (.dup, 1) := by decide +kernel
theorem d_PS_init_9 : decode b_PS_init 9 = .ok (.bipush 60, 2) := by decide +kernel
theorem d_PS_init_11 : decode b_PS_init 11 = .ok (.invokespecial 11, 3) := by decide +kernel
theorem d_PS_init_14 : decode b_PS_init 14 = .ok (.putfield 14, 3) := by decide +kernel
theorem d_PS_init_17 : decode b_PS_init 17 = .ok (.aload_n 0, 1) := by decide +kernel
theorem d_PS_init_18 : decode b_PS_init 18 = .ok (.bipush 27, 2) := by decide +kernel
theorem d_PS_init_20 : decode b_PS_init 20 = .ok (.newarray .int, 2) := by decide +kernel
theorem d_PS_init_22 : decode b_PS_init 22 = .ok (.putfield 18, 3) := by decide +kernel
theorem d_PS_init_25 : decode b_PS_init 25 = .ok (.aload_n 0, 1) := by decide +kernel
theorem d_PS_init_26 : decode b_PS_init 26 = .ok (.getstatic 22, 3) := by decide +kernel
theorem d_PS_init_29 : decode b_PS_init 29 = .ok (.arraylength, 1) := by decide +kernel
theorem d_PS_init_30 : decode b_PS_init 30 = .ok (.newarray .int, 2) := by decide +kernel
theorem d_PS_init_32 : decode b_PS_init 32 = .ok (.putfield 25, 3) := by decide +kernel
theorem d_PS_init_35 : decode b_PS_init 35 = .ok (.aload_n 0, 1) := by decide +kernel
theorem d_PS_init_36 : decode b_PS_init 36 = .ok (.new 28, 3) := by decide +kernel
theorem d_PS_init_39 : decode b_PS_init 39 = .ok (.dup, 1) := by decide +kernel
theorem d_PS_init_40 : decode b_PS_init 40 = .ok (.invokespecial 30, 3) := by decide +kernel
theorem d_PS_init_43 : decode b_PS_init 43 = .ok (.putfield 31, 3) := by decide +kernel
theorem d_PS_init_46 : decode b_PS_init 46 = .ok (.aload_n 0, 1) := by decide +kernel
theorem d_PS_init_47 : decode b_PS_init 47 = .ok (.new 35, 3) := by decide +kernel
theorem d_PS_init_50 : decode b_PS_init 50 = .ok (.dup, 1) := by decide +kernel
theorem d_PS_init_51 : decode b_PS_init 51 = .ok (.invokespecial 37, 3) := by decide +kernel
theorem d_PS_init_54 : decode b_PS_init 54 = .ok (.putfield 38, 3) := by decide +kernel
theorem d_PS_init_57 : decode b_PS_init 57 = .ok (.aload_n 0, 1) := by decide +kernel
theorem d_PS_init_58 : decode b_PS_init 58 = .ok (.new 42, 3) := by decide +kernel
theorem d_PS_init_61 : decode b_PS_init 61 = .ok (.dup, 1) := by decide +kernel
theorem d_PS_init_62 : decode b_PS_init 62 = .ok (.invokespecial 44, 3) := by decide +kernel
theorem d_PS_init_65 : decode b_PS_init 65 = .ok (.putfield 45, 3) := by decide +kernel
theorem d_PS_init_68 : decode b_PS_init 68 = .ok (.aload_n 0, 1) := by decide +kernel
theorem d_PS_init_69 : decode b_PS_init 69 = .ok (.new 49, 3) := by decide +kernel
theorem d_PS_init_72 : decode b_PS_init 72 = .ok (.dup, 1) := by decide +kernel
theorem d_PS_init_73 : decode b_PS_init 73 = .ok (.invokespecial 51, 3) := by decide +kernel
theorem d_PS_init_76 : decode b_PS_init 76 = .ok (.putfield 52, 3) := by decide +kernel
theorem d_PS_init_79 : decode b_PS_init 79 = .ok (.aload_n 0, 1) := by decide +kernel
theorem d_PS_init_80 : decode b_PS_init 80 = .ok (.new 49, 3) := by decide +kernel
theorem d_PS_init_83 : decode b_PS_init 83 = .ok (.dup, 1) := by decide +kernel
theorem d_PS_init_84 : decode b_PS_init 84 = .ok (.invokespecial 51, 3) := by decide +kernel
theorem d_PS_init_87 : decode b_PS_init 87 = .ok (.putfield 56, 3) := by decide +kernel
theorem d_PS_init_90 : decode b_PS_init 90 = .ok (.iconst 0, 1) := by decide +kernel
theorem d_PS_init_91 : decode b_PS_init 91 = .ok (.istore_n 1, 1) := by decide +kernel
theorem d_PS_init_92 : decode b_PS_init 92 = .ok (.iload_n 1, 1) := by decide +kernel
theorem d_PS_init_93 : decode b_PS_init 93 = .ok (.aload_n 0, 1) := by decide +kernel
theorem d_PS_init_94 : decode b_PS_init 94 = .ok (.getfield 18, 3) := by decide +kernel
theorem d_PS_init_97 : decode b_PS_init 97 = .ok (.arraylength, 1) := by decide +kernel
theorem d_PS_init_98 : decode b_PS_init 98 = .ok (.if_icmp .ge 16, 3) := by decide +kernel
theorem d_PS_init_101 : decode b_PS_init 101 = .ok (.aload_n 0, 1) := by decide +kernel
theorem d_PS_init_102 : decode b_PS_init 102 = .ok (.getfield 18, 3) := by decide +kernel
theorem d_PS_init_105 : decode b_PS_init 105 = .ok (.iload_n 1, 1) := by decide +kernel
theorem d_PS_init_106 : decode b_PS_init 106 = .ok (.iconst 5, 1) := by decide +kernel
theorem d_PS_init_107 : decode b_PS_init 107 = .ok (.iastore, 1) := by decide +kernel
theorem d_PS_init_108 : decode b_PS_init 108 = .ok (.iinc 1 1, 3) := by decide +kernel
theorem d_PS_init_111 : decode b_PS_init 111 = .ok (.goto (-19), 3) := by decide +kernel
theorem d_PS_init_114 : decode b_PS_init 114 = .ok (.iconst 0, 1) := by decide +kernel
theorem d_PS_init_115 : decode b_PS_init 115 = .ok (.istore_n 1, 1) := by decide +kernel
theorem d_PS_init_116 : decode b_PS_init 116 = .ok (.iload_n 1, 1) := by decide +kernel
theorem d_PS_init_117 : decode b_PS_init 117 = .ok (.aload_n 0, 1) := by decide +kernel
theorem d_PS_init_118 : decode b_PS_init 118 = .ok (.getfield 25, 3) := by decide +kernel
theorem d_PS_init_121 : decode b_PS_init 121 = .ok (.arraylength, 1) := by decide +kernel
theorem d_PS_init_122 : decode b_PS_init 122 = .ok (.if_icmp .ge 20, 3) := by decide +kernel
theorem d_PS_init_125 : decode b_PS_init 125 = .ok (.aload_n 0, 1) := by decide +kernel
theorem d_PS_init_126 : decode b_PS_init 126 = .ok (.getfield 25, 3) := by decide +kernel
theorem d_PS_init_129 : decode b_PS_init 129 = .ok (.iload_n 1, 1) := by decide +kernel
theorem d_PS_init_130 : decode b_PS_init 130 = .ok (.getstatic 22, 3) := by decide +kernel
theorem d_PS_init_133 : decode b_PS_init 133 = .ok (.iload_n 1, 1) := by decide +kernel
theorem d_PS_init_134 : decode b_PS_init 134 = .ok (.iaload, 1) := by decide +kernel
theorem d_PS_init_135 : decode b_PS_init 135 = .ok (.iastore, 1) := by decide +kernel
theorem d_PS_init_136 : decode b_PS_init 136 = .ok (.iinc 1 1, 3) := by decide +kernel
theorem d_PS_init_139 : decode b_PS_init 139 = .ok (.goto (-23), 3) := by decide +kernel
theorem d_PS_init_142 : decode b_PS_init 142 = .ok (.return_, 1) := by decide +kernel
theorem d_Cho_init_0 : decode b_Cho_init 0 = .ok (.aload_n 0, 1) := by decide +kernel
theorem d_Cho_init_1 : decode b_Cho_init 1 = .ok (.invokespecial 3, 3) := by decide +kernel
theorem d_Cho_init_4 : decode b_Cho_init 4 = .ok (.aload_n 0, 1) := by decide +kernel
theorem d_Cho_init_5 : decode b_Cho_init 5 = .ok (.bipush 25, 2) := by decide +kernel
theorem d_Cho_init_7 : decode b_Cho_init 7 = .ok (.newarray .long, 2) := by decide +kernel
theorem d_Cho_init_9 : decode b_Cho_init 9 = .ok (.putfield 9, 3) := by decide +kernel
theorem d_Cho_init_12 : decode b_Cho_init 12 = .ok (.aload_n 0, 1) := by decide +kernel
theorem d_Cho_init_13 : decode b_Cho_init 13 = .ok (.bipush 25, 2) := by decide +kernel
theorem d_Cho_init_15 : decode b_Cho_init 15 = .ok (.newarray .int, 2) := by decide +kernel
theorem d_Cho_init_17 : decode b_Cho_init 17 = .ok (.putfield 15, 3) := by decide +kernel
theorem d_Cho_init_20 : decode b_Cho_init 20 = .ok (.aload_n 0, 1) := by decide +kernel
theorem d_Cho_init_21 : decode b_Cho_init 21 = .ok (.bipush 25, 2) := by decide +kernel
theorem d_Cho_init_23 : decode b_Cho_init 23 = .ok (.newarray .int, 2) := by decide +kernel
theorem d_Cho_init_25 : decode b_Cho_init 25 = .ok (.putfield 19, 3) := by decide +kernel
theorem d_Cho_init_28 : decode b_Cho_init 28 = .ok (.return_, 1) := by decide +kernel
theorem d_Stg_init_0 : decode b_Stg_init 0 = .ok (.aload_n 0, 1) := by decide +kernel
theorem d_Stg_init_1 : decode b_Stg_init 1 = .ok (.invokespecial 3, 3) := by decide +kernel
theorem d_Stg_init_4 : decode b_Stg_init 4 = .ok (.aload_n 0, 1) := by decide +kernel
theorem d_Stg_init_5 : decode b_Stg_init 5 = .ok (.new 9, 3) := by decide +kernel
theorem d_Stg_init_8 : decode b_Stg_init 8 = .ok (.dup, 1) := by decide +kernel
theorem d_Stg_init_9 : decode b_Stg_init 9 = .ok (.invokespecial 11, 3) := by decide +kernel
theorem d_Stg_init_12 : decode b_Stg_init 12 = .ok (.putfield 12, 3) := by decide +kernel
theorem d_Stg_init_15 : decode b_Stg_init 15 = .ok (.aload_n 0, 1) := by decide +kernel
theorem d_Stg_init_16 : decode b_Stg_init 16 = .ok (.new 18, 3) := by decide +kernel
theorem d_Stg_init_19 : decode b_Stg_init 19 = .ok (.dup, 1) := by decide +kernel
theorem d_Stg_init_20 : decode b_Stg_init 20 = .ok (.invokespecial 20, 3) := by decide +kernel
theorem d_Stg_init_23 : decode b_Stg_init 23 = .ok (.putfield 21, 3) := by decide +kernel
theorem d_Stg_init_26 : decode b_Stg_init 26 = .ok (.aload_n 0, 1) := by decide +kernel
theorem d_Stg_init_27 : decode b_Stg_init 27 = .ok (.new 25, 3) := by decide +kernel
theorem d_Stg_init_30 : decode b_Stg_init 30 = .ok (.dup, 1) := by decide +kernel
theorem d_Stg_init_31 : decode b_Stg_init 31 = .ok (.invokespecial 27, 3) := by decide +kernel
theorem d_Stg_init_34 : decode b_Stg_init 34 = .ok (.putfield 28, 3) := by decide +kernel
theorem d_Stg_init_37 : decode b_Stg_init 37 = .ok (.aload_n 0, 1) := by decide +kernel
theorem d_Stg_init_38 : decode b_Stg_init 38 = .ok (.getstatic 32, 3) := by decide +kernel
theorem d_Stg_init_41 : decode b_Stg_init 41 = .ok (.arraylength, 1) := by decide +kernel
theorem d_Stg_init_42 : decode b_Stg_init 42 = .ok (.newarray .int, 2) := by decide +kernel
theorem d_Stg_init_44 : decode b_Stg_init 44 = .ok (.putfield 36, 3) := by decide +kernel
theorem d_Stg_init_47 : decode b_Stg_init 47 = .ok (.aload_n 0, 1) := by decide +kernel
theorem d_Stg_init_48 : decode b_Stg_init 48 = .ok (.iconst 0, 1) := by decide +kernel
theorem d_Stg_init_49 : decode b_Stg_init 49 = .ok (.putfield 39, 3) := by decide +kernel
theorem d_Stg_init_52 : decode b_Stg_init 52 = .ok (.aload_n 0, 1) := by decide +kernel
theorem d_Stg_init_53 : decode b_Stg_init 53 = .ok (.iconst 0, 1) := by decide +kernel
theorem d_Stg_init_54 : decode b_Stg_init 54 = .ok (.putfield 43, 3) := by decide +kernel
theorem d_Stg_init_57 : decode b_Stg_init 57 = .ok (.aload_n 0, 1) := by decide +kernel
theorem d_Stg_init_58 : decode b_Stg_init 58 = .ok (.bipush 25, 2) := by decide +kernel
theorem d_Stg_init_60 : decode b_Stg_init 60 = .ok (.newarray .int, 2) := by decide +kernel
theorem d_Stg_init_62 : decode b_Stg_init 62 = .ok (.putfield 46, 3) := by decide +kernel
theorem d_Stg_init_65 : decode b_Stg_init 65 = .ok (.aload_n 0, 1) := by decide +kernel
theorem d_Stg_init_66 : decode b_Stg_init 66 = .ok (.iconst 0, 1) := by decide +kernel
theorem d_Stg_init_67 : decode b_Stg_init 67 = .ok (.putfield 49, 3) := by decide +kernel
theorem d_Stg_init_70 : decode b_Stg_init 70 = .ok (.aload_n 0, 1) := by decide +kernel
theorem d_Stg_init_71 : decode b_Stg_init 71 = .ok (.lconst 0, 1) := by decide +kernel
theorem d_Stg_init_72 : decode b_Stg_init 72 = .ok (.putfield 52, 3) := by decide +kernel
theorem d_Stg_init_75 : decode b_Stg_init 75 = .ok (.return_, 1) := by decide +kernel
theorem d_PS_type_0 : decode b_PS_type 0 = .ok (.iload_n 1, 1) := by decide +kernel
theorem d_PS_type_1 : decode b_PS_type 1 = .ok (.invokestatic 59, 3) := by decide +kernel
theorem d_PS_type_4 : decode b_PS_type 4 = .ok (.ifCond .ne 5, 3) := by decide +kernel
theorem d_PS_type_7 : decode b_PS_type 7 = .ok (.iconst (-1), 1) := by decide +kernel
theorem d_PS_type_8 : decode b_PS_type 8 = .ok (.ireturn, 1) := by decide +kernel
theorem d_PS_type_9 : decode b_PS_type 9 = .ok (.aload_n 0, 1) := by decide +kernel
theorem d_PS_type_10 : decode b_PS_type 10 = .ok (.getfield 14, 3) := by decide +kernel
theorem d_PS_type_13 : decode b_PS_type 13 = .ok (.invokevirtual 63, 3) := by decide +kernel
theorem d_PS_type_16 : decode b_PS_type 16 = .ok (.ifCond .eq 6, 3) := by decide +kernel
theorem d_PS_type_19 : decode b_PS_type 19 = .ok (.bipush (-2), 2) := by decide +kernel
theorem d_PS_type_21 : decode b_PS_type 21 = .ok (.ireturn, 1) := by decide +kernel
theorem d_PS_type_22 : decode b_PS_type 22 = .ok (.aload_n 0, 1) := by decide +kernel
theorem d_PS_type_23 : decode b_PS_type 23 = .ok (.getfield 14, 3) := by decide +kernel
theorem d_PS_type_26 : decode b_PS_type 26 = .ok (.iload_n 1, 1) := by decide +kernel
theorem d_PS_type_27 : decode b_PS_type 27 = .ok (.invokevirtual 67, 3) := by decide +kernel
theorem d_PS_type_30 : decode b_PS_type 30 = .ok (.aload_n 0, 1) := by decide +kernel
theorem d_PS_type_31 : decode b_PS_type 31 = .ok (.getfield 14, 3) := by decide +kernel
theorem d_PS_type_34 : decode b_PS_type 34 = .ok (.getfield 70, 3) := by decide +kernel
theorem d_PS_type_37 : decode b_PS_type 37 = .ok (.ireturn, 1) := by decide +kernel
theorem d_PS_isOfLine_0 : decode b_PS_isOfLine 0 = .ok (.iload_n 0, 1) := by decide +kernel
theorem d_PS_isOfLine_1 : decode b_PS_isOfLine 1 = .ok (.invokestatic 193, 3) := by decide +kernel
theorem d_PS_isOfLine_4 : decode b_PS_isOfLine 4 = .ok (.ifCond .ne 47, 3) := by decide +kernel
theorem d_PS_isOfLine_7 : decode b_PS_isOfLine 7 = .ok (.iload_n 0, 1) := by decide +kernel
theorem d_PS_isOfLine_8 : decode b_PS_isOfLine 8 = .ok (.invokestatic 196, 3) := by decide +kernel
theorem d_PS_isOfLine_11 : decode b_PS_isOfLine 11 = .ok (.ifCond .ne 40, 3) := by decide +kernel
theorem d_PS_isOfLine_14 : decode b_PS_isOfLine 14 = .ok (.iload_n 0, 1) := by decide +kernel
theorem d_PS_isOfLine_15 : decode b_PS_isOfLine 15 = .ok (.invokestatic 199, 3) := by decide +kernel
theorem d_PS_isOfLine_18 : decode b_PS_isOfLine 18 = .ok (.ifCond .ne 33, 3) := by decide +kernel
theorem d_PS_isOfLine_21 : decode b_PS_isOfLine 21 = .ok (.iload_n 0, 1) := by decide +kernel
theorem d_PS_isOfLine_22 : decode b_PS_isOfLine 22 = .ok (.bipush 123, 2) := by decide +kernel
theorem d_PS_isOfLine_24 : decode b_PS_isOfLine 24 = .ok (.if_icmp .eq 27, 3) := by decide +kernel
theorem d_PS_isOfLine_27 : decode b_PS_isOfLine 27 = .ok (.iload_n 0, 1) := by decide +kernel
theorem d_PS_isOfLine_28 : decode b_PS_isOfLine 28 = .ok (.bipush 125, 2) := by decide +kernel
theorem d_PS_isOfLine_30 : decode b_PS_isOfLine 30 = .ok (.if_icmp .eq 21, 3) := by decide +kernel
theorem d_PS_isOfLine_33 : decode b_PS_isOfLine 33 = .ok (.iload_n 0, 1) := by decide +kernel
theorem d_PS_isOfLine_34 : decode b_PS_isOfLine 34 = .ok (.bipush 35, 2) := by decide +kernel
theorem d_PS_isOfLine_36 : decode b_PS_isOfLine 36 = .ok (.if_icmp .eq 15, 3) := by decide +kernel
theorem d_PS_isOfLine_39 : decode b_PS_isOfLine 39 = .ok (.iload_n 0, 1) := by decide +kernel
theorem d_PS_isOfLine_40 : decode b_PS_isOfLine 40 = .ok (.bipush 61, 2) := by decide +kernel
theorem d_PS_isOfLine_42 : decode b_PS_isOfLine 42 = .ok (.if_icmp .eq 9, 3) := by decide +kernel
theorem d_PS_isOfLine_45 : decode b_PS_isOfLine 45 = .ok (.iload_n 0, 1) := by decide +kernel
theorem d_PS_isOfLine_46 : decode b_PS_isOfLine 46 = .ok (.bipush 46, 2) := by decide +kernel
theorem d_PS_isOfLine_48 : decode b_PS_isOfLine 48 = .ok (.if_icmp .ne 7, 3) := by decide +kernel
theorem d_PS_isOfLine_51 : decode b_PS_isOfLine 51 = .ok (.iconst 1, 1) := by decide +kernel
theorem d_PS_isOfLine_52 : decode b_PS_isOfLine 52 = .ok (.goto 4, 3) := by decide +kernel
theorem d_PS_isOfLine_55 : decode b_PS_isOfLine 55 = .ok (.iconst 0, 1) := by decide +kernel
theorem d_PS_isOfLine_56 : decode b_PS_isOfLine 56 = .ok (.ireturn, 1) := by decide +kernel
theorem d_PS_isItem_0 : decode b_PS_isItem 0 = .ok (.iload_n 0, 1) := by decide +kernel
theorem d_PS_isItem_1 : decode b_PS_isItem 1 = .ok (.invokestatic 77, 3) := by decide +kernel
theorem d_PS_isItem_4 : decode b_PS_isItem 4 = .ok (.ifCond .ne 16, 3) := by decide +kernel
theorem d_PS_isItem_7 : decode b_PS_isItem 7 = .ok (.iload_n 0, 1) := by decide +kernel
theorem d_PS_isItem_8 : decode b_PS_isItem 8 = .ok (.invokestatic 202, 3) := by decide +kernel
theorem d_PS_isItem_11 : decode b_PS_isItem 11 = .ok (.ifCond .ne 9, 3) := by decide +kernel
theorem d_PS_isItem_14 : decode b_PS_isItem 14 = .ok (.iload_n 0, 1) := by decide +kernel
theorem d_PS_isItem_15 : decode b_PS_isItem 15 = .ok (.bipush 124, 2) := by decide +kernel
theorem d_PS_isItem_17 : decode b_PS_isItem 17 = .ok (.if_icmp .ne 7, 3) := by decide +kernel
theorem d_PS_isItem_20 : decode b_PS_isItem 20 = .ok (.iconst 1, 1) := by decide +kernel
theorem d_PS_isItem_21 : decode b_PS_isItem 21 = .ok (.goto 4, 3) := by decide +kernel
theorem d_PS_isItem_24 : decode b_PS_isItem 24 = .ok (.iconst 0, 1) := by decide +kernel
theorem d_PS_isItem_25 : decode b_PS_isItem 25 = .ok (.ireturn, 1) := by decide +kernel
theorem d_PS_hasWidth_0 : decode b_PS_hasWidth 0 = .ok (.iload_n 0, 1) := by decide +kernel
theorem d_PS_hasWidth_1 : decode b_PS_hasWidth 1 = .ok (.invokestatic 205, 3) := by decide +kernel
theorem d_PS_hasWidth_4 : decode b_PS_hasWidth 4 = .ok (.ifCond .ne 9, 3) := by decide +kernel
theorem d_PS_hasWidth_7 : decode b_PS_hasWidth 7 = .ok (.iload_n 0, 1) := by decide +kernel
theorem d_PS_hasWidth_8 : decode b_PS_hasWidth 8 = .ok (.bipush 45, 2) := by decide +kernel
theorem d_PS_hasWidth_10 : decode b_PS_hasWidth 10 = .ok (.if_icmp .ne 7, 3) := by decide +kernel
theorem d_PS_hasWidth_13 : decode b_PS_hasWidth 13 = .ok (.iconst 1, 1) := by decide +kernel
theorem d_PS_hasWidth_14 : decode b_PS_hasWidth 14 = .ok (.goto 4, 3) := by decide +kernel
theorem d_PS_hasWidth_17 : decode b_PS_hasWidth 17 = .ok (.iconst 0, 1) := by decide +kernel
theorem d_PS_hasWidth_18 : decode b_PS_hasWidth 18 = .ok (.ireturn, 1) := by decide +kernel
theorem d_PS_isLetter_0 : decode b_PS_isLetter 0 = .ok (.iload_n 0, 1) := by decide +kernel
theorem d_PS_isLetter_1 : decode b_PS_isLetter 1 = .ok (.bipush 97, 2) := by decide +kernel
theorem d_PS_isLetter_3 : decode b_PS_isLetter 3 = .ok (.if_icmp .lt 13, 3) := by decide +kernel
theorem d_PS_isLetter_6 : decode b_PS_isLetter 6 = .ok (.iload_n 0, 1) := by decide +kernel
theorem d_PS_isLetter_7 : decode b_PS_isLetter 7 = .ok (.bipush 122, 2) := by decide +kernel
theorem d_PS_isLetter_9 : decode b_PS_isLetter 9 = .ok (.if_icmp .gt 7, 3) := by decide +kernel
theorem d_PS_isLetter_12 : decode b_PS_isLetter 12 = .ok (.iconst 1, 1) := by decide +kernel
theorem d_PS_isLetter_13 : decode b_PS_isLetter 13 = .ok (.goto 4, 3) := by decide +kernel
theorem d_PS_isLetter_16 : decode b_PS_isLetter 16 = .ok (.iconst 0, 1) := by decide +kernel
theorem d_PS_isLetter_17 : decode b_PS_isLetter 17 = .ok (.ireturn, 1) := by decide +kernel
theorem d_PS_isSpace_0 : decode b_PS_isSpace 0 = .ok (.iload_n 0, 1) := by decide +kernel
theorem d_PS_isSpace_1 : decode b_PS_isSpace 1 = .ok (.bipush 32, 2) := by decide +kernel
theorem d_PS_isSpace_3 : decode b_PS_isSpace 3 = .ok (.if_icmp .eq 9, 3) := by decide +kernel
theorem d_PS_isSpace_6 : decode b_PS_isSpace 6 = .ok (.iload_n 0, 1) := by decide +kernel
theorem d_PS_isSpace_7 : decode b_PS_isSpace 7 = .ok (.bipush 126, 2) := by decide +kernel
theorem d_PS_isSpace_9 : decode b_PS_isSpace 9 = .ok (.if_icmp .ne 7, 3) := by decide +kernel
theorem d_PS_isSpace_12 : decode b_PS_isSpace 12 = .ok (.iconst 1, 1) := by decide +kernel
theorem d_PS_isSpace_13 : decode b_PS_isSpace 13 = .ok (.goto 4, 3) := by decide +kernel
theorem d_PS_isSpace_16 : decode b_PS_isSpace 16 = .ok (.iconst 0, 1) := by decide +kernel
theorem d_PS_isSpace_17 : decode b_PS_isSpace 17 = .ok (.ireturn, 1) := by decide +kernel
theorem d_PS_isMacroName_0 : decode b_PS_isMacroName 0 = .ok (.iload_n 0, 1) := by decide +kernel
theorem d_PS_isMacroName_1 : decode b_PS_isMacroName 1 = .ok (.bipush 65, 2) := by decide +kernel
theorem d_PS_isMacroName_3 : decode b_PS_isMacroName 3 = .ok (.if_icmp .lt 13, 3) := by decide +kernel
theorem d_PS_isMacroName_6 : decode b_PS_isMacroName 6 = .ok (.iload_n 0, 1) := by decide +kernel
theorem d_PS_isMacroName_7 : decode b_PS_isMacroName 7 = .ok (.bipush 69, 2) := by decide +kernel
theorem d_PS_isMacroName_9 : decode b_PS_isMacroName 9 = .ok (.if_icmp .ge 7, 3) := by decide +kernel
theorem d_PS_isMacroName_12 : decode b_PS_isMacroName 12 = .ok (.iconst 1, 1) := by decide +kernel
theorem d_PS_isMacroName_13 : decode b_PS_isMacroName 13 = .ok (.goto 4, 3) := by decide +kernel
theorem d_PS_isMacroName_16 : decode b_PS_isMacroName 16 = .ok (.iconst 0, 1) := by decide +kernel
theorem d_PS_isMacroName_17 : decode b_PS_isMacroName 17 = .ok (.ireturn, 1) := by decide +kernel
theorem d_PS_isDigit_0 : decode b_PS_isDigit 0 = .ok (.iload_n 0, 1) := by decide +kernel
theorem d_PS_isDigit_1 : decode b_PS_isDigit 1 = .ok (.bipush 48, 2) := by decide +kernel
theorem d_PS_isDigit_3 : decode b_PS_isDigit 3 = .ok (.if_icmp .lt 13, 3) := by decide +kernel
theorem d_PS_isDigit_6 : decode b_PS_isDigit 6 = .ok (.iload_n 0, 1) := by decide +kernel
theorem d_PS_isDigit_7 : decode b_PS_isDigit 7 = .ok (.bipush 57, 2) := by decide +kernel
theorem d_PS_isDigit_9 : decode b_PS_isDigit 9 = .ok (.if_icmp .gt 7, 3) := by decide +kernel
theorem d_PS_isDigit_12 : decode b_PS_isDigit 12 = .ok (.iconst 1, 1) := by decide +kernel
theorem d_PS_isDigit_13 : decode b_PS_isDigit 13 = .ok (.goto 4, 3) := by decide +kernel
theorem d_PS_isDigit_16 : decode b_PS_isDigit 16 = .ok (.iconst 0, 1) := by decide +kernel
theorem d_PS_isDigit_17 : decode b_PS_isDigit 17 = .ok (.ireturn, 1) := by decide +kernel
theorem d_PS_wipe_0 : decode b_PS_wipe 0 = .ok (.aload_n 0, 1) := by decide +kernel
theorem d_PS_wipe_1 : decode b_PS_wipe 1 = .ok (.getfield 14, 3) := by decide +kernel
theorem d_PS_wipe_4 : decode b_PS_wipe 4 = .ok (.invokevirtual 74, 3) := by decide +kernel
theorem d_PS_wipe_7 : decode b_PS_wipe 7 = .ok (.iconst 0, 1) := by decide +kernel
theorem d_PS_wipe_8 : decode b_PS_wipe 8 = .ok (.ireturn, 1) := by decide +kernel
theorem d_PS_width_0 : decode b_PS_width 0 = .ok (.iload_n 1, 1) := by decide +kernel
theorem d_PS_width_1 : decode b_PS_width 1 = .ok (.invokestatic 77, 3) := by decide +kernel
theorem d_PS_width_4 : decode b_PS_width 4 = .ok (.ifCond .eq 14, 3) := by decide +kernel
theorem d_PS_width_7 : decode b_PS_width 7 = .ok (.iload_n 2, 1) := by decide +kernel
theorem d_PS_width_8 : decode b_PS_width 8 = .ok (.iconst 1, 1) := by decide +kernel
theorem d_PS_width_9 : decode b_PS_width 9 = .ok (.if_icmp .lt 9, 3) := by decide +kernel
theorem d_PS_width_12 : decode b_PS_width 12 = .ok (.iload_n 2, 1) := by decide +kernel
theorem d_PS_width_13 : decode b_PS_width 13 = .ok (.bipush 20, 2) := by decide +kernel
theorem d_PS_width_15 : decode b_PS_width 15 = .ok (.if_icmp .le 5, 3) := by decide +kernel
theorem d_PS_width_18 : decode b_PS_width 18 = .ok (.iconst (-1), 1) := by decide +kernel
theorem d_PS_width_19 : decode b_PS_width 19 = .ok (.ireturn, 1) := by decide +kernel
theorem d_PS_width_20 : decode b_PS_width 20 = .ok (.aload_n 0, 1) := by decide +kernel
theorem d_PS_width_21 : decode b_PS_width 21 = .ok (.getfield 18, 3) := by decide +kernel
theorem d_PS_width_24 : decode b_PS_width 24 = .ok (.iload_n 1, 1) := by decide +kernel
theorem d_PS_width_25 : decode b_PS_width 25 = .ok (.invokestatic 80, 3) := by decide +kernel
theorem d_PS_width_28 : decode b_PS_width 28 = .ok (.iload_n 2, 1) := by decide +kernel
theorem d_PS_width_29 : decode b_PS_width 29 = .ok (.iastore, 1) := by decide +kernel
theorem d_PS_width_30 : decode b_PS_width 30 = .ok (.iconst 0, 1) := by decide +kernel
theorem d_PS_width_31 : decode b_PS_width 31 = .ok (.ireturn, 1) := by decide +kernel
theorem d_PS_widthIndex_0 : decode b_PS_widthIndex 0 = .ok (.iload_n 0, 1) := by decide +kernel
theorem d_PS_widthIndex_1 : decode b_PS_widthIndex 1 = .ok (.invokestatic 205, 3) := by decide +kernel
theorem d_PS_widthIndex_4 : decode b_PS_widthIndex 4 = .ok (.ifCond .eq 10, 3) := by decide +kernel
theorem d_PS_widthIndex_7 : decode b_PS_widthIndex 7 = .ok (.iload_n 0, 1) := by decide +kernel
theorem d_PS_widthIndex_8 : decode b_PS_widthIndex 8 = .ok (.bipush 97, 2) := by decide +kernel
theorem d_PS_widthIndex_10 : decode b_PS_widthIndex 10 = .ok (.isub, 1) := by decide +kernel
theorem d_PS_widthIndex_11 : decode b_PS_widthIndex 11 = .ok (.goto 5, 3) := by decide +kernel
theorem d_PS_widthIndex_14 : decode b_PS_widthIndex 14 = .ok (.bipush 26, 2) := by decide +kernel
theorem d_PS_widthIndex_16 : decode b_PS_widthIndex 16 = .ok (.ireturn, 1) := by decide +kernel
theorem d_PS_parameter_0 : decode b_PS_parameter 0 = .ok (.iload_n 1, 1) := by decide +kernel
theorem d_PS_parameter_1 : decode b_PS_parameter 1 = .ok (.ifCond .lt 30, 3) := by decide +kernel
theorem d_PS_parameter_4 : decode b_PS_parameter 4 = .ok (.iload_n 1, 1) := by decide +kernel
theorem d_PS_parameter_5 : decode b_PS_parameter 5 = .ok (.aload_n 0, 1) := by decide +kernel
theorem d_PS_parameter_6 : decode b_PS_parameter 6 = .ok (.getfield 25, 3) := by decide +kernel
theorem d_PS_parameter_9 : decode b_PS_parameter 9 = .ok (.arraylength, 1) := by decide +kernel
theorem d_PS_parameter_10 : decode b_PS_parameter 10 = .ok (.if_icmp .ge 21, 3) := by decide +kernel
theorem d_PS_parameter_13 : decode b_PS_parameter 13 = .ok (.iload_n 2, 1) := by decide +kernel
theorem d_PS_parameter_14 : decode b_PS_parameter 14 = .ok (.getstatic 84, 3) := by decide +kernel
theorem d_PS_parameter_17 : decode b_PS_parameter 17 = .ok (.iload_n 1, 1) := by decide +kernel
theorem d_PS_parameter_18 : decode b_PS_parameter 18 = .ok (.iaload, 1) := by decide +kernel
theorem d_PS_parameter_19 : decode b_PS_parameter 19 = .ok (.if_icmp .lt 12, 3) := by decide +kernel
theorem d_PS_parameter_22 : decode b_PS_parameter 22 = .ok (.iload_n 2, 1) := by decide +kernel
theorem d_PS_parameter_23 : decode b_PS_parameter 23 = .ok (.getstatic 87, 3) := by decide +kernel
theorem d_PS_parameter_26 : decode b_PS_parameter 26 = .ok (.iload_n 1, 1) := by decide +kernel
theorem d_PS_parameter_27 : decode b_PS_parameter 27 = .ok (.iaload, 1) := by decide +kernel
theorem d_PS_parameter_28 : decode b_PS_parameter 28 = .ok (.if_icmp .le 5, 3) := by decide +kernel
theorem d_PS_parameter_31 : decode b_PS_parameter 31 = .ok (.iconst (-1), 1) := by decide +kernel
theorem d_PS_parameter_32 : decode b_PS_parameter 32 = .ok (.ireturn, 1) := by decide +kernel
theorem d_PS_parameter_33 : decode b_PS_parameter 33 = .ok (.aload_n 0, 1) := by decide +kernel
theorem d_PS_parameter_34 : decode b_PS_parameter 34 = .ok (.getfield 25, 3) := by decide +kernel
theorem d_PS_parameter_37 : decode b_PS_parameter 37 = .ok (.iload_n 1, 1) := by decide +kernel
theorem d_PS_parameter_38 : decode b_PS_parameter 38 = .ok (.iload_n 2, 1) := by decide +kernel
theorem d_PS_parameter_39 : decode b_PS_parameter 39 = .ok (.iastore, 1) := by decide +kernel
theorem d_PS_parameter_40 : decode b_PS_parameter 40 = .ok (.iconst 0, 1) := by decide +kernel
theorem d_PS_parameter_41 : decode b_PS_parameter 41 = .ok (.ireturn, 1) := by decide +kernel
theorem d_PS_define_0 : decode b_PS_define 0 = .ok (.iload_n 1, 1) := by decide +kernel
theorem d_PS_define_1 : decode b_PS_define 1 = .ok (.ifCond .lt 8, 3) := by decide +kernel
theorem d_PS_define_4 : decode b_PS_define 4 = .ok (.iload_n 1, 1) := by decide +kernel
theorem d_PS_define_5 : decode b_PS_define 5 = .ok (.iconst 4, 1) := by decide +kernel
theorem d_PS_define_6 : decode b_PS_define 6 = .ok (.if_icmp .lt 5, 3) := by decide +kernel
theorem d_PS_define_9 : decode b_PS_define 9 = .ok (.iconst (-1), 1) := by decide +kernel
theorem d_PS_define_10 : decode b_PS_define 10 = .ok (.ireturn, 1) := by decide +kernel
theorem d_PS_define_11 : decode b_PS_define 11 = .ok (.aload_n 0, 1) := by decide +kernel
theorem d_PS_define_12 : decode b_PS_define 12 = .ok (.getfield 14, 3) := by decide +kernel
theorem d_PS_define_15 : decode b_PS_define 15 = .ok (.getfield 70, 3) := by decide +kernel
theorem d_PS_define_18 : decode b_PS_define 18 = .ok (.bipush 24, 2) := by decide +kernel
theorem d_PS_define_20 : decode b_PS_define 20 = .ok (.if_icmp .le 6, 3) := by decide +kernel
theorem d_PS_define_23 : decode b_PS_define 23 = .ok (.bipush (-2), 2) := by decide +kernel
theorem d_PS_define_25 : decode b_PS_define 25 = .ok (.ireturn, 1) := by decide +kernel
theorem d_PS_define_26 : decode b_PS_define 26 = .ok (.aload_n 0, 1) := by decide +kernel
theorem d_PS_define_27 : decode b_PS_define 27 = .ok (.getfield 31, 3) := by decide +kernel
theorem d_PS_define_30 : decode b_PS_define 30 = .ok (.getfield 90, 3) := by decide +kernel
theorem d_PS_define_33 : decode b_PS_define 33 = .ok (.iload_n 1, 1) := by decide +kernel
theorem d_PS_define_34 : decode b_PS_define 34 = .ok (.aaload, 1) := by decide +kernel
theorem d_PS_define_35 : decode b_PS_define 35 = .ok (.aload_n 0, 1) := by decide +kernel
theorem d_PS_define_36 : decode b_PS_define 36 = .ok (.getfield 14, 3) := by decide +kernel
theorem d_PS_define_39 : decode b_PS_define 39 = .ok (.invokevirtual 94, 3) := by decide +kernel
theorem d_PS_define_42 : decode b_PS_define 42 = .ok (.aload_n 0, 1) := by decide +kernel
theorem d_PS_define_43 : decode b_PS_define 43 = .ok (.getfield 14, 3) := by decide +kernel
theorem d_PS_define_46 : decode b_PS_define 46 = .ok (.invokevirtual 74, 3) := by decide +kernel
theorem d_PS_define_49 : decode b_PS_define 49 = .ok (.iconst 0, 1) := by decide +kernel
theorem d_PS_define_50 : decode b_PS_define 50 = .ok (.ireturn, 1) := by decide +kernel
theorem d_PS_pattern_0 : decode b_PS_pattern 0 = .ok (.aload_n 0, 1) := by decide +kernel
theorem d_PS_pattern_1 : decode b_PS_pattern 1 = .ok (.getfield 38, 3) := by decide +kernel
theorem d_PS_pattern_4 : decode b_PS_pattern 4 = .ok (.invokevirtual 100, 3) := by decide +kernel
theorem d_PS_pattern_7 : decode b_PS_pattern 7 = .ok (.ifCond .eq 6, 3) := by decide +kernel
theorem d_PS_pattern_10 : decode b_PS_pattern 10 = .ok (.bipush (-2), 2) := by decide +kernel
theorem d_PS_pattern_12 : decode b_PS_pattern 12 = .ok (.ireturn, 1) := by decide +kernel
theorem d_PS_pattern_13 : decode b_PS_pattern 13 = .ok (.aload_n 0, 1) := by decide +kernel
theorem d_PS_pattern_14 : decode b_PS_pattern 14 = .ok (.getfield 38, 3) := by decide +kernel
theorem d_PS_pattern_17 : decode b_PS_pattern 17 = .ok (.aload_n 0, 1) := by decide +kernel
theorem d_PS_pattern_18 : decode b_PS_pattern 18 = .ok (.getfield 14, 3) := by decide +kernel
theorem d_PS_pattern_21 : decode b_PS_pattern 21 = .ok (.invokevirtual 101, 3) := by decide +kernel
theorem d_PS_pattern_24 : decode b_PS_pattern 24 = .ok (.ifCond .ne 6, 3) := by decide +kernel
theorem d_PS_pattern_27 : decode b_PS_pattern 27 = .ok (.bipush (-3), 2) := by decide +kernel
theorem d_PS_pattern_29 : decode b_PS_pattern 29 = .ok (.ireturn, 1) := by decide +kernel
theorem d_PS_pattern_30 : decode b_PS_pattern 30 = .ok (.aload_n 0, 1) := by decide +kernel
theorem d_PS_pattern_31 : decode b_PS_pattern 31 = .ok (.getfield 14, 3) := by decide +kernel
theorem d_PS_pattern_34 : decode b_PS_pattern 34 = .ok (.invokevirtual 74, 3) := by decide +kernel
theorem d_PS_pattern_37 : decode b_PS_pattern 37 = .ok (.aload_n 0, 1) := by decide +kernel
theorem d_PS_pattern_38 : decode b_PS_pattern 38 = .ok (.getfield 38, 3) := by decide +kernel
theorem d_PS_pattern_41 : decode b_PS_pattern 41 = .ok (.getfield 105, 3) := by decide +kernel
theorem d_PS_pattern_44 : decode b_PS_pattern 44 = .ok (.ireturn, 1) := by decide +kernel
theorem d_PS_paragraph_0 : decode b_PS_paragraph 0 = .ok (.aload_n 0, 1) := by decide +kernel
theorem d_PS_paragraph_1 : decode b_PS_paragraph 1 = .ok (.getfield 31, 3) := by decide +kernel
theorem d_PS_paragraph_4 : decode b_PS_paragraph 4 = .ok (.aload_n 0, 1) := by decide +kernel
theorem d_PS_paragraph_5 : decode b_PS_paragraph 5 = .ok (.getfield 14, 3) := by decide +kernel
theorem d_PS_paragraph_8 : decode b_PS_paragraph 8 = .ok (.aload_n 0, 1) := by decide +kernel
theorem d_PS_paragraph_9 : decode b_PS_paragraph 9 = .ok (.getfield 56, 3) := by decide +kernel
theorem d_PS_paragraph_12 : decode b_PS_paragraph 12 = .ok (.getfield 106, 3) := by decide +kernel
theorem d_PS_paragraph_15 : decode b_PS_paragraph 15 = .ok (.invokevirtual 110, 3) := by decide +kernel
theorem d_PS_paragraph_18 : decode b_PS_paragraph 18 = .ok (.istore_n 1, 1) := by decide +kernel
theorem d_PS_paragraph_19 : decode b_PS_paragraph 19 = .ok (.aload_n 0, 1) := by decide +kernel
theorem d_PS_paragraph_20 : decode b_PS_paragraph 20 = .ok (.getfield 14, 3) := by decide +kernel
theorem d_PS_paragraph_23 : decode b_PS_paragraph 23 = .ok (.invokevirtual 74, 3) := by decide +kernel
theorem d_PS_paragraph_26 : decode b_PS_paragraph 26 = .ok (.iload_n 1, 1) := by decide +kernel
theorem d_PS_paragraph_27 : decode b_PS_paragraph 27 = .ok (.ifCond .eq 5, 3) := by decide +kernel
theorem d_PS_paragraph_30 : decode b_PS_paragraph 30 = .ok (.iload_n 1, 1) := by decide +kernel
theorem d_PS_paragraph_31 : decode b_PS_paragraph 31 = .ok (.ireturn, 1) := by decide +kernel
theorem d_PS_paragraph_32 : decode b_PS_paragraph 32 = .ok (.aload_n 0, 1) := by decide +kernel
theorem d_PS_paragraph_33 : decode b_PS_paragraph 33 = .ok (.getfield 56, 3) := by decide +kernel
theorem d_PS_paragraph_36 : decode b_PS_paragraph 36 = .ok (.aload_n 0, 1) := by decide +kernel
theorem d_PS_paragraph_37 : decode b_PS_paragraph 37 = .ok (.getfield 31, 3) := by decide +kernel
theorem d_PS_paragraph_40 : decode b_PS_paragraph 40 = .ok (.getfield 114, 3) := by decide +kernel
theorem d_PS_paragraph_43 : decode b_PS_paragraph 43 = .ok (.putfield 117, 3) := by decide +kernel
theorem d_PS_paragraph_46 : decode b_PS_paragraph 46 = .ok (.aload_n 0, 1) := by decide +kernel
theorem d_PS_paragraph_47 : decode b_PS_paragraph 47 = .ok (.getfield 56, 3) := by decide +kernel
theorem d_PS_paragraph_50 : decode b_PS_paragraph 50 = .ok (.getfield 106, 3) := by decide +kernel
theorem d_PS_paragraph_53 : decode b_PS_paragraph 53 = .ok (.invokevirtual 118, 3) := by decide +kernel
theorem d_PS_paragraph_56 : decode b_PS_paragraph 56 = .ok (.aload_n 0, 1) := by decide +kernel
theorem d_PS_paragraph_57 : decode b_PS_paragraph 57 = .ok (.getfield 38, 3) := by decide +kernel
theorem d_PS_paragraph_60 : decode b_PS_paragraph 60 = .ok (.aload_n 0, 1) := by decide +kernel
theorem d_PS_paragraph_61 : decode b_PS_paragraph 61 = .ok (.getfield 56, 3) := by decide +kernel
theorem d_PS_paragraph_64 : decode b_PS_paragraph 64 = .ok (.getfield 106, 3) := by decide +kernel
theorem d_PS_paragraph_67 : decode b_PS_paragraph 67 = .ok (.invokevirtual 123, 3) := by decide +kernel
theorem d_PS_paragraph_70 : decode b_PS_paragraph 70 = .ok (.aload_n 0, 1) := by decide +kernel
theorem d_PS_paragraph_71 : decode b_PS_paragraph 71 = .ok (.getfield 56, 3) := by decide +kernel
theorem d_PS_paragraph_74 : decode b_PS_paragraph 74 = .ok (.getfield 127, 3) := by decide +kernel
theorem d_PS_paragraph_77 : decode b_PS_paragraph 77 = .ok (.aload_n 0, 1) := by decide +kernel
theorem d_PS_paragraph_78 : decode b_PS_paragraph 78 = .ok (.getfield 56, 3) := by decide +kernel
theorem d_PS_paragraph_81 : decode b_PS_paragraph 81 = .ok (.getfield 106, 3) := by decide +kernel
theorem d_PS_paragraph_84 : decode b_PS_paragraph 84 = .ok (.aload_n 0, 1) := by decide +kernel
theorem d_PS_paragraph_85 : decode b_PS_paragraph 85 = .ok (.getfield 38, 3) := by decide +kernel
theorem d_PS_paragraph_88 : decode b_PS_paragraph 88 = .ok (.invokevirtual 131, 3) := by decide +kernel
theorem d_PS_paragraph_91 : decode b_PS_paragraph 91 = .ok (.ifCond .ne 6, 3) := by decide +kernel
theorem d_PS_paragraph_94 : decode b_PS_paragraph 94 = .ok (.bipush (-4), 2) := by decide +kernel
theorem d_PS_paragraph_96 : decode b_PS_paragraph 96 = .ok (.ireturn, 1) := by decide +kernel
theorem d_PS_paragraph_97 : decode b_PS_paragraph 97 = .ok (.aload_n 0, 1) := by decide +kernel
theorem d_PS_paragraph_98 : decode b_PS_paragraph 98 = .ok (.getfield 56, 3) := by decide +kernel
theorem d_PS_paragraph_101 : decode b_PS_paragraph 101 = .ok (.aload_n 0, 1) := by decide +kernel
theorem d_PS_paragraph_102 : decode b_PS_paragraph 102 = .ok (.getfield 18, 3) := by decide +kernel
theorem d_PS_paragraph_105 : decode b_PS_paragraph 105 = .ok (.aload_n 0, 1) := by decide +kernel
theorem d_PS_paragraph_106 : decode b_PS_paragraph 106 = .ok (.getfield 25, 3) := by decide +kernel
theorem d_PS_paragraph_109 : decode b_PS_paragraph 109 = .ok (.invokevirtual 137, 3) := by decide +kernel
theorem d_PS_paragraph_112 : decode b_PS_paragraph 112 = .ok (.aload_n 0, 1) := by decide +kernel
theorem d_PS_paragraph_113 : decode b_PS_paragraph 113 = .ok (.getfield 45, 3) := by decide +kernel
theorem d_PS_paragraph_116 : decode b_PS_paragraph 116 = .ok (.aload_n 0, 1) := by decide +kernel
theorem d_PS_paragraph_117 : decode b_PS_paragraph 117 = .ok (.getfield 56, 3) := by decide +kernel
theorem d_PS_paragraph_120 : decode b_PS_paragraph 120 = .ok (.invokevirtual 141, 3) := by decide +kernel
theorem d_PS_paragraph_123 : decode b_PS_paragraph 123 = .ok (.ifCond .ne 6, 3) := by decide +kernel
theorem d_PS_paragraph_126 : decode b_PS_paragraph 126 = .ok (.bipush (-5), 2) := by decide +kernel
theorem d_PS_paragraph_128 : decode b_PS_paragraph 128 = .ok (.ireturn, 1) := by decide +kernel
theorem d_PS_paragraph_129 : decode b_PS_paragraph 129 = .ok (.aload_n 0, 1) := by decide +kernel
theorem d_PS_paragraph_130 : decode b_PS_paragraph 130 = .ok (.invokevirtual 145, 3) := by decide +kernel
theorem d_PS_paragraph_133 : decode b_PS_paragraph 133 = .ok (.aload_n 0, 1) := by decide +kernel
theorem d_PS_paragraph_134 : decode b_PS_paragraph 134 = .ok (.getfield 52, 3) := by decide +kernel
theorem d_PS_paragraph_137 : decode b_PS_paragraph 137 = .ok (.getfield 148, 3) := by decide +kernel
theorem d_PS_paragraph_140 : decode b_PS_paragraph 140 = .ok (.ireturn, 1) := by decide +kernel
theorem d_Stg_measure_0 : decode b_Stg_measure 0 = .ok (.aload_n 0, 1) := by decide +kernel
theorem d_Stg_measure_1 : decode b_Stg_measure 1 = .ok (.getfield 28, 3) := by decide +kernel
theorem d_Stg_measure_4 : decode b_Stg_measure 4 = .ok (.aload_n 0, 1) := by decide +kernel
theorem d_Stg_measure_5 : decode b_Stg_measure 5 = .ok (.getfield 12, 3) := by decide +kernel
theorem d_Stg_measure_8 : decode b_Stg_measure 8 = .ok (.aload_n 1, 1) := by decide +kernel
theorem d_Stg_measure_9 : decode b_Stg_measure 9 = .ok (.invokevirtual 56, 3) := by decide +kernel
theorem d_Stg_measure_12 : decode b_Stg_measure 12 = .ok (.aload_n 0, 1) := by decide +kernel
theorem d_Stg_measure_13 : decode b_Stg_measure 13 = .ok (.aload_n 1, 1) := by decide +kernel
theorem d_Stg_measure_14 : decode b_Stg_measure 14 = .ok (.bipush 45, 2) := by decide +kernel
theorem d_Stg_measure_16 : decode b_Stg_measure 16 = .ok (.invokestatic 60, 3) := by decide +kernel
theorem d_Stg_measure_19 : decode b_Stg_measure 19 = .ok (.iaload, 1) := by decide +kernel
theorem d_Stg_measure_20 : decode b_Stg_measure 20 = .ok (.putfield 39, 3) := by decide +kernel
theorem d_Stg_measure_23 : decode b_Stg_measure 23 = .ok (.iconst 0, 1) := by decide +kernel
theorem d_Stg_measure_24 : decode b_Stg_measure 24 = .ok (.istore_n 3, 1) := by decide +kernel
theorem d_Stg_measure_25 : decode b_Stg_measure 25 = .ok (.iload_n 3, 1) := by decide +kernel
theorem d_Stg_measure_26 : decode b_Stg_measure 26 = .ok (.aload_n 0, 1) := by decide +kernel
theorem d_Stg_measure_27 : decode b_Stg_measure 27 = .ok (.getfield 36, 3) := by decide +kernel
theorem d_Stg_measure_30 : decode b_Stg_measure 30 = .ok (.arraylength, 1) := by decide +kernel
theorem d_Stg_measure_31 : decode b_Stg_measure 31 = .ok (.if_icmp .ge 18, 3) := by decide +kernel
theorem d_Stg_measure_34 : decode b_Stg_measure 34 = .ok (.aload_n 0, 1) := by decide +kernel
theorem d_Stg_measure_35 : decode b_Stg_measure 35 = .ok (.getfield 36, 3) := by decide +kernel
theorem d_Stg_measure_38 : decode b_Stg_measure 38 = .ok (.iload_n 3, 1) := by decide +kernel
theorem d_Stg_measure_39 : decode b_Stg_measure 39 = .ok (.aload_n 2, 1) := by decide +kernel
theorem d_Stg_measure_40 : decode b_Stg_measure 40 = .ok (.iload_n 3, 1) := by decide +kernel
theorem d_Stg_measure_41 : decode b_Stg_measure 41 = .ok (.iaload, 1) := by decide +kernel
theorem d_Stg_measure_42 : decode b_Stg_measure 42 = .ok (.iastore, 1) := by decide +kernel
theorem d_Stg_measure_43 : decode b_Stg_measure 43 = .ok (.iinc 3 1, 3) := by decide +kernel
theorem d_Stg_measure_46 : decode b_Stg_measure 46 = .ok (.goto (-21), 3) := by decide +kernel
theorem d_Stg_measure_49 : decode b_Stg_measure 49 = .ok (.return_, 1) := by decide +kernel
theorem d_Cho_choose_0 : decode b_Cho_choose 0 = .ok (.aload_n 1, 1) := by decide +kernel
theorem d_Cho_choose_1 : decode b_Cho_choose 1 = .ok (.getfield 22, 3) := by decide +kernel
theorem d_Cho_choose_4 : decode b_Cho_choose 4 = .ok (.getfield 28, 3) := by decide +kernel
theorem d_Cho_choose_7 : decode b_Cho_choose 7 = .ok (.istore_n 2, 1) := by decide +kernel
theorem d_Cho_choose_8 : decode b_Cho_choose 8 = .ok (.aload_n 0, 1) := by decide +kernel
theorem d_Cho_choose_9 : decode b_Cho_choose 9 = .ok (.getfield 9, 3) := by decide +kernel
theorem d_Cho_choose_12 : decode b_Cho_choose 12 = .ok (.iload_n 2, 1) := by decide +kernel
theorem d_Cho_choose_13 : decode b_Cho_choose 13 = .ok (.lconst 0, 1) := by decide +kernel
theorem d_Cho_choose_14 : decode b_Cho_choose 14 = .ok (.lastore, 1) := by decide +kernel
theorem d_Cho_choose_15 : decode b_Cho_choose 15 = .ok (.aload_n 0, 1) := by decide +kernel
theorem d_Cho_choose_16 : decode b_Cho_choose 16 = .ok (.getfield 15, 3) := by decide +kernel
theorem d_Cho_choose_19 : decode b_Cho_choose 19 = .ok (.iload_n 2, 1) := by decide +kernel
theorem d_Cho_choose_20 : decode b_Cho_choose 20 = .ok (.iconst 0, 1) := by decide +kernel
theorem d_Cho_choose_21 : decode b_Cho_choose 21 = .ok (.iastore, 1) := by decide +kernel
theorem d_Cho_choose_22 : decode b_Cho_choose 22 = .ok (.iload_n 2, 1) := by decide +kernel
theorem d_Cho_choose_23 : decode b_Cho_choose 23 = .ok (.iconst 1, 1) := by decide +kernel
theorem d_Cho_choose_24 : decode b_Cho_choose 24 = .ok (.isub, 1) := by decide +kernel
theorem d_Cho_choose_25 : decode b_Cho_choose 25 = .ok (.istore_n 3, 1) := by decide +kernel
theorem d_Cho_choose_26 : decode b_Cho_choose 26 = .ok (.iload_n 3, 1) := by decide +kernel
theorem d_Cho_choose_27 : decode b_Cho_choose 27 = .ok (.ifCond .lt 15, 3) := by decide +kernel
theorem d_Cho_choose_30 : decode b_Cho_choose 30 = .ok (.aload_n 0, 1) := by decide +kernel
theorem d_Cho_choose_31 : decode b_Cho_choose 31 = .ok (.aload_n 1, 1) := by decide +kernel
theorem d_Cho_choose_32 : decode b_Cho_choose 32 = .ok (.iload_n 3, 1) := by decide +kernel
theorem d_Cho_choose_33 : decode b_Cho_choose 33 = .ok (.invokevirtual 34, 3) := by decide +kernel
theorem d_Cho_choose_36 : decode b_Cho_choose 36 = .ok (.iinc 3 (-1), 3) := by decide +kernel
theorem d_Cho_choose_39 : decode b_Cho_choose 39 = .ok (.goto (-13), 3) := by decide +kernel
theorem d_Cho_choose_42 : decode b_Cho_choose 42 = .ok (.iload_n 2, 1) := by decide +kernel
theorem d_Cho_choose_43 : decode b_Cho_choose 43 = .ok (.ifCond .le 14, 3) := by decide +kernel
theorem d_Cho_choose_46 : decode b_Cho_choose 46 = .ok (.aload_n 0, 1) := by decide +kernel
theorem d_Cho_choose_47 : decode b_Cho_choose 47 = .ok (.getfield 19, 3) := by decide +kernel
theorem d_Cho_choose_50 : decode b_Cho_choose 50 = .ok (.iconst 0, 1) := by decide +kernel
theorem d_Cho_choose_51 : decode b_Cho_choose 51 = .ok (.iaload, 1) := by decide +kernel
theorem d_Cho_choose_52 : decode b_Cho_choose 52 = .ok (.ifCond .ne 5, 3) := by decide +kernel
theorem d_Cho_choose_55 : decode b_Cho_choose 55 = .ok (.iconst 0, 1) := by decide +kernel
theorem d_Cho_choose_56 : decode b_Cho_choose 56 = .ok (.ireturn, 1) := by decide +kernel
theorem d_Cho_choose_57 : decode b_Cho_choose 57 = .ok (.aload_n 0, 1) := by decide +kernel
theorem d_Cho_choose_58 : decode b_Cho_choose 58 = .ok (.aload_n 1, 1) := by decide +kernel
theorem d_Cho_choose_59 : decode b_Cho_choose 59 = .ok (.invokevirtual 38, 3) := by decide +kernel
theorem d_Cho_choose_62 : decode b_Cho_choose 62 = .ok (.iconst 1, 1) := by decide +kernel
theorem d_Cho_choose_63 : decode b_Cho_choose 63 = .ok (.ireturn, 1) := by decide +kernel
theorem d_Cho_findNext_0 : decode b_Cho_findNext 0 = .ok (.aload_n 1, 1) := by decide +kernel
theorem d_Cho_findNext_1 : decode b_Cho_findNext 1 = .ok (.getfield 22, 3) := by decide +kernel
theorem d_Cho_findNext_4 : decode b_Cho_findNext 4 = .ok (.getfield 28, 3) := by decide +kernel
theorem d_Cho_findNext_7 : decode b_Cho_findNext 7 = .ok (.istore_n 3, 1) := by decide +kernel
theorem d_Cho_findNext_8 : decode b_Cho_findNext 8 = .ok (.aload_n 0, 1) := by decide +kernel
theorem d_Cho_findNext_9 : decode b_Cho_findNext 9 = .ok (.getfield 19, 3) := by decide +kernel
theorem d_Cho_findNext_12 : decode b_Cho_findNext 12 = .ok (.iload_n 2, 1) := by decide +kernel
theorem d_Cho_findNext_13 : decode b_Cho_findNext 13 = .ok (.iconst 0, 1) := by decide +kernel
theorem d_Cho_findNext_14 : decode b_Cho_findNext 14 = .ok (.iastore, 1) := by decide +kernel
theorem d_Cho_findNext_15 : decode b_Cho_findNext 15 = .ok (.iconst 1, 1) := by decide +kernel
theorem d_Cho_findNext_16 : decode b_Cho_findNext 16 = .ok (.istore 4, 2) := by decide +kernel
theorem d_Cho_findNext_18 : decode b_Cho_findNext 18 = .ok (.iload_n 2, 1) := by decide +kernel
theorem d_Cho_findNext_19 : decode b_Cho_findNext 19 = .ok (.iconst 1, 1) := by decide +kernel
theorem d_Cho_findNext_20 : decode b_Cho_findNext 20 = .ok (.iadd, 1) := by decide +kernel
theorem d_Cho_findNext_21 : decode b_Cho_findNext 21 = .ok (.istore 5, 2) := by decide +kernel
theorem d_Cho_findNext_23 : decode b_Cho_findNext 23 = .ok (.iload 5, 2) := by decide +kernel
theorem d_Cho_findNext_25 : decode b_Cho_findNext 25 = .ok (.iload_n 3, 1) := by decide +kernel
theorem d_Cho_findNext_26 : decode b_Cho_findNext 26 = .ok (.if_icmp .gt 97, 3) := by decide +kernel
theorem d_Cho_findNext_29 : decode b_Cho_findNext 29 = .ok (.iload 4, 2) := by decide +kernel
theorem d_Cho_findNext_31 : decode b_Cho_findNext 31 = .ok (.ifCond .eq 92, 3) := by decide +kernel
theorem d_Cho_findNext_34 : decode b_Cho_findNext 34 = .ok (.aload_n 1, 1) := by decide +kernel
theorem d_Cho_findNext_35 : decode b_Cho_findNext 35 = .ok (.iload_n 2, 1) := by decide +kernel
theorem d_Cho_findNext_36 : decode b_Cho_findNext 36 = .ok (.iload 5, 2) := by decide +kernel
theorem d_Cho_findNext_38 : decode b_Cho_findNext 38 = .ok (.invokevirtual 42, 3) := by decide +kernel
theorem d_Cho_findNext_41 : decode b_Cho_findNext 41 = .ok (.lstore 6, 2) := by decide +kernel
theorem d_Cho_findNext_43 : decode b_Cho_findNext 43 = .ok (.iload 5, 2) := by decide +kernel
theorem d_Cho_findNext_45 : decode b_Cho_findNext 45 = .ok (.iload_n 3, 1) := by decide +kernel
theorem d_Cho_findNext_46 : decode b_Cho_findNext 46 = .ok (.if_icmp .eq 13, 3) := by decide +kernel
theorem d_Cho_findNext_49 : decode b_Cho_findNext 49 = .ok (.aload_n 0, 1) := by decide +kernel
theorem d_Cho_findNext_50 : decode b_Cho_findNext 50 = .ok (.getfield 19, 3) := by decide +kernel
theorem d_Cho_findNext_53 : decode b_Cho_findNext 53 = .ok (.iload 5, 2) := by decide +kernel
theorem d_Cho_findNext_55 : decode b_Cho_findNext 55 = .ok (.iaload, 1) := by decide +kernel
theorem d_Cho_findNext_56 : decode b_Cho_findNext 56 = .ok (.ifCond .eq 7, 3) := by decide +kernel
theorem d_Cho_findNext_59 : decode b_Cho_findNext 59 = .ok (.iconst 1, 1) := by decide +kernel
theorem d_Cho_findNext_60 : decode b_Cho_findNext 60 = .ok (.goto 4, 3) := by decide +kernel
theorem d_Cho_findNext_63 : decode b_Cho_findNext 63 = .ok (.iconst 0, 1) := by decide +kernel
theorem d_Cho_findNext_64 : decode b_Cho_findNext 64 = .ok (.istore 8, 2) := by decide +kernel
theorem d_Cho_findNext_66 : decode b_Cho_findNext 66 = .ok (.iload 8, 2) := by decide +kernel
theorem d_Cho_findNext_68 : decode b_Cho_findNext 68 = .ok (.ifCond .eq 28, 3) := by decide +kernel
theorem d_Cho_findNext_71 : decode b_Cho_findNext 71 = .ok (.lload 6, 2) := by decide +kernel
theorem d_Cho_findNext_73 : decode b_Cho_findNext 73 = .ok (.ldc2_w 46, 3) := by decide +kernel
theorem d_Cho_findNext_76 : decode b_Cho_findNext 76 = .ok (.lcmp, 1) := by decide +kernel
theorem d_Cho_findNext_77 : decode b_Cho_findNext 77 = .ok (.ifCond .eq 19, 3) := by decide +kernel
theorem d_Cho_findNext_80 : decode b_Cho_findNext 80 = .ok (.aload_n 0, 1) := by decide +kernel
theorem d_Cho_findNext_81 : decode b_Cho_findNext 81 = .ok (.iload_n 2, 1) := by decide +kernel
theorem d_Cho_findNext_82 : decode b_Cho_findNext 82 = .ok (.iload 5, 2) := by decide +kernel
theorem d_Cho_findNext_84 : decode b_Cho_findNext 84 = .ok (.aload_n 1, 1) := by decide +kernel
theorem d_Cho_findNext_85 : decode b_Cho_findNext 85 = .ok (.iload_n 2, 1) := by decide +kernel
theorem d_Cho_findNext_86 : decode b_Cho_findNext 86 = .ok (.iload 5, 2) := by decide +kernel
theorem d_Cho_findNext_88 : decode b_Cho_findNext 88 = .ok (.lload 6, 2) := by decide +kernel
theorem d_Cho_findNext_90 : decode b_Cho_findNext 90 = .ok (.invokevirtual 48, 3) := by decide +kernel
theorem d_Cho_findNext_93 : decode b_Cho_findNext 93 = .ok (.invokevirtual 52, 3) := by decide +kernel
theorem d_Cho_findNext_96 : decode b_Cho_findNext 96 = .ok (.aload_n 1, 1) := by decide +kernel
theorem d_Cho_findNext_97 : decode b_Cho_findNext 97 = .ok (.getfield 22, 3) := by decide +kernel
theorem d_Cho_findNext_100 : decode b_Cho_findNext 100 = .ok (.getfield 56, 3) := by decide +kernel
theorem d_Cho_findNext_103 : decode b_Cho_findNext 103 = .ok (.iload 5, 2) := by decide +kernel
theorem d_Cho_findNext_105 : decode b_Cho_findNext 105 = .ok (.iaload, 1) := by decide +kernel
theorem d_Cho_findNext_106 : decode b_Cho_findNext 106 = .ok (.iconst 3, 1) := by decide +kernel
theorem d_Cho_findNext_107 : decode b_Cho_findNext 107 = .ok (.if_icmp .eq 7, 3) := by decide +kernel
theorem d_Cho_findNext_110 : decode b_Cho_findNext 110 = .ok (.iconst 1, 1) := by decide +kernel
theorem d_Cho_findNext_111 : decode b_Cho_findNext 111 = .ok (.goto 4, 3) := by decide +kernel
theorem d_Cho_findNext_114 : decode b_Cho_findNext 114 = .ok (.iconst 0, 1) := by decide +kernel
theorem d_Cho_findNext_115 : decode b_Cho_findNext 115 = .ok (.istore 4, 2) := by decide +kernel
theorem d_Cho_findNext_117 : decode b_Cho_findNext 117 = .ok (.iinc 5 1, 3) := by decide +kernel
theorem d_Cho_findNext_120 : decode b_Cho_findNext 120 = .ok (.goto (-97), 3) := by decide +kernel
theorem d_Cho_findNext_123 : decode b_Cho_findNext 123 = .ok (.return_, 1) := by decide +kernel
theorem d_Stg_badness_0 : decode b_Stg_badness 0 = .ok (.aload_n 0, 1) := by decide +kernel
theorem d_Stg_badness_1 : decode b_Stg_badness 1 = .ok (.iload_n 1, 1) := by decide +kernel
theorem d_Stg_badness_2 : decode b_Stg_badness 2 = .ok (.iload_n 2, 1) := by decide +kernel
theorem d_Stg_badness_3 : decode b_Stg_badness 3 = .ok (.invokevirtual 81, 3) := by decide +kernel
theorem d_Stg_badness_6 : decode b_Stg_badness 6 = .ok (.aload_n 0, 1) := by decide +kernel
theorem d_Stg_badness_7 : decode b_Stg_badness 7 = .ok (.aload_n 0, 1) := by decide +kernel
theorem d_Stg_badness_8 : decode b_Stg_badness 8 = .ok (.getfield 28, 3) := by decide +kernel
theorem d_Stg_badness_11 : decode b_Stg_badness 11 = .ok (.getfield 83, 3) := by decide +kernel
theorem d_Stg_badness_14 : decode b_Stg_badness 14 = .ok (.iload_n 1, 1) := by decide +kernel
theorem d_Stg_badness_15 : decode b_Stg_badness 15 = .ok (.iload_n 2, 1) := by decide +kernel
theorem d_Stg_badness_16 : decode b_Stg_badness 16 = .ok (.invokevirtual 67, 3) := by decide +kernel
theorem d_Stg_badness_19 : decode b_Stg_badness 19 = .ok (.iadd, 1) := by decide +kernel
theorem d_Stg_badness_20 : decode b_Stg_badness 20 = .ok (.ifCond .ne 7, 3) := by decide +kernel
theorem d_Stg_badness_23 : decode b_Stg_badness 23 = .ok (.ldc2_w 86, 3) := by decide +kernel
theorem d_Stg_badness_26 : decode b_Stg_badness 26 = .ok (.lreturn, 1) := by decide +kernel
theorem d_Stg_badness_27 : decode b_Stg_badness 27 = .ok (.aload_n 0, 1) := by decide +kernel
theorem d_Stg_badness_28 : decode b_Stg_badness 28 = .ok (.iload_n 1, 1) := by decide +kernel
theorem d_Stg_badness_29 : decode b_Stg_badness 29 = .ok (.iload_n 2, 1) := by decide +kernel
theorem d_Stg_badness_30 : decode b_Stg_badness 30 = .ok (.invokevirtual 88, 3) := by decide +kernel
theorem d_Stg_badness_33 : decode b_Stg_badness 33 = .ok (.istore_n 3, 1) := by decide +kernel
theorem d_Stg_badness_34 : decode b_Stg_badness 34 = .ok (.iload_n 3, 1) := by decide +kernel
theorem d_Stg_badness_35 : decode b_Stg_badness 35 = .ok (.ifCond .eq 12, 3) := by decide +kernel
theorem d_Stg_badness_38 : decode b_Stg_badness 38 = .ok (.aload_n 0, 1) := by decide +kernel
theorem d_Stg_badness_39 : decode b_Stg_badness 39 = .ok (.iload_n 3, 1) := by decide +kernel
theorem d_Stg_badness_40 : decode b_Stg_badness 40 = .ok (.iload_n 2, 1) := by decide +kernel
theorem d_Stg_badness_41 : decode b_Stg_badness 41 = .ok (.invokevirtual 91, 3) := by decide +kernel
theorem d_Stg_badness_44 : decode b_Stg_badness 44 = .ok (.ifCond .eq 5, 3) := by decide +kernel
theorem d_Stg_badness_47 : decode b_Stg_badness 47 = .ok (.lconst 0, 1) := by decide +kernel
theorem d_Stg_badness_48 : decode b_Stg_badness 48 = .ok (.lreturn, 1) := by decide +kernel
theorem d_Stg_badness_49 : decode b_Stg_badness 49 = .ok (.aload_n 0, 1) := by decide +kernel
theorem d_Stg_badness_50 : decode b_Stg_badness 50 = .ok (.iload_n 3, 1) := by decide +kernel
theorem d_Stg_badness_51 : decode b_Stg_badness 51 = .ok (.ifCond .le 13, 3) := by decide +kernel
theorem d_Stg_badness_54 : decode b_Stg_badness 54 = .ok (.aload_n 0, 1) := by decide +kernel
theorem d_Stg_badness_55 : decode b_Stg_badness 55 = .ok (.getfield 28, 3) := by decide +kernel
theorem d_Stg_badness_58 : decode b_Stg_badness 58 = .ok (.getfield 95, 3) := by decide +kernel
theorem d_Stg_badness_61 : decode b_Stg_badness 61 = .ok (.goto 10, 3) := by decide +kernel
theorem d_Stg_badness_64 : decode b_Stg_badness 64 = .ok (.aload_n 0, 1) := by decide +kernel
theorem d_Stg_badness_65 : decode b_Stg_badness 65 = .ok (.getfield 28, 3) := by decide +kernel
theorem d_Stg_badness_68 : decode b_Stg_badness 68 = .ok (.getfield 98, 3) := by decide +kernel
theorem d_Stg_badness_71 : decode b_Stg_badness 71 = .ok (.iload_n 1, 1) := by decide +kernel
theorem d_Stg_badness_72 : decode b_Stg_badness 72 = .ok (.iload_n 2, 1) := by decide +kernel
theorem d_Stg_badness_73 : decode b_Stg_badness 73 = .ok (.invokevirtual 67, 3) := by decide +kernel
theorem d_Stg_badness_76 : decode b_Stg_badness 76 = .ok (.istore 4, 2) := by decide +kernel
theorem d_Stg_badness_78 : decode b_Stg_badness 78 = .ok (.iload 4, 2) := by decide +kernel
theorem d_Stg_badness_80 : decode b_Stg_badness 80 = .ok (.ifCond .eq 10, 3) := by decide +kernel
theorem d_Stg_badness_83 : decode b_Stg_badness 83 = .ok (.iload_n 3, 1) := by decide +kernel
theorem d_Stg_badness_84 : decode b_Stg_badness 84 = .ok (.ineg, 1) := by decide +kernel
theorem d_Stg_badness_85 : decode b_Stg_badness 85 = .ok (.iload 4, 2) := by decide +kernel
theorem d_Stg_badness_87 : decode b_Stg_badness 87 = .ok (.if_icmp .le 7, 3) := by decide +kernel
theorem d_Stg_badness_90 : decode b_Stg_badness 90 = .ok (.ldc2_w 86, 3) := by decide +kernel
theorem d_Stg_badness_93 : decode b_Stg_badness 93 = .ok (.lreturn, 1) := by decide +kernel
theorem d_Stg_badness_94 : decode b_Stg_badness 94 = .ok (.ldc2_w 101, 3) := by decide +kernel
theorem d_Stg_badness_97 : decode b_Stg_badness 97 = .ok (.iload_n 3, 1) := by decide +kernel
theorem d_Stg_badness_98 : decode b_Stg_badness 98 = .ok (.invokestatic 103, 3) := by decide +kernel
theorem d_Stg_badness_101 : decode b_Stg_badness 101 = .ok (.i2l, 1) := by decide +kernel
theorem d_Stg_badness_102 : decode b_Stg_badness 102 = .ok (.invokestatic 108, 3) := by decide +kernel
theorem d_Stg_badness_105 : decode b_Stg_badness 105 = .ok (.lmul, 1) := by decide +kernel
theorem d_Stg_badness_106 : decode b_Stg_badness 106 = .ok (.iload 4, 2) := by decide +kernel
theorem d_Stg_badness_108 : decode b_Stg_badness 108 = .ok (.i2l, 1) := by decide +kernel
theorem d_Stg_badness_109 : decode b_Stg_badness 109 = .ok (.invokestatic 108, 3) := by decide +kernel
theorem d_Stg_badness_112 : decode b_Stg_badness 112 = .ok (.ldiv, 1) := by decide +kernel
theorem d_Stg_badness_113 : decode b_Stg_badness 113 = .ok (.lstore 5, 2) := by decide +kernel
theorem d_Stg_badness_115 : decode b_Stg_badness 115 = .ok (.lload 5, 2) := by decide +kernel
theorem d_Stg_badness_117 : decode b_Stg_badness 117 = .ok (.aload_n 0, 1) := by decide +kernel
theorem d_Stg_badness_118 : decode b_Stg_badness 118 = .ok (.getfield 36, 3) := by decide +kernel
theorem d_Stg_badness_121 : decode b_Stg_badness 121 = .ok (.iconst 1, 1) := by decide +kernel
theorem d_Stg_badness_122 : decode b_Stg_badness 122 = .ok (.iaload, 1) := by decide +kernel
theorem d_Stg_badness_123 : decode b_Stg_badness 123 = .ok (.i2l, 1) := by decide +kernel
theorem d_Stg_badness_124 : decode b_Stg_badness 124 = .ok (.lcmp, 1) := by decide +kernel
theorem d_Stg_badness_125 : decode b_Stg_badness 125 = .ok (.ifCond .le 9, 3) := by decide +kernel
theorem d_Stg_badness_128 : decode b_Stg_badness 128 = .ok (.ldc2_w 86, 3) := by decide +kernel
theorem d_Stg_badness_131 : decode b_Stg_badness 131 = .ok (.goto 5, 3) := by decide +kernel
theorem d_Stg_badness_134 : decode b_Stg_badness 134 = .ok (.lload 5, 2) := by decide +kernel
theorem d_Stg_badness_136 : decode b_Stg_badness 136 = .ok (.lreturn, 1) := by decide +kernel
theorem d_Stg_letters_0 : decode b_Stg_letters 0 = .ok (.aload_n 0, 1) := by decide +kernel
theorem d_Stg_letters_1 : decode b_Stg_letters 1 = .ok (.aload_n 0, 1) := by decide +kernel
theorem d_Stg_letters_2 : decode b_Stg_letters 2 = .ok (.getfield 28, 3) := by decide +kernel
theorem d_Stg_letters_5 : decode b_Stg_letters 5 = .ok (.getfield 64, 3) := by decide +kernel
theorem d_Stg_letters_8 : decode b_Stg_letters 8 = .ok (.iload_n 1, 1) := by decide +kernel
theorem d_Stg_letters_9 : decode b_Stg_letters 9 = .ok (.iload_n 2, 1) := by decide +kernel
theorem d_Stg_letters_10 : decode b_Stg_letters 10 = .ok (.invokevirtual 67, 3) := by decide +kernel
theorem d_Stg_letters_13 : decode b_Stg_letters 13 = .ok (.ireturn, 1) := by decide +kernel
theorem d_Stg_over_0 : decode b_Stg_over 0 = .ok (.aload_n 1, 1) := by decide +kernel
theorem d_Stg_over_1 : decode b_Stg_over 1 = .ok (.aload_n 0, 1) := by decide +kernel
theorem d_Stg_over_2 : decode b_Stg_over 2 = .ok (.getfield 21, 3) := by decide +kernel
theorem d_Stg_over_5 : decode b_Stg_over 5 = .ok (.getfield 130, 3) := by decide +kernel
theorem d_Stg_over_8 : decode b_Stg_over 8 = .ok (.iload_n 3, 1) := by decide +kernel
theorem d_Stg_over_9 : decode b_Stg_over 9 = .ok (.iaload, 1) := by decide +kernel
theorem d_Stg_over_10 : decode b_Stg_over 10 = .ok (.iaload, 1) := by decide +kernel
theorem d_Stg_over_11 : decode b_Stg_over 11 = .ok (.aload_n 1, 1) := by decide +kernel
theorem d_Stg_over_12 : decode b_Stg_over 12 = .ok (.aload_n 0, 1) := by decide +kernel
theorem d_Stg_over_13 : decode b_Stg_over 13 = .ok (.getfield 21, 3) := by decide +kernel
theorem d_Stg_over_16 : decode b_Stg_over 16 = .ok (.getfield 124, 3) := by decide +kernel
theorem d_Stg_over_19 : decode b_Stg_over 19 = .ok (.iload_n 2, 1) := by decide +kernel
theorem d_Stg_over_20 : decode b_Stg_over 20 = .ok (.iaload, 1) := by decide +kernel
theorem d_Stg_over_21 : decode b_Stg_over 21 = .ok (.iaload, 1) := by decide +kernel
theorem d_Stg_over_22 : decode b_Stg_over 22 = .ok (.isub, 1) := by decide +kernel
theorem d_Stg_over_23 : decode b_Stg_over 23 = .ok (.ireturn, 1) := by decide +kernel
theorem d_Stg_difference_0 : decode b_Stg_difference 0 = .ok (.aload_n 0, 1) := by decide +kernel
theorem d_Stg_difference_1 : decode b_Stg_difference 1 = .ok (.getfield 36, 3) := by decide +kernel
theorem d_Stg_difference_4 : decode b_Stg_difference 4 = .ok (.iconst 0, 1) := by decide +kernel
theorem d_Stg_difference_5 : decode b_Stg_difference 5 = .ok (.iaload, 1) := by decide +kernel
theorem d_Stg_difference_6 : decode b_Stg_difference 6 = .ok (.aload_n 0, 1) := by decide +kernel
theorem d_Stg_difference_7 : decode b_Stg_difference 7 = .ok (.iload_n 1, 1) := by decide +kernel
theorem d_Stg_difference_8 : decode b_Stg_difference 8 = .ok (.iload_n 2, 1) := by decide +kernel
theorem d_Stg_difference_9 : decode b_Stg_difference 9 = .ok (.invokevirtual 77, 3) := by decide +kernel
theorem d_Stg_difference_12 : decode b_Stg_difference 12 = .ok (.isub, 1) := by decide +kernel
theorem d_Stg_difference_13 : decode b_Stg_difference 13 = .ok (.ireturn, 1) := by decide +kernel
theorem d_Stg_natural_0 : decode b_Stg_natural 0 = .ok (.aload_n 0, 1) := by decide +kernel
theorem d_Stg_natural_1 : decode b_Stg_natural 1 = .ok (.aload_n 0, 1) := by decide +kernel
theorem d_Stg_natural_2 : decode b_Stg_natural 2 = .ok (.getfield 28, 3) := by decide +kernel
theorem d_Stg_natural_5 : decode b_Stg_natural 5 = .ok (.getfield 71, 3) := by decide +kernel
theorem d_Stg_natural_8 : decode b_Stg_natural 8 = .ok (.iload_n 1, 1) := by decide +kernel
theorem d_Stg_natural_9 : decode b_Stg_natural 9 = .ok (.iload_n 2, 1) := by decide +kernel
theorem d_Stg_natural_10 : decode b_Stg_natural 10 = .ok (.invokevirtual 67, 3) := by decide +kernel
theorem d_Stg_natural_13 : decode b_Stg_natural 13 = .ok (.aload_n 0, 1) := by decide +kernel
theorem d_Stg_natural_14 : decode b_Stg_natural 14 = .ok (.getfield 21, 3) := by decide +kernel
theorem d_Stg_natural_17 : decode b_Stg_natural 17 = .ok (.getfield 74, 3) := by decide +kernel
theorem d_Stg_natural_20 : decode b_Stg_natural 20 = .ok (.iload_n 2, 1) := by decide +kernel
theorem d_Stg_natural_21 : decode b_Stg_natural 21 = .ok (.iaload, 1) := by decide +kernel
theorem d_Stg_natural_22 : decode b_Stg_natural 22 = .ok (.iconst 2, 1) := by decide +kernel
theorem d_Stg_natural_23 : decode b_Stg_natural 23 = .ok (.if_icmp .ne 10, 3) := by decide +kernel
theorem d_Stg_natural_26 : decode b_Stg_natural 26 = .ok (.aload_n 0, 1) := by decide +kernel
theorem d_Stg_natural_27 : decode b_Stg_natural 27 = .ok (.getfield 39, 3) := by decide +kernel
theorem d_Stg_natural_30 : decode b_Stg_natural 30 = .ok (.goto 4, 3) := by decide +kernel
theorem d_Stg_natural_33 : decode b_Stg_natural 33 = .ok (.iconst 0, 1) := by decide +kernel
theorem d_Stg_natural_34 : decode b_Stg_natural 34 = .ok (.iadd, 1) := by decide +kernel
theorem d_Stg_natural_35 : decode b_Stg_natural 35 = .ok (.ireturn, 1) := by decide +kernel
theorem d_Stg_isLoose_0 : decode b_Stg_isLoose 0 = .ok (.iload_n 1, 1) := by decide +kernel
theorem d_Stg_isLoose_1 : decode b_Stg_isLoose 1 = .ok (.ifCond .le 33, 3) := by decide +kernel
theorem d_Stg_isLoose_4 : decode b_Stg_isLoose 4 = .ok (.aload_n 0, 1) := by decide +kernel
theorem d_Stg_isLoose_5 : decode b_Stg_isLoose 5 = .ok (.getfield 21, 3) := by decide +kernel
theorem d_Stg_isLoose_8 : decode b_Stg_isLoose 8 = .ok (.getfield 74, 3) := by decide +kernel
theorem d_Stg_isLoose_11 : decode b_Stg_isLoose 11 = .ok (.iload_n 2, 1) := by decide +kernel
theorem d_Stg_isLoose_12 : decode b_Stg_isLoose 12 = .ok (.iaload, 1) := by decide +kernel
theorem d_Stg_isLoose_13 : decode b_Stg_isLoose 13 = .ok (.iconst 3, 1) := by decide +kernel
theorem d_Stg_isLoose_14 : decode b_Stg_isLoose 14 = .ok (.if_icmp .eq 16, 3) := by decide +kernel
theorem d_Stg_isLoose_17 : decode b_Stg_isLoose 17 = .ok (.aload_n 0, 1) := by decide +kernel
theorem d_Stg_isLoose_18 : decode b_Stg_isLoose 18 = .ok (.getfield 21, 3) := by decide +kernel
theorem d_Stg_isLoose_21 : decode b_Stg_isLoose 21 = .ok (.getfield 74, 3) := by decide +kernel
theorem d_Stg_isLoose_24 : decode b_Stg_isLoose 24 = .ok (.iload_n 2, 1) := by decide +kernel
theorem d_Stg_isLoose_25 : decode b_Stg_isLoose 25 = .ok (.iaload, 1) := by decide +kernel
theorem d_Stg_isLoose_26 : decode b_Stg_isLoose 26 = .ok (.iconst 4, 1) := by decide +kernel
theorem d_Stg_isLoose_27 : decode b_Stg_isLoose 27 = .ok (.if_icmp .ne 7, 3) := by decide +kernel
theorem d_Stg_isLoose_30 : decode b_Stg_isLoose 30 = .ok (.iconst 1, 1) := by decide +kernel
theorem d_Stg_isLoose_31 : decode b_Stg_isLoose 31 = .ok (.goto 4, 3) := by decide +kernel
theorem d_Stg_isLoose_34 : decode b_Stg_isLoose 34 = .ok (.iconst 0, 1) := by decide +kernel
theorem d_Stg_isLoose_35 : decode b_Stg_isLoose 35 = .ok (.ireturn, 1) := by decide +kernel
theorem d_Stg_cube_0 : decode b_Stg_cube 0 = .ok (.lload_n 0, 1) := by decide +kernel
theorem d_Stg_cube_1 : decode b_Stg_cube 1 = .ok (.lload_n 0, 1) := by decide +kernel
theorem d_Stg_cube_2 : decode b_Stg_cube 2 = .ok (.lmul, 1) := by decide +kernel
theorem d_Stg_cube_3 : decode b_Stg_cube 3 = .ok (.lload_n 0, 1) := by decide +kernel
theorem d_Stg_cube_4 : decode b_Stg_cube 4 = .ok (.lmul, 1) := by decide +kernel
theorem d_Stg_cube_5 : decode b_Stg_cube 5 = .ok (.lreturn, 1) := by decide +kernel
theorem d_Stg_price_0 : decode b_Stg_price 0 = .ok (.aload_n 0, 1) := by decide +kernel
theorem d_Stg_price_1 : decode b_Stg_price 1 = .ok (.getfield 36, 3) := by decide +kernel
theorem d_Stg_price_4 : decode b_Stg_price 4 = .ok (.iconst 2, 1) := by decide +kernel
theorem d_Stg_price_5 : decode b_Stg_price 5 = .ok (.iaload, 1) := by decide +kernel
theorem d_Stg_price_6 : decode b_Stg_price 6 = .ok (.i2l, 1) := by decide +kernel
theorem d_Stg_price_7 : decode b_Stg_price 7 = .ok (.lload_n 3, 1) := by decide +kernel
theorem d_Stg_price_8 : decode b_Stg_price 8 = .ok (.ladd, 1) := by decide +kernel
theorem d_Stg_price_9 : decode b_Stg_price 9 = .ok (.invokestatic 112, 3) := by decide +kernel
theorem d_Stg_price_12 : decode b_Stg_price 12 = .ok (.lstore 5, 2) := by decide +kernel
theorem d_Stg_price_14 : decode b_Stg_price 14 = .ok (.aload_n 0, 1) := by decide +kernel
theorem d_Stg_price_15 : decode b_Stg_price 15 = .ok (.getfield 21, 3) := by decide +kernel
theorem d_Stg_price_18 : decode b_Stg_price 18 = .ok (.getfield 74, 3) := by decide +kernel
theorem d_Stg_price_21 : decode b_Stg_price 21 = .ok (.iload_n 2, 1) := by decide +kernel
theorem d_Stg_price_22 : decode b_Stg_price 22 = .ok (.iaload, 1) := by decide +kernel
theorem d_Stg_price_23 : decode b_Stg_price 23 = .ok (.iconst 2, 1) := by decide +kernel
theorem d_Stg_price_24 : decode b_Stg_price 24 = .ok (.if_icmp .ne 43, 3) := by decide +kernel
theorem d_Stg_price_27 : decode b_Stg_price 27 = .ok (.lload 5, 2) := by decide +kernel
theorem d_Stg_price_29 : decode b_Stg_price 29 = .ok (.aload_n 0, 1) := by decide +kernel
theorem d_Stg_price_30 : decode b_Stg_price 30 = .ok (.getfield 36, 3) := by decide +kernel
theorem d_Stg_price_33 : decode b_Stg_price 33 = .ok (.iconst 3, 1) := by decide +kernel
theorem d_Stg_price_34 : decode b_Stg_price 34 = .ok (.iaload, 1) := by decide +kernel
theorem d_Stg_price_35 : decode b_Stg_price 35 = .ok (.i2l, 1) := by decide +kernel
theorem d_Stg_price_36 : decode b_Stg_price 36 = .ok (.invokestatic 112, 3) := by decide +kernel
theorem d_Stg_price_39 : decode b_Stg_price 39 = .ok (.ladd, 1) := by decide +kernel
theorem d_Stg_price_40 : decode b_Stg_price 40 = .ok (.lstore 5, 2) := by decide +kernel
theorem d_Stg_price_42 : decode b_Stg_price 42 = .ok (.aload_n 0, 1) := by decide +kernel
theorem d_Stg_price_43 : decode b_Stg_price 43 = .ok (.getfield 21, 3) := by decide +kernel
theorem d_Stg_price_46 : decode b_Stg_price 46 = .ok (.getfield 74, 3) := by decide +kernel
theorem d_Stg_price_49 : decode b_Stg_price 49 = .ok (.iload_n 1, 1) := by decide +kernel
theorem d_Stg_price_50 : decode b_Stg_price 50 = .ok (.iaload, 1) := by decide +kernel
theorem d_Stg_price_51 : decode b_Stg_price 51 = .ok (.iconst 2, 1) := by decide +kernel
theorem d_Stg_price_52 : decode b_Stg_price 52 = .ok (.if_icmp .ne 15, 3) := by decide +kernel
theorem d_Stg_price_55 : decode b_Stg_price 55 = .ok (.lload 5, 2) := by decide +kernel
theorem d_Stg_price_57 : decode b_Stg_price 57 = .ok (.aload_n 0, 1) := by decide +kernel
theorem d_Stg_price_58 : decode b_Stg_price 58 = .ok (.getfield 36, 3) := by decide +kernel
theorem d_Stg_price_61 : decode b_Stg_price 61 = .ok (.iconst 4, 1) := by decide +kernel
theorem d_Stg_price_62 : decode b_Stg_price 62 = .ok (.iaload, 1) := by decide +kernel
theorem d_Stg_price_63 : decode b_Stg_price 63 = .ok (.i2l, 1) := by decide +kernel
theorem d_Stg_price_64 : decode b_Stg_price 64 = .ok (.ladd, 1) := by decide +kernel
theorem d_Stg_price_65 : decode b_Stg_price 65 = .ok (.lstore 5, 2) := by decide +kernel
theorem d_Stg_price_67 : decode b_Stg_price 67 = .ok (.lload 5, 2) := by decide +kernel
theorem d_Stg_price_69 : decode b_Stg_price 69 = .ok (.lreturn, 1) := by decide +kernel
theorem d_Stg_square_0 : decode b_Stg_square 0 = .ok (.lload_n 0, 1) := by decide +kernel
theorem d_Stg_square_1 : decode b_Stg_square 1 = .ok (.lload_n 0, 1) := by decide +kernel
theorem d_Stg_square_2 : decode b_Stg_square 2 = .ok (.lmul, 1) := by decide +kernel
theorem d_Stg_square_3 : decode b_Stg_square 3 = .ok (.lreturn, 1) := by decide +kernel
theorem d_Cho_keepBetter_0 : decode b_Cho_keepBetter 0 = .ok (.aload_n 0, 1) := by decide +kernel
theorem d_Cho_keepBetter_1 : decode b_Cho_keepBetter 1 = .ok (.getfield 9, 3) := by decide +kernel
theorem d_Cho_keepBetter_4 : decode b_Cho_keepBetter 4 = .ok (.iload_n 2, 1) := by decide +kernel
theorem d_Cho_keepBetter_5 : decode b_Cho_keepBetter 5 = .ok (.laload, 1) := by decide +kernel
theorem d_Cho_keepBetter_6 : decode b_Cho_keepBetter 6 = .ok (.lload_n 3, 1) := by decide +kernel
theorem d_Cho_keepBetter_7 : decode b_Cho_keepBetter 7 = .ok (.ladd, 1) := by decide +kernel
theorem d_Cho_keepBetter_8 : decode b_Cho_keepBetter 8 = .ok (.lstore 5, 2) := by decide +kernel
theorem d_Cho_keepBetter_10 : decode b_Cho_keepBetter 10 = .ok (.aload_n 0, 1) := by decide +kernel
theorem d_Cho_keepBetter_11 : decode b_Cho_keepBetter 11 = .ok (.getfield 15, 3) := by decide +kernel
theorem d_Cho_keepBetter_14 : decode b_Cho_keepBetter 14 = .ok (.iload_n 2, 1) := by decide +kernel
theorem d_Cho_keepBetter_15 : decode b_Cho_keepBetter 15 = .ok (.iaload, 1) := by decide +kernel
theorem d_Cho_keepBetter_16 : decode b_Cho_keepBetter 16 = .ok (.iconst 1, 1) := by decide +kernel
theorem d_Cho_keepBetter_17 : decode b_Cho_keepBetter 17 = .ok (.iadd, 1) := by decide +kernel
theorem d_Cho_keepBetter_18 : decode b_Cho_keepBetter 18 = .ok (.istore 7, 2) := by decide +kernel
theorem d_Cho_keepBetter_20 : decode b_Cho_keepBetter 20 = .ok (.aload_n 0, 1) := by decide +kernel
theorem d_Cho_keepBetter_21 : decode b_Cho_keepBetter 21 = .ok (.getfield 19, 3) := by decide +kernel
theorem d_Cho_keepBetter_24 : decode b_Cho_keepBetter 24 = .ok (.iload_n 1, 1) := by decide +kernel
theorem d_Cho_keepBetter_25 : decode b_Cho_keepBetter 25 = .ok (.iaload, 1) := by decide +kernel
theorem d_Cho_keepBetter_26 : decode b_Cho_keepBetter 26 = .ok (.ifCond .eq 38, 3) := by decide +kernel
theorem d_Cho_keepBetter_29 : decode b_Cho_keepBetter 29 = .ok (.lload 5, 2) := by decide +kernel
theorem d_Cho_keepBetter_31 : decode b_Cho_keepBetter 31 = .ok (.aload_n 0, 1) := by decide +kernel
theorem d_Cho_keepBetter_32 : decode b_Cho_keepBetter 32 = .ok (.getfield 9, 3) := by decide +kernel
theorem d_Cho_keepBetter_35 : decode b_Cho_keepBetter 35 = .ok (.iload_n 1, 1) := by decide +kernel
theorem d_Cho_keepBetter_36 : decode b_Cho_keepBetter 36 = .ok (.laload, 1) := by decide +kernel
theorem d_Cho_keepBetter_37 : decode b_Cho_keepBetter 37 = .ok (.lcmp, 1) := by decide +kernel
theorem d_Cho_keepBetter_38 : decode b_Cho_keepBetter 38 = .ok (.ifCond .lt 26, 3) := by decide +kernel
theorem d_Cho_keepBetter_41 : decode b_Cho_keepBetter 41 = .ok (.lload 5, 2) := by decide +kernel
theorem d_Cho_keepBetter_43 : decode b_Cho_keepBetter 43 = .ok (.aload_n 0, 1) := by decide +kernel
theorem d_Cho_keepBetter_44 : decode b_Cho_keepBetter 44 = .ok (.getfield 9, 3) := by decide +kernel
theorem d_Cho_keepBetter_47 : decode b_Cho_keepBetter 47 = .ok (.iload_n 1, 1) := by decide +kernel
theorem d_Cho_keepBetter_48 : decode b_Cho_keepBetter 48 = .ok (.laload, 1) := by decide +kernel
theorem d_Cho_keepBetter_49 : decode b_Cho_keepBetter 49 = .ok (.lcmp, 1) := by decide +kernel
theorem d_Cho_keepBetter_50 : decode b_Cho_keepBetter 50 = .ok (.ifCond .ne 37, 3) := by decide +kernel
theorem d_Cho_keepBetter_53 : decode b_Cho_keepBetter 53 = .ok (.iload 7, 2) := by decide +kernel
theorem d_Cho_keepBetter_55 : decode b_Cho_keepBetter 55 = .ok (.aload_n 0, 1) := by decide +kernel
theorem d_Cho_keepBetter_56 : decode b_Cho_keepBetter 56 = .ok (.getfield 15, 3) := by decide +kernel
theorem d_Cho_keepBetter_59 : decode b_Cho_keepBetter 59 = .ok (.iload_n 1, 1) := by decide +kernel
theorem d_Cho_keepBetter_60 : decode b_Cho_keepBetter 60 = .ok (.iaload, 1) := by decide +kernel
theorem d_Cho_keepBetter_61 : decode b_Cho_keepBetter 61 = .ok (.if_icmp .ge 26, 3) := by decide +kernel
theorem d_Cho_keepBetter_64 : decode b_Cho_keepBetter 64 = .ok (.aload_n 0, 1) := by decide +kernel
theorem d_Cho_keepBetter_65 : decode b_Cho_keepBetter 65 = .ok (.getfield 9, 3) := by decide +kernel
theorem d_Cho_keepBetter_68 : decode b_Cho_keepBetter 68 = .ok (.iload_n 1, 1) := by decide +kernel
theorem d_Cho_keepBetter_69 : decode b_Cho_keepBetter 69 = .ok (.lload 5, 2) := by decide +kernel
theorem d_Cho_keepBetter_71 : decode b_Cho_keepBetter 71 = .ok (.lastore, 1) := by decide +kernel
theorem d_Cho_keepBetter_72 : decode b_Cho_keepBetter 72 = .ok (.aload_n 0, 1) := by decide +kernel
theorem d_Cho_keepBetter_73 : decode b_Cho_keepBetter 73 = .ok (.getfield 15, 3) := by decide +kernel
theorem d_Cho_keepBetter_76 : decode b_Cho_keepBetter 76 = .ok (.iload_n 1, 1) := by decide +kernel
theorem d_Cho_keepBetter_77 : decode b_Cho_keepBetter 77 = .ok (.iload 7, 2) := by decide +kernel
theorem d_Cho_keepBetter_79 : decode b_Cho_keepBetter 79 = .ok (.iastore, 1) := by decide +kernel
theorem d_Cho_keepBetter_80 : decode b_Cho_keepBetter 80 = .ok (.aload_n 0, 1) := by decide +kernel
theorem d_Cho_keepBetter_81 : decode b_Cho_keepBetter 81 = .ok (.getfield 19, 3) := by decide +kernel
theorem d_Cho_keepBetter_84 : decode b_Cho_keepBetter 84 = .ok (.iload_n 1, 1) := by decide +kernel
theorem d_Cho_keepBetter_85 : decode b_Cho_keepBetter 85 = .ok (.iload_n 2, 1) := by decide +kernel
theorem d_Cho_keepBetter_86 : decode b_Cho_keepBetter 86 = .ok (.iastore, 1) := by decide +kernel
theorem d_Cho_keepBetter_87 : decode b_Cho_keepBetter 87 = .ok (.return_, 1) := by decide +kernel
theorem d_Cho_follow_0 : decode b_Cho_follow 0 = .ok (.aload_n 1, 1) := by decide +kernel
theorem d_Cho_follow_1 : decode b_Cho_follow 1 = .ok (.getfield 22, 3) := by decide +kernel
theorem d_Cho_follow_4 : decode b_Cho_follow 4 = .ok (.getfield 28, 3) := by decide +kernel
theorem d_Cho_follow_7 : decode b_Cho_follow 7 = .ok (.istore_n 2, 1) := by decide +kernel
theorem d_Cho_follow_8 : decode b_Cho_follow 8 = .ok (.aload_n 1, 1) := by decide +kernel
theorem d_Cho_follow_9 : decode b_Cho_follow 9 = .ok (.aload_n 0, 1) := by decide +kernel
theorem d_Cho_follow_10 : decode b_Cho_follow 10 = .ok (.getfield 9, 3) := by decide +kernel
theorem d_Cho_follow_13 : decode b_Cho_follow 13 = .ok (.iconst 0, 1) := by decide +kernel
theorem d_Cho_follow_14 : decode b_Cho_follow 14 = .ok (.laload, 1) := by decide +kernel
theorem d_Cho_follow_15 : decode b_Cho_follow 15 = .ok (.putfield 59, 3) := by decide +kernel
theorem d_Cho_follow_18 : decode b_Cho_follow 18 = .ok (.aload_n 1, 1) := by decide +kernel
theorem d_Cho_follow_19 : decode b_Cho_follow 19 = .ok (.aload_n 0, 1) := by decide +kernel
theorem d_Cho_follow_20 : decode b_Cho_follow 20 = .ok (.getfield 15, 3) := by decide +kernel
theorem d_Cho_follow_23 : decode b_Cho_follow 23 = .ok (.iconst 0, 1) := by decide +kernel
theorem d_Cho_follow_24 : decode b_Cho_follow 24 = .ok (.iaload, 1) := by decide +kernel
theorem d_Cho_follow_25 : decode b_Cho_follow 25 = .ok (.putfield 63, 3) := by decide +kernel
theorem d_Cho_follow_28 : decode b_Cho_follow 28 = .ok (.aload_n 1, 1) := by decide +kernel
theorem d_Cho_follow_29 : decode b_Cho_follow 29 = .ok (.getfield 65, 3) := by decide +kernel
theorem d_Cho_follow_32 : decode b_Cho_follow 32 = .ok (.iconst 0, 1) := by decide +kernel
theorem d_Cho_follow_33 : decode b_Cho_follow 33 = .ok (.iconst 0, 1) := by decide +kernel
theorem d_Cho_follow_34 : decode b_Cho_follow 34 = .ok (.iastore, 1) := by decide +kernel
theorem d_Cho_follow_35 : decode b_Cho_follow 35 = .ok (.iconst 0, 1) := by decide +kernel
theorem d_Cho_follow_36 : decode b_Cho_follow 36 = .ok (.istore_n 3, 1) := by decide +kernel
theorem d_Cho_follow_37 : decode b_Cho_follow 37 = .ok (.iload_n 3, 1) := by decide +kernel
theorem d_Cho_follow_38 : decode b_Cho_follow 38 = .ok (.aload_n 1, 1) := by decide +kernel
theorem d_Cho_follow_39 : decode b_Cho_follow 39 = .ok (.getfield 63, 3) := by decide +kernel
theorem d_Cho_follow_42 : decode b_Cho_follow 42 = .ok (.if_icmp .ge 38, 3) := by decide +kernel
theorem d_Cho_follow_45 : decode b_Cho_follow 45 = .ok (.aload_n 1, 1) := by decide +kernel
theorem d_Cho_follow_46 : decode b_Cho_follow 46 = .ok (.getfield 65, 3) := by decide +kernel
theorem d_Cho_follow_49 : decode b_Cho_follow 49 = .ok (.iload_n 3, 1) := by decide +kernel
theorem d_Cho_follow_50 : decode b_Cho_follow 50 = .ok (.iaload, 1) := by decide +kernel
theorem d_Cho_follow_51 : decode b_Cho_follow 51 = .ok (.iload_n 2, 1) := by decide +kernel
theorem d_Cho_follow_52 : decode b_Cho_follow 52 = .ok (.if_icmp .ge 28, 3) := by decide +kernel
theorem d_Cho_follow_55 : decode b_Cho_follow 55 = .ok (.aload_n 1, 1) := by decide +kernel
theorem d_Cho_follow_56 : decode b_Cho_follow 56 = .ok (.getfield 65, 3) := by decide +kernel
theorem d_Cho_follow_59 : decode b_Cho_follow 59 = .ok (.iload_n 3, 1) := by decide +kernel
theorem d_Cho_follow_60 : decode b_Cho_follow 60 = .ok (.iconst 1, 1) := by decide +kernel
theorem d_Cho_follow_61 : decode b_Cho_follow 61 = .ok (.iadd, 1) := by decide +kernel
theorem d_Cho_follow_62 : decode b_Cho_follow 62 = .ok (.aload_n 0, 1) := by decide +kernel
theorem d_Cho_follow_63 : decode b_Cho_follow 63 = .ok (.getfield 19, 3) := by decide +kernel
theorem d_Cho_follow_66 : decode b_Cho_follow 66 = .ok (.aload_n 1, 1) := by decide +kernel
theorem d_Cho_follow_67 : decode b_Cho_follow 67 = .ok (.getfield 65, 3) := by decide +kernel
theorem d_Cho_follow_70 : decode b_Cho_follow 70 = .ok (.iload_n 3, 1) := by decide +kernel
theorem d_Cho_follow_71 : decode b_Cho_follow 71 = .ok (.iaload, 1) := by decide +kernel
theorem d_Cho_follow_72 : decode b_Cho_follow 72 = .ok (.iaload, 1) := by decide +kernel
theorem d_Cho_follow_73 : decode b_Cho_follow 73 = .ok (.iastore, 1) := by decide +kernel
theorem d_Cho_follow_74 : decode b_Cho_follow 74 = .ok (.iinc 3 1, 3) := by decide +kernel
theorem d_Cho_follow_77 : decode b_Cho_follow 77 = .ok (.goto (-40), 3) := by decide +kernel
theorem d_Cho_follow_80 : decode b_Cho_follow 80 = .ok (.return_, 1) := by decide +kernel
theorem d_PS_showDraft_0 : decode b_PS_showDraft 0 = .ok (.aload_n 0, 1) := by decide +kernel
theorem d_PS_showDraft_1 : decode b_PS_showDraft 1 = .ok (.getfield 52, 3) := by decide +kernel
theorem d_PS_showDraft_4 : decode b_PS_showDraft 4 = .ok (.astore_n 1, 1) := by decide +kernel
theorem d_PS_showDraft_5 : decode b_PS_showDraft 5 = .ok (.aload_n 0, 1) := by decide +kernel
theorem d_PS_showDraft_6 : decode b_PS_showDraft 6 = .ok (.aload_n 0, 1) := by decide +kernel
theorem d_PS_showDraft_7 : decode b_PS_showDraft 7 = .ok (.getfield 56, 3) := by decide +kernel
theorem d_PS_showDraft_10 : decode b_PS_showDraft 10 = .ok (.putfield 52, 3) := by decide +kernel
theorem d_PS_showDraft_13 : decode b_PS_showDraft 13 = .ok (.aload_n 0, 1) := by decide +kernel
theorem d_PS_showDraft_14 : decode b_PS_showDraft 14 = .ok (.aload_n 1, 1) := by decide +kernel
theorem d_PS_showDraft_15 : decode b_PS_showDraft 15 = .ok (.putfield 56, 3) := by decide +kernel
theorem d_PS_showDraft_18 : decode b_PS_showDraft 18 = .ok (.return_, 1) := by decide +kernel
theorem d_PS_cost_0 : decode b_PS_cost 0 = .ok (.aload_n 0, 1) := by decide +kernel
theorem d_PS_cost_1 : decode b_PS_cost 1 = .ok (.getfield 52, 3) := by decide +kernel
theorem d_PS_cost_4 : decode b_PS_cost 4 = .ok (.getfield 151, 3) := by decide +kernel
theorem d_PS_cost_7 : decode b_PS_cost 7 = .ok (.lreturn, 1) := by decide +kernel
theorem d_PS_line_0 : decode b_PS_line 0 = .ok (.aload_n 0, 1) := by decide +kernel
theorem d_PS_line_1 : decode b_PS_line 1 = .ok (.getfield 52, 3) := by decide +kernel
theorem d_PS_line_4 : decode b_PS_line 4 = .ok (.iload_n 1, 1) := by decide +kernel
theorem d_PS_line_5 : decode b_PS_line 5 = .ok (.invokevirtual 155, 3) := by decide +kernel
theorem d_PS_line_8 : decode b_PS_line 8 = .ok (.ifCond .ne 5, 3) := by decide +kernel
theorem d_PS_line_11 : decode b_PS_line 11 = .ok (.iconst (-1), 1) := by decide +kernel
theorem d_PS_line_12 : decode b_PS_line 12 = .ok (.ireturn, 1) := by decide +kernel
theorem d_PS_line_13 : decode b_PS_line 13 = .ok (.aload_n 0, 1) := by decide +kernel
theorem d_PS_line_14 : decode b_PS_line 14 = .ok (.getfield 52, 3) := by decide +kernel
theorem d_PS_line_17 : decode b_PS_line 17 = .ok (.getfield 158, 3) := by decide +kernel
theorem d_PS_line_20 : decode b_PS_line 20 = .ok (.iload_n 1, 1) := by decide +kernel
theorem d_PS_line_21 : decode b_PS_line 21 = .ok (.iaload, 1) := by decide +kernel
theorem d_PS_line_22 : decode b_PS_line 22 = .ok (.istore_n 3, 1) := by decide +kernel
theorem d_PS_line_23 : decode b_PS_line 23 = .ok (.aload_n 0, 1) := by decide +kernel
theorem d_PS_line_24 : decode b_PS_line 24 = .ok (.getfield 52, 3) := by decide +kernel
theorem d_PS_line_27 : decode b_PS_line 27 = .ok (.getfield 158, 3) := by decide +kernel
theorem d_PS_line_30 : decode b_PS_line 30 = .ok (.iload_n 1, 1) := by decide +kernel
theorem d_PS_line_31 : decode b_PS_line 31 = .ok (.iconst 1, 1) := by decide +kernel
theorem d_PS_line_32 : decode b_PS_line 32 = .ok (.iadd, 1) := by decide +kernel
theorem d_PS_line_33 : decode b_PS_line 33 = .ok (.iaload, 1) := by decide +kernel
theorem d_PS_line_34 : decode b_PS_line 34 = .ok (.istore 4, 2) := by decide +kernel
theorem d_PS_line_36 : decode b_PS_line 36 = .ok (.iload_n 2, 1) := by decide +kernel
theorem d_PS_line_37 : decode b_PS_line 37 = .ok (.tableswitch 101 0 5 #[39, 42, 56, 67, 78, 90], 39) := by decide +kernel
theorem d_PS_line_76 : decode b_PS_line 76 = .ok (.iload 4, 2) := by decide +kernel
theorem d_PS_line_78 : decode b_PS_line 78 = .ok (.ireturn, 1) := by decide +kernel
theorem d_PS_line_79 : decode b_PS_line 79 = .ok (.aload_n 0, 1) := by decide +kernel
theorem d_PS_line_80 : decode b_PS_line 80 = .ok (.getfield 52, 3) := by decide +kernel
theorem d_PS_line_83 : decode b_PS_line 83 = .ok (.getfield 127, 3) := by decide +kernel
theorem d_PS_line_86 : decode b_PS_line 86 = .ok (.getfield 161, 3) := by decide +kernel
theorem d_PS_line_89 : decode b_PS_line 89 = .ok (.iload 4, 2) := by decide +kernel
theorem d_PS_line_91 : decode b_PS_line 91 = .ok (.iaload, 1) := by decide +kernel
theorem d_PS_line_92 : decode b_PS_line 92 = .ok (.ireturn, 1) := by decide +kernel
theorem d_PS_line_93 : decode b_PS_line 93 = .ok (.aload_n 0, 1) := by decide +kernel
theorem d_PS_line_94 : decode b_PS_line 94 = .ok (.getfield 52, 3) := by decide +kernel
theorem d_PS_line_97 : decode b_PS_line 97 = .ok (.iload_n 3, 1) := by decide +kernel
theorem d_PS_line_98 : decode b_PS_line 98 = .ok (.iload 4, 2) := by decide +kernel
theorem d_PS_line_100 : decode b_PS_line 100 = .ok (.invokevirtual 164, 3) := by decide +kernel
theorem d_PS_line_103 : decode b_PS_line 103 = .ok (.ireturn, 1) := by decide +kernel
theorem d_PS_line_104 : decode b_PS_line 104 = .ok (.aload_n 0, 1) := by decide +kernel
theorem d_PS_line_105 : decode b_PS_line 105 = .ok (.getfield 52, 3) := by decide +kernel
theorem d_PS_line_108 : decode b_PS_line 108 = .ok (.iload_n 3, 1) := by decide +kernel
theorem d_PS_line_109 : decode b_PS_line 109 = .ok (.iload 4, 2) := by decide +kernel
theorem d_PS_line_111 : decode b_PS_line 111 = .ok (.invokevirtual 168, 3) := by decide +kernel
theorem d_PS_line_114 : decode b_PS_line 114 = .ok (.ireturn, 1) := by decide +kernel
theorem d_PS_line_115 : decode b_PS_line 115 = .ok (.aload_n 0, 1) := by decide +kernel
theorem d_PS_line_116 : decode b_PS_line 116 = .ok (.getfield 52, 3) := by decide +kernel
theorem d_PS_line_119 : decode b_PS_line 119 = .ok (.iload_n 3, 1) := by decide +kernel
theorem d_PS_line_120 : decode b_PS_line 120 = .ok (.iload 4, 2) := by decide +kernel
theorem d_PS_line_122 : decode b_PS_line 122 = .ok (.invokevirtual 171, 3) := by decide +kernel
theorem d_PS_line_125 : decode b_PS_line 125 = .ok (.l2i, 1) := by decide +kernel
theorem d_PS_line_126 : decode b_PS_line 126 = .ok (.ireturn, 1) := by decide +kernel
theorem d_PS_line_127 : decode b_PS_line 127 = .ok (.aload_n 0, 1) := by decide +kernel
theorem d_PS_line_128 : decode b_PS_line 128 = .ok (.getfield 52, 3) := by decide +kernel
theorem d_PS_line_131 : decode b_PS_line 131 = .ok (.iload_n 3, 1) := by decide +kernel
theorem d_PS_line_132 : decode b_PS_line 132 = .ok (.iload 4, 2) := by decide +kernel
theorem d_PS_line_134 : decode b_PS_line 134 = .ok (.invokevirtual 175, 3) := by decide +kernel
theorem d_PS_line_137 : decode b_PS_line 137 = .ok (.ireturn, 1) := by decide +kernel
theorem d_PS_line_138 : decode b_PS_line 138 = .ok (.iconst (-1), 1) := by decide +kernel
theorem d_PS_line_139 : decode b_PS_line 139 = .ok (.ireturn, 1) := by decide +kernel
theorem d_Stg_hasLine_0 : decode b_Stg_hasLine 0 = .ok (.iload_n 1, 1) := by decide +kernel
theorem d_Stg_hasLine_1 : decode b_Stg_hasLine 1 = .ok (.ifCond .lt 15, 3) := by decide +kernel
theorem d_Stg_hasLine_4 : decode b_Stg_hasLine 4 = .ok (.iload_n 1, 1) := by decide +kernel
theorem d_Stg_hasLine_5 : decode b_Stg_hasLine 5 = .ok (.aload_n 0, 1) := by decide +kernel
theorem d_Stg_hasLine_6 : decode b_Stg_hasLine 6 = .ok (.getfield 49, 3) := by decide +kernel
theorem d_Stg_hasLine_9 : decode b_Stg_hasLine 9 = .ok (.if_icmp .ge 7, 3) := by decide +kernel
theorem d_Stg_hasLine_12 : decode b_Stg_hasLine 12 = .ok (.iconst 1, 1) := by decide +kernel
theorem d_Stg_hasLine_13 : decode b_Stg_hasLine 13 = .ok (.goto 4, 3) := by decide +kernel
theorem d_Stg_hasLine_16 : decode b_Stg_hasLine 16 = .ok (.iconst 0, 1) := by decide +kernel
theorem d_Stg_hasLine_17 : decode b_Stg_hasLine 17 = .ok (.ireturn, 1) := by decide +kernel
theorem d_PS_character_0 : decode b_PS_character 0 = .ok (.aload_n 0, 1) := by decide +kernel
theorem d_PS_character_1 : decode b_PS_character 1 = .ok (.getfield 52, 3) := by decide +kernel
theorem d_PS_character_4 : decode b_PS_character 4 = .ok (.iload_n 1, 1) := by decide +kernel
theorem d_PS_character_5 : decode b_PS_character 5 = .ok (.invokevirtual 155, 3) := by decide +kernel
theorem d_PS_character_8 : decode b_PS_character 8 = .ok (.ifCond .eq 7, 3) := by decide +kernel
theorem d_PS_character_11 : decode b_PS_character 11 = .ok (.iload_n 2, 1) := by decide +kernel
theorem d_PS_character_12 : decode b_PS_character 12 = .ok (.ifCond .ge 5, 3) := by decide +kernel
theorem d_PS_character_15 : decode b_PS_character 15 = .ok (.iconst (-1), 1) := by decide +kernel
theorem d_PS_character_16 : decode b_PS_character 16 = .ok (.ireturn, 1) := by decide +kernel
theorem d_PS_character_17 : decode b_PS_character 17 = .ok (.aload_n 0, 1) := by decide +kernel
theorem d_PS_character_18 : decode b_PS_character 18 = .ok (.getfield 52, 3) := by decide +kernel
theorem d_PS_character_21 : decode b_PS_character 21 = .ok (.iload_n 1, 1) := by decide +kernel
theorem d_PS_character_22 : decode b_PS_character 22 = .ok (.iload_n 2, 1) := by decide +kernel
theorem d_PS_character_23 : decode b_PS_character 23 = .ok (.invokevirtual 178, 3) := by decide +kernel
theorem d_PS_character_26 : decode b_PS_character 26 = .ok (.ireturn, 1) := by decide +kernel
theorem d_Stg_codeAt_0 : decode b_Stg_codeAt 0 = .ok (.iload_n 2, 1) := by decide +kernel
theorem d_Stg_codeAt_1 : decode b_Stg_codeAt 1 = .ok (.aload_n 0, 1) := by decide +kernel
theorem d_Stg_codeAt_2 : decode b_Stg_codeAt 2 = .ok (.iload_n 1, 1) := by decide +kernel
theorem d_Stg_codeAt_3 : decode b_Stg_codeAt 3 = .ok (.invokevirtual 118, 3) := by decide +kernel
theorem d_Stg_codeAt_6 : decode b_Stg_codeAt 6 = .ok (.if_icmp .lt 5, 3) := by decide +kernel
theorem d_Stg_codeAt_9 : decode b_Stg_codeAt 9 = .ok (.iconst 0, 1) := by decide +kernel
theorem d_Stg_codeAt_10 : decode b_Stg_codeAt 10 = .ok (.ireturn, 1) := by decide +kernel
theorem d_Stg_codeAt_11 : decode b_Stg_codeAt 11 = .ok (.iload_n 2, 1) := by decide +kernel
theorem d_Stg_codeAt_12 : decode b_Stg_codeAt 12 = .ok (.aload_n 0, 1) := by decide +kernel
theorem d_Stg_codeAt_13 : decode b_Stg_codeAt 13 = .ok (.iload_n 1, 1) := by decide +kernel
theorem d_Stg_codeAt_14 : decode b_Stg_codeAt 14 = .ok (.invokevirtual 115, 3) := by decide +kernel
theorem d_Stg_codeAt_17 : decode b_Stg_codeAt 17 = .ok (.if_icmp .lt 6, 3) := by decide +kernel
theorem d_Stg_codeAt_20 : decode b_Stg_codeAt 20 = .ok (.bipush 45, 2) := by decide +kernel
theorem d_Stg_codeAt_22 : decode b_Stg_codeAt 22 = .ok (.ireturn, 1) := by decide +kernel
theorem d_Stg_codeAt_23 : decode b_Stg_codeAt 23 = .ok (.aload_n 0, 1) := by decide +kernel
theorem d_Stg_codeAt_24 : decode b_Stg_codeAt 24 = .ok (.getfield 12, 3) := by decide +kernel
theorem d_Stg_codeAt_27 : decode b_Stg_codeAt 27 = .ok (.getfield 121, 3) := by decide +kernel
theorem d_Stg_codeAt_30 : decode b_Stg_codeAt 30 = .ok (.aload_n 0, 1) := by decide +kernel
theorem d_Stg_codeAt_31 : decode b_Stg_codeAt 31 = .ok (.getfield 21, 3) := by decide +kernel
theorem d_Stg_codeAt_34 : decode b_Stg_codeAt 34 = .ok (.getfield 124, 3) := by decide +kernel
theorem d_Stg_codeAt_37 : decode b_Stg_codeAt 37 = .ok (.aload_n 0, 1) := by decide +kernel
theorem d_Stg_codeAt_38 : decode b_Stg_codeAt 38 = .ok (.getfield 46, 3) := by decide +kernel
theorem d_Stg_codeAt_41 : decode b_Stg_codeAt 41 = .ok (.iload_n 1, 1) := by decide +kernel
theorem d_Stg_codeAt_42 : decode b_Stg_codeAt 42 = .ok (.iaload, 1) := by decide +kernel
theorem d_Stg_codeAt_43 : decode b_Stg_codeAt 43 = .ok (.iaload, 1) := by decide +kernel
theorem d_Stg_codeAt_44 : decode b_Stg_codeAt 44 = .ok (.iload_n 2, 1) := by decide +kernel
theorem d_Stg_codeAt_45 : decode b_Stg_codeAt 45 = .ok (.iadd, 1) := by decide +kernel
theorem d_Stg_codeAt_46 : decode b_Stg_codeAt 46 = .ok (.iaload, 1) := by decide +kernel
theorem d_Stg_codeAt_47 : decode b_Stg_codeAt 47 = .ok (.istore_n 3, 1) := by decide +kernel
theorem d_Stg_codeAt_48 : decode b_Stg_codeAt 48 = .ok (.iload_n 3, 1) := by decide +kernel
theorem d_Stg_codeAt_49 : decode b_Stg_codeAt 49 = .ok (.bipush 126, 2) := by decide +kernel
theorem d_Stg_codeAt_51 : decode b_Stg_codeAt 51 = .ok (.if_icmp .ne 8, 3) := by decide +kernel
theorem d_Stg_codeAt_54 : decode b_Stg_codeAt 54 = .ok (.bipush 32, 2) := by decide +kernel
theorem d_Stg_codeAt_56 : decode b_Stg_codeAt 56 = .ok (.goto 4, 3) := by decide +kernel
theorem d_Stg_codeAt_59 : decode b_Stg_codeAt 59 = .ok (.iload_n 3, 1) := by decide +kernel
theorem d_Stg_codeAt_60 : decode b_Stg_codeAt 60 = .ok (.ireturn, 1) := by decide +kernel
theorem d_Stg_length_0 : decode b_Stg_length 0 = .ok (.aload_n 0, 1) := by decide +kernel
theorem d_Stg_length_1 : decode b_Stg_length 1 = .ok (.iload_n 1, 1) := by decide +kernel
theorem d_Stg_length_2 : decode b_Stg_length 2 = .ok (.invokevirtual 115, 3) := by decide +kernel
theorem d_Stg_length_5 : decode b_Stg_length 5 = .ok (.aload_n 0, 1) := by decide +kernel
theorem d_Stg_length_6 : decode b_Stg_length 6 = .ok (.getfield 21, 3) := by decide +kernel
theorem d_Stg_length_9 : decode b_Stg_length 9 = .ok (.getfield 74, 3) := by decide +kernel
theorem d_Stg_length_12 : decode b_Stg_length 12 = .ok (.aload_n 0, 1) := by decide +kernel
theorem d_Stg_length_13 : decode b_Stg_length 13 = .ok (.getfield 46, 3) := by decide +kernel
theorem d_Stg_length_16 : decode b_Stg_length 16 = .ok (.iload_n 1, 1) := by decide +kernel
theorem d_Stg_length_17 : decode b_Stg_length 17 = .ok (.iconst 1, 1) := by decide +kernel
theorem d_Stg_length_18 : decode b_Stg_length 18 = .ok (.iadd, 1) := by decide +kernel
theorem d_Stg_length_19 : decode b_Stg_length 19 = .ok (.iaload, 1) := by decide +kernel
theorem d_Stg_length_20 : decode b_Stg_length 20 = .ok (.iaload, 1) := by decide +kernel
theorem d_Stg_length_21 : decode b_Stg_length 21 = .ok (.iconst 2, 1) := by decide +kernel
theorem d_Stg_length_22 : decode b_Stg_length 22 = .ok (.if_icmp .ne 7, 3) := by decide +kernel
theorem d_Stg_length_25 : decode b_Stg_length 25 = .ok (.iconst 1, 1) := by decide +kernel
theorem d_Stg_length_26 : decode b_Stg_length 26 = .ok (.goto 4, 3) := by decide +kernel
theorem d_Stg_length_29 : decode b_Stg_length 29 = .ok (.iconst 0, 1) := by decide +kernel
theorem d_Stg_length_30 : decode b_Stg_length 30 = .ok (.iadd, 1) := by decide +kernel
theorem d_Stg_length_31 : decode b_Stg_length 31 = .ok (.ireturn, 1) := by decide +kernel
theorem d_Stg_items_0 : decode b_Stg_items 0 = .ok (.aload_n 0, 1) := by decide +kernel
theorem d_Stg_items_1 : decode b_Stg_items 1 = .ok (.getfield 21, 3) := by decide +kernel
theorem d_Stg_items_4 : decode b_Stg_items 4 = .ok (.getfield 130, 3) := by decide +kernel
theorem d_Stg_items_7 : decode b_Stg_items 7 = .ok (.aload_n 0, 1) := by decide +kernel
theorem d_Stg_items_8 : decode b_Stg_items 8 = .ok (.getfield 46, 3) := by decide +kernel
theorem d_Stg_items_11 : decode b_Stg_items 11 = .ok (.iload_n 1, 1) := by decide +kernel
theorem d_Stg_items_12 : decode b_Stg_items 12 = .ok (.iconst 1, 1) := by decide +kernel
theorem d_Stg_items_13 : decode b_Stg_items 13 = .ok (.iadd, 1) := by decide +kernel
theorem d_Stg_items_14 : decode b_Stg_items 14 = .ok (.iaload, 1) := by decide +kernel
theorem d_Stg_items_15 : decode b_Stg_items 15 = .ok (.iaload, 1) := by decide +kernel
theorem d_Stg_items_16 : decode b_Stg_items 16 = .ok (.aload_n 0, 1) := by decide +kernel
theorem d_Stg_items_17 : decode b_Stg_items 17 = .ok (.getfield 21, 3) := by decide +kernel
theorem d_Stg_items_20 : decode b_Stg_items 20 = .ok (.getfield 124, 3) := by decide +kernel
theorem d_Stg_items_23 : decode b_Stg_items 23 = .ok (.aload_n 0, 1) := by decide +kernel
theorem d_Stg_items_24 : decode b_Stg_items 24 = .ok (.getfield 46, 3) := by decide +kernel
theorem d_Stg_items_27 : decode b_Stg_items 27 = .ok (.iload_n 1, 1) := by decide +kernel
theorem d_Stg_items_28 : decode b_Stg_items 28 = .ok (.iaload, 1) := by decide +kernel
theorem d_Stg_items_29 : decode b_Stg_items 29 = .ok (.iaload, 1) := by decide +kernel
theorem d_Stg_items_30 : decode b_Stg_items 30 = .ok (.isub, 1) := by decide +kernel
theorem d_Stg_items_31 : decode b_Stg_items 31 = .ok (.ireturn, 1) := by decide +kernel
theorem d_PS_place_0 : decode b_PS_place 0 = .ok (.aload_n 0, 1) := by decide +kernel
theorem d_PS_place_1 : decode b_PS_place 1 = .ok (.getfield 52, 3) := by decide +kernel
theorem d_PS_place_4 : decode b_PS_place 4 = .ok (.iload_n 1, 1) := by decide +kernel
theorem d_PS_place_5 : decode b_PS_place 5 = .ok (.invokevirtual 155, 3) := by decide +kernel
theorem d_PS_place_8 : decode b_PS_place 8 = .ok (.ifCond .eq 19, 3) := by decide +kernel
theorem d_PS_place_11 : decode b_PS_place 11 = .ok (.iload_n 2, 1) := by decide +kernel
theorem d_PS_place_12 : decode b_PS_place 12 = .ok (.ifCond .lt 15, 3) := by decide +kernel
theorem d_PS_place_15 : decode b_PS_place 15 = .ok (.iload_n 2, 1) := by decide +kernel
theorem d_PS_place_16 : decode b_PS_place 16 = .ok (.aload_n 0, 1) := by decide +kernel
theorem d_PS_place_17 : decode b_PS_place 17 = .ok (.getfield 52, 3) := by decide +kernel
theorem d_PS_place_20 : decode b_PS_place 20 = .ok (.iload_n 1, 1) := by decide +kernel
theorem d_PS_place_21 : decode b_PS_place 21 = .ok (.invokevirtual 181, 3) := by decide +kernel
theorem d_PS_place_24 : decode b_PS_place 24 = .ok (.if_icmp .lt 5, 3) := by decide +kernel
theorem d_PS_place_27 : decode b_PS_place 27 = .ok (.iconst (-1), 1) := by decide +kernel
theorem d_PS_place_28 : decode b_PS_place 28 = .ok (.ireturn, 1) := by decide +kernel
theorem d_PS_place_29 : decode b_PS_place 29 = .ok (.aload_n 0, 1) := by decide +kernel
theorem d_PS_place_30 : decode b_PS_place 30 = .ok (.getfield 52, 3) := by decide +kernel
theorem d_PS_place_33 : decode b_PS_place 33 = .ok (.iload_n 1, 1) := by decide +kernel
theorem d_PS_place_34 : decode b_PS_place 34 = .ok (.iload_n 2, 1) := by decide +kernel
theorem d_PS_place_35 : decode b_PS_place 35 = .ok (.invokevirtual 184, 3) := by decide +kernel
theorem d_PS_place_38 : decode b_PS_place 38 = .ok (.ireturn, 1) := by decide +kernel
theorem d_Stg_placeOf_0 : decode b_Stg_placeOf 0 = .ok (.aload_n 0, 1) := by decide +kernel
theorem d_Stg_placeOf_1 : decode b_Stg_placeOf 1 = .ok (.getfield 46, 3) := by decide +kernel
theorem d_Stg_placeOf_4 : decode b_Stg_placeOf 4 = .ok (.iload_n 1, 1) := by decide +kernel
theorem d_Stg_placeOf_5 : decode b_Stg_placeOf 5 = .ok (.iaload, 1) := by decide +kernel
theorem d_Stg_placeOf_6 : decode b_Stg_placeOf 6 = .ok (.istore_n 3, 1) := by decide +kernel
theorem d_Stg_placeOf_7 : decode b_Stg_placeOf 7 = .ok (.aload_n 0, 1) := by decide +kernel
theorem d_Stg_placeOf_8 : decode b_Stg_placeOf 8 = .ok (.getfield 46, 3) := by decide +kernel
theorem d_Stg_placeOf_11 : decode b_Stg_placeOf 11 = .ok (.iload_n 1, 1) := by decide +kernel
theorem d_Stg_placeOf_12 : decode b_Stg_placeOf 12 = .ok (.iconst 1, 1) := by decide +kernel
theorem d_Stg_placeOf_13 : decode b_Stg_placeOf 13 = .ok (.iadd, 1) := by decide +kernel
theorem d_Stg_placeOf_14 : decode b_Stg_placeOf 14 = .ok (.iaload, 1) := by decide +kernel
theorem d_Stg_placeOf_15 : decode b_Stg_placeOf 15 = .ok (.istore 4, 2) := by decide +kernel
theorem d_Stg_placeOf_17 : decode b_Stg_placeOf 17 = .ok (.aload_n 0, 1) := by decide +kernel
theorem d_Stg_placeOf_18 : decode b_Stg_placeOf 18 = .ok (.getfield 21, 3) := by decide +kernel
theorem d_Stg_placeOf_21 : decode b_Stg_placeOf 21 = .ok (.getfield 124, 3) := by decide +kernel
theorem d_Stg_placeOf_24 : decode b_Stg_placeOf 24 = .ok (.iload_n 3, 1) := by decide +kernel
theorem d_Stg_placeOf_25 : decode b_Stg_placeOf 25 = .ok (.iaload, 1) := by decide +kernel
theorem d_Stg_placeOf_26 : decode b_Stg_placeOf 26 = .ok (.istore 5, 2) := by decide +kernel
theorem d_Stg_placeOf_28 : decode b_Stg_placeOf 28 = .ok (.aload_n 0, 1) := by decide +kernel
theorem d_Stg_placeOf_29 : decode b_Stg_placeOf 29 = .ok (.getfield 28, 3) := by decide +kernel
theorem d_Stg_placeOf_32 : decode b_Stg_placeOf 32 = .ok (.getfield 71, 3) := by decide +kernel
theorem d_Stg_placeOf_35 : decode b_Stg_placeOf 35 = .ok (.iload 5, 2) := by decide +kernel
theorem d_Stg_placeOf_37 : decode b_Stg_placeOf 37 = .ok (.iload_n 2, 1) := by decide +kernel
theorem d_Stg_placeOf_38 : decode b_Stg_placeOf 38 = .ok (.iadd, 1) := by decide +kernel
theorem d_Stg_placeOf_39 : decode b_Stg_placeOf 39 = .ok (.iaload, 1) := by decide +kernel
theorem d_Stg_placeOf_40 : decode b_Stg_placeOf 40 = .ok (.aload_n 0, 1) := by decide +kernel
theorem d_Stg_placeOf_41 : decode b_Stg_placeOf 41 = .ok (.getfield 28, 3) := by decide +kernel
theorem d_Stg_placeOf_44 : decode b_Stg_placeOf 44 = .ok (.getfield 71, 3) := by decide +kernel
theorem d_Stg_placeOf_47 : decode b_Stg_placeOf 47 = .ok (.iload 5, 2) := by decide +kernel
theorem d_Stg_placeOf_49 : decode b_Stg_placeOf 49 = .ok (.iaload, 1) := by decide +kernel
theorem d_Stg_placeOf_50 : decode b_Stg_placeOf 50 = .ok (.isub, 1) := by decide +kernel
theorem d_Stg_placeOf_51 : decode b_Stg_placeOf 51 = .ok (.istore 6, 2) := by decide +kernel
theorem d_Stg_placeOf_53 : decode b_Stg_placeOf 53 = .ok (.aload_n 0, 1) := by decide +kernel
theorem d_Stg_placeOf_54 : decode b_Stg_placeOf 54 = .ok (.iload_n 3, 1) := by decide +kernel
theorem d_Stg_placeOf_55 : decode b_Stg_placeOf 55 = .ok (.iload 4, 2) := by decide +kernel
theorem d_Stg_placeOf_57 : decode b_Stg_placeOf 57 = .ok (.invokevirtual 88, 3) := by decide +kernel
theorem d_Stg_placeOf_60 : decode b_Stg_placeOf 60 = .ok (.istore 7, 2) := by decide +kernel
theorem d_Stg_placeOf_62 : decode b_Stg_placeOf 62 = .ok (.iload 7, 2) := by decide +kernel
theorem d_Stg_placeOf_64 : decode b_Stg_placeOf 64 = .ok (.ifCond .le 13, 3) := by decide +kernel
theorem d_Stg_placeOf_67 : decode b_Stg_placeOf 67 = .ok (.aload_n 0, 1) := by decide +kernel
theorem d_Stg_placeOf_68 : decode b_Stg_placeOf 68 = .ok (.getfield 28, 3) := by decide +kernel
theorem d_Stg_placeOf_71 : decode b_Stg_placeOf 71 = .ok (.getfield 95, 3) := by decide +kernel
theorem d_Stg_placeOf_74 : decode b_Stg_placeOf 74 = .ok (.goto 10, 3) := by decide +kernel
theorem d_Stg_placeOf_77 : decode b_Stg_placeOf 77 = .ok (.aload_n 0, 1) := by decide +kernel
theorem d_Stg_placeOf_78 : decode b_Stg_placeOf 78 = .ok (.getfield 28, 3) := by decide +kernel
theorem d_Stg_placeOf_81 : decode b_Stg_placeOf 81 = .ok (.getfield 98, 3) := by decide +kernel
theorem d_Stg_placeOf_84 : decode b_Stg_placeOf 84 = .ok (.astore 8, 2) := by decide +kernel
theorem d_Stg_placeOf_86 : decode b_Stg_placeOf 86 = .ok (.aload_n 0, 1) := by decide +kernel
theorem d_Stg_placeOf_87 : decode b_Stg_placeOf 87 = .ok (.aload 8, 2) := by decide +kernel
theorem d_Stg_placeOf_89 : decode b_Stg_placeOf 89 = .ok (.iload_n 3, 1) := by decide +kernel
theorem d_Stg_placeOf_90 : decode b_Stg_placeOf 90 = .ok (.iload 4, 2) := by decide +kernel
theorem d_Stg_placeOf_92 : decode b_Stg_placeOf 92 = .ok (.invokevirtual 67, 3) := by decide +kernel
theorem d_Stg_placeOf_95 : decode b_Stg_placeOf 95 = .ok (.istore 9, 2) := by decide +kernel
theorem d_Stg_placeOf_97 : decode b_Stg_placeOf 97 = .ok (.iload 9, 2) := by decide +kernel
theorem d_Stg_placeOf_99 : decode b_Stg_placeOf 99 = .ok (.ifCond .eq 14, 3) := by decide +kernel
theorem d_Stg_placeOf_102 : decode b_Stg_placeOf 102 = .ok (.aload_n 0, 1) := by decide +kernel
theorem d_Stg_placeOf_103 : decode b_Stg_placeOf 103 = .ok (.iload 7, 2) := by decide +kernel
theorem d_Stg_placeOf_105 : decode b_Stg_placeOf 105 = .ok (.iload 4, 2) := by decide +kernel
theorem d_Stg_placeOf_107 : decode b_Stg_placeOf 107 = .ok (.invokevirtual 91, 3) := by decide +kernel
theorem d_Stg_placeOf_110 : decode b_Stg_placeOf 110 = .ok (.ifCond .eq 6, 3) := by decide +kernel
theorem d_Stg_placeOf_113 : decode b_Stg_placeOf 113 = .ok (.iload 6, 2) := by decide +kernel
theorem d_Stg_placeOf_115 : decode b_Stg_placeOf 115 = .ok (.ireturn, 1) := by decide +kernel
theorem d_Stg_placeOf_116 : decode b_Stg_placeOf 116 = .ok (.iload 6, 2) := by decide +kernel
theorem d_Stg_placeOf_118 : decode b_Stg_placeOf 118 = .ok (.iload 7, 2) := by decide +kernel
theorem d_Stg_placeOf_120 : decode b_Stg_placeOf 120 = .ok (.aload 8, 2) := by decide +kernel
theorem d_Stg_placeOf_122 : decode b_Stg_placeOf 122 = .ok (.iload 5, 2) := by decide +kernel
theorem d_Stg_placeOf_124 : decode b_Stg_placeOf 124 = .ok (.iload_n 2, 1) := by decide +kernel
theorem d_Stg_placeOf_125 : decode b_Stg_placeOf 125 = .ok (.iadd, 1) := by decide +kernel
theorem d_Stg_placeOf_126 : decode b_Stg_placeOf 126 = .ok (.iaload, 1) := by decide +kernel
theorem d_Stg_placeOf_127 : decode b_Stg_placeOf 127 = .ok (.aload 8, 2) := by decide +kernel
theorem d_Stg_placeOf_129 : decode b_Stg_placeOf 129 = .ok (.iload 5, 2) := by decide +kernel
theorem d_Stg_placeOf_131 : decode b_Stg_placeOf 131 = .ok (.iaload, 1) := by decide +kernel
theorem d_Stg_placeOf_132 : decode b_Stg_placeOf 132 = .ok (.isub, 1) := by decide +kernel
theorem d_Stg_placeOf_133 : decode b_Stg_placeOf 133 = .ok (.imul, 1) := by decide +kernel
theorem d_Stg_placeOf_134 : decode b_Stg_placeOf 134 = .ok (.iload 9, 2) := by decide +kernel
theorem d_Stg_placeOf_136 : decode b_Stg_placeOf 136 = .ok (.invokestatic 127, 3) := by decide +kernel
theorem d_Stg_placeOf_139 : decode b_Stg_placeOf 139 = .ok (.iadd, 1) := by decide +kernel
theorem d_Stg_placeOf_140 : decode b_Stg_placeOf 140 = .ok (.ireturn, 1) := by decide +kernel
theorem d_PS_count_0 : decode b_PS_count 0 = .ok (.iload_n 1, 1) := by decide +kernel
theorem d_PS_count_1 : decode b_PS_count 1 = .ok (.tableswitch 108 0 6 #[43, 51, 62, 73, 84, 92, 100], 43) := by decide +kernel
theorem d_PS_count_44 : decode b_PS_count 44 = .ok (.aload_n 0, 1) := by decide +kernel
theorem d_PS_count_45 : decode b_PS_count 45 = .ok (.getfield 52, 3) := by decide +kernel
theorem d_PS_count_48 : decode b_PS_count 48 = .ok (.getfield 148, 3) := by decide +kernel
theorem d_PS_count_51 : decode b_PS_count 51 = .ok (.ireturn, 1) := by decide +kernel
theorem d_PS_count_52 : decode b_PS_count 52 = .ok (.aload_n 0, 1) := by decide +kernel
theorem d_PS_count_53 : decode b_PS_count 53 = .ok (.getfield 52, 3) := by decide +kernel
theorem d_PS_count_56 : decode b_PS_count 56 = .ok (.getfield 106, 3) := by decide +kernel
theorem d_PS_count_59 : decode b_PS_count 59 = .ok (.getfield 187, 3) := by decide +kernel
theorem d_PS_count_62 : decode b_PS_count 62 = .ok (.ireturn, 1) := by decide +kernel
theorem d_PS_count_63 : decode b_PS_count 63 = .ok (.aload_n 0, 1) := by decide +kernel
theorem d_PS_count_64 : decode b_PS_count 64 = .ok (.getfield 52, 3) := by decide +kernel
theorem d_PS_count_67 : decode b_PS_count 67 = .ok (.getfield 127, 3) := by decide +kernel
theorem d_PS_count_70 : decode b_PS_count 70 = .ok (.getfield 188, 3) := by decide +kernel
theorem d_PS_count_73 : decode b_PS_count 73 = .ok (.ireturn, 1) := by decide +kernel
theorem d_PS_count_74 : decode b_PS_count 74 = .ok (.aload_n 0, 1) := by decide +kernel
theorem d_PS_count_75 : decode b_PS_count 75 = .ok (.getfield 52, 3) := by decide +kernel
theorem d_PS_count_78 : decode b_PS_count 78 = .ok (.getfield 127, 3) := by decide +kernel
theorem d_PS_count_81 : decode b_PS_count 81 = .ok (.invokevirtual 189, 3) := by decide +kernel
theorem d_PS_count_84 : decode b_PS_count 84 = .ok (.ireturn, 1) := by decide +kernel
theorem d_PS_count_85 : decode b_PS_count 85 = .ok (.aload_n 0, 1) := by decide +kernel
theorem d_PS_count_86 : decode b_PS_count 86 = .ok (.getfield 52, 3) := by decide +kernel
theorem d_PS_count_89 : decode b_PS_count 89 = .ok (.getfield 117, 3) := by decide +kernel
theorem d_PS_count_92 : decode b_PS_count 92 = .ok (.ireturn, 1) := by decide +kernel
theorem d_PS_count_93 : decode b_PS_count 93 = .ok (.aload_n 0, 1) := by decide +kernel
theorem d_PS_count_94 : decode b_PS_count 94 = .ok (.getfield 38, 3) := by decide +kernel
theorem d_PS_count_97 : decode b_PS_count 97 = .ok (.getfield 105, 3) := by decide +kernel
theorem d_PS_count_100 : decode b_PS_count 100 = .ok (.ireturn, 1) := by decide +kernel
theorem d_PS_count_101 : decode b_PS_count 101 = .ok (.aload_n 0, 1) := by decide +kernel
theorem d_PS_count_102 : decode b_PS_count 102 = .ok (.getfield 14, 3) := by decide +kernel
theorem d_PS_count_105 : decode b_PS_count 105 = .ok (.getfield 70, 3) := by decide +kernel
theorem d_PS_count_108 : decode b_PS_count 108 = .ok (.ireturn, 1) := by decide +kernel
theorem d_PS_count_109 : decode b_PS_count 109 = .ok (.iconst (-1), 1) := by decide +kernel
theorem d_PS_count_110 : decode b_PS_count 110 = .ok (.ireturn, 1) := by decide +kernel
theorem d_Law_law_0 : decode b_Law_law 0 = .ok (.new 7, 3) := by decide +kernel
theorem d_Law_law_3 : decode b_Law_law 3 = .ok (.dup, 1) := by decide +kernel
theorem d_Law_law_4 : decode b_Law_law 4 = .ok (.invokespecial 9, 3) := by decide +kernel
theorem d_Law_law_7 : decode b_Law_law 7 = .ok (.astore_n 1, 1) := by decide +kernel
theorem d_Law_law_8 : decode b_Law_law 8 = .ok (.new 10, 3) := by decide +kernel
theorem d_Law_law_11 : decode b_Law_law 11 = .ok (.dup, 1) := by decide +kernel
theorem d_Law_law_12 : decode b_Law_law 12 = .ok (.invokespecial 12, 3) := by decide +kernel
theorem d_Law_law_15 : decode b_Law_law 15 = .ok (.astore_n 2, 1) := by decide +kernel
theorem d_Law_law_16 : decode b_Law_law 16 = .ok (.iconst 0, 1) := by decide +kernel
theorem d_Law_law_17 : decode b_Law_law 17 = .ok (.istore_n 3, 1) := by decide +kernel
theorem d_Law_law_18 : decode b_Law_law 18 = .ok (.iload_n 3, 1) := by decide +kernel
theorem d_Law_law_19 : decode b_Law_law 19 = .ok (.aload_n 0, 1) := by decide +kernel
theorem d_Law_law_20 : decode b_Law_law 20 = .ok (.arraylength, 1) := by decide +kernel
theorem d_Law_law_21 : decode b_Law_law 21 = .ok (.iconst 3, 1) := by decide +kernel
theorem d_Law_law_22 : decode b_Law_law 22 = .ok (.isub, 1) := by decide +kernel
theorem d_Law_law_23 : decode b_Law_law 23 = .ok (.if_icmp .gt 366, 3) := by decide +kernel
theorem d_Law_law_26 : decode b_Law_law 26 = .ok (.aload_n 0, 1) := by decide +kernel
theorem d_Law_law_27 : decode b_Law_law 27 = .ok (.iload_n 3, 1) := by decide +kernel
theorem d_Law_law_28 : decode b_Law_law 28 = .ok (.iaload, 1) := by decide +kernel
theorem d_Law_law_29 : decode b_Law_law 29 = .ok (.bipush 15, 2) := by decide +kernel
theorem d_Law_law_31 : decode b_Law_law 31 = .ok (.iand, 1) := by decide +kernel
theorem d_Law_law_32 : decode b_Law_law 32 = .ok (.tableswitch 351 0 11 #[64, 87, 100, 133, 166, 189, 202, 215, 229, 262, 295, 328], 64) := by decide +kernel
theorem d_Law_law_96 : decode b_Law_law 96 = .ok (.aload_n 1, 1) := by decide +kernel
theorem d_Law_law_97 : decode b_Law_law 97 = .ok (.aload_n 0, 1) := by decide +kernel
theorem d_Law_law_98 : decode b_Law_law 98 = .ok (.iload_n 3, 1) := by decide +kernel
theorem d_Law_law_99 : decode b_Law_law 99 = .ok (.iconst 1, 1) := by decide +kernel
theorem d_Law_law_100 : decode b_Law_law 100 = .ok (.iadd, 1) := by decide +kernel
theorem d_Law_law_101 : decode b_Law_law 101 = .ok (.iaload, 1) := by decide +kernel
theorem d_Law_law_102 : decode b_Law_law 102 = .ok (.invokevirtual 13, 3) := by decide +kernel
theorem d_Law_law_105 : decode b_Law_law 105 = .ok (.aload_n 2, 1) := by decide +kernel
theorem d_Law_law_106 : decode b_Law_law 106 = .ok (.aload_n 0, 1) := by decide +kernel
theorem d_Law_law_107 : decode b_Law_law 107 = .ok (.iload_n 3, 1) := by decide +kernel
theorem d_Law_law_108 : decode b_Law_law 108 = .ok (.iconst 1, 1) := by decide +kernel
theorem d_Law_law_109 : decode b_Law_law 109 = .ok (.iadd, 1) := by decide +kernel
theorem d_Law_law_110 : decode b_Law_law 110 = .ok (.iaload, 1) := by decide +kernel
theorem d_Law_law_111 : decode b_Law_law 111 = .ok (.invokevirtual 17, 3) := by decide +kernel
theorem d_Law_law_114 : decode b_Law_law 114 = .ok (.if_icmp .eq 269, 3) := by decide +kernel
theorem d_Law_law_117 : decode b_Law_law 117 = .ok (.iconst 0, 1) := by decide +kernel
theorem d_Law_law_118 : decode b_Law_law 118 = .ok (.ireturn, 1) := by decide +kernel
theorem d_Law_law_119 : decode b_Law_law 119 = .ok (.aload_n 1, 1) := by decide +kernel
theorem d_Law_law_120 : decode b_Law_law 120 = .ok (.invokevirtual 18, 3) := by decide +kernel
theorem d_Law_law_123 : decode b_Law_law 123 = .ok (.aload_n 2, 1) := by decide +kernel
theorem d_Law_law_124 : decode b_Law_law 124 = .ok (.invokevirtual 22, 3) := by decide +kernel
theorem d_Law_law_127 : decode b_Law_law 127 = .ok (.if_icmp .eq 256, 3) := by decide +kernel
theorem d_Law_law_130 : decode b_Law_law 130 = .ok (.iconst 0, 1) := by decide +kernel
theorem d_Law_law_131 : decode b_Law_law 131 = .ok (.ireturn, 1) := by decide +kernel
theorem d_Law_law_132 : decode b_Law_law 132 = .ok (.aload_n 1, 1) := by decide +kernel
theorem d_Law_law_133 : decode b_Law_law 133 = .ok (.aload_n 0, 1) := by decide +kernel
theorem d_Law_law_134 : decode b_Law_law 134 = .ok (.iload_n 3, 1) := by decide +kernel
theorem d_Law_law_135 : decode b_Law_law 135 = .ok (.iconst 1, 1) := by decide +kernel
theorem d_Law_law_136 : decode b_Law_law 136 = .ok (.iadd, 1) := by decide +kernel
theorem d_Law_law_137 : decode b_Law_law 137 = .ok (.iaload, 1) := by decide +kernel
theorem d_Law_law_138 : decode b_Law_law 138 = .ok (.aload_n 0, 1) := by decide +kernel
theorem d_Law_law_139 : decode b_Law_law 139 = .ok (.iload_n 3, 1) := by decide +kernel
theorem d_Law_law_140 : decode b_Law_law 140 = .ok (.iconst 2, 1) := by decide +kernel
theorem d_Law_law_141 : decode b_Law_law 141 = .ok (.iadd, 1) := by decide +kernel
theorem d_Law_law_142 : decode b_Law_law 142 = .ok (.iaload, 1) := by decide +kernel
theorem d_Law_law_143 : decode b_Law_law 143 = .ok (.invokevirtual 23, 3) := by decide +kernel
theorem d_Law_law_146 : decode b_Law_law 146 = .ok (.aload_n 2, 1) := by decide +kernel
theorem d_Law_law_147 : decode b_Law_law 147 = .ok (.aload_n 0, 1) := by decide +kernel
theorem d_Law_law_148 : decode b_Law_law 148 = .ok (.iload_n 3, 1) := by decide +kernel
theorem d_Law_law_149 : decode b_Law_law 149 = .ok (.iconst 1, 1) := by decide +kernel
theorem d_Law_law_150 : decode b_Law_law 150 = .ok (.iadd, 1) := by decide +kernel
theorem d_Law_law_151 : decode b_Law_law 151 = .ok (.iaload, 1) := by decide +kernel
theorem d_Law_law_152 : decode b_Law_law 152 = .ok (.aload_n 0, 1) := by decide +kernel
theorem d_Law_law_153 : decode b_Law_law 153 = .ok (.iload_n 3, 1) := by decide +kernel
theorem d_Law_law_154 : decode b_Law_law 154 = .ok (.iconst 2, 1) := by decide +kernel
theorem d_Law_law_155 : decode b_Law_law 155 = .ok (.iadd, 1) := by decide +kernel
theorem d_Law_law_156 : decode b_Law_law 156 = .ok (.iaload, 1) := by decide +kernel
theorem d_Law_law_157 : decode b_Law_law 157 = .ok (.invokevirtual 27, 3) := by decide +kernel
theorem d_Law_law_160 : decode b_Law_law 160 = .ok (.if_icmp .eq 223, 3) := by decide +kernel
theorem d_Law_law_163 : decode b_Law_law 163 = .ok (.iconst 0, 1) := by decide +kernel
theorem d_Law_law_164 : decode b_Law_law 164 = .ok (.ireturn, 1) := by decide +kernel
theorem d_Law_law_165 : decode b_Law_law 165 = .ok (.aload_n 1, 1) := by decide +kernel
theorem d_Law_law_166 : decode b_Law_law 166 = .ok (.aload_n 0, 1) := by decide +kernel
theorem d_Law_law_167 : decode b_Law_law 167 = .ok (.iload_n 3, 1) := by decide +kernel
theorem d_Law_law_168 : decode b_Law_law 168 = .ok (.iconst 1, 1) := by decide +kernel
theorem d_Law_law_169 : decode b_Law_law 169 = .ok (.iadd, 1) := by decide +kernel
theorem d_Law_law_170 : decode b_Law_law 170 = .ok (.iaload, 1) := by decide +kernel
theorem d_Law_law_171 : decode b_Law_law 171 = .ok (.aload_n 0, 1) := by decide +kernel
theorem d_Law_law_172 : decode b_Law_law 172 = .ok (.iload_n 3, 1) := by decide +kernel
theorem d_Law_law_173 : decode b_Law_law 173 = .ok (.iconst 2, 1) := by decide +kernel
theorem d_Law_law_174 : decode b_Law_law 174 = .ok (.iadd, 1) := by decide +kernel
theorem d_Law_law_175 : decode b_Law_law 175 = .ok (.iaload, 1) := by decide +kernel
theorem d_Law_law_176 : decode b_Law_law 176 = .ok (.invokevirtual 28, 3) := by decide +kernel
theorem d_Law_law_179 : decode b_Law_law 179 = .ok (.aload_n 2, 1) := by decide +kernel
theorem d_Law_law_180 : decode b_Law_law 180 = .ok (.aload_n 0, 1) := by decide +kernel
theorem d_Law_law_181 : decode b_Law_law 181 = .ok (.iload_n 3, 1) := by decide +kernel
theorem d_Law_law_182 : decode b_Law_law 182 = .ok (.iconst 1, 1) := by decide +kernel
theorem d_Law_law_183 : decode b_Law_law 183 = .ok (.iadd, 1) := by decide +kernel
theorem d_Law_law_184 : decode b_Law_law 184 = .ok (.iaload, 1) := by decide +kernel
theorem d_Law_law_185 : decode b_Law_law 185 = .ok (.aload_n 0, 1) := by decide +kernel
theorem d_Law_law_186 : decode b_Law_law 186 = .ok (.iload_n 3, 1) := by decide +kernel
theorem d_Law_law_187 : decode b_Law_law 187 = .ok (.iconst 2, 1) := by decide +kernel
theorem d_Law_law_188 : decode b_Law_law 188 = .ok (.iadd, 1) := by decide +kernel
theorem d_Law_law_189 : decode b_Law_law 189 = .ok (.iaload, 1) := by decide +kernel
theorem d_Law_law_190 : decode b_Law_law 190 = .ok (.invokevirtual 31, 3) := by decide +kernel
theorem d_Law_law_193 : decode b_Law_law 193 = .ok (.if_icmp .eq 190, 3) := by decide +kernel
theorem d_Law_law_196 : decode b_Law_law 196 = .ok (.iconst 0, 1) := by decide +kernel
theorem d_Law_law_197 : decode b_Law_law 197 = .ok (.ireturn, 1) := by decide +kernel
theorem d_Law_law_198 : decode b_Law_law 198 = .ok (.aload_n 1, 1) := by decide +kernel
theorem d_Law_law_199 : decode b_Law_law 199 = .ok (.aload_n 0, 1) := by decide +kernel
theorem d_Law_law_200 : decode b_Law_law 200 = .ok (.iload_n 3, 1) := by decide +kernel
theorem d_Law_law_201 : decode b_Law_law 201 = .ok (.iconst 1, 1) := by decide +kernel
theorem d_Law_law_202 : decode b_Law_law 202 = .ok (.iadd, 1) := by decide +kernel
theorem d_Law_law_203 : decode b_Law_law 203 = .ok (.iaload, 1) := by decide +kernel
theorem d_Law_law_204 : decode b_Law_law 204 = .ok (.invokevirtual 32, 3) := by decide +kernel
theorem d_Law_law_207 : decode b_Law_law 207 = .ok (.aload_n 2, 1) := by decide +kernel
theorem d_Law_law_208 : decode b_Law_law 208 = .ok (.aload_n 0, 1) := by decide +kernel
theorem d_Law_law_209 : decode b_Law_law 209 = .ok (.iload_n 3, 1) := by decide +kernel
theorem d_Law_law_210 : decode b_Law_law 210 = .ok (.iconst 1, 1) := by decide +kernel
theorem d_Law_law_211 : decode b_Law_law 211 = .ok (.iadd, 1) := by decide +kernel
theorem d_Law_law_212 : decode b_Law_law 212 = .ok (.iaload, 1) := by decide +kernel
theorem d_Law_law_213 : decode b_Law_law 213 = .ok (.invokevirtual 35, 3) := by decide +kernel
theorem d_Law_law_216 : decode b_Law_law 216 = .ok (.if_icmp .eq 167, 3) := by decide +kernel
theorem d_Law_law_219 : decode b_Law_law 219 = .ok (.iconst 0, 1) := by decide +kernel
theorem d_Law_law_220 : decode b_Law_law 220 = .ok (.ireturn, 1) := by decide +kernel
theorem d_Law_law_221 : decode b_Law_law 221 = .ok (.aload_n 1, 1) := by decide +kernel
theorem d_Law_law_222 : decode b_Law_law 222 = .ok (.invokevirtual 36, 3) := by decide +kernel
theorem d_Law_law_225 : decode b_Law_law 225 = .ok (.aload_n 2, 1) := by decide +kernel
theorem d_Law_law_226 : decode b_Law_law 226 = .ok (.invokevirtual 39, 3) := by decide +kernel
theorem d_Law_law_229 : decode b_Law_law 229 = .ok (.if_icmp .eq 154, 3) := by decide +kernel
theorem d_Law_law_232 : decode b_Law_law 232 = .ok (.iconst 0, 1) := by decide +kernel
theorem d_Law_law_233 : decode b_Law_law 233 = .ok (.ireturn, 1) := by decide +kernel
theorem d_Law_law_234 : decode b_Law_law 234 = .ok (.aload_n 1, 1) := by decide +kernel
theorem d_Law_law_235 : decode b_Law_law 235 = .ok (.invokevirtual 40, 3) := by decide +kernel
theorem d_Law_law_238 : decode b_Law_law 238 = .ok (.aload_n 2, 1) := by decide +kernel
theorem d_Law_law_239 : decode b_Law_law 239 = .ok (.invokevirtual 43, 3) := by decide +kernel
theorem d_Law_law_242 : decode b_Law_law 242 = .ok (.if_icmp .eq 141, 3) := by decide +kernel
theorem d_Law_law_245 : decode b_Law_law 245 = .ok (.iconst 0, 1) := by decide +kernel
theorem d_Law_law_246 : decode b_Law_law 246 = .ok (.ireturn, 1) := by decide +kernel
theorem d_Law_law_247 : decode b_Law_law 247 = .ok (.aload_n 1, 1) := by decide +kernel
theorem d_Law_law_248 : decode b_Law_law 248 = .ok (.invokevirtual 44, 3) := by decide +kernel
theorem d_Law_law_251 : decode b_Law_law 251 = .ok (.aload_n 2, 1) := by decide +kernel
theorem d_Law_law_252 : decode b_Law_law 252 = .ok (.invokevirtual 48, 3) := by decide +kernel
theorem d_Law_law_255 : decode b_Law_law 255 = .ok (.lcmp, 1) := by decide +kernel
theorem d_Law_law_256 : decode b_Law_law 256 = .ok (.ifCond .eq 127, 3) := by decide +kernel
theorem d_Law_law_259 : decode b_Law_law 259 = .ok (.iconst 0, 1) := by decide +kernel
theorem d_Law_law_260 : decode b_Law_law 260 = .ok (.ireturn, 1) := by decide +kernel
theorem d_Law_law_261 : decode b_Law_law 261 = .ok (.aload_n 1, 1) := by decide +kernel
theorem d_Law_law_262 : decode b_Law_law 262 = .ok (.aload_n 0, 1) := by decide +kernel
theorem d_Law_law_263 : decode b_Law_law 263 = .ok (.iload_n 3, 1) := by decide +kernel
theorem d_Law_law_264 : decode b_Law_law 264 = .ok (.iconst 1, 1) := by decide +kernel
theorem d_Law_law_265 : decode b_Law_law 265 = .ok (.iadd, 1) := by decide +kernel
theorem d_Law_law_266 : decode b_Law_law 266 = .ok (.iaload, 1) := by decide +kernel
theorem d_Law_law_267 : decode b_Law_law 267 = .ok (.aload_n 0, 1) := by decide +kernel
theorem d_Law_law_268 : decode b_Law_law 268 = .ok (.iload_n 3, 1) := by decide +kernel
theorem d_Law_law_269 : decode b_Law_law 269 = .ok (.iconst 2, 1) := by decide +kernel
theorem d_Law_law_270 : decode b_Law_law 270 = .ok (.iadd, 1) := by decide +kernel
theorem d_Law_law_271 : decode b_Law_law 271 = .ok (.iaload, 1) := by decide +kernel
theorem d_Law_law_272 : decode b_Law_law 272 = .ok (.invokevirtual 49, 3) := by decide +kernel
theorem d_Law_law_275 : decode b_Law_law 275 = .ok (.aload_n 2, 1) := by decide +kernel
theorem d_Law_law_276 : decode b_Law_law 276 = .ok (.aload_n 0, 1) := by decide +kernel
theorem d_Law_law_277 : decode b_Law_law 277 = .ok (.iload_n 3, 1) := by decide +kernel
theorem d_Law_law_278 : decode b_Law_law 278 = .ok (.iconst 1, 1) := by decide +kernel
theorem d_Law_law_279 : decode b_Law_law 279 = .ok (.iadd, 1) := by decide +kernel
theorem d_Law_law_280 : decode b_Law_law 280 = .ok (.iaload, 1) := by decide +kernel
theorem d_Law_law_281 : decode b_Law_law 281 = .ok (.aload_n 0, 1) := by decide +kernel
theorem d_Law_law_282 : decode b_Law_law 282 = .ok (.iload_n 3, 1) := by decide +kernel
theorem d_Law_law_283 : decode b_Law_law 283 = .ok (.iconst 2, 1) := by decide +kernel
theorem d_Law_law_284 : decode b_Law_law 284 = .ok (.iadd, 1) := by decide +kernel
theorem d_Law_law_285 : decode b_Law_law 285 = .ok (.iaload, 1) := by decide +kernel
theorem d_Law_law_286 : decode b_Law_law 286 = .ok (.invokevirtual 52, 3) := by decide +kernel
theorem d_Law_law_289 : decode b_Law_law 289 = .ok (.if_icmp .eq 94, 3) := by decide +kernel
theorem d_Law_law_292 : decode b_Law_law 292 = .ok (.iconst 0, 1) := by decide +kernel
theorem d_Law_law_293 : decode b_Law_law 293 = .ok (.ireturn, 1) := by decide +kernel
theorem d_Law_law_294 : decode b_Law_law 294 = .ok (.aload_n 1, 1) := by decide +kernel
theorem d_Law_law_295 : decode b_Law_law 295 = .ok (.aload_n 0, 1) := by decide +kernel
theorem d_Law_law_296 : decode b_Law_law 296 = .ok (.iload_n 3, 1) := by decide +kernel
theorem d_Law_law_297 : decode b_Law_law 297 = .ok (.iconst 1, 1) := by decide +kernel
theorem d_Law_law_298 : decode b_Law_law 298 = .ok (.iadd, 1) := by decide +kernel
theorem d_Law_law_299 : decode b_Law_law 299 = .ok (.iaload, 1) := by decide +kernel
theorem d_Law_law_300 : decode b_Law_law 300 = .ok (.aload_n 0, 1) := by decide +kernel
theorem d_Law_law_301 : decode b_Law_law 301 = .ok (.iload_n 3, 1) := by decide +kernel
theorem d_Law_law_302 : decode b_Law_law 302 = .ok (.iconst 2, 1) := by decide +kernel
theorem d_Law_law_303 : decode b_Law_law 303 = .ok (.iadd, 1) := by decide +kernel
theorem d_Law_law_304 : decode b_Law_law 304 = .ok (.iaload, 1) := by decide +kernel
theorem d_Law_law_305 : decode b_Law_law 305 = .ok (.invokevirtual 53, 3) := by decide +kernel
theorem d_Law_law_308 : decode b_Law_law 308 = .ok (.aload_n 2, 1) := by decide +kernel
theorem d_Law_law_309 : decode b_Law_law 309 = .ok (.aload_n 0, 1) := by decide +kernel
theorem d_Law_law_310 : decode b_Law_law 310 = .ok (.iload_n 3, 1) := by decide +kernel
theorem d_Law_law_311 : decode b_Law_law 311 = .ok (.iconst 1, 1) := by decide +kernel
theorem d_Law_law_312 : decode b_Law_law 312 = .ok (.iadd, 1) := by decide +kernel
theorem d_Law_law_313 : decode b_Law_law 313 = .ok (.iaload, 1) := by decide +kernel
theorem d_Law_law_314 : decode b_Law_law 314 = .ok (.aload_n 0, 1) := by decide +kernel
theorem d_Law_law_315 : decode b_Law_law 315 = .ok (.iload_n 3, 1) := by decide +kernel
theorem d_Law_law_316 : decode b_Law_law 316 = .ok (.iconst 2, 1) := by decide +kernel
theorem d_Law_law_317 : decode b_Law_law 317 = .ok (.iadd, 1) := by decide +kernel
theorem d_Law_law_318 : decode b_Law_law 318 = .ok (.iaload, 1) := by decide +kernel
theorem d_Law_law_319 : decode b_Law_law 319 = .ok (.invokevirtual 56, 3) := by decide +kernel
theorem d_Law_law_322 : decode b_Law_law 322 = .ok (.if_icmp .eq 61, 3) := by decide +kernel
theorem d_Law_law_325 : decode b_Law_law 325 = .ok (.iconst 0, 1) := by decide +kernel
theorem d_Law_law_326 : decode b_Law_law 326 = .ok (.ireturn, 1) := by decide +kernel
theorem d_Law_law_327 : decode b_Law_law 327 = .ok (.aload_n 1, 1) := by decide +kernel
theorem d_Law_law_328 : decode b_Law_law 328 = .ok (.aload_n 0, 1) := by decide +kernel
theorem d_Law_law_329 : decode b_Law_law 329 = .ok (.iload_n 3, 1) := by decide +kernel
theorem d_Law_law_330 : decode b_Law_law 330 = .ok (.iconst 1, 1) := by decide +kernel
theorem d_Law_law_331 : decode b_Law_law 331 = .ok (.iadd, 1) := by decide +kernel
theorem d_Law_law_332 : decode b_Law_law 332 = .ok (.iaload, 1) := by decide +kernel
theorem d_Law_law_333 : decode b_Law_law 333 = .ok (.aload_n 0, 1) := by decide +kernel
theorem d_Law_law_334 : decode b_Law_law 334 = .ok (.iload_n 3, 1) := by decide +kernel
theorem d_Law_law_335 : decode b_Law_law 335 = .ok (.iconst 2, 1) := by decide +kernel
theorem d_Law_law_336 : decode b_Law_law 336 = .ok (.iadd, 1) := by decide +kernel
theorem d_Law_law_337 : decode b_Law_law 337 = .ok (.iaload, 1) := by decide +kernel
theorem d_Law_law_338 : decode b_Law_law 338 = .ok (.invokevirtual 57, 3) := by decide +kernel
theorem d_Law_law_341 : decode b_Law_law 341 = .ok (.aload_n 2, 1) := by decide +kernel
theorem d_Law_law_342 : decode b_Law_law 342 = .ok (.aload_n 0, 1) := by decide +kernel
theorem d_Law_law_343 : decode b_Law_law 343 = .ok (.iload_n 3, 1) := by decide +kernel
theorem d_Law_law_344 : decode b_Law_law 344 = .ok (.iconst 1, 1) := by decide +kernel
theorem d_Law_law_345 : decode b_Law_law 345 = .ok (.iadd, 1) := by decide +kernel
theorem d_Law_law_346 : decode b_Law_law 346 = .ok (.iaload, 1) := by decide +kernel
theorem d_Law_law_347 : decode b_Law_law 347 = .ok (.aload_n 0, 1) := by decide +kernel
theorem d_Law_law_348 : decode b_Law_law 348 = .ok (.iload_n 3, 1) := by decide +kernel
theorem d_Law_law_349 : decode b_Law_law 349 = .ok (.iconst 2, 1) := by decide +kernel
theorem d_Law_law_350 : decode b_Law_law 350 = .ok (.iadd, 1) := by decide +kernel
theorem d_Law_law_351 : decode b_Law_law 351 = .ok (.iaload, 1) := by decide +kernel
theorem d_Law_law_352 : decode b_Law_law 352 = .ok (.invokevirtual 60, 3) := by decide +kernel
theorem d_Law_law_355 : decode b_Law_law 355 = .ok (.if_icmp .eq 28, 3) := by decide +kernel
theorem d_Law_law_358 : decode b_Law_law 358 = .ok (.iconst 0, 1) := by decide +kernel
theorem d_Law_law_359 : decode b_Law_law 359 = .ok (.ireturn, 1) := by decide +kernel
theorem d_Law_law_360 : decode b_Law_law 360 = .ok (.aload_n 1, 1) := by decide +kernel
theorem d_Law_law_361 : decode b_Law_law 361 = .ok (.aload_n 0, 1) := by decide +kernel
theorem d_Law_law_362 : decode b_Law_law 362 = .ok (.iload_n 3, 1) := by decide +kernel
theorem d_Law_law_363 : decode b_Law_law 363 = .ok (.iconst 1, 1) := by decide +kernel
theorem d_Law_law_364 : decode b_Law_law 364 = .ok (.iadd, 1) := by decide +kernel
theorem d_Law_law_365 : decode b_Law_law 365 = .ok (.iaload, 1) := by decide +kernel
theorem d_Law_law_366 : decode b_Law_law 366 = .ok (.invokevirtual 61, 3) := by decide +kernel
theorem d_Law_law_369 : decode b_Law_law 369 = .ok (.aload_n 2, 1) := by decide +kernel
theorem d_Law_law_370 : decode b_Law_law 370 = .ok (.aload_n 0, 1) := by decide +kernel
theorem d_Law_law_371 : decode b_Law_law 371 = .ok (.iload_n 3, 1) := by decide +kernel
theorem d_Law_law_372 : decode b_Law_law 372 = .ok (.iconst 1, 1) := by decide +kernel
theorem d_Law_law_373 : decode b_Law_law 373 = .ok (.iadd, 1) := by decide +kernel
theorem d_Law_law_374 : decode b_Law_law 374 = .ok (.iaload, 1) := by decide +kernel
theorem d_Law_law_375 : decode b_Law_law 375 = .ok (.invokevirtual 64, 3) := by decide +kernel
theorem d_Law_law_378 : decode b_Law_law 378 = .ok (.if_icmp .eq 5, 3) := by decide +kernel
theorem d_Law_law_381 : decode b_Law_law 381 = .ok (.iconst 0, 1) := by decide +kernel
theorem d_Law_law_382 : decode b_Law_law 382 = .ok (.ireturn, 1) := by decide +kernel
theorem d_Law_law_383 : decode b_Law_law 383 = .ok (.iinc 3 3, 3) := by decide +kernel
theorem d_Law_law_386 : decode b_Law_law 386 = .ok (.goto (-368), 3) := by decide +kernel
theorem d_Law_law_389 : decode b_Law_law 389 = .ok (.iconst 1, 1) := by decide +kernel
theorem d_Law_law_390 : decode b_Law_law 390 = .ok (.ireturn, 1) := by decide +kernel
