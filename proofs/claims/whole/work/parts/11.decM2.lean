theorem d_Mod_greatest_0 : decode b_Mod_greatest 0 = .ok (.iconst 0, 1) := by decide +kernel
theorem d_Mod_greatest_1 : decode b_Mod_greatest 1 = .ok (.istore 4, 2) := by decide +kernel
theorem d_Mod_greatest_3 : decode b_Mod_greatest 3 = .ok (.iconst 0, 1) := by decide +kernel
theorem d_Mod_greatest_4 : decode b_Mod_greatest 4 = .ok (.istore 5, 2) := by decide +kernel
theorem d_Mod_greatest_6 : decode b_Mod_greatest 6 = .ok (.iload 5, 2) := by decide +kernel
theorem d_Mod_greatest_8 : decode b_Mod_greatest 8 = .ok (.aload_n 0, 1) := by decide +kernel
theorem d_Mod_greatest_9 : decode b_Mod_greatest 9 = .ok (.getfield 122, 3) := by decide +kernel
theorem d_Mod_greatest_12 : decode b_Mod_greatest 12 = .ok (.if_icmp .ge 150, 3) := by decide +kernel
theorem d_Mod_greatest_15 : decode b_Mod_greatest 15 = .ok (.iconst 0, 1) := by decide +kernel
theorem d_Mod_greatest_16 : decode b_Mod_greatest 16 = .ok (.istore 6, 2) := by decide +kernel
theorem d_Mod_greatest_18 : decode b_Mod_greatest 18 = .ok (.iload 6, 2) := by decide +kernel
theorem d_Mod_greatest_20 : decode b_Mod_greatest 20 = .ok (.aload_n 0, 1) := by decide +kernel
theorem d_Mod_greatest_21 : decode b_Mod_greatest 21 = .ok (.getfield 31, 3) := by decide +kernel
theorem d_Mod_greatest_24 : decode b_Mod_greatest 24 = .ok (.iload 5, 2) := by decide +kernel
theorem d_Mod_greatest_26 : decode b_Mod_greatest 26 = .ok (.iaload, 1) := by decide +kernel
theorem d_Mod_greatest_27 : decode b_Mod_greatest 27 = .ok (.iadd, 1) := by decide +kernel
theorem d_Mod_greatest_28 : decode b_Mod_greatest 28 = .ok (.iload_n 2, 1) := by decide +kernel
theorem d_Mod_greatest_29 : decode b_Mod_greatest 29 = .ok (.iconst 2, 1) := by decide +kernel
theorem d_Mod_greatest_30 : decode b_Mod_greatest 30 = .ok (.iadd, 1) := by decide +kernel
theorem d_Mod_greatest_31 : decode b_Mod_greatest 31 = .ok (.if_icmp .gt 125, 3) := by decide +kernel
theorem d_Mod_greatest_34 : decode b_Mod_greatest 34 = .ok (.iconst 1, 1) := by decide +kernel
theorem d_Mod_greatest_35 : decode b_Mod_greatest 35 = .ok (.istore 7, 2) := by decide +kernel
theorem d_Mod_greatest_37 : decode b_Mod_greatest 37 = .ok (.iconst 0, 1) := by decide +kernel
theorem d_Mod_greatest_38 : decode b_Mod_greatest 38 = .ok (.istore 8, 2) := by decide +kernel
theorem d_Mod_greatest_40 : decode b_Mod_greatest 40 = .ok (.iload 8, 2) := by decide +kernel
theorem d_Mod_greatest_42 : decode b_Mod_greatest 42 = .ok (.aload_n 0, 1) := by decide +kernel
theorem d_Mod_greatest_43 : decode b_Mod_greatest 43 = .ok (.getfield 31, 3) := by decide +kernel
theorem d_Mod_greatest_46 : decode b_Mod_greatest 46 = .ok (.iload 5, 2) := by decide +kernel
theorem d_Mod_greatest_48 : decode b_Mod_greatest 48 = .ok (.iaload, 1) := by decide +kernel
theorem d_Mod_greatest_49 : decode b_Mod_greatest 49 = .ok (.if_icmp .ge 38, 3) := by decide +kernel
theorem d_Mod_greatest_52 : decode b_Mod_greatest 52 = .ok (.aload_n 0, 1) := by decide +kernel
theorem d_Mod_greatest_53 : decode b_Mod_greatest 53 = .ok (.getfield 25, 3) := by decide +kernel
theorem d_Mod_greatest_56 : decode b_Mod_greatest 56 = .ok (.iload 5, 2) := by decide +kernel
theorem d_Mod_greatest_58 : decode b_Mod_greatest 58 = .ok (.iconst 5, 1) := by decide +kernel
theorem d_Mod_greatest_59 : decode b_Mod_greatest 59 = .ok (.imul, 1) := by decide +kernel
theorem d_Mod_greatest_60 : decode b_Mod_greatest 60 = .ok (.iload 8, 2) := by decide +kernel
theorem d_Mod_greatest_62 : decode b_Mod_greatest 62 = .ok (.iadd, 1) := by decide +kernel
theorem d_Mod_greatest_63 : decode b_Mod_greatest 63 = .ok (.iaload, 1) := by decide +kernel
theorem d_Mod_greatest_64 : decode b_Mod_greatest 64 = .ok (.aload_n 0, 1) := by decide +kernel
theorem d_Mod_greatest_65 : decode b_Mod_greatest 65 = .ok (.iload_n 1, 1) := by decide +kernel
theorem d_Mod_greatest_66 : decode b_Mod_greatest 66 = .ok (.iload_n 2, 1) := by decide +kernel
theorem d_Mod_greatest_67 : decode b_Mod_greatest 67 = .ok (.iload 6, 2) := by decide +kernel
theorem d_Mod_greatest_69 : decode b_Mod_greatest 69 = .ok (.iload 8, 2) := by decide +kernel
theorem d_Mod_greatest_71 : decode b_Mod_greatest 71 = .ok (.iadd, 1) := by decide +kernel
theorem d_Mod_greatest_72 : decode b_Mod_greatest 72 = .ok (.invokevirtual 153, 3) := by decide +kernel
theorem d_Mod_greatest_75 : decode b_Mod_greatest 75 = .ok (.if_icmp .eq 6, 3) := by decide +kernel
theorem d_Mod_greatest_78 : decode b_Mod_greatest 78 = .ok (.iconst 0, 1) := by decide +kernel
theorem d_Mod_greatest_79 : decode b_Mod_greatest 79 = .ok (.istore 7, 2) := by decide +kernel
theorem d_Mod_greatest_81 : decode b_Mod_greatest 81 = .ok (.iinc 8 1, 3) := by decide +kernel
theorem d_Mod_greatest_84 : decode b_Mod_greatest 84 = .ok (.goto (-44), 3) := by decide +kernel
theorem d_Mod_greatest_87 : decode b_Mod_greatest 87 = .ok (.iload_n 3, 1) := by decide +kernel
theorem d_Mod_greatest_88 : decode b_Mod_greatest 88 = .ok (.iconst 1, 1) := by decide +kernel
theorem d_Mod_greatest_89 : decode b_Mod_greatest 89 = .ok (.iadd, 1) := by decide +kernel
theorem d_Mod_greatest_90 : decode b_Mod_greatest 90 = .ok (.iload 6, 2) := by decide +kernel
theorem d_Mod_greatest_92 : decode b_Mod_greatest 92 = .ok (.isub, 1) := by decide +kernel
theorem d_Mod_greatest_93 : decode b_Mod_greatest 93 = .ok (.istore 8, 2) := by decide +kernel
theorem d_Mod_greatest_95 : decode b_Mod_greatest 95 = .ok (.iload 7, 2) := by decide +kernel
theorem d_Mod_greatest_97 : decode b_Mod_greatest 97 = .ok (.ifCond .eq 53, 3) := by decide +kernel
theorem d_Mod_greatest_100 : decode b_Mod_greatest 100 = .ok (.iload 8, 2) := by decide +kernel
theorem d_Mod_greatest_102 : decode b_Mod_greatest 102 = .ok (.ifCond .lt 48, 3) := by decide +kernel
theorem d_Mod_greatest_105 : decode b_Mod_greatest 105 = .ok (.iload 8, 2) := by decide +kernel
theorem d_Mod_greatest_107 : decode b_Mod_greatest 107 = .ok (.aload_n 0, 1) := by decide +kernel
theorem d_Mod_greatest_108 : decode b_Mod_greatest 108 = .ok (.getfield 31, 3) := by decide +kernel
theorem d_Mod_greatest_111 : decode b_Mod_greatest 111 = .ok (.iload 5, 2) := by decide +kernel
theorem d_Mod_greatest_113 : decode b_Mod_greatest 113 = .ok (.iaload, 1) := by decide +kernel
theorem d_Mod_greatest_114 : decode b_Mod_greatest 114 = .ok (.if_icmp .gt 36, 3) := by decide +kernel
theorem d_Mod_greatest_117 : decode b_Mod_greatest 117 = .ok (.aload_n 0, 1) := by decide +kernel
theorem d_Mod_greatest_118 : decode b_Mod_greatest 118 = .ok (.getfield 28, 3) := by decide +kernel
theorem d_Mod_greatest_121 : decode b_Mod_greatest 121 = .ok (.iload 5, 2) := by decide +kernel
theorem d_Mod_greatest_123 : decode b_Mod_greatest 123 = .ok (.bipush 6, 2) := by decide +kernel
theorem d_Mod_greatest_125 : decode b_Mod_greatest 125 = .ok (.imul, 1) := by decide +kernel
theorem d_Mod_greatest_126 : decode b_Mod_greatest 126 = .ok (.iload 8, 2) := by decide +kernel
theorem d_Mod_greatest_128 : decode b_Mod_greatest 128 = .ok (.iadd, 1) := by decide +kernel
theorem d_Mod_greatest_129 : decode b_Mod_greatest 129 = .ok (.iaload, 1) := by decide +kernel
theorem d_Mod_greatest_130 : decode b_Mod_greatest 130 = .ok (.iload 4, 2) := by decide +kernel
theorem d_Mod_greatest_132 : decode b_Mod_greatest 132 = .ok (.if_icmp .le 18, 3) := by decide +kernel
theorem d_Mod_greatest_135 : decode b_Mod_greatest 135 = .ok (.aload_n 0, 1) := by decide +kernel
theorem d_Mod_greatest_136 : decode b_Mod_greatest 136 = .ok (.getfield 28, 3) := by decide +kernel
theorem d_Mod_greatest_139 : decode b_Mod_greatest 139 = .ok (.iload 5, 2) := by decide +kernel
theorem d_Mod_greatest_141 : decode b_Mod_greatest 141 = .ok (.bipush 6, 2) := by decide +kernel
theorem d_Mod_greatest_143 : decode b_Mod_greatest 143 = .ok (.imul, 1) := by decide +kernel
theorem d_Mod_greatest_144 : decode b_Mod_greatest 144 = .ok (.iload 8, 2) := by decide +kernel
theorem d_Mod_greatest_146 : decode b_Mod_greatest 146 = .ok (.iadd, 1) := by decide +kernel
theorem d_Mod_greatest_147 : decode b_Mod_greatest 147 = .ok (.iaload, 1) := by decide +kernel
theorem d_Mod_greatest_148 : decode b_Mod_greatest 148 = .ok (.istore 4, 2) := by decide +kernel
theorem d_Mod_greatest_150 : decode b_Mod_greatest 150 = .ok (.iinc 6 1, 3) := by decide +kernel
theorem d_Mod_greatest_153 : decode b_Mod_greatest 153 = .ok (.goto (-135), 3) := by decide +kernel
theorem d_Mod_greatest_156 : decode b_Mod_greatest 156 = .ok (.iinc 5 1, 3) := by decide +kernel
theorem d_Mod_greatest_159 : decode b_Mod_greatest 159 = .ok (.goto (-153), 3) := by decide +kernel
theorem d_Mod_greatest_162 : decode b_Mod_greatest 162 = .ok (.iload 4, 2) := by decide +kernel
theorem d_Mod_greatest_164 : decode b_Mod_greatest 164 = .ok (.ireturn, 1) := by decide +kernel
theorem d_Mod_signOf_0 : decode b_Mod_signOf 0 = .ok (.iload_n 3, 1) := by decide +kernel
theorem d_Mod_signOf_1 : decode b_Mod_signOf 1 = .ok (.ifCond .eq 10, 3) := by decide +kernel
theorem d_Mod_signOf_4 : decode b_Mod_signOf 4 = .ok (.iload_n 3, 1) := by decide +kernel
theorem d_Mod_signOf_5 : decode b_Mod_signOf 5 = .ok (.iload_n 2, 1) := by decide +kernel
theorem d_Mod_signOf_6 : decode b_Mod_signOf 6 = .ok (.iconst 1, 1) := by decide +kernel
theorem d_Mod_signOf_7 : decode b_Mod_signOf 7 = .ok (.iadd, 1) := by decide +kernel
theorem d_Mod_signOf_8 : decode b_Mod_signOf 8 = .ok (.if_icmp .ne 8, 3) := by decide +kernel
theorem d_Mod_signOf_11 : decode b_Mod_signOf 11 = .ok (.bipush 46, 2) := by decide +kernel
theorem d_Mod_signOf_13 : decode b_Mod_signOf 13 = .ok (.goto 13, 3) := by decide +kernel
theorem d_Mod_signOf_16 : decode b_Mod_signOf 16 = .ok (.aload_n 0, 1) := by decide +kernel
theorem d_Mod_signOf_17 : decode b_Mod_signOf 17 = .ok (.getfield 46, 3) := by decide +kernel
theorem d_Mod_signOf_20 : decode b_Mod_signOf 20 = .ok (.iload_n 1, 1) := by decide +kernel
theorem d_Mod_signOf_21 : decode b_Mod_signOf 21 = .ok (.iload_n 3, 1) := by decide +kernel
theorem d_Mod_signOf_22 : decode b_Mod_signOf 22 = .ok (.iadd, 1) := by decide +kernel
theorem d_Mod_signOf_23 : decode b_Mod_signOf 23 = .ok (.iconst 1, 1) := by decide +kernel
theorem d_Mod_signOf_24 : decode b_Mod_signOf 24 = .ok (.isub, 1) := by decide +kernel
theorem d_Mod_signOf_25 : decode b_Mod_signOf 25 = .ok (.iaload, 1) := by decide +kernel
theorem d_Mod_signOf_26 : decode b_Mod_signOf 26 = .ok (.ireturn, 1) := by decide +kernel
theorem d_Mod_findBreaks_0 : decode b_Mod_findBreaks 0 = .ok (.aload_n 0, 1) := by decide +kernel
theorem d_Mod_findBreaks_1 : decode b_Mod_findBreaks 1 = .ok (.iconst 0, 1) := by decide +kernel
theorem d_Mod_findBreaks_2 : decode b_Mod_findBreaks 2 = .ok (.putfield 163, 3) := by decide +kernel
theorem d_Mod_findBreaks_5 : decode b_Mod_findBreaks 5 = .ok (.aload_n 0, 1) := by decide +kernel
theorem d_Mod_findBreaks_6 : decode b_Mod_findBreaks 6 = .ok (.getfield 65, 3) := by decide +kernel
theorem d_Mod_findBreaks_9 : decode b_Mod_findBreaks 9 = .ok (.iconst 0, 1) := by decide +kernel
theorem d_Mod_findBreaks_10 : decode b_Mod_findBreaks 10 = .ok (.aload_n 0, 1) := by decide +kernel
theorem d_Mod_findBreaks_11 : decode b_Mod_findBreaks 11 = .ok (.getfield 71, 3) := by decide +kernel
theorem d_Mod_findBreaks_14 : decode b_Mod_findBreaks 14 = .ok (.iconst 0, 1) := by decide +kernel
theorem d_Mod_findBreaks_15 : decode b_Mod_findBreaks 15 = .ok (.iconst 0, 1) := by decide +kernel
theorem d_Mod_findBreaks_16 : decode b_Mod_findBreaks 16 = .ok (.dup_x2, 1) := by decide +kernel
theorem d_Mod_findBreaks_17 : decode b_Mod_findBreaks 17 = .ok (.iastore, 1) := by decide +kernel
theorem d_Mod_findBreaks_18 : decode b_Mod_findBreaks 18 = .ok (.iastore, 1) := by decide +kernel
theorem d_Mod_findBreaks_19 : decode b_Mod_findBreaks 19 = .ok (.iconst 0, 1) := by decide +kernel
theorem d_Mod_findBreaks_20 : decode b_Mod_findBreaks 20 = .ok (.istore_n 1, 1) := by decide +kernel
theorem d_Mod_findBreaks_21 : decode b_Mod_findBreaks 21 = .ok (.iload_n 1, 1) := by decide +kernel
theorem d_Mod_findBreaks_22 : decode b_Mod_findBreaks 22 = .ok (.aload_n 0, 1) := by decide +kernel
theorem d_Mod_findBreaks_23 : decode b_Mod_findBreaks 23 = .ok (.getfield 142, 3) := by decide +kernel
theorem d_Mod_findBreaks_26 : decode b_Mod_findBreaks 26 = .ok (.if_icmp .ge 117, 3) := by decide +kernel
theorem d_Mod_findBreaks_29 : decode b_Mod_findBreaks 29 = .ok (.aload_n 0, 1) := by decide +kernel
theorem d_Mod_findBreaks_30 : decode b_Mod_findBreaks 30 = .ok (.getfield 61, 3) := by decide +kernel
theorem d_Mod_findBreaks_33 : decode b_Mod_findBreaks 33 = .ok (.iload_n 1, 1) := by decide +kernel
theorem d_Mod_findBreaks_34 : decode b_Mod_findBreaks 34 = .ok (.baload, 1) := by decide +kernel
theorem d_Mod_findBreaks_35 : decode b_Mod_findBreaks 35 = .ok (.ifCond .eq 15, 3) := by decide +kernel
theorem d_Mod_findBreaks_38 : decode b_Mod_findBreaks 38 = .ok (.aload_n 0, 1) := by decide +kernel
theorem d_Mod_findBreaks_39 : decode b_Mod_findBreaks 39 = .ok (.iconst 2, 1) := by decide +kernel
theorem d_Mod_findBreaks_40 : decode b_Mod_findBreaks 40 = .ok (.iload_n 1, 1) := by decide +kernel
theorem d_Mod_findBreaks_41 : decode b_Mod_findBreaks 41 = .ok (.iload_n 1, 1) := by decide +kernel
theorem d_Mod_findBreaks_42 : decode b_Mod_findBreaks 42 = .ok (.invokevirtual 166, 3) := by decide +kernel
theorem d_Mod_findBreaks_45 : decode b_Mod_findBreaks 45 = .ok (.ifCond .ne 5, 3) := by decide +kernel
theorem d_Mod_findBreaks_48 : decode b_Mod_findBreaks 48 = .ok (.iconst 0, 1) := by decide +kernel
theorem d_Mod_findBreaks_49 : decode b_Mod_findBreaks 49 = .ok (.ireturn, 1) := by decide +kernel
theorem d_Mod_findBreaks_50 : decode b_Mod_findBreaks 50 = .ok (.aload_n 0, 1) := by decide +kernel
theorem d_Mod_findBreaks_51 : decode b_Mod_findBreaks 51 = .ok (.getfield 46, 3) := by decide +kernel
theorem d_Mod_findBreaks_54 : decode b_Mod_findBreaks 54 = .ok (.iload_n 1, 1) := by decide +kernel
theorem d_Mod_findBreaks_55 : decode b_Mod_findBreaks 55 = .ok (.iaload, 1) := by decide +kernel
theorem d_Mod_findBreaks_56 : decode b_Mod_findBreaks 56 = .ok (.bipush 32, 2) := by decide +kernel
theorem d_Mod_findBreaks_58 : decode b_Mod_findBreaks 58 = .ok (.if_icmp .ne 17, 3) := by decide +kernel
theorem d_Mod_findBreaks_61 : decode b_Mod_findBreaks 61 = .ok (.aload_n 0, 1) := by decide +kernel
theorem d_Mod_findBreaks_62 : decode b_Mod_findBreaks 62 = .ok (.iconst 0, 1) := by decide +kernel
theorem d_Mod_findBreaks_63 : decode b_Mod_findBreaks 63 = .ok (.iload_n 1, 1) := by decide +kernel
theorem d_Mod_findBreaks_64 : decode b_Mod_findBreaks 64 = .ok (.iload_n 1, 1) := by decide +kernel
theorem d_Mod_findBreaks_65 : decode b_Mod_findBreaks 65 = .ok (.iconst 1, 1) := by decide +kernel
theorem d_Mod_findBreaks_66 : decode b_Mod_findBreaks 66 = .ok (.iadd, 1) := by decide +kernel
theorem d_Mod_findBreaks_67 : decode b_Mod_findBreaks 67 = .ok (.invokevirtual 166, 3) := by decide +kernel
theorem d_Mod_findBreaks_70 : decode b_Mod_findBreaks 70 = .ok (.ifCond .ne 5, 3) := by decide +kernel
theorem d_Mod_findBreaks_73 : decode b_Mod_findBreaks 73 = .ok (.iconst 0, 1) := by decide +kernel
theorem d_Mod_findBreaks_74 : decode b_Mod_findBreaks 74 = .ok (.ireturn, 1) := by decide +kernel
theorem d_Mod_findBreaks_75 : decode b_Mod_findBreaks 75 = .ok (.aload_n 0, 1) := by decide +kernel
theorem d_Mod_findBreaks_76 : decode b_Mod_findBreaks 76 = .ok (.getfield 46, 3) := by decide +kernel
theorem d_Mod_findBreaks_79 : decode b_Mod_findBreaks 79 = .ok (.iload_n 1, 1) := by decide +kernel
theorem d_Mod_findBreaks_80 : decode b_Mod_findBreaks 80 = .ok (.iaload, 1) := by decide +kernel
theorem d_Mod_findBreaks_81 : decode b_Mod_findBreaks 81 = .ok (.bipush 124, 2) := by decide +kernel
theorem d_Mod_findBreaks_83 : decode b_Mod_findBreaks 83 = .ok (.if_icmp .ne 17, 3) := by decide +kernel
theorem d_Mod_findBreaks_86 : decode b_Mod_findBreaks 86 = .ok (.aload_n 0, 1) := by decide +kernel
theorem d_Mod_findBreaks_87 : decode b_Mod_findBreaks 87 = .ok (.iconst 3, 1) := by decide +kernel
theorem d_Mod_findBreaks_88 : decode b_Mod_findBreaks 88 = .ok (.iload_n 1, 1) := by decide +kernel
theorem d_Mod_findBreaks_89 : decode b_Mod_findBreaks 89 = .ok (.iload_n 1, 1) := by decide +kernel
theorem d_Mod_findBreaks_90 : decode b_Mod_findBreaks 90 = .ok (.iconst 1, 1) := by decide +kernel
theorem d_Mod_findBreaks_91 : decode b_Mod_findBreaks 91 = .ok (.iadd, 1) := by decide +kernel
theorem d_Mod_findBreaks_92 : decode b_Mod_findBreaks 92 = .ok (.invokevirtual 166, 3) := by decide +kernel
theorem d_Mod_findBreaks_95 : decode b_Mod_findBreaks 95 = .ok (.ifCond .ne 5, 3) := by decide +kernel
theorem d_Mod_findBreaks_98 : decode b_Mod_findBreaks 98 = .ok (.iconst 0, 1) := by decide +kernel
theorem d_Mod_findBreaks_99 : decode b_Mod_findBreaks 99 = .ok (.ireturn, 1) := by decide +kernel
theorem d_Mod_findBreaks_100 : decode b_Mod_findBreaks 100 = .ok (.aload_n 0, 1) := by decide +kernel
theorem d_Mod_findBreaks_101 : decode b_Mod_findBreaks 101 = .ok (.getfield 46, 3) := by decide +kernel
theorem d_Mod_findBreaks_104 : decode b_Mod_findBreaks 104 = .ok (.iload_n 1, 1) := by decide +kernel
theorem d_Mod_findBreaks_105 : decode b_Mod_findBreaks 105 = .ok (.iaload, 1) := by decide +kernel
theorem d_Mod_findBreaks_106 : decode b_Mod_findBreaks 106 = .ok (.bipush 45, 2) := by decide +kernel
theorem d_Mod_findBreaks_108 : decode b_Mod_findBreaks 108 = .ok (.if_icmp .ne 29, 3) := by decide +kernel
theorem d_Mod_findBreaks_111 : decode b_Mod_findBreaks 111 = .ok (.iload_n 1, 1) := by decide +kernel
theorem d_Mod_findBreaks_112 : decode b_Mod_findBreaks 112 = .ok (.aload_n 0, 1) := by decide +kernel
theorem d_Mod_findBreaks_113 : decode b_Mod_findBreaks 113 = .ok (.getfield 142, 3) := by decide +kernel
theorem d_Mod_findBreaks_116 : decode b_Mod_findBreaks 116 = .ok (.iconst 1, 1) := by decide +kernel
theorem d_Mod_findBreaks_117 : decode b_Mod_findBreaks 117 = .ok (.isub, 1) := by decide +kernel
theorem d_Mod_findBreaks_118 : decode b_Mod_findBreaks 118 = .ok (.if_icmp .ge 19, 3) := by decide +kernel
theorem d_Mod_findBreaks_121 : decode b_Mod_findBreaks 121 = .ok (.aload_n 0, 1) := by decide +kernel
theorem d_Mod_findBreaks_122 : decode b_Mod_findBreaks 122 = .ok (.iconst 1, 1) := by decide +kernel
theorem d_Mod_findBreaks_123 : decode b_Mod_findBreaks 123 = .ok (.iload_n 1, 1) := by decide +kernel
theorem d_Mod_findBreaks_124 : decode b_Mod_findBreaks 124 = .ok (.iconst 1, 1) := by decide +kernel
theorem d_Mod_findBreaks_125 : decode b_Mod_findBreaks 125 = .ok (.iadd, 1) := by decide +kernel
theorem d_Mod_findBreaks_126 : decode b_Mod_findBreaks 126 = .ok (.iload_n 1, 1) := by decide +kernel
theorem d_Mod_findBreaks_127 : decode b_Mod_findBreaks 127 = .ok (.iconst 1, 1) := by decide +kernel
theorem d_Mod_findBreaks_128 : decode b_Mod_findBreaks 128 = .ok (.iadd, 1) := by decide +kernel
theorem d_Mod_findBreaks_129 : decode b_Mod_findBreaks 129 = .ok (.invokevirtual 166, 3) := by decide +kernel
theorem d_Mod_findBreaks_132 : decode b_Mod_findBreaks 132 = .ok (.ifCond .ne 5, 3) := by decide +kernel
theorem d_Mod_findBreaks_135 : decode b_Mod_findBreaks 135 = .ok (.iconst 0, 1) := by decide +kernel
theorem d_Mod_findBreaks_136 : decode b_Mod_findBreaks 136 = .ok (.ireturn, 1) := by decide +kernel
theorem d_Mod_findBreaks_137 : decode b_Mod_findBreaks 137 = .ok (.iinc 1 1, 3) := by decide +kernel
theorem d_Mod_findBreaks_140 : decode b_Mod_findBreaks 140 = .ok (.goto (-119), 3) := by decide +kernel
theorem d_Mod_findBreaks_143 : decode b_Mod_findBreaks 143 = .ok (.aload_n 0, 1) := by decide +kernel
theorem d_Mod_findBreaks_144 : decode b_Mod_findBreaks 144 = .ok (.iconst 4, 1) := by decide +kernel
theorem d_Mod_findBreaks_145 : decode b_Mod_findBreaks 145 = .ok (.aload_n 0, 1) := by decide +kernel
theorem d_Mod_findBreaks_146 : decode b_Mod_findBreaks 146 = .ok (.getfield 142, 3) := by decide +kernel
theorem d_Mod_findBreaks_149 : decode b_Mod_findBreaks 149 = .ok (.aload_n 0, 1) := by decide +kernel
theorem d_Mod_findBreaks_150 : decode b_Mod_findBreaks 150 = .ok (.getfield 142, 3) := by decide +kernel
theorem d_Mod_findBreaks_153 : decode b_Mod_findBreaks 153 = .ok (.invokevirtual 166, 3) := by decide +kernel
theorem d_Mod_findBreaks_156 : decode b_Mod_findBreaks 156 = .ok (.ireturn, 1) := by decide +kernel
theorem d_Mod_addBreak_0 : decode b_Mod_addBreak 0 = .ok (.aload_n 0, 1) := by decide +kernel
theorem d_Mod_addBreak_1 : decode b_Mod_addBreak 1 = .ok (.getfield 163, 3) := by decide +kernel
theorem d_Mod_addBreak_4 : decode b_Mod_addBreak 4 = .ok (.bipush 24, 2) := by decide +kernel
theorem d_Mod_addBreak_6 : decode b_Mod_addBreak 6 = .ok (.if_icmp .ne 5, 3) := by decide +kernel
theorem d_Mod_addBreak_9 : decode b_Mod_addBreak 9 = .ok (.iconst 0, 1) := by decide +kernel
theorem d_Mod_addBreak_10 : decode b_Mod_addBreak 10 = .ok (.ireturn, 1) := by decide +kernel
theorem d_Mod_addBreak_11 : decode b_Mod_addBreak 11 = .ok (.aload_n 0, 1) := by decide +kernel
theorem d_Mod_addBreak_12 : decode b_Mod_addBreak 12 = .ok (.dup, 1) := by decide +kernel
theorem d_Mod_addBreak_13 : decode b_Mod_addBreak 13 = .ok (.getfield 163, 3) := by decide +kernel
theorem d_Mod_addBreak_16 : decode b_Mod_addBreak 16 = .ok (.iconst 1, 1) := by decide +kernel
theorem d_Mod_addBreak_17 : decode b_Mod_addBreak 17 = .ok (.iadd, 1) := by decide +kernel
theorem d_Mod_addBreak_18 : decode b_Mod_addBreak 18 = .ok (.putfield 163, 3) := by decide +kernel
theorem d_Mod_addBreak_21 : decode b_Mod_addBreak 21 = .ok (.aload_n 0, 1) := by decide +kernel
theorem d_Mod_addBreak_22 : decode b_Mod_addBreak 22 = .ok (.getfield 65, 3) := by decide +kernel
theorem d_Mod_addBreak_25 : decode b_Mod_addBreak 25 = .ok (.aload_n 0, 1) := by decide +kernel
theorem d_Mod_addBreak_26 : decode b_Mod_addBreak 26 = .ok (.getfield 163, 3) := by decide +kernel
theorem d_Mod_addBreak_29 : decode b_Mod_addBreak 29 = .ok (.iload_n 1, 1) := by decide +kernel
theorem d_Mod_addBreak_30 : decode b_Mod_addBreak 30 = .ok (.iastore, 1) := by decide +kernel
theorem d_Mod_addBreak_31 : decode b_Mod_addBreak 31 = .ok (.aload_n 0, 1) := by decide +kernel
theorem d_Mod_addBreak_32 : decode b_Mod_addBreak 32 = .ok (.getfield 68, 3) := by decide +kernel
theorem d_Mod_addBreak_35 : decode b_Mod_addBreak 35 = .ok (.aload_n 0, 1) := by decide +kernel
theorem d_Mod_addBreak_36 : decode b_Mod_addBreak 36 = .ok (.getfield 163, 3) := by decide +kernel
theorem d_Mod_addBreak_39 : decode b_Mod_addBreak 39 = .ok (.iload_n 2, 1) := by decide +kernel
theorem d_Mod_addBreak_40 : decode b_Mod_addBreak 40 = .ok (.iastore, 1) := by decide +kernel
theorem d_Mod_addBreak_41 : decode b_Mod_addBreak 41 = .ok (.aload_n 0, 1) := by decide +kernel
theorem d_Mod_addBreak_42 : decode b_Mod_addBreak 42 = .ok (.getfield 71, 3) := by decide +kernel
theorem d_Mod_addBreak_45 : decode b_Mod_addBreak 45 = .ok (.aload_n 0, 1) := by decide +kernel
theorem d_Mod_addBreak_46 : decode b_Mod_addBreak 46 = .ok (.getfield 163, 3) := by decide +kernel
theorem d_Mod_addBreak_49 : decode b_Mod_addBreak 49 = .ok (.iload_n 3, 1) := by decide +kernel
theorem d_Mod_addBreak_50 : decode b_Mod_addBreak 50 = .ok (.iastore, 1) := by decide +kernel
theorem d_Mod_addBreak_51 : decode b_Mod_addBreak 51 = .ok (.iconst 1, 1) := by decide +kernel
theorem d_Mod_addBreak_52 : decode b_Mod_addBreak 52 = .ok (.ireturn, 1) := by decide +kernel
theorem d_Mod_solve_0 : decode b_Mod_solve 0 = .ok (.aload_n 0, 1) := by decide +kernel
theorem d_Mod_solve_1 : decode b_Mod_solve 1 = .ok (.getfield 74, 3) := by decide +kernel
theorem d_Mod_solve_4 : decode b_Mod_solve 4 = .ok (.aload_n 0, 1) := by decide +kernel
theorem d_Mod_solve_5 : decode b_Mod_solve 5 = .ok (.getfield 163, 3) := by decide +kernel
theorem d_Mod_solve_8 : decode b_Mod_solve 8 = .ok (.lconst 0, 1) := by decide +kernel
theorem d_Mod_solve_9 : decode b_Mod_solve 9 = .ok (.lastore, 1) := by decide +kernel
theorem d_Mod_solve_10 : decode b_Mod_solve 10 = .ok (.aload_n 0, 1) := by decide +kernel
theorem d_Mod_solve_11 : decode b_Mod_solve 11 = .ok (.getfield 78, 3) := by decide +kernel
theorem d_Mod_solve_14 : decode b_Mod_solve 14 = .ok (.aload_n 0, 1) := by decide +kernel
theorem d_Mod_solve_15 : decode b_Mod_solve 15 = .ok (.getfield 163, 3) := by decide +kernel
theorem d_Mod_solve_18 : decode b_Mod_solve 18 = .ok (.iconst 0, 1) := by decide +kernel
theorem d_Mod_solve_19 : decode b_Mod_solve 19 = .ok (.iastore, 1) := by decide +kernel
theorem d_Mod_solve_20 : decode b_Mod_solve 20 = .ok (.aload_n 0, 1) := by decide +kernel
theorem d_Mod_solve_21 : decode b_Mod_solve 21 = .ok (.getfield 163, 3) := by decide +kernel
theorem d_Mod_solve_24 : decode b_Mod_solve 24 = .ok (.iconst 1, 1) := by decide +kernel
theorem d_Mod_solve_25 : decode b_Mod_solve 25 = .ok (.isub, 1) := by decide +kernel
theorem d_Mod_solve_26 : decode b_Mod_solve 26 = .ok (.istore_n 1, 1) := by decide +kernel
theorem d_Mod_solve_27 : decode b_Mod_solve 27 = .ok (.iload_n 1, 1) := by decide +kernel
theorem d_Mod_solve_28 : decode b_Mod_solve 28 = .ok (.ifCond .lt 166, 3) := by decide +kernel
theorem d_Mod_solve_31 : decode b_Mod_solve 31 = .ok (.aload_n 0, 1) := by decide +kernel
theorem d_Mod_solve_32 : decode b_Mod_solve 32 = .ok (.getfield 74, 3) := by decide +kernel
theorem d_Mod_solve_35 : decode b_Mod_solve 35 = .ok (.iload_n 1, 1) := by decide +kernel
theorem d_Mod_solve_36 : decode b_Mod_solve 36 = .ok (.ldc2_w 189, 3) := by decide +kernel
theorem d_Mod_solve_39 : decode b_Mod_solve 39 = .ok (.lastore, 1) := by decide +kernel
theorem d_Mod_solve_40 : decode b_Mod_solve 40 = .ok (.iload_n 1, 1) := by decide +kernel
theorem d_Mod_solve_41 : decode b_Mod_solve 41 = .ok (.iconst 1, 1) := by decide +kernel
theorem d_Mod_solve_42 : decode b_Mod_solve 42 = .ok (.iadd, 1) := by decide +kernel
theorem d_Mod_solve_43 : decode b_Mod_solve 43 = .ok (.istore_n 2, 1) := by decide +kernel
theorem d_Mod_solve_44 : decode b_Mod_solve 44 = .ok (.iload_n 2, 1) := by decide +kernel
theorem d_Mod_solve_45 : decode b_Mod_solve 45 = .ok (.aload_n 0, 1) := by decide +kernel
theorem d_Mod_solve_46 : decode b_Mod_solve 46 = .ok (.getfield 163, 3) := by decide +kernel
theorem d_Mod_solve_49 : decode b_Mod_solve 49 = .ok (.if_icmp .gt 139, 3) := by decide +kernel
theorem d_Mod_solve_52 : decode b_Mod_solve 52 = .ok (.aload_n 0, 1) := by decide +kernel
theorem d_Mod_solve_53 : decode b_Mod_solve 53 = .ok (.getfield 74, 3) := by decide +kernel
theorem d_Mod_solve_56 : decode b_Mod_solve 56 = .ok (.iload_n 2, 1) := by decide +kernel
theorem d_Mod_solve_57 : decode b_Mod_solve 57 = .ok (.laload, 1) := by decide +kernel
theorem d_Mod_solve_58 : decode b_Mod_solve 58 = .ok (.lconst 0, 1) := by decide +kernel
theorem d_Mod_solve_59 : decode b_Mod_solve 59 = .ok (.lcmp, 1) := by decide +kernel
theorem d_Mod_solve_60 : decode b_Mod_solve 60 = .ok (.ifCond .lt 122, 3) := by decide +kernel
theorem d_Mod_solve_63 : decode b_Mod_solve 63 = .ok (.aload_n 0, 1) := by decide +kernel
theorem d_Mod_solve_64 : decode b_Mod_solve 64 = .ok (.iload_n 1, 1) := by decide +kernel
theorem d_Mod_solve_65 : decode b_Mod_solve 65 = .ok (.iload_n 2, 1) := by decide +kernel
theorem d_Mod_solve_66 : decode b_Mod_solve 66 = .ok (.invokevirtual 191, 3) := by decide +kernel
theorem d_Mod_solve_69 : decode b_Mod_solve 69 = .ok (.ifCond .ne 6, 3) := by decide +kernel
theorem d_Mod_solve_72 : decode b_Mod_solve 72 = .ok (.goto 110, 3) := by decide +kernel
theorem d_Mod_solve_75 : decode b_Mod_solve 75 = .ok (.aload_n 0, 1) := by decide +kernel
theorem d_Mod_solve_76 : decode b_Mod_solve 76 = .ok (.iload_n 1, 1) := by decide +kernel
theorem d_Mod_solve_77 : decode b_Mod_solve 77 = .ok (.iload_n 2, 1) := by decide +kernel
theorem d_Mod_solve_78 : decode b_Mod_solve 78 = .ok (.invokevirtual 195, 3) := by decide +kernel
theorem d_Mod_solve_81 : decode b_Mod_solve 81 = .ok (.aload_n 0, 1) := by decide +kernel
theorem d_Mod_solve_82 : decode b_Mod_solve 82 = .ok (.getfield 74, 3) := by decide +kernel
theorem d_Mod_solve_85 : decode b_Mod_solve 85 = .ok (.iload_n 2, 1) := by decide +kernel
theorem d_Mod_solve_86 : decode b_Mod_solve 86 = .ok (.laload, 1) := by decide +kernel
theorem d_Mod_solve_87 : decode b_Mod_solve 87 = .ok (.ladd, 1) := by decide +kernel
theorem d_Mod_solve_88 : decode b_Mod_solve 88 = .ok (.lstore_n 3, 1) := by decide +kernel
theorem d_Mod_solve_89 : decode b_Mod_solve 89 = .ok (.aload_n 0, 1) := by decide +kernel
theorem d_Mod_solve_90 : decode b_Mod_solve 90 = .ok (.getfield 74, 3) := by decide +kernel
theorem d_Mod_solve_93 : decode b_Mod_solve 93 = .ok (.iload_n 1, 1) := by decide +kernel
theorem d_Mod_solve_94 : decode b_Mod_solve 94 = .ok (.laload, 1) := by decide +kernel
theorem d_Mod_solve_95 : decode b_Mod_solve 95 = .ok (.lconst 0, 1) := by decide +kernel
theorem d_Mod_solve_96 : decode b_Mod_solve 96 = .ok (.lcmp, 1) := by decide +kernel
theorem d_Mod_solve_97 : decode b_Mod_solve 97 = .ok (.ifCond .lt 42, 3) := by decide +kernel
theorem d_Mod_solve_100 : decode b_Mod_solve 100 = .ok (.lload_n 3, 1) := by decide +kernel
theorem d_Mod_solve_101 : decode b_Mod_solve 101 = .ok (.aload_n 0, 1) := by decide +kernel
theorem d_Mod_solve_102 : decode b_Mod_solve 102 = .ok (.getfield 74, 3) := by decide +kernel
theorem d_Mod_solve_105 : decode b_Mod_solve 105 = .ok (.iload_n 1, 1) := by decide +kernel
theorem d_Mod_solve_106 : decode b_Mod_solve 106 = .ok (.laload, 1) := by decide +kernel
theorem d_Mod_solve_107 : decode b_Mod_solve 107 = .ok (.lcmp, 1) := by decide +kernel
theorem d_Mod_solve_108 : decode b_Mod_solve 108 = .ok (.ifCond .lt 31, 3) := by decide +kernel
theorem d_Mod_solve_111 : decode b_Mod_solve 111 = .ok (.lload_n 3, 1) := by decide +kernel
theorem d_Mod_solve_112 : decode b_Mod_solve 112 = .ok (.aload_n 0, 1) := by decide +kernel
theorem d_Mod_solve_113 : decode b_Mod_solve 113 = .ok (.getfield 74, 3) := by decide +kernel
theorem d_Mod_solve_116 : decode b_Mod_solve 116 = .ok (.iload_n 1, 1) := by decide +kernel
theorem d_Mod_solve_117 : decode b_Mod_solve 117 = .ok (.laload, 1) := by decide +kernel
theorem d_Mod_solve_118 : decode b_Mod_solve 118 = .ok (.lcmp, 1) := by decide +kernel
theorem d_Mod_solve_119 : decode b_Mod_solve 119 = .ok (.ifCond .ne 24, 3) := by decide +kernel
theorem d_Mod_solve_122 : decode b_Mod_solve 122 = .ok (.aload_n 0, 1) := by decide +kernel
theorem d_Mod_solve_123 : decode b_Mod_solve 123 = .ok (.getfield 78, 3) := by decide +kernel
theorem d_Mod_solve_126 : decode b_Mod_solve 126 = .ok (.iload_n 2, 1) := by decide +kernel
theorem d_Mod_solve_127 : decode b_Mod_solve 127 = .ok (.iaload, 1) := by decide +kernel
theorem d_Mod_solve_128 : decode b_Mod_solve 128 = .ok (.iconst 1, 1) := by decide +kernel
theorem d_Mod_solve_129 : decode b_Mod_solve 129 = .ok (.iadd, 1) := by decide +kernel
theorem d_Mod_solve_130 : decode b_Mod_solve 130 = .ok (.aload_n 0, 1) := by decide +kernel
theorem d_Mod_solve_131 : decode b_Mod_solve 131 = .ok (.getfield 78, 3) := by decide +kernel
theorem d_Mod_solve_134 : decode b_Mod_solve 134 = .ok (.iload_n 1, 1) := by decide +kernel
theorem d_Mod_solve_135 : decode b_Mod_solve 135 = .ok (.iaload, 1) := by decide +kernel
theorem d_Mod_solve_136 : decode b_Mod_solve 136 = .ok (.if_icmp .ge 7, 3) := by decide +kernel
theorem d_Mod_solve_139 : decode b_Mod_solve 139 = .ok (.iconst 1, 1) := by decide +kernel
theorem d_Mod_solve_140 : decode b_Mod_solve 140 = .ok (.goto 4, 3) := by decide +kernel
theorem d_Mod_solve_143 : decode b_Mod_solve 143 = .ok (.iconst 0, 1) := by decide +kernel
theorem d_Mod_solve_144 : decode b_Mod_solve 144 = .ok (.istore 5, 2) := by decide +kernel
theorem d_Mod_solve_146 : decode b_Mod_solve 146 = .ok (.iload 5, 2) := by decide +kernel
theorem d_Mod_solve_148 : decode b_Mod_solve 148 = .ok (.ifCond .ne 6, 3) := by decide +kernel
theorem d_Mod_solve_151 : decode b_Mod_solve 151 = .ok (.goto 31, 3) := by decide +kernel
theorem d_Mod_solve_154 : decode b_Mod_solve 154 = .ok (.aload_n 0, 1) := by decide +kernel
theorem d_Mod_solve_155 : decode b_Mod_solve 155 = .ok (.getfield 74, 3) := by decide +kernel
theorem d_Mod_solve_158 : decode b_Mod_solve 158 = .ok (.iload_n 1, 1) := by decide +kernel
theorem d_Mod_solve_159 : decode b_Mod_solve 159 = .ok (.lload_n 3, 1) := by decide +kernel
theorem d_Mod_solve_160 : decode b_Mod_solve 160 = .ok (.lastore, 1) := by decide +kernel
theorem d_Mod_solve_161 : decode b_Mod_solve 161 = .ok (.aload_n 0, 1) := by decide +kernel
theorem d_Mod_solve_162 : decode b_Mod_solve 162 = .ok (.getfield 78, 3) := by decide +kernel
theorem d_Mod_solve_165 : decode b_Mod_solve 165 = .ok (.iload_n 1, 1) := by decide +kernel
theorem d_Mod_solve_166 : decode b_Mod_solve 166 = .ok (.aload_n 0, 1) := by decide +kernel
theorem d_Mod_solve_167 : decode b_Mod_solve 167 = .ok (.getfield 78, 3) := by decide +kernel
theorem d_Mod_solve_170 : decode b_Mod_solve 170 = .ok (.iload_n 2, 1) := by decide +kernel
theorem d_Mod_solve_171 : decode b_Mod_solve 171 = .ok (.iaload, 1) := by decide +kernel
theorem d_Mod_solve_172 : decode b_Mod_solve 172 = .ok (.iconst 1, 1) := by decide +kernel
theorem d_Mod_solve_173 : decode b_Mod_solve 173 = .ok (.iadd, 1) := by decide +kernel
theorem d_Mod_solve_174 : decode b_Mod_solve 174 = .ok (.iastore, 1) := by decide +kernel
theorem d_Mod_solve_175 : decode b_Mod_solve 175 = .ok (.aload_n 0, 1) := by decide +kernel
theorem d_Mod_solve_176 : decode b_Mod_solve 176 = .ok (.getfield 81, 3) := by decide +kernel
theorem d_Mod_solve_179 : decode b_Mod_solve 179 = .ok (.iload_n 1, 1) := by decide +kernel
theorem d_Mod_solve_180 : decode b_Mod_solve 180 = .ok (.iload_n 2, 1) := by decide +kernel
theorem d_Mod_solve_181 : decode b_Mod_solve 181 = .ok (.iastore, 1) := by decide +kernel
theorem d_Mod_solve_182 : decode b_Mod_solve 182 = .ok (.iinc 2 1, 3) := by decide +kernel
theorem d_Mod_solve_185 : decode b_Mod_solve 185 = .ok (.goto (-141), 3) := by decide +kernel
theorem d_Mod_solve_188 : decode b_Mod_solve 188 = .ok (.iinc 1 (-1), 3) := by decide +kernel
theorem d_Mod_solve_191 : decode b_Mod_solve 191 = .ok (.goto (-164), 3) := by decide +kernel
theorem d_Mod_solve_194 : decode b_Mod_solve 194 = .ok (.return_, 1) := by decide +kernel
theorem d_Mod_measure_0 : decode b_Mod_measure 0 = .ok (.iload_n 1, 1) := by decide +kernel
theorem d_Mod_measure_1 : decode b_Mod_measure 1 = .ok (.iconst 1, 1) := by decide +kernel
theorem d_Mod_measure_2 : decode b_Mod_measure 2 = .ok (.iadd, 1) := by decide +kernel
theorem d_Mod_measure_3 : decode b_Mod_measure 3 = .ok (.istore_n 3, 1) := by decide +kernel
theorem d_Mod_measure_4 : decode b_Mod_measure 4 = .ok (.iload_n 3, 1) := by decide +kernel
theorem d_Mod_measure_5 : decode b_Mod_measure 5 = .ok (.iload_n 2, 1) := by decide +kernel
theorem d_Mod_measure_6 : decode b_Mod_measure 6 = .ok (.if_icmp .ge 21, 3) := by decide +kernel
theorem d_Mod_measure_9 : decode b_Mod_measure 9 = .ok (.aload_n 0, 1) := by decide +kernel
theorem d_Mod_measure_10 : decode b_Mod_measure 10 = .ok (.getfield 65, 3) := by decide +kernel
theorem d_Mod_measure_13 : decode b_Mod_measure 13 = .ok (.iload_n 3, 1) := by decide +kernel
theorem d_Mod_measure_14 : decode b_Mod_measure 14 = .ok (.iaload, 1) := by decide +kernel
theorem d_Mod_measure_15 : decode b_Mod_measure 15 = .ok (.iconst 3, 1) := by decide +kernel
theorem d_Mod_measure_16 : decode b_Mod_measure 16 = .ok (.if_icmp .ne 5, 3) := by decide +kernel
theorem d_Mod_measure_19 : decode b_Mod_measure 19 = .ok (.iconst 0, 1) := by decide +kernel
theorem d_Mod_measure_20 : decode b_Mod_measure 20 = .ok (.ireturn, 1) := by decide +kernel
theorem d_Mod_measure_21 : decode b_Mod_measure 21 = .ok (.iinc 3 1, 3) := by decide +kernel
theorem d_Mod_measure_24 : decode b_Mod_measure 24 = .ok (.goto (-20), 3) := by decide +kernel
theorem d_Mod_measure_27 : decode b_Mod_measure 27 = .ok (.aload_n 0, 1) := by decide +kernel
theorem d_Mod_measure_28 : decode b_Mod_measure 28 = .ok (.aload_n 0, 1) := by decide +kernel
theorem d_Mod_measure_29 : decode b_Mod_measure 29 = .ok (.getfield 71, 3) := by decide +kernel
theorem d_Mod_measure_32 : decode b_Mod_measure 32 = .ok (.iload_n 1, 1) := by decide +kernel
theorem d_Mod_measure_33 : decode b_Mod_measure 33 = .ok (.iaload, 1) := by decide +kernel
theorem d_Mod_measure_34 : decode b_Mod_measure 34 = .ok (.putfield 170, 3) := by decide +kernel
theorem d_Mod_measure_37 : decode b_Mod_measure 37 = .ok (.aload_n 0, 1) := by decide +kernel
theorem d_Mod_measure_38 : decode b_Mod_measure 38 = .ok (.getfield 170, 3) := by decide +kernel
theorem d_Mod_measure_41 : decode b_Mod_measure 41 = .ok (.aload_n 0, 1) := by decide +kernel
theorem d_Mod_measure_42 : decode b_Mod_measure 42 = .ok (.getfield 68, 3) := by decide +kernel
theorem d_Mod_measure_45 : decode b_Mod_measure 45 = .ok (.iload_n 2, 1) := by decide +kernel
theorem d_Mod_measure_46 : decode b_Mod_measure 46 = .ok (.iaload, 1) := by decide +kernel
theorem d_Mod_measure_47 : decode b_Mod_measure 47 = .ok (.if_icmp .ge 30, 3) := by decide +kernel
theorem d_Mod_measure_50 : decode b_Mod_measure 50 = .ok (.aload_n 0, 1) := by decide +kernel
theorem d_Mod_measure_51 : decode b_Mod_measure 51 = .ok (.getfield 46, 3) := by decide +kernel
theorem d_Mod_measure_54 : decode b_Mod_measure 54 = .ok (.aload_n 0, 1) := by decide +kernel
theorem d_Mod_measure_55 : decode b_Mod_measure 55 = .ok (.getfield 170, 3) := by decide +kernel
theorem d_Mod_measure_58 : decode b_Mod_measure 58 = .ok (.iaload, 1) := by decide +kernel
theorem d_Mod_measure_59 : decode b_Mod_measure 59 = .ok (.bipush 32, 2) := by decide +kernel
theorem d_Mod_measure_61 : decode b_Mod_measure 61 = .ok (.if_icmp .ne 16, 3) := by decide +kernel
theorem d_Mod_measure_64 : decode b_Mod_measure 64 = .ok (.aload_n 0, 1) := by decide +kernel
theorem d_Mod_measure_65 : decode b_Mod_measure 65 = .ok (.dup, 1) := by decide +kernel
theorem d_Mod_measure_66 : decode b_Mod_measure 66 = .ok (.getfield 170, 3) := by decide +kernel
theorem d_Mod_measure_69 : decode b_Mod_measure 69 = .ok (.iconst 1, 1) := by decide +kernel
theorem d_Mod_measure_70 : decode b_Mod_measure 70 = .ok (.iadd, 1) := by decide +kernel
theorem d_Mod_measure_71 : decode b_Mod_measure 71 = .ok (.putfield 170, 3) := by decide +kernel
theorem d_Mod_measure_74 : decode b_Mod_measure 74 = .ok (.goto (-37), 3) := by decide +kernel
theorem d_Mod_measure_77 : decode b_Mod_measure 77 = .ok (.aload_n 0, 1) := by decide +kernel
theorem d_Mod_measure_78 : decode b_Mod_measure 78 = .ok (.aload_n 0, 1) := by decide +kernel
theorem d_Mod_measure_79 : decode b_Mod_measure 79 = .ok (.getfield 65, 3) := by decide +kernel
theorem d_Mod_measure_82 : decode b_Mod_measure 82 = .ok (.iload_n 2, 1) := by decide +kernel
theorem d_Mod_measure_83 : decode b_Mod_measure 83 = .ok (.iaload, 1) := by decide +kernel
theorem d_Mod_measure_84 : decode b_Mod_measure 84 = .ok (.iconst 2, 1) := by decide +kernel
theorem d_Mod_measure_85 : decode b_Mod_measure 85 = .ok (.if_icmp .ne 13, 3) := by decide +kernel
theorem d_Mod_measure_88 : decode b_Mod_measure 88 = .ok (.aload_n 0, 1) := by decide +kernel
theorem d_Mod_measure_89 : decode b_Mod_measure 89 = .ok (.getfield 13, 3) := by decide +kernel
theorem d_Mod_measure_92 : decode b_Mod_measure 92 = .ok (.bipush 45, 2) := by decide +kernel
theorem d_Mod_measure_94 : decode b_Mod_measure 94 = .ok (.iaload, 1) := by decide +kernel
theorem d_Mod_measure_95 : decode b_Mod_measure 95 = .ok (.goto 4, 3) := by decide +kernel
theorem d_Mod_measure_98 : decode b_Mod_measure 98 = .ok (.iconst 0, 1) := by decide +kernel
theorem d_Mod_measure_99 : decode b_Mod_measure 99 = .ok (.putfield 173, 3) := by decide +kernel
theorem d_Mod_measure_102 : decode b_Mod_measure 102 = .ok (.aload_n 0, 1) := by decide +kernel
theorem d_Mod_measure_103 : decode b_Mod_measure 103 = .ok (.aload_n 0, 1) := by decide +kernel
theorem d_Mod_measure_104 : decode b_Mod_measure 104 = .ok (.aload_n 0, 1) := by decide +kernel
theorem d_Mod_measure_105 : decode b_Mod_measure 105 = .ok (.iconst 0, 1) := by decide +kernel
theorem d_Mod_measure_106 : decode b_Mod_measure 106 = .ok (.dup_x1, 1) := by decide +kernel
theorem d_Mod_measure_107 : decode b_Mod_measure 107 = .ok (.putfield 176, 3) := by decide +kernel
theorem d_Mod_measure_110 : decode b_Mod_measure 110 = .ok (.dup_x1, 1) := by decide +kernel
theorem d_Mod_measure_111 : decode b_Mod_measure 111 = .ok (.putfield 179, 3) := by decide +kernel
theorem d_Mod_measure_114 : decode b_Mod_measure 114 = .ok (.putfield 182, 3) := by decide +kernel
theorem d_Mod_measure_117 : decode b_Mod_measure 117 = .ok (.iconst 0, 1) := by decide +kernel
theorem d_Mod_measure_118 : decode b_Mod_measure 118 = .ok (.istore_n 3, 1) := by decide +kernel
theorem d_Mod_measure_119 : decode b_Mod_measure 119 = .ok (.aload_n 0, 1) := by decide +kernel
theorem d_Mod_measure_120 : decode b_Mod_measure 120 = .ok (.getfield 170, 3) := by decide +kernel
theorem d_Mod_measure_123 : decode b_Mod_measure 123 = .ok (.istore 4, 2) := by decide +kernel
theorem d_Mod_measure_125 : decode b_Mod_measure 125 = .ok (.iload 4, 2) := by decide +kernel
theorem d_Mod_measure_127 : decode b_Mod_measure 127 = .ok (.aload_n 0, 1) := by decide +kernel
theorem d_Mod_measure_128 : decode b_Mod_measure 128 = .ok (.getfield 68, 3) := by decide +kernel
theorem d_Mod_measure_131 : decode b_Mod_measure 131 = .ok (.iload_n 2, 1) := by decide +kernel
theorem d_Mod_measure_132 : decode b_Mod_measure 132 = .ok (.iaload, 1) := by decide +kernel
theorem d_Mod_measure_133 : decode b_Mod_measure 133 = .ok (.if_icmp .ge 123, 3) := by decide +kernel
theorem d_Mod_measure_136 : decode b_Mod_measure 136 = .ok (.aload_n 0, 1) := by decide +kernel
theorem d_Mod_measure_137 : decode b_Mod_measure 137 = .ok (.getfield 49, 3) := by decide +kernel
theorem d_Mod_measure_140 : decode b_Mod_measure 140 = .ok (.iload 4, 2) := by decide +kernel
theorem d_Mod_measure_142 : decode b_Mod_measure 142 = .ok (.iaload, 1) := by decide +kernel
theorem d_Mod_measure_143 : decode b_Mod_measure 143 = .ok (.istore 5, 2) := by decide +kernel
theorem d_Mod_measure_145 : decode b_Mod_measure 145 = .ok (.aload_n 0, 1) := by decide +kernel
theorem d_Mod_measure_146 : decode b_Mod_measure 146 = .ok (.getfield 46, 3) := by decide +kernel
theorem d_Mod_measure_149 : decode b_Mod_measure 149 = .ok (.iload 4, 2) := by decide +kernel
theorem d_Mod_measure_151 : decode b_Mod_measure 151 = .ok (.iaload, 1) := by decide +kernel
theorem d_Mod_measure_152 : decode b_Mod_measure 152 = .ok (.bipush 32, 2) := by decide +kernel
theorem d_Mod_measure_154 : decode b_Mod_measure 154 = .ok (.if_icmp .eq 15, 3) := by decide +kernel
theorem d_Mod_measure_157 : decode b_Mod_measure 157 = .ok (.aload_n 0, 1) := by decide +kernel
theorem d_Mod_measure_158 : decode b_Mod_measure 158 = .ok (.getfield 46, 3) := by decide +kernel
theorem d_Mod_measure_161 : decode b_Mod_measure 161 = .ok (.iload 4, 2) := by decide +kernel
theorem d_Mod_measure_163 : decode b_Mod_measure 163 = .ok (.iaload, 1) := by decide +kernel
theorem d_Mod_measure_164 : decode b_Mod_measure 164 = .ok (.bipush 126, 2) := by decide +kernel
theorem d_Mod_measure_166 : decode b_Mod_measure 166 = .ok (.if_icmp .ne 7, 3) := by decide +kernel
theorem d_Mod_measure_169 : decode b_Mod_measure 169 = .ok (.iconst 1, 1) := by decide +kernel
theorem d_Mod_measure_170 : decode b_Mod_measure 170 = .ok (.goto 4, 3) := by decide +kernel
theorem d_Mod_measure_173 : decode b_Mod_measure 173 = .ok (.iconst 0, 1) := by decide +kernel
theorem d_Mod_measure_174 : decode b_Mod_measure 174 = .ok (.istore 6, 2) := by decide +kernel
theorem d_Mod_measure_176 : decode b_Mod_measure 176 = .ok (.aload_n 0, 1) := by decide +kernel
theorem d_Mod_measure_177 : decode b_Mod_measure 177 = .ok (.dup, 1) := by decide +kernel
theorem d_Mod_measure_178 : decode b_Mod_measure 178 = .ok (.getfield 173, 3) := by decide +kernel
theorem d_Mod_measure_181 : decode b_Mod_measure 181 = .ok (.iload 6, 2) := by decide +kernel
theorem d_Mod_measure_183 : decode b_Mod_measure 183 = .ok (.ifCond .eq 8, 3) := by decide +kernel
theorem d_Mod_measure_186 : decode b_Mod_measure 186 = .ok (.iload 5, 2) := by decide +kernel
theorem d_Mod_measure_188 : decode b_Mod_measure 188 = .ok (.goto 15, 3) := by decide +kernel
theorem d_Mod_measure_191 : decode b_Mod_measure 191 = .ok (.aload_n 0, 1) := by decide +kernel
theorem d_Mod_measure_192 : decode b_Mod_measure 192 = .ok (.getfield 13, 3) := by decide +kernel
theorem d_Mod_measure_195 : decode b_Mod_measure 195 = .ok (.aload_n 0, 1) := by decide +kernel
theorem d_Mod_measure_196 : decode b_Mod_measure 196 = .ok (.getfield 46, 3) := by decide +kernel
theorem d_Mod_measure_199 : decode b_Mod_measure 199 = .ok (.iload 4, 2) := by decide +kernel
theorem d_Mod_measure_201 : decode b_Mod_measure 201 = .ok (.iaload, 1) := by decide +kernel
theorem d_Mod_measure_202 : decode b_Mod_measure 202 = .ok (.iaload, 1) := by decide +kernel
theorem d_Mod_measure_203 : decode b_Mod_measure 203 = .ok (.iadd, 1) := by decide +kernel
theorem d_Mod_measure_204 : decode b_Mod_measure 204 = .ok (.putfield 173, 3) := by decide +kernel
theorem d_Mod_measure_207 : decode b_Mod_measure 207 = .ok (.iload 6, 2) := by decide +kernel
theorem d_Mod_measure_209 : decode b_Mod_measure 209 = .ok (.ifCond .ne 5, 3) := by decide +kernel
theorem d_Mod_measure_212 : decode b_Mod_measure 212 = .ok (.iconst 1, 1) := by decide +kernel
theorem d_Mod_measure_213 : decode b_Mod_measure 213 = .ok (.istore_n 3, 1) := by decide +kernel
theorem d_Mod_measure_214 : decode b_Mod_measure 214 = .ok (.iload 6, 2) := by decide +kernel
theorem d_Mod_measure_216 : decode b_Mod_measure 216 = .ok (.ifCond .ne 6, 3) := by decide +kernel
theorem d_Mod_measure_219 : decode b_Mod_measure 219 = .ok (.goto 31, 3) := by decide +kernel
theorem d_Mod_measure_222 : decode b_Mod_measure 222 = .ok (.aload_n 0, 1) := by decide +kernel
theorem d_Mod_measure_223 : decode b_Mod_measure 223 = .ok (.dup, 1) := by decide +kernel
theorem d_Mod_measure_224 : decode b_Mod_measure 224 = .ok (.getfield 182, 3) := by decide +kernel
theorem d_Mod_measure_227 : decode b_Mod_measure 227 = .ok (.iload 5, 2) := by decide +kernel
theorem d_Mod_measure_229 : decode b_Mod_measure 229 = .ok (.iconst 1, 1) := by decide +kernel
theorem d_Mod_measure_230 : decode b_Mod_measure 230 = .ok (.iadd, 1) := by decide +kernel
theorem d_Mod_measure_231 : decode b_Mod_measure 231 = .ok (.iconst 2, 1) := by decide +kernel
theorem d_Mod_measure_232 : decode b_Mod_measure 232 = .ok (.idiv, 1) := by decide +kernel
theorem d_Mod_measure_233 : decode b_Mod_measure 233 = .ok (.iadd, 1) := by decide +kernel
theorem d_Mod_measure_234 : decode b_Mod_measure 234 = .ok (.putfield 182, 3) := by decide +kernel
theorem d_Mod_measure_237 : decode b_Mod_measure 237 = .ok (.aload_n 0, 1) := by decide +kernel
theorem d_Mod_measure_238 : decode b_Mod_measure 238 = .ok (.dup, 1) := by decide +kernel
theorem d_Mod_measure_239 : decode b_Mod_measure 239 = .ok (.getfield 179, 3) := by decide +kernel
theorem d_Mod_measure_242 : decode b_Mod_measure 242 = .ok (.iload 5, 2) := by decide +kernel
theorem d_Mod_measure_244 : decode b_Mod_measure 244 = .ok (.iconst 3, 1) := by decide +kernel
theorem d_Mod_measure_245 : decode b_Mod_measure 245 = .ok (.idiv, 1) := by decide +kernel
theorem d_Mod_measure_246 : decode b_Mod_measure 246 = .ok (.iadd, 1) := by decide +kernel
theorem d_Mod_measure_247 : decode b_Mod_measure 247 = .ok (.putfield 179, 3) := by decide +kernel
theorem d_Mod_measure_250 : decode b_Mod_measure 250 = .ok (.iinc 4 1, 3) := by decide +kernel
theorem d_Mod_measure_253 : decode b_Mod_measure 253 = .ok (.goto (-128), 3) := by decide +kernel
theorem d_Mod_measure_256 : decode b_Mod_measure 256 = .ok (.iload_n 3, 1) := by decide +kernel
theorem d_Mod_measure_257 : decode b_Mod_measure 257 = .ok (.ifCond .ne 5, 3) := by decide +kernel
theorem d_Mod_measure_260 : decode b_Mod_measure 260 = .ok (.iconst 0, 1) := by decide +kernel
theorem d_Mod_measure_261 : decode b_Mod_measure 261 = .ok (.ireturn, 1) := by decide +kernel
theorem d_Mod_measure_262 : decode b_Mod_measure 262 = .ok (.aload_n 0, 1) := by decide +kernel
theorem d_Mod_measure_263 : decode b_Mod_measure 263 = .ok (.getfield 16, 3) := by decide +kernel
theorem d_Mod_measure_266 : decode b_Mod_measure 266 = .ok (.iconst 0, 1) := by decide +kernel
theorem d_Mod_measure_267 : decode b_Mod_measure 267 = .ok (.iaload, 1) := by decide +kernel
theorem d_Mod_measure_268 : decode b_Mod_measure 268 = .ok (.aload_n 0, 1) := by decide +kernel
theorem d_Mod_measure_269 : decode b_Mod_measure 269 = .ok (.getfield 173, 3) := by decide +kernel
theorem d_Mod_measure_272 : decode b_Mod_measure 272 = .ok (.isub, 1) := by decide +kernel
theorem d_Mod_measure_273 : decode b_Mod_measure 273 = .ok (.i2l, 1) := by decide +kernel
theorem d_Mod_measure_274 : decode b_Mod_measure 274 = .ok (.lstore 4, 2) := by decide +kernel
theorem d_Mod_measure_276 : decode b_Mod_measure 276 = .ok (.lload 4, 2) := by decide +kernel
theorem d_Mod_measure_278 : decode b_Mod_measure 278 = .ok (.lconst 0, 1) := by decide +kernel
theorem d_Mod_measure_279 : decode b_Mod_measure 279 = .ok (.lcmp, 1) := by decide +kernel
theorem d_Mod_measure_280 : decode b_Mod_measure 280 = .ok (.ifCond .le 74, 3) := by decide +kernel
theorem d_Mod_measure_283 : decode b_Mod_measure 283 = .ok (.aload_n 0, 1) := by decide +kernel
theorem d_Mod_measure_284 : decode b_Mod_measure 284 = .ok (.getfield 65, 3) := by decide +kernel
theorem d_Mod_measure_287 : decode b_Mod_measure 287 = .ok (.iload_n 2, 1) := by decide +kernel
theorem d_Mod_measure_288 : decode b_Mod_measure 288 = .ok (.iaload, 1) := by decide +kernel
theorem d_Mod_measure_289 : decode b_Mod_measure 289 = .ok (.iconst 3, 1) := by decide +kernel
theorem d_Mod_measure_290 : decode b_Mod_measure 290 = .ok (.if_icmp .ge 64, 3) := by decide +kernel
theorem d_Mod_measure_293 : decode b_Mod_measure 293 = .ok (.aload_n 0, 1) := by decide +kernel
theorem d_Mod_measure_294 : decode b_Mod_measure 294 = .ok (.getfield 182, 3) := by decide +kernel
theorem d_Mod_measure_297 : decode b_Mod_measure 297 = .ok (.ifCond .ne 5, 3) := by decide +kernel
theorem d_Mod_measure_300 : decode b_Mod_measure 300 = .ok (.iconst 0, 1) := by decide +kernel
theorem d_Mod_measure_301 : decode b_Mod_measure 301 = .ok (.ireturn, 1) := by decide +kernel
theorem d_Mod_measure_302 : decode b_Mod_measure 302 = .ok (.aload_n 0, 1) := by decide +kernel
theorem d_Mod_measure_303 : decode b_Mod_measure 303 = .ok (.getfield 182, 3) := by decide +kernel
theorem d_Mod_measure_306 : decode b_Mod_measure 306 = .ok (.i2l, 1) := by decide +kernel
theorem d_Mod_measure_307 : decode b_Mod_measure 307 = .ok (.lstore 6, 2) := by decide +kernel
theorem d_Mod_measure_309 : decode b_Mod_measure 309 = .ok (.ldc2_w 185, 3) := by decide +kernel
theorem d_Mod_measure_312 : decode b_Mod_measure 312 = .ok (.lload 4, 2) := by decide +kernel
theorem d_Mod_measure_314 : decode b_Mod_measure 314 = .ok (.lmul, 1) := by decide +kernel
theorem d_Mod_measure_315 : decode b_Mod_measure 315 = .ok (.lload 4, 2) := by decide +kernel
theorem d_Mod_measure_317 : decode b_Mod_measure 317 = .ok (.lmul, 1) := by decide +kernel
theorem d_Mod_measure_318 : decode b_Mod_measure 318 = .ok (.lload 4, 2) := by decide +kernel
theorem d_Mod_measure_320 : decode b_Mod_measure 320 = .ok (.lmul, 1) := by decide +kernel
theorem d_Mod_measure_321 : decode b_Mod_measure 321 = .ok (.lload 6, 2) := by decide +kernel
theorem d_Mod_measure_323 : decode b_Mod_measure 323 = .ok (.lload 6, 2) := by decide +kernel
theorem d_Mod_measure_325 : decode b_Mod_measure 325 = .ok (.lmul, 1) := by decide +kernel
theorem d_Mod_measure_326 : decode b_Mod_measure 326 = .ok (.lload 6, 2) := by decide +kernel
theorem d_Mod_measure_328 : decode b_Mod_measure 328 = .ok (.lmul, 1) := by decide +kernel
theorem d_Mod_measure_329 : decode b_Mod_measure 329 = .ok (.ldiv, 1) := by decide +kernel
theorem d_Mod_measure_330 : decode b_Mod_measure 330 = .ok (.lstore 8, 2) := by decide +kernel
theorem d_Mod_measure_332 : decode b_Mod_measure 332 = .ok (.lload 8, 2) := by decide +kernel
theorem d_Mod_measure_334 : decode b_Mod_measure 334 = .ok (.aload_n 0, 1) := by decide +kernel
theorem d_Mod_measure_335 : decode b_Mod_measure 335 = .ok (.getfield 16, 3) := by decide +kernel
theorem d_Mod_measure_338 : decode b_Mod_measure 338 = .ok (.iconst 1, 1) := by decide +kernel
theorem d_Mod_measure_339 : decode b_Mod_measure 339 = .ok (.iaload, 1) := by decide +kernel
theorem d_Mod_measure_340 : decode b_Mod_measure 340 = .ok (.i2l, 1) := by decide +kernel
theorem d_Mod_measure_341 : decode b_Mod_measure 341 = .ok (.lcmp, 1) := by decide +kernel
theorem d_Mod_measure_342 : decode b_Mod_measure 342 = .ok (.ifCond .le 5, 3) := by decide +kernel
theorem d_Mod_measure_345 : decode b_Mod_measure 345 = .ok (.iconst 0, 1) := by decide +kernel
theorem d_Mod_measure_346 : decode b_Mod_measure 346 = .ok (.ireturn, 1) := by decide +kernel
theorem d_Mod_measure_347 : decode b_Mod_measure 347 = .ok (.aload_n 0, 1) := by decide +kernel
theorem d_Mod_measure_348 : decode b_Mod_measure 348 = .ok (.lload 8, 2) := by decide +kernel
theorem d_Mod_measure_350 : decode b_Mod_measure 350 = .ok (.l2i, 1) := by decide +kernel
theorem d_Mod_measure_351 : decode b_Mod_measure 351 = .ok (.putfield 176, 3) := by decide +kernel
theorem d_Mod_measure_354 : decode b_Mod_measure 354 = .ok (.lload 4, 2) := by decide +kernel
theorem d_Mod_measure_356 : decode b_Mod_measure 356 = .ok (.lconst 0, 1) := by decide +kernel
theorem d_Mod_measure_357 : decode b_Mod_measure 357 = .ok (.lcmp, 1) := by decide +kernel
theorem d_Mod_measure_358 : decode b_Mod_measure 358 = .ok (.ifCond .ge 50, 3) := by decide +kernel
theorem d_Mod_measure_361 : decode b_Mod_measure 361 = .ok (.lload 4, 2) := by decide +kernel
theorem d_Mod_measure_363 : decode b_Mod_measure 363 = .ok (.lneg, 1) := by decide +kernel
theorem d_Mod_measure_364 : decode b_Mod_measure 364 = .ok (.aload_n 0, 1) := by decide +kernel
theorem d_Mod_measure_365 : decode b_Mod_measure 365 = .ok (.getfield 179, 3) := by decide +kernel
theorem d_Mod_measure_368 : decode b_Mod_measure 368 = .ok (.i2l, 1) := by decide +kernel
theorem d_Mod_measure_369 : decode b_Mod_measure 369 = .ok (.lcmp, 1) := by decide +kernel
theorem d_Mod_measure_370 : decode b_Mod_measure 370 = .ok (.ifCond .le 5, 3) := by decide +kernel
theorem d_Mod_measure_373 : decode b_Mod_measure 373 = .ok (.iconst 0, 1) := by decide +kernel
theorem d_Mod_measure_374 : decode b_Mod_measure 374 = .ok (.ireturn, 1) := by decide +kernel
theorem d_Mod_measure_375 : decode b_Mod_measure 375 = .ok (.aload_n 0, 1) := by decide +kernel
theorem d_Mod_measure_376 : decode b_Mod_measure 376 = .ok (.getfield 179, 3) := by decide +kernel
theorem d_Mod_measure_379 : decode b_Mod_measure 379 = .ok (.i2l, 1) := by decide +kernel
theorem d_Mod_measure_380 : decode b_Mod_measure 380 = .ok (.lstore 6, 2) := by decide +kernel
theorem d_Mod_measure_382 : decode b_Mod_measure 382 = .ok (.aload_n 0, 1) := by decide +kernel
theorem d_Mod_measure_383 : decode b_Mod_measure 383 = .ok (.ldc2_w 187, 3) := by decide +kernel
theorem d_Mod_measure_386 : decode b_Mod_measure 386 = .ok (.lload 4, 2) := by decide +kernel
theorem d_Mod_measure_388 : decode b_Mod_measure 388 = .ok (.lmul, 1) := by decide +kernel
theorem d_Mod_measure_389 : decode b_Mod_measure 389 = .ok (.lload 4, 2) := by decide +kernel
theorem d_Mod_measure_391 : decode b_Mod_measure 391 = .ok (.lmul, 1) := by decide +kernel
theorem d_Mod_measure_392 : decode b_Mod_measure 392 = .ok (.lload 4, 2) := by decide +kernel
theorem d_Mod_measure_394 : decode b_Mod_measure 394 = .ok (.lmul, 1) := by decide +kernel
theorem d_Mod_measure_395 : decode b_Mod_measure 395 = .ok (.lload 6, 2) := by decide +kernel
theorem d_Mod_measure_397 : decode b_Mod_measure 397 = .ok (.lload 6, 2) := by decide +kernel
theorem d_Mod_measure_399 : decode b_Mod_measure 399 = .ok (.lmul, 1) := by decide +kernel
theorem d_Mod_measure_400 : decode b_Mod_measure 400 = .ok (.lload 6, 2) := by decide +kernel
theorem d_Mod_measure_402 : decode b_Mod_measure 402 = .ok (.lmul, 1) := by decide +kernel
theorem d_Mod_measure_403 : decode b_Mod_measure 403 = .ok (.ldiv, 1) := by decide +kernel
theorem d_Mod_measure_404 : decode b_Mod_measure 404 = .ok (.l2i, 1) := by decide +kernel
theorem d_Mod_measure_405 : decode b_Mod_measure 405 = .ok (.putfield 176, 3) := by decide +kernel
theorem d_Mod_measure_408 : decode b_Mod_measure 408 = .ok (.aload_n 0, 1) := by decide +kernel
theorem d_Mod_measure_409 : decode b_Mod_measure 409 = .ok (.getfield 176, 3) := by decide +kernel
theorem d_Mod_measure_412 : decode b_Mod_measure 412 = .ok (.aload_n 0, 1) := by decide +kernel
theorem d_Mod_measure_413 : decode b_Mod_measure 413 = .ok (.getfield 16, 3) := by decide +kernel
theorem d_Mod_measure_416 : decode b_Mod_measure 416 = .ok (.iconst 1, 1) := by decide +kernel
theorem d_Mod_measure_417 : decode b_Mod_measure 417 = .ok (.iaload, 1) := by decide +kernel
theorem d_Mod_measure_418 : decode b_Mod_measure 418 = .ok (.if_icmp .gt 7, 3) := by decide +kernel
theorem d_Mod_measure_421 : decode b_Mod_measure 421 = .ok (.iconst 1, 1) := by decide +kernel
theorem d_Mod_measure_422 : decode b_Mod_measure 422 = .ok (.goto 4, 3) := by decide +kernel
theorem d_Mod_measure_425 : decode b_Mod_measure 425 = .ok (.iconst 0, 1) := by decide +kernel
theorem d_Mod_measure_426 : decode b_Mod_measure 426 = .ok (.ireturn, 1) := by decide +kernel
theorem d_Mod_price_0 : decode b_Mod_price 0 = .ok (.aload_n 0, 1) := by decide +kernel
theorem d_Mod_price_1 : decode b_Mod_price 1 = .ok (.getfield 16, 3) := by decide +kernel
theorem d_Mod_price_4 : decode b_Mod_price 4 = .ok (.iconst 2, 1) := by decide +kernel
theorem d_Mod_price_5 : decode b_Mod_price 5 = .ok (.iaload, 1) := by decide +kernel
theorem d_Mod_price_6 : decode b_Mod_price 6 = .ok (.aload_n 0, 1) := by decide +kernel
theorem d_Mod_price_7 : decode b_Mod_price 7 = .ok (.getfield 176, 3) := by decide +kernel
theorem d_Mod_price_10 : decode b_Mod_price 10 = .ok (.iadd, 1) := by decide +kernel
theorem d_Mod_price_11 : decode b_Mod_price 11 = .ok (.i2l, 1) := by decide +kernel
theorem d_Mod_price_12 : decode b_Mod_price 12 = .ok (.lstore_n 3, 1) := by decide +kernel
theorem d_Mod_price_13 : decode b_Mod_price 13 = .ok (.aload_n 0, 1) := by decide +kernel
theorem d_Mod_price_14 : decode b_Mod_price 14 = .ok (.getfield 16, 3) := by decide +kernel
theorem d_Mod_price_17 : decode b_Mod_price 17 = .ok (.iconst 3, 1) := by decide +kernel
theorem d_Mod_price_18 : decode b_Mod_price 18 = .ok (.iaload, 1) := by decide +kernel
theorem d_Mod_price_19 : decode b_Mod_price 19 = .ok (.i2l, 1) := by decide +kernel
theorem d_Mod_price_20 : decode b_Mod_price 20 = .ok (.lstore 5, 2) := by decide +kernel
theorem d_Mod_price_22 : decode b_Mod_price 22 = .ok (.lload_n 3, 1) := by decide +kernel
theorem d_Mod_price_23 : decode b_Mod_price 23 = .ok (.lload_n 3, 1) := by decide +kernel
theorem d_Mod_price_24 : decode b_Mod_price 24 = .ok (.lmul, 1) := by decide +kernel
theorem d_Mod_price_25 : decode b_Mod_price 25 = .ok (.aload_n 0, 1) := by decide +kernel
theorem d_Mod_price_26 : decode b_Mod_price 26 = .ok (.getfield 65, 3) := by decide +kernel
theorem d_Mod_price_29 : decode b_Mod_price 29 = .ok (.iload_n 2, 1) := by decide +kernel
theorem d_Mod_price_30 : decode b_Mod_price 30 = .ok (.iaload, 1) := by decide +kernel
theorem d_Mod_price_31 : decode b_Mod_price 31 = .ok (.iconst 2, 1) := by decide +kernel
theorem d_Mod_price_32 : decode b_Mod_price 32 = .ok (.if_icmp .ne 37, 3) := by decide +kernel
theorem d_Mod_price_35 : decode b_Mod_price 35 = .ok (.lload 5, 2) := by decide +kernel
theorem d_Mod_price_37 : decode b_Mod_price 37 = .ok (.lload 5, 2) := by decide +kernel
theorem d_Mod_price_39 : decode b_Mod_price 39 = .ok (.lmul, 1) := by decide +kernel
theorem d_Mod_price_40 : decode b_Mod_price 40 = .ok (.iload_n 1, 1) := by decide +kernel
theorem d_Mod_price_41 : decode b_Mod_price 41 = .ok (.ifCond .le 22, 3) := by decide +kernel
theorem d_Mod_price_44 : decode b_Mod_price 44 = .ok (.aload_n 0, 1) := by decide +kernel
theorem d_Mod_price_45 : decode b_Mod_price 45 = .ok (.getfield 65, 3) := by decide +kernel
theorem d_Mod_price_48 : decode b_Mod_price 48 = .ok (.iload_n 1, 1) := by decide +kernel
theorem d_Mod_price_49 : decode b_Mod_price 49 = .ok (.iaload, 1) := by decide +kernel
theorem d_Mod_price_50 : decode b_Mod_price 50 = .ok (.iconst 2, 1) := by decide +kernel
theorem d_Mod_price_51 : decode b_Mod_price 51 = .ok (.if_icmp .ne 12, 3) := by decide +kernel
theorem d_Mod_price_54 : decode b_Mod_price 54 = .ok (.aload_n 0, 1) := by decide +kernel
theorem d_Mod_price_55 : decode b_Mod_price 55 = .ok (.getfield 16, 3) := by decide +kernel
theorem d_Mod_price_58 : decode b_Mod_price 58 = .ok (.iconst 4, 1) := by decide +kernel
theorem d_Mod_price_59 : decode b_Mod_price 59 = .ok (.iaload, 1) := by decide +kernel
theorem d_Mod_price_60 : decode b_Mod_price 60 = .ok (.goto 4, 3) := by decide +kernel
theorem d_Mod_price_63 : decode b_Mod_price 63 = .ok (.iconst 0, 1) := by decide +kernel
theorem d_Mod_price_64 : decode b_Mod_price 64 = .ok (.i2l, 1) := by decide +kernel
theorem d_Mod_price_65 : decode b_Mod_price 65 = .ok (.ladd, 1) := by decide +kernel
theorem d_Mod_price_66 : decode b_Mod_price 66 = .ok (.goto 4, 3) := by decide +kernel
theorem d_Mod_price_69 : decode b_Mod_price 69 = .ok (.lconst 0, 1) := by decide +kernel
theorem d_Mod_price_70 : decode b_Mod_price 70 = .ok (.ladd, 1) := by decide +kernel
theorem d_Mod_price_71 : decode b_Mod_price 71 = .ok (.lreturn, 1) := by decide +kernel
theorem d_Mod_jot_0 : decode b_Mod_jot 0 = .ok (.aload_n 0, 1) := by decide +kernel
theorem d_Mod_jot_1 : decode b_Mod_jot 1 = .ok (.iconst 0, 1) := by decide +kernel
theorem d_Mod_jot_2 : decode b_Mod_jot 2 = .ok (.putfield 199, 3) := by decide +kernel
theorem d_Mod_jot_5 : decode b_Mod_jot 5 = .ok (.aload_n 0, 1) := by decide +kernel
theorem d_Mod_jot_6 : decode b_Mod_jot 6 = .ok (.aload_n 0, 1) := by decide +kernel
theorem d_Mod_jot_7 : decode b_Mod_jot 7 = .ok (.getfield 142, 3) := by decide +kernel
theorem d_Mod_jot_10 : decode b_Mod_jot 10 = .ok (.putfield 202, 3) := by decide +kernel
theorem d_Mod_jot_13 : decode b_Mod_jot 13 = .ok (.iconst 0, 1) := by decide +kernel
theorem d_Mod_jot_14 : decode b_Mod_jot 14 = .ok (.istore_n 1, 1) := by decide +kernel
theorem d_Mod_jot_15 : decode b_Mod_jot 15 = .ok (.iload_n 1, 1) := by decide +kernel
theorem d_Mod_jot_16 : decode b_Mod_jot 16 = .ok (.aload_n 0, 1) := by decide +kernel
theorem d_Mod_jot_17 : decode b_Mod_jot 17 = .ok (.getfield 142, 3) := by decide +kernel
theorem d_Mod_jot_20 : decode b_Mod_jot 20 = .ok (.if_icmp .ge 81, 3) := by decide +kernel
theorem d_Mod_jot_23 : decode b_Mod_jot 23 = .ok (.aload_n 0, 1) := by decide +kernel
theorem d_Mod_jot_24 : decode b_Mod_jot 24 = .ok (.getfield 52, 3) := by decide +kernel
theorem d_Mod_jot_27 : decode b_Mod_jot 27 = .ok (.iload_n 1, 1) := by decide +kernel
theorem d_Mod_jot_28 : decode b_Mod_jot 28 = .ok (.aload_n 0, 1) := by decide +kernel
theorem d_Mod_jot_29 : decode b_Mod_jot 29 = .ok (.getfield 46, 3) := by decide +kernel
theorem d_Mod_jot_32 : decode b_Mod_jot 32 = .ok (.iload_n 1, 1) := by decide +kernel
theorem d_Mod_jot_33 : decode b_Mod_jot 33 = .ok (.iaload, 1) := by decide +kernel
theorem d_Mod_jot_34 : decode b_Mod_jot 34 = .ok (.iastore, 1) := by decide +kernel
theorem d_Mod_jot_35 : decode b_Mod_jot 35 = .ok (.aload_n 0, 1) := by decide +kernel
theorem d_Mod_jot_36 : decode b_Mod_jot 36 = .ok (.getfield 58, 3) := by decide +kernel
theorem d_Mod_jot_39 : decode b_Mod_jot 39 = .ok (.iload_n 1, 1) := by decide +kernel
theorem d_Mod_jot_40 : decode b_Mod_jot 40 = .ok (.aload_n 0, 1) := by decide +kernel
theorem d_Mod_jot_41 : decode b_Mod_jot 41 = .ok (.getfield 49, 3) := by decide +kernel
theorem d_Mod_jot_44 : decode b_Mod_jot 44 = .ok (.iload_n 1, 1) := by decide +kernel
theorem d_Mod_jot_45 : decode b_Mod_jot 45 = .ok (.iaload, 1) := by decide +kernel
theorem d_Mod_jot_46 : decode b_Mod_jot 46 = .ok (.iastore, 1) := by decide +kernel
theorem d_Mod_jot_47 : decode b_Mod_jot 47 = .ok (.aload_n 0, 1) := by decide +kernel
theorem d_Mod_jot_48 : decode b_Mod_jot 48 = .ok (.getfield 55, 3) := by decide +kernel
theorem d_Mod_jot_51 : decode b_Mod_jot 51 = .ok (.iload_n 1, 1) := by decide +kernel
theorem d_Mod_jot_52 : decode b_Mod_jot 52 = .ok (.aload_n 0, 1) := by decide +kernel
theorem d_Mod_jot_53 : decode b_Mod_jot 53 = .ok (.getfield 46, 3) := by decide +kernel
theorem d_Mod_jot_56 : decode b_Mod_jot 56 = .ok (.iload_n 1, 1) := by decide +kernel
theorem d_Mod_jot_57 : decode b_Mod_jot 57 = .ok (.iaload, 1) := by decide +kernel
theorem d_Mod_jot_58 : decode b_Mod_jot 58 = .ok (.bipush 32, 2) := by decide +kernel
theorem d_Mod_jot_60 : decode b_Mod_jot 60 = .ok (.if_icmp .eq 14, 3) := by decide +kernel
theorem d_Mod_jot_63 : decode b_Mod_jot 63 = .ok (.aload_n 0, 1) := by decide +kernel
theorem d_Mod_jot_64 : decode b_Mod_jot 64 = .ok (.getfield 46, 3) := by decide +kernel
theorem d_Mod_jot_67 : decode b_Mod_jot 67 = .ok (.iload_n 1, 1) := by decide +kernel
theorem d_Mod_jot_68 : decode b_Mod_jot 68 = .ok (.iaload, 1) := by decide +kernel
theorem d_Mod_jot_69 : decode b_Mod_jot 69 = .ok (.bipush 126, 2) := by decide +kernel
theorem d_Mod_jot_71 : decode b_Mod_jot 71 = .ok (.if_icmp .ne 12, 3) := by decide +kernel
theorem d_Mod_jot_74 : decode b_Mod_jot 74 = .ok (.aload_n 0, 1) := by decide +kernel
theorem d_Mod_jot_75 : decode b_Mod_jot 75 = .ok (.getfield 49, 3) := by decide +kernel
theorem d_Mod_jot_78 : decode b_Mod_jot 78 = .ok (.iload_n 1, 1) := by decide +kernel
theorem d_Mod_jot_79 : decode b_Mod_jot 79 = .ok (.iaload, 1) := by decide +kernel
theorem d_Mod_jot_80 : decode b_Mod_jot 80 = .ok (.goto 14, 3) := by decide +kernel
theorem d_Mod_jot_83 : decode b_Mod_jot 83 = .ok (.aload_n 0, 1) := by decide +kernel
theorem d_Mod_jot_84 : decode b_Mod_jot 84 = .ok (.getfield 13, 3) := by decide +kernel
theorem d_Mod_jot_87 : decode b_Mod_jot 87 = .ok (.aload_n 0, 1) := by decide +kernel
theorem d_Mod_jot_88 : decode b_Mod_jot 88 = .ok (.getfield 46, 3) := by decide +kernel
theorem d_Mod_jot_91 : decode b_Mod_jot 91 = .ok (.iload_n 1, 1) := by decide +kernel
theorem d_Mod_jot_92 : decode b_Mod_jot 92 = .ok (.iaload, 1) := by decide +kernel
theorem d_Mod_jot_93 : decode b_Mod_jot 93 = .ok (.iaload, 1) := by decide +kernel
theorem d_Mod_jot_94 : decode b_Mod_jot 94 = .ok (.iastore, 1) := by decide +kernel
theorem d_Mod_jot_95 : decode b_Mod_jot 95 = .ok (.iinc 1 1, 3) := by decide +kernel
theorem d_Mod_jot_98 : decode b_Mod_jot 98 = .ok (.goto (-83), 3) := by decide +kernel
theorem d_Mod_jot_101 : decode b_Mod_jot 101 = .ok (.aload_n 0, 1) := by decide +kernel
theorem d_Mod_jot_102 : decode b_Mod_jot 102 = .ok (.aload_n 0, 1) := by decide +kernel
theorem d_Mod_jot_103 : decode b_Mod_jot 103 = .ok (.getfield 142, 3) := by decide +kernel
theorem d_Mod_jot_106 : decode b_Mod_jot 106 = .ok (.ifCond .ne 7, 3) := by decide +kernel
theorem d_Mod_jot_109 : decode b_Mod_jot 109 = .ok (.iconst 0, 1) := by decide +kernel
theorem d_Mod_jot_110 : decode b_Mod_jot 110 = .ok (.goto 7, 3) := by decide +kernel
theorem d_Mod_jot_113 : decode b_Mod_jot 113 = .ok (.aload_n 0, 1) := by decide +kernel
theorem d_Mod_jot_114 : decode b_Mod_jot 114 = .ok (.getfield 163, 3) := by decide +kernel
theorem d_Mod_jot_117 : decode b_Mod_jot 117 = .ok (.putfield 205, 3) := by decide +kernel
theorem d_Mod_jot_120 : decode b_Mod_jot 120 = .ok (.aload_n 0, 1) := by decide +kernel
theorem d_Mod_jot_121 : decode b_Mod_jot 121 = .ok (.aload_n 0, 1) := by decide +kernel
theorem d_Mod_jot_122 : decode b_Mod_jot 122 = .ok (.getfield 157, 3) := by decide +kernel
theorem d_Mod_jot_125 : decode b_Mod_jot 125 = .ok (.putfield 208, 3) := by decide +kernel
theorem d_Mod_jot_128 : decode b_Mod_jot 128 = .ok (.aload_n 0, 1) := by decide +kernel
theorem d_Mod_jot_129 : decode b_Mod_jot 129 = .ok (.aload_n 0, 1) := by decide +kernel
theorem d_Mod_jot_130 : decode b_Mod_jot 130 = .ok (.getfield 135, 3) := by decide +kernel
theorem d_Mod_jot_133 : decode b_Mod_jot 133 = .ok (.putfield 211, 3) := by decide +kernel
theorem d_Mod_jot_136 : decode b_Mod_jot 136 = .ok (.aload_n 0, 1) := by decide +kernel
theorem d_Mod_jot_137 : decode b_Mod_jot 137 = .ok (.aload_n 0, 1) := by decide +kernel
theorem d_Mod_jot_138 : decode b_Mod_jot 138 = .ok (.getfield 142, 3) := by decide +kernel
theorem d_Mod_jot_141 : decode b_Mod_jot 141 = .ok (.ifCond .ne 7, 3) := by decide +kernel
theorem d_Mod_jot_144 : decode b_Mod_jot 144 = .ok (.lconst 0, 1) := by decide +kernel
theorem d_Mod_jot_145 : decode b_Mod_jot 145 = .ok (.goto 9, 3) := by decide +kernel
theorem d_Mod_jot_148 : decode b_Mod_jot 148 = .ok (.aload_n 0, 1) := by decide +kernel
theorem d_Mod_jot_149 : decode b_Mod_jot 149 = .ok (.getfield 74, 3) := by decide +kernel
theorem d_Mod_jot_152 : decode b_Mod_jot 152 = .ok (.iconst 0, 1) := by decide +kernel
theorem d_Mod_jot_153 : decode b_Mod_jot 153 = .ok (.laload, 1) := by decide +kernel
theorem d_Mod_jot_154 : decode b_Mod_jot 154 = .ok (.putfield 214, 3) := by decide +kernel
theorem d_Mod_jot_157 : decode b_Mod_jot 157 = .ok (.iconst 0, 1) := by decide +kernel
theorem d_Mod_jot_158 : decode b_Mod_jot 158 = .ok (.istore_n 1, 1) := by decide +kernel
theorem d_Mod_jot_159 : decode b_Mod_jot 159 = .ok (.aload_n 0, 1) := by decide +kernel
theorem d_Mod_jot_160 : decode b_Mod_jot 160 = .ok (.getfield 142, 3) := by decide +kernel
theorem d_Mod_jot_163 : decode b_Mod_jot 163 = .ok (.ifCond .le 170, 3) := by decide +kernel
theorem d_Mod_jot_166 : decode b_Mod_jot 166 = .ok (.iload_n 1, 1) := by decide +kernel
theorem d_Mod_jot_167 : decode b_Mod_jot 167 = .ok (.aload_n 0, 1) := by decide +kernel
theorem d_Mod_jot_168 : decode b_Mod_jot 168 = .ok (.getfield 163, 3) := by decide +kernel
theorem d_Mod_jot_171 : decode b_Mod_jot 171 = .ok (.if_icmp .ge 162, 3) := by decide +kernel
theorem d_Mod_jot_174 : decode b_Mod_jot 174 = .ok (.aload_n 0, 1) := by decide +kernel
theorem d_Mod_jot_175 : decode b_Mod_jot 175 = .ok (.getfield 81, 3) := by decide +kernel
theorem d_Mod_jot_178 : decode b_Mod_jot 178 = .ok (.iload_n 1, 1) := by decide +kernel
theorem d_Mod_jot_179 : decode b_Mod_jot 179 = .ok (.iaload, 1) := by decide +kernel
theorem d_Mod_jot_180 : decode b_Mod_jot 180 = .ok (.istore_n 2, 1) := by decide +kernel
theorem d_Mod_jot_181 : decode b_Mod_jot 181 = .ok (.aload_n 0, 1) := by decide +kernel
theorem d_Mod_jot_182 : decode b_Mod_jot 182 = .ok (.iload_n 1, 1) := by decide +kernel
theorem d_Mod_jot_183 : decode b_Mod_jot 183 = .ok (.iload_n 2, 1) := by decide +kernel
theorem d_Mod_jot_184 : decode b_Mod_jot 184 = .ok (.invokevirtual 191, 3) := by decide +kernel
theorem d_Mod_jot_187 : decode b_Mod_jot 187 = .ok (.istore_n 3, 1) := by decide +kernel
theorem d_Mod_jot_188 : decode b_Mod_jot 188 = .ok (.aload_n 0, 1) := by decide +kernel
theorem d_Mod_jot_189 : decode b_Mod_jot 189 = .ok (.getfield 84, 3) := by decide +kernel
theorem d_Mod_jot_192 : decode b_Mod_jot 192 = .ok (.aload_n 0, 1) := by decide +kernel
theorem d_Mod_jot_193 : decode b_Mod_jot 193 = .ok (.getfield 199, 3) := by decide +kernel
theorem d_Mod_jot_196 : decode b_Mod_jot 196 = .ok (.aload_n 0, 1) := by decide +kernel
theorem d_Mod_jot_197 : decode b_Mod_jot 197 = .ok (.getfield 170, 3) := by decide +kernel
theorem d_Mod_jot_200 : decode b_Mod_jot 200 = .ok (.iastore, 1) := by decide +kernel
theorem d_Mod_jot_201 : decode b_Mod_jot 201 = .ok (.aload_n 0, 1) := by decide +kernel
theorem d_Mod_jot_202 : decode b_Mod_jot 202 = .ok (.getfield 87, 3) := by decide +kernel
theorem d_Mod_jot_205 : decode b_Mod_jot 205 = .ok (.aload_n 0, 1) := by decide +kernel
theorem d_Mod_jot_206 : decode b_Mod_jot 206 = .ok (.getfield 199, 3) := by decide +kernel
theorem d_Mod_jot_209 : decode b_Mod_jot 209 = .ok (.aload_n 0, 1) := by decide +kernel
theorem d_Mod_jot_210 : decode b_Mod_jot 210 = .ok (.getfield 68, 3) := by decide +kernel
theorem d_Mod_jot_213 : decode b_Mod_jot 213 = .ok (.iload_n 2, 1) := by decide +kernel
theorem d_Mod_jot_214 : decode b_Mod_jot 214 = .ok (.iaload, 1) := by decide +kernel
theorem d_Mod_jot_215 : decode b_Mod_jot 215 = .ok (.iastore, 1) := by decide +kernel
theorem d_Mod_jot_216 : decode b_Mod_jot 216 = .ok (.aload_n 0, 1) := by decide +kernel
theorem d_Mod_jot_217 : decode b_Mod_jot 217 = .ok (.getfield 90, 3) := by decide +kernel
theorem d_Mod_jot_220 : decode b_Mod_jot 220 = .ok (.aload_n 0, 1) := by decide +kernel
theorem d_Mod_jot_221 : decode b_Mod_jot 221 = .ok (.getfield 199, 3) := by decide +kernel
theorem d_Mod_jot_224 : decode b_Mod_jot 224 = .ok (.aload_n 0, 1) := by decide +kernel
theorem d_Mod_jot_225 : decode b_Mod_jot 225 = .ok (.getfield 65, 3) := by decide +kernel
theorem d_Mod_jot_228 : decode b_Mod_jot 228 = .ok (.iload_n 2, 1) := by decide +kernel
theorem d_Mod_jot_229 : decode b_Mod_jot 229 = .ok (.iaload, 1) := by decide +kernel
theorem d_Mod_jot_230 : decode b_Mod_jot 230 = .ok (.iastore, 1) := by decide +kernel
theorem d_Mod_jot_231 : decode b_Mod_jot 231 = .ok (.aload_n 0, 1) := by decide +kernel
theorem d_Mod_jot_232 : decode b_Mod_jot 232 = .ok (.getfield 93, 3) := by decide +kernel
theorem d_Mod_jot_235 : decode b_Mod_jot 235 = .ok (.aload_n 0, 1) := by decide +kernel
theorem d_Mod_jot_236 : decode b_Mod_jot 236 = .ok (.getfield 199, 3) := by decide +kernel
theorem d_Mod_jot_239 : decode b_Mod_jot 239 = .ok (.iload_n 2, 1) := by decide +kernel
theorem d_Mod_jot_240 : decode b_Mod_jot 240 = .ok (.iastore, 1) := by decide +kernel
theorem d_Mod_jot_241 : decode b_Mod_jot 241 = .ok (.aload_n 0, 1) := by decide +kernel
theorem d_Mod_jot_242 : decode b_Mod_jot 242 = .ok (.getfield 96, 3) := by decide +kernel
theorem d_Mod_jot_245 : decode b_Mod_jot 245 = .ok (.aload_n 0, 1) := by decide +kernel
theorem d_Mod_jot_246 : decode b_Mod_jot 246 = .ok (.getfield 199, 3) := by decide +kernel
theorem d_Mod_jot_249 : decode b_Mod_jot 249 = .ok (.aload_n 0, 1) := by decide +kernel
theorem d_Mod_jot_250 : decode b_Mod_jot 250 = .ok (.getfield 173, 3) := by decide +kernel
theorem d_Mod_jot_253 : decode b_Mod_jot 253 = .ok (.iastore, 1) := by decide +kernel
theorem d_Mod_jot_254 : decode b_Mod_jot 254 = .ok (.aload_n 0, 1) := by decide +kernel
theorem d_Mod_jot_255 : decode b_Mod_jot 255 = .ok (.getfield 99, 3) := by decide +kernel
theorem d_Mod_jot_258 : decode b_Mod_jot 258 = .ok (.aload_n 0, 1) := by decide +kernel
theorem d_Mod_jot_259 : decode b_Mod_jot 259 = .ok (.getfield 199, 3) := by decide +kernel
theorem d_Mod_jot_262 : decode b_Mod_jot 262 = .ok (.aload_n 0, 1) := by decide +kernel
theorem d_Mod_jot_263 : decode b_Mod_jot 263 = .ok (.getfield 16, 3) := by decide +kernel
theorem d_Mod_jot_266 : decode b_Mod_jot 266 = .ok (.iconst 0, 1) := by decide +kernel
theorem d_Mod_jot_267 : decode b_Mod_jot 267 = .ok (.iaload, 1) := by decide +kernel
theorem d_Mod_jot_268 : decode b_Mod_jot 268 = .ok (.aload_n 0, 1) := by decide +kernel
theorem d_Mod_jot_269 : decode b_Mod_jot 269 = .ok (.getfield 173, 3) := by decide +kernel
theorem d_Mod_jot_272 : decode b_Mod_jot 272 = .ok (.isub, 1) := by decide +kernel
theorem d_Mod_jot_273 : decode b_Mod_jot 273 = .ok (.iastore, 1) := by decide +kernel
theorem d_Mod_jot_274 : decode b_Mod_jot 274 = .ok (.aload_n 0, 1) := by decide +kernel
theorem d_Mod_jot_275 : decode b_Mod_jot 275 = .ok (.getfield 102, 3) := by decide +kernel
theorem d_Mod_jot_278 : decode b_Mod_jot 278 = .ok (.aload_n 0, 1) := by decide +kernel
theorem d_Mod_jot_279 : decode b_Mod_jot 279 = .ok (.getfield 199, 3) := by decide +kernel
theorem d_Mod_jot_282 : decode b_Mod_jot 282 = .ok (.aload_n 0, 1) := by decide +kernel
theorem d_Mod_jot_283 : decode b_Mod_jot 283 = .ok (.getfield 176, 3) := by decide +kernel
theorem d_Mod_jot_286 : decode b_Mod_jot 286 = .ok (.iastore, 1) := by decide +kernel
theorem d_Mod_jot_287 : decode b_Mod_jot 287 = .ok (.aload_n 0, 1) := by decide +kernel
theorem d_Mod_jot_288 : decode b_Mod_jot 288 = .ok (.getfield 105, 3) := by decide +kernel
theorem d_Mod_jot_291 : decode b_Mod_jot 291 = .ok (.aload_n 0, 1) := by decide +kernel
theorem d_Mod_jot_292 : decode b_Mod_jot 292 = .ok (.getfield 199, 3) := by decide +kernel
theorem d_Mod_jot_295 : decode b_Mod_jot 295 = .ok (.aload_n 0, 1) := by decide +kernel
theorem d_Mod_jot_296 : decode b_Mod_jot 296 = .ok (.getfield 182, 3) := by decide +kernel
theorem d_Mod_jot_299 : decode b_Mod_jot 299 = .ok (.iastore, 1) := by decide +kernel
theorem d_Mod_jot_300 : decode b_Mod_jot 300 = .ok (.aload_n 0, 1) := by decide +kernel
theorem d_Mod_jot_301 : decode b_Mod_jot 301 = .ok (.getfield 108, 3) := by decide +kernel
theorem d_Mod_jot_304 : decode b_Mod_jot 304 = .ok (.aload_n 0, 1) := by decide +kernel
theorem d_Mod_jot_305 : decode b_Mod_jot 305 = .ok (.getfield 199, 3) := by decide +kernel
theorem d_Mod_jot_308 : decode b_Mod_jot 308 = .ok (.aload_n 0, 1) := by decide +kernel
theorem d_Mod_jot_309 : decode b_Mod_jot 309 = .ok (.getfield 179, 3) := by decide +kernel
theorem d_Mod_jot_312 : decode b_Mod_jot 312 = .ok (.iastore, 1) := by decide +kernel
theorem d_Mod_jot_313 : decode b_Mod_jot 313 = .ok (.aload_n 0, 1) := by decide +kernel
theorem d_Mod_jot_314 : decode b_Mod_jot 314 = .ok (.dup, 1) := by decide +kernel
theorem d_Mod_jot_315 : decode b_Mod_jot 315 = .ok (.getfield 199, 3) := by decide +kernel
theorem d_Mod_jot_318 : decode b_Mod_jot 318 = .ok (.iconst 1, 1) := by decide +kernel
theorem d_Mod_jot_319 : decode b_Mod_jot 319 = .ok (.iadd, 1) := by decide +kernel
theorem d_Mod_jot_320 : decode b_Mod_jot 320 = .ok (.putfield 199, 3) := by decide +kernel
theorem d_Mod_jot_323 : decode b_Mod_jot 323 = .ok (.aload_n 0, 1) := by decide +kernel
theorem d_Mod_jot_324 : decode b_Mod_jot 324 = .ok (.getfield 81, 3) := by decide +kernel
theorem d_Mod_jot_327 : decode b_Mod_jot 327 = .ok (.iload_n 1, 1) := by decide +kernel
theorem d_Mod_jot_328 : decode b_Mod_jot 328 = .ok (.iaload, 1) := by decide +kernel
theorem d_Mod_jot_329 : decode b_Mod_jot 329 = .ok (.istore_n 1, 1) := by decide +kernel
theorem d_Mod_jot_330 : decode b_Mod_jot 330 = .ok (.goto (-171), 3) := by decide +kernel
theorem d_Mod_jot_333 : decode b_Mod_jot 333 = .ok (.return_, 1) := by decide +kernel
theorem d_Mod_cost_0 : decode b_Mod_cost 0 = .ok (.aload_n 0, 1) := by decide +kernel
theorem d_Mod_cost_1 : decode b_Mod_cost 1 = .ok (.getfield 214, 3) := by decide +kernel
theorem d_Mod_cost_4 : decode b_Mod_cost 4 = .ok (.lreturn, 1) := by decide +kernel
theorem d_Mod_line_0 : decode b_Mod_line 0 = .ok (.aload_n 0, 1) := by decide +kernel
theorem d_Mod_line_1 : decode b_Mod_line 1 = .ok (.iload_n 1, 1) := by decide +kernel
theorem d_Mod_line_2 : decode b_Mod_line 2 = .ok (.invokevirtual 236, 3) := by decide +kernel
theorem d_Mod_line_5 : decode b_Mod_line 5 = .ok (.ifCond .eq 12, 3) := by decide +kernel
theorem d_Mod_line_8 : decode b_Mod_line 8 = .ok (.iload_n 2, 1) := by decide +kernel
theorem d_Mod_line_9 : decode b_Mod_line 9 = .ok (.ifCond .lt 8, 3) := by decide +kernel
theorem d_Mod_line_12 : decode b_Mod_line 12 = .ok (.iload_n 2, 1) := by decide +kernel
theorem d_Mod_line_13 : decode b_Mod_line 13 = .ok (.iconst 5, 1) := by decide +kernel
theorem d_Mod_line_14 : decode b_Mod_line 14 = .ok (.if_icmp .le 5, 3) := by decide +kernel
theorem d_Mod_line_17 : decode b_Mod_line 17 = .ok (.iconst (-1), 1) := by decide +kernel
theorem d_Mod_line_18 : decode b_Mod_line 18 = .ok (.ireturn, 1) := by decide +kernel
theorem d_Mod_line_19 : decode b_Mod_line 19 = .ok (.iload_n 2, 1) := by decide +kernel
theorem d_Mod_line_20 : decode b_Mod_line 20 = .ok (.iconst 3, 1) := by decide +kernel
theorem d_Mod_line_21 : decode b_Mod_line 21 = .ok (.if_icmp .ge 37, 3) := by decide +kernel
theorem d_Mod_line_24 : decode b_Mod_line 24 = .ok (.iload_n 2, 1) := by decide +kernel
theorem d_Mod_line_25 : decode b_Mod_line 25 = .ok (.ifCond .ne 12, 3) := by decide +kernel
theorem d_Mod_line_28 : decode b_Mod_line 28 = .ok (.aload_n 0, 1) := by decide +kernel
theorem d_Mod_line_29 : decode b_Mod_line 29 = .ok (.getfield 93, 3) := by decide +kernel
theorem d_Mod_line_32 : decode b_Mod_line 32 = .ok (.iload_n 1, 1) := by decide +kernel
theorem d_Mod_line_33 : decode b_Mod_line 33 = .ok (.iaload, 1) := by decide +kernel
theorem d_Mod_line_34 : decode b_Mod_line 34 = .ok (.goto 23, 3) := by decide +kernel
theorem d_Mod_line_37 : decode b_Mod_line 37 = .ok (.iload_n 2, 1) := by decide +kernel
theorem d_Mod_line_38 : decode b_Mod_line 38 = .ok (.iconst 1, 1) := by decide +kernel
theorem d_Mod_line_39 : decode b_Mod_line 39 = .ok (.if_icmp .ne 12, 3) := by decide +kernel
theorem d_Mod_line_42 : decode b_Mod_line 42 = .ok (.aload_n 0, 1) := by decide +kernel
theorem d_Mod_line_43 : decode b_Mod_line 43 = .ok (.getfield 90, 3) := by decide +kernel
theorem d_Mod_line_46 : decode b_Mod_line 46 = .ok (.iload_n 1, 1) := by decide +kernel
theorem d_Mod_line_47 : decode b_Mod_line 47 = .ok (.iaload, 1) := by decide +kernel
theorem d_Mod_line_48 : decode b_Mod_line 48 = .ok (.goto 9, 3) := by decide +kernel
theorem d_Mod_line_51 : decode b_Mod_line 51 = .ok (.aload_n 0, 1) := by decide +kernel
theorem d_Mod_line_52 : decode b_Mod_line 52 = .ok (.getfield 96, 3) := by decide +kernel
theorem d_Mod_line_55 : decode b_Mod_line 55 = .ok (.iload_n 1, 1) := by decide +kernel
theorem d_Mod_line_56 : decode b_Mod_line 56 = .ok (.iaload, 1) := by decide +kernel
theorem d_Mod_line_57 : decode b_Mod_line 57 = .ok (.ireturn, 1) := by decide +kernel
theorem d_Mod_line_58 : decode b_Mod_line 58 = .ok (.iload_n 2, 1) := by decide +kernel
theorem d_Mod_line_59 : decode b_Mod_line 59 = .ok (.iconst 5, 1) := by decide +kernel
theorem d_Mod_line_60 : decode b_Mod_line 60 = .ok (.if_icmp .ge 24, 3) := by decide +kernel
theorem d_Mod_line_63 : decode b_Mod_line 63 = .ok (.iload_n 2, 1) := by decide +kernel
theorem d_Mod_line_64 : decode b_Mod_line 64 = .ok (.iconst 3, 1) := by decide +kernel
theorem d_Mod_line_65 : decode b_Mod_line 65 = .ok (.if_icmp .ne 12, 3) := by decide +kernel
theorem d_Mod_line_68 : decode b_Mod_line 68 = .ok (.aload_n 0, 1) := by decide +kernel
theorem d_Mod_line_69 : decode b_Mod_line 69 = .ok (.getfield 99, 3) := by decide +kernel
theorem d_Mod_line_72 : decode b_Mod_line 72 = .ok (.iload_n 1, 1) := by decide +kernel
theorem d_Mod_line_73 : decode b_Mod_line 73 = .ok (.iaload, 1) := by decide +kernel
theorem d_Mod_line_74 : decode b_Mod_line 74 = .ok (.goto 9, 3) := by decide +kernel
theorem d_Mod_line_77 : decode b_Mod_line 77 = .ok (.aload_n 0, 1) := by decide +kernel
theorem d_Mod_line_78 : decode b_Mod_line 78 = .ok (.getfield 102, 3) := by decide +kernel
theorem d_Mod_line_81 : decode b_Mod_line 81 = .ok (.iload_n 1, 1) := by decide +kernel
theorem d_Mod_line_82 : decode b_Mod_line 82 = .ok (.iaload, 1) := by decide +kernel
theorem d_Mod_line_83 : decode b_Mod_line 83 = .ok (.ireturn, 1) := by decide +kernel
theorem d_Mod_line_84 : decode b_Mod_line 84 = .ok (.iconst 0, 1) := by decide +kernel
theorem d_Mod_line_85 : decode b_Mod_line 85 = .ok (.istore_n 3, 1) := by decide +kernel
theorem d_Mod_line_86 : decode b_Mod_line 86 = .ok (.aload_n 0, 1) := by decide +kernel
theorem d_Mod_line_87 : decode b_Mod_line 87 = .ok (.getfield 84, 3) := by decide +kernel
theorem d_Mod_line_90 : decode b_Mod_line 90 = .ok (.iload_n 1, 1) := by decide +kernel
theorem d_Mod_line_91 : decode b_Mod_line 91 = .ok (.iaload, 1) := by decide +kernel
theorem d_Mod_line_92 : decode b_Mod_line 92 = .ok (.istore 4, 2) := by decide +kernel
theorem d_Mod_line_94 : decode b_Mod_line 94 = .ok (.iload 4, 2) := by decide +kernel
theorem d_Mod_line_96 : decode b_Mod_line 96 = .ok (.aload_n 0, 1) := by decide +kernel
theorem d_Mod_line_97 : decode b_Mod_line 97 = .ok (.getfield 87, 3) := by decide +kernel
theorem d_Mod_line_100 : decode b_Mod_line 100 = .ok (.iload_n 1, 1) := by decide +kernel
theorem d_Mod_line_101 : decode b_Mod_line 101 = .ok (.iaload, 1) := by decide +kernel
theorem d_Mod_line_102 : decode b_Mod_line 102 = .ok (.if_icmp .ge 25, 3) := by decide +kernel
theorem d_Mod_line_105 : decode b_Mod_line 105 = .ok (.aload_n 0, 1) := by decide +kernel
theorem d_Mod_line_106 : decode b_Mod_line 106 = .ok (.getfield 52, 3) := by decide +kernel
theorem d_Mod_line_109 : decode b_Mod_line 109 = .ok (.iload 4, 2) := by decide +kernel
theorem d_Mod_line_111 : decode b_Mod_line 111 = .ok (.iaload, 1) := by decide +kernel
theorem d_Mod_line_112 : decode b_Mod_line 112 = .ok (.invokestatic 111, 3) := by decide +kernel
theorem d_Mod_line_115 : decode b_Mod_line 115 = .ok (.ifCond .eq 6, 3) := by decide +kernel
theorem d_Mod_line_118 : decode b_Mod_line 118 = .ok (.iinc 3 1, 3) := by decide +kernel
theorem d_Mod_line_121 : decode b_Mod_line 121 = .ok (.iinc 4 1, 3) := by decide +kernel
theorem d_Mod_line_124 : decode b_Mod_line 124 = .ok (.goto (-30), 3) := by decide +kernel
theorem d_Mod_line_127 : decode b_Mod_line 127 = .ok (.iload_n 3, 1) := by decide +kernel
theorem d_Mod_line_128 : decode b_Mod_line 128 = .ok (.ireturn, 1) := by decide +kernel
theorem d_Mod_isLine_0 : decode b_Mod_isLine 0 = .ok (.iload_n 1, 1) := by decide +kernel
theorem d_Mod_isLine_1 : decode b_Mod_isLine 1 = .ok (.ifCond .lt 15, 3) := by decide +kernel
theorem d_Mod_isLine_4 : decode b_Mod_isLine 4 = .ok (.iload_n 1, 1) := by decide +kernel
theorem d_Mod_isLine_5 : decode b_Mod_isLine 5 = .ok (.aload_n 0, 1) := by decide +kernel
theorem d_Mod_isLine_6 : decode b_Mod_isLine 6 = .ok (.getfield 199, 3) := by decide +kernel
theorem d_Mod_isLine_9 : decode b_Mod_isLine 9 = .ok (.if_icmp .ge 7, 3) := by decide +kernel
theorem d_Mod_isLine_12 : decode b_Mod_isLine 12 = .ok (.iconst 1, 1) := by decide +kernel
theorem d_Mod_isLine_13 : decode b_Mod_isLine 13 = .ok (.goto 4, 3) := by decide +kernel
theorem d_Mod_isLine_16 : decode b_Mod_isLine 16 = .ok (.iconst 0, 1) := by decide +kernel
theorem d_Mod_isLine_17 : decode b_Mod_isLine 17 = .ok (.ireturn, 1) := by decide +kernel
theorem d_Mod_character_0 : decode b_Mod_character 0 = .ok (.aload_n 0, 1) := by decide +kernel
theorem d_Mod_character_1 : decode b_Mod_character 1 = .ok (.iload_n 1, 1) := by decide +kernel
theorem d_Mod_character_2 : decode b_Mod_character 2 = .ok (.invokevirtual 236, 3) := by decide +kernel
theorem d_Mod_character_5 : decode b_Mod_character 5 = .ok (.ifCond .eq 7, 3) := by decide +kernel
theorem d_Mod_character_8 : decode b_Mod_character 8 = .ok (.iload_n 2, 1) := by decide +kernel
theorem d_Mod_character_9 : decode b_Mod_character 9 = .ok (.ifCond .ge 5, 3) := by decide +kernel
theorem d_Mod_character_12 : decode b_Mod_character 12 = .ok (.iconst (-1), 1) := by decide +kernel
theorem d_Mod_character_13 : decode b_Mod_character 13 = .ok (.ireturn, 1) := by decide +kernel
theorem d_Mod_character_14 : decode b_Mod_character 14 = .ok (.iload_n 2, 1) := by decide +kernel
theorem d_Mod_character_15 : decode b_Mod_character 15 = .ok (.aload_n 0, 1) := by decide +kernel
theorem d_Mod_character_16 : decode b_Mod_character 16 = .ok (.iload_n 1, 1) := by decide +kernel
theorem d_Mod_character_17 : decode b_Mod_character 17 = .ok (.invokevirtual 239, 3) := by decide +kernel
theorem d_Mod_character_20 : decode b_Mod_character 20 = .ok (.if_icmp .lt 5, 3) := by decide +kernel
theorem d_Mod_character_23 : decode b_Mod_character 23 = .ok (.iconst 0, 1) := by decide +kernel
theorem d_Mod_character_24 : decode b_Mod_character 24 = .ok (.ireturn, 1) := by decide +kernel
theorem d_Mod_character_25 : decode b_Mod_character 25 = .ok (.aload_n 0, 1) := by decide +kernel
theorem d_Mod_character_26 : decode b_Mod_character 26 = .ok (.getfield 84, 3) := by decide +kernel
theorem d_Mod_character_29 : decode b_Mod_character 29 = .ok (.iload_n 1, 1) := by decide +kernel
theorem d_Mod_character_30 : decode b_Mod_character 30 = .ok (.iaload, 1) := by decide +kernel
theorem d_Mod_character_31 : decode b_Mod_character 31 = .ok (.iload_n 2, 1) := by decide +kernel
theorem d_Mod_character_32 : decode b_Mod_character 32 = .ok (.iadd, 1) := by decide +kernel
theorem d_Mod_character_33 : decode b_Mod_character 33 = .ok (.istore_n 3, 1) := by decide +kernel
theorem d_Mod_character_34 : decode b_Mod_character 34 = .ok (.iload_n 3, 1) := by decide +kernel
theorem d_Mod_character_35 : decode b_Mod_character 35 = .ok (.aload_n 0, 1) := by decide +kernel
theorem d_Mod_character_36 : decode b_Mod_character 36 = .ok (.getfield 87, 3) := by decide +kernel
theorem d_Mod_character_39 : decode b_Mod_character 39 = .ok (.iload_n 1, 1) := by decide +kernel
theorem d_Mod_character_40 : decode b_Mod_character 40 = .ok (.iaload, 1) := by decide +kernel
theorem d_Mod_character_41 : decode b_Mod_character 41 = .ok (.if_icmp .ne 6, 3) := by decide +kernel
theorem d_Mod_character_44 : decode b_Mod_character 44 = .ok (.bipush 45, 2) := by decide +kernel
theorem d_Mod_character_46 : decode b_Mod_character 46 = .ok (.ireturn, 1) := by decide +kernel
theorem d_Mod_character_47 : decode b_Mod_character 47 = .ok (.aload_n 0, 1) := by decide +kernel
theorem d_Mod_character_48 : decode b_Mod_character 48 = .ok (.getfield 52, 3) := by decide +kernel
theorem d_Mod_character_51 : decode b_Mod_character 51 = .ok (.iload_n 3, 1) := by decide +kernel
theorem d_Mod_character_52 : decode b_Mod_character 52 = .ok (.iaload, 1) := by decide +kernel
theorem d_Mod_character_53 : decode b_Mod_character 53 = .ok (.bipush 126, 2) := by decide +kernel
theorem d_Mod_character_55 : decode b_Mod_character 55 = .ok (.if_icmp .ne 8, 3) := by decide +kernel
theorem d_Mod_character_58 : decode b_Mod_character 58 = .ok (.bipush 32, 2) := by decide +kernel
theorem d_Mod_character_60 : decode b_Mod_character 60 = .ok (.goto 9, 3) := by decide +kernel
theorem d_Mod_character_63 : decode b_Mod_character 63 = .ok (.aload_n 0, 1) := by decide +kernel
theorem d_Mod_character_64 : decode b_Mod_character 64 = .ok (.getfield 52, 3) := by decide +kernel
theorem d_Mod_character_67 : decode b_Mod_character 67 = .ok (.iload_n 3, 1) := by decide +kernel
theorem d_Mod_character_68 : decode b_Mod_character 68 = .ok (.iaload, 1) := by decide +kernel
theorem d_Mod_character_69 : decode b_Mod_character 69 = .ok (.ireturn, 1) := by decide +kernel
theorem d_Mod_characters_0 : decode b_Mod_characters 0 = .ok (.aload_n 0, 1) := by decide +kernel
theorem d_Mod_characters_1 : decode b_Mod_characters 1 = .ok (.getfield 87, 3) := by decide +kernel
theorem d_Mod_characters_4 : decode b_Mod_characters 4 = .ok (.iload_n 1, 1) := by decide +kernel
theorem d_Mod_characters_5 : decode b_Mod_characters 5 = .ok (.iaload, 1) := by decide +kernel
theorem d_Mod_characters_6 : decode b_Mod_characters 6 = .ok (.aload_n 0, 1) := by decide +kernel
theorem d_Mod_characters_7 : decode b_Mod_characters 7 = .ok (.getfield 84, 3) := by decide +kernel
theorem d_Mod_characters_10 : decode b_Mod_characters 10 = .ok (.iload_n 1, 1) := by decide +kernel
theorem d_Mod_characters_11 : decode b_Mod_characters 11 = .ok (.iaload, 1) := by decide +kernel
theorem d_Mod_characters_12 : decode b_Mod_characters 12 = .ok (.isub, 1) := by decide +kernel
theorem d_Mod_characters_13 : decode b_Mod_characters 13 = .ok (.aload_n 0, 1) := by decide +kernel
theorem d_Mod_characters_14 : decode b_Mod_characters 14 = .ok (.getfield 90, 3) := by decide +kernel
theorem d_Mod_characters_17 : decode b_Mod_characters 17 = .ok (.iload_n 1, 1) := by decide +kernel
theorem d_Mod_characters_18 : decode b_Mod_characters 18 = .ok (.iaload, 1) := by decide +kernel
theorem d_Mod_characters_19 : decode b_Mod_characters 19 = .ok (.iconst 2, 1) := by decide +kernel
theorem d_Mod_characters_20 : decode b_Mod_characters 20 = .ok (.if_icmp .ne 7, 3) := by decide +kernel
theorem d_Mod_characters_23 : decode b_Mod_characters 23 = .ok (.iconst 1, 1) := by decide +kernel
theorem d_Mod_characters_24 : decode b_Mod_characters 24 = .ok (.goto 4, 3) := by decide +kernel
theorem d_Mod_characters_27 : decode b_Mod_characters 27 = .ok (.iconst 0, 1) := by decide +kernel
theorem d_Mod_characters_28 : decode b_Mod_characters 28 = .ok (.iadd, 1) := by decide +kernel
theorem d_Mod_characters_29 : decode b_Mod_characters 29 = .ok (.ireturn, 1) := by decide +kernel
theorem d_Mod_place_0 : decode b_Mod_place 0 = .ok (.aload_n 0, 1) := by decide +kernel
theorem d_Mod_place_1 : decode b_Mod_place 1 = .ok (.iload_n 1, 1) := by decide +kernel
theorem d_Mod_place_2 : decode b_Mod_place 2 = .ok (.invokevirtual 236, 3) := by decide +kernel
theorem d_Mod_place_5 : decode b_Mod_place 5 = .ok (.ifCond .eq 16, 3) := by decide +kernel
theorem d_Mod_place_8 : decode b_Mod_place 8 = .ok (.iload_n 2, 1) := by decide +kernel
theorem d_Mod_place_9 : decode b_Mod_place 9 = .ok (.ifCond .lt 12, 3) := by decide +kernel
theorem d_Mod_place_12 : decode b_Mod_place 12 = .ok (.iload_n 2, 1) := by decide +kernel
theorem d_Mod_place_13 : decode b_Mod_place 13 = .ok (.aload_n 0, 1) := by decide +kernel
theorem d_Mod_place_14 : decode b_Mod_place 14 = .ok (.iload_n 1, 1) := by decide +kernel
theorem d_Mod_place_15 : decode b_Mod_place 15 = .ok (.invokevirtual 239, 3) := by decide +kernel
theorem d_Mod_place_18 : decode b_Mod_place 18 = .ok (.if_icmp .lt 5, 3) := by decide +kernel
theorem d_Mod_place_21 : decode b_Mod_place 21 = .ok (.iconst (-1), 1) := by decide +kernel
theorem d_Mod_place_22 : decode b_Mod_place 22 = .ok (.ireturn, 1) := by decide +kernel
theorem d_Mod_place_23 : decode b_Mod_place 23 = .ok (.iconst 0, 1) := by decide +kernel
theorem d_Mod_place_24 : decode b_Mod_place 24 = .ok (.istore_n 3, 1) := by decide +kernel
theorem d_Mod_place_25 : decode b_Mod_place 25 = .ok (.iconst 0, 1) := by decide +kernel
theorem d_Mod_place_26 : decode b_Mod_place 26 = .ok (.istore 4, 2) := by decide +kernel
theorem d_Mod_place_28 : decode b_Mod_place 28 = .ok (.aload_n 0, 1) := by decide +kernel
theorem d_Mod_place_29 : decode b_Mod_place 29 = .ok (.getfield 99, 3) := by decide +kernel
theorem d_Mod_place_32 : decode b_Mod_place 32 = .ok (.iload_n 1, 1) := by decide +kernel
theorem d_Mod_place_33 : decode b_Mod_place 33 = .ok (.iaload, 1) := by decide +kernel
theorem d_Mod_place_34 : decode b_Mod_place 34 = .ok (.istore 5, 2) := by decide +kernel
theorem d_Mod_place_36 : decode b_Mod_place 36 = .ok (.aload_n 0, 1) := by decide +kernel
theorem d_Mod_place_37 : decode b_Mod_place 37 = .ok (.getfield 84, 3) := by decide +kernel
theorem d_Mod_place_40 : decode b_Mod_place 40 = .ok (.iload_n 1, 1) := by decide +kernel
theorem d_Mod_place_41 : decode b_Mod_place 41 = .ok (.iaload, 1) := by decide +kernel
theorem d_Mod_place_42 : decode b_Mod_place 42 = .ok (.istore 6, 2) := by decide +kernel
theorem d_Mod_place_44 : decode b_Mod_place 44 = .ok (.iload 6, 2) := by decide +kernel
theorem d_Mod_place_46 : decode b_Mod_place 46 = .ok (.aload_n 0, 1) := by decide +kernel
theorem d_Mod_place_47 : decode b_Mod_place 47 = .ok (.getfield 84, 3) := by decide +kernel
theorem d_Mod_place_50 : decode b_Mod_place 50 = .ok (.iload_n 1, 1) := by decide +kernel
theorem d_Mod_place_51 : decode b_Mod_place 51 = .ok (.iaload, 1) := by decide +kernel
theorem d_Mod_place_52 : decode b_Mod_place 52 = .ok (.iload_n 2, 1) := by decide +kernel
theorem d_Mod_place_53 : decode b_Mod_place 53 = .ok (.iadd, 1) := by decide +kernel
theorem d_Mod_place_54 : decode b_Mod_place 54 = .ok (.if_icmp .ge 76, 3) := by decide +kernel
theorem d_Mod_place_57 : decode b_Mod_place 57 = .ok (.iload_n 3, 1) := by decide +kernel
theorem d_Mod_place_58 : decode b_Mod_place 58 = .ok (.aload_n 0, 1) := by decide +kernel
theorem d_Mod_place_59 : decode b_Mod_place 59 = .ok (.getfield 55, 3) := by decide +kernel
theorem d_Mod_place_62 : decode b_Mod_place 62 = .ok (.iload 6, 2) := by decide +kernel
theorem d_Mod_place_64 : decode b_Mod_place 64 = .ok (.iaload, 1) := by decide +kernel
theorem d_Mod_place_65 : decode b_Mod_place 65 = .ok (.iadd, 1) := by decide +kernel
theorem d_Mod_place_66 : decode b_Mod_place 66 = .ok (.istore_n 3, 1) := by decide +kernel
theorem d_Mod_place_67 : decode b_Mod_place 67 = .ok (.aload_n 0, 1) := by decide +kernel
theorem d_Mod_place_68 : decode b_Mod_place 68 = .ok (.getfield 52, 3) := by decide +kernel
theorem d_Mod_place_71 : decode b_Mod_place 71 = .ok (.iload 6, 2) := by decide +kernel
theorem d_Mod_place_73 : decode b_Mod_place 73 = .ok (.iaload, 1) := by decide +kernel
theorem d_Mod_place_74 : decode b_Mod_place 74 = .ok (.bipush 32, 2) := by decide +kernel
theorem d_Mod_place_76 : decode b_Mod_place 76 = .ok (.if_icmp .eq 15, 3) := by decide +kernel
theorem d_Mod_place_79 : decode b_Mod_place 79 = .ok (.aload_n 0, 1) := by decide +kernel
theorem d_Mod_place_80 : decode b_Mod_place 80 = .ok (.getfield 52, 3) := by decide +kernel
theorem d_Mod_place_83 : decode b_Mod_place 83 = .ok (.iload 6, 2) := by decide +kernel
theorem d_Mod_place_85 : decode b_Mod_place 85 = .ok (.iaload, 1) := by decide +kernel
theorem d_Mod_place_86 : decode b_Mod_place 86 = .ok (.bipush 126, 2) := by decide +kernel
theorem d_Mod_place_88 : decode b_Mod_place 88 = .ok (.if_icmp .ne 36, 3) := by decide +kernel
theorem d_Mod_place_91 : decode b_Mod_place 91 = .ok (.iload 4, 2) := by decide +kernel
theorem d_Mod_place_93 : decode b_Mod_place 93 = .ok (.iload 5, 2) := by decide +kernel
theorem d_Mod_place_95 : decode b_Mod_place 95 = .ok (.ifCond .le 17, 3) := by decide +kernel
theorem d_Mod_place_98 : decode b_Mod_place 98 = .ok (.aload_n 0, 1) := by decide +kernel
theorem d_Mod_place_99 : decode b_Mod_place 99 = .ok (.getfield 58, 3) := by decide +kernel
theorem d_Mod_place_102 : decode b_Mod_place 102 = .ok (.iload 6, 2) := by decide +kernel
theorem d_Mod_place_104 : decode b_Mod_place 104 = .ok (.iaload, 1) := by decide +kernel
theorem d_Mod_place_105 : decode b_Mod_place 105 = .ok (.iconst 1, 1) := by decide +kernel
theorem d_Mod_place_106 : decode b_Mod_place 106 = .ok (.iadd, 1) := by decide +kernel
theorem d_Mod_place_107 : decode b_Mod_place 107 = .ok (.iconst 2, 1) := by decide +kernel
theorem d_Mod_place_108 : decode b_Mod_place 108 = .ok (.idiv, 1) := by decide +kernel
theorem d_Mod_place_109 : decode b_Mod_place 109 = .ok (.goto 12, 3) := by decide +kernel
theorem d_Mod_place_112 : decode b_Mod_place 112 = .ok (.aload_n 0, 1) := by decide +kernel
theorem d_Mod_place_113 : decode b_Mod_place 113 = .ok (.getfield 58, 3) := by decide +kernel
theorem d_Mod_place_116 : decode b_Mod_place 116 = .ok (.iload 6, 2) := by decide +kernel
theorem d_Mod_place_118 : decode b_Mod_place 118 = .ok (.iaload, 1) := by decide +kernel
theorem d_Mod_place_119 : decode b_Mod_place 119 = .ok (.iconst 3, 1) := by decide +kernel
theorem d_Mod_place_120 : decode b_Mod_place 120 = .ok (.idiv, 1) := by decide +kernel
theorem d_Mod_place_121 : decode b_Mod_place 121 = .ok (.iadd, 1) := by decide +kernel
theorem d_Mod_place_122 : decode b_Mod_place 122 = .ok (.istore 4, 2) := by decide +kernel
theorem d_Mod_place_124 : decode b_Mod_place 124 = .ok (.iinc 6 1, 3) := by decide +kernel
theorem d_Mod_place_127 : decode b_Mod_place 127 = .ok (.goto (-83), 3) := by decide +kernel
theorem d_Mod_place_130 : decode b_Mod_place 130 = .ok (.iload 5, 2) := by decide +kernel
theorem d_Mod_place_132 : decode b_Mod_place 132 = .ok (.ifCond .eq 18, 3) := by decide +kernel
theorem d_Mod_place_135 : decode b_Mod_place 135 = .ok (.iload 5, 2) := by decide +kernel
theorem d_Mod_place_137 : decode b_Mod_place 137 = .ok (.ifCond .le 15, 3) := by decide +kernel
theorem d_Mod_place_140 : decode b_Mod_place 140 = .ok (.aload_n 0, 1) := by decide +kernel
theorem d_Mod_place_141 : decode b_Mod_place 141 = .ok (.getfield 90, 3) := by decide +kernel
theorem d_Mod_place_144 : decode b_Mod_place 144 = .ok (.iload_n 1, 1) := by decide +kernel
theorem d_Mod_place_145 : decode b_Mod_place 145 = .ok (.iaload, 1) := by decide +kernel
theorem d_Mod_place_146 : decode b_Mod_place 146 = .ok (.iconst 3, 1) := by decide +kernel
theorem d_Mod_place_147 : decode b_Mod_place 147 = .ok (.if_icmp .lt 5, 3) := by decide +kernel
theorem d_Mod_place_150 : decode b_Mod_place 150 = .ok (.iload_n 3, 1) := by decide +kernel
theorem d_Mod_place_151 : decode b_Mod_place 151 = .ok (.ireturn, 1) := by decide +kernel
theorem d_Mod_place_152 : decode b_Mod_place 152 = .ok (.iload 5, 2) := by decide +kernel
theorem d_Mod_place_154 : decode b_Mod_place 154 = .ok (.ifCond .le 12, 3) := by decide +kernel
theorem d_Mod_place_157 : decode b_Mod_place 157 = .ok (.aload_n 0, 1) := by decide +kernel
theorem d_Mod_place_158 : decode b_Mod_place 158 = .ok (.getfield 105, 3) := by decide +kernel
theorem d_Mod_place_161 : decode b_Mod_place 161 = .ok (.iload_n 1, 1) := by decide +kernel
theorem d_Mod_place_162 : decode b_Mod_place 162 = .ok (.iaload, 1) := by decide +kernel
theorem d_Mod_place_163 : decode b_Mod_place 163 = .ok (.goto 9, 3) := by decide +kernel
theorem d_Mod_place_166 : decode b_Mod_place 166 = .ok (.aload_n 0, 1) := by decide +kernel
theorem d_Mod_place_167 : decode b_Mod_place 167 = .ok (.getfield 108, 3) := by decide +kernel
theorem d_Mod_place_170 : decode b_Mod_place 170 = .ok (.iload_n 1, 1) := by decide +kernel
theorem d_Mod_place_171 : decode b_Mod_place 171 = .ok (.iaload, 1) := by decide +kernel
theorem d_Mod_place_172 : decode b_Mod_place 172 = .ok (.istore 6, 2) := by decide +kernel
theorem d_Mod_place_174 : decode b_Mod_place 174 = .ok (.iload 5, 2) := by decide +kernel
theorem d_Mod_place_176 : decode b_Mod_place 176 = .ok (.iload 4, 2) := by decide +kernel
theorem d_Mod_place_178 : decode b_Mod_place 178 = .ok (.imul, 1) := by decide +kernel
theorem d_Mod_place_179 : decode b_Mod_place 179 = .ok (.istore 7, 2) := by decide +kernel
theorem d_Mod_place_181 : decode b_Mod_place 181 = .ok (.iload 7, 2) := by decide +kernel
theorem d_Mod_place_183 : decode b_Mod_place 183 = .ok (.iload 6, 2) := by decide +kernel
theorem d_Mod_place_185 : decode b_Mod_place 185 = .ok (.idiv, 1) := by decide +kernel
theorem d_Mod_place_186 : decode b_Mod_place 186 = .ok (.istore 8, 2) := by decide +kernel
theorem d_Mod_place_188 : decode b_Mod_place 188 = .ok (.iload 7, 2) := by decide +kernel
theorem d_Mod_place_190 : decode b_Mod_place 190 = .ok (.ifCond .ge 20, 3) := by decide +kernel
theorem d_Mod_place_193 : decode b_Mod_place 193 = .ok (.iload 7, 2) := by decide +kernel
theorem d_Mod_place_195 : decode b_Mod_place 195 = .ok (.iload 6, 2) := by decide +kernel
theorem d_Mod_place_197 : decode b_Mod_place 197 = .ok (.irem, 1) := by decide +kernel
theorem d_Mod_place_198 : decode b_Mod_place 198 = .ok (.ifCond .eq 12, 3) := by decide +kernel
theorem d_Mod_place_201 : decode b_Mod_place 201 = .ok (.iload_n 3, 1) := by decide +kernel
theorem d_Mod_place_202 : decode b_Mod_place 202 = .ok (.iload 8, 2) := by decide +kernel
theorem d_Mod_place_204 : decode b_Mod_place 204 = .ok (.iadd, 1) := by decide +kernel
theorem d_Mod_place_205 : decode b_Mod_place 205 = .ok (.iconst 1, 1) := by decide +kernel
theorem d_Mod_place_206 : decode b_Mod_place 206 = .ok (.isub, 1) := by decide +kernel
theorem d_Mod_place_207 : decode b_Mod_place 207 = .ok (.goto 7, 3) := by decide +kernel
theorem d_Mod_place_210 : decode b_Mod_place 210 = .ok (.iload_n 3, 1) := by decide +kernel
theorem d_Mod_place_211 : decode b_Mod_place 211 = .ok (.iload 8, 2) := by decide +kernel
theorem d_Mod_place_213 : decode b_Mod_place 213 = .ok (.iadd, 1) := by decide +kernel
theorem d_Mod_place_214 : decode b_Mod_place 214 = .ok (.ireturn, 1) := by decide +kernel
theorem d_Mod_count_0 : decode b_Mod_count 0 = .ok (.iload_n 1, 1) := by decide +kernel
theorem d_Mod_count_1 : decode b_Mod_count 1 = .ok (.ifCond .lt 9, 3) := by decide +kernel
theorem d_Mod_count_4 : decode b_Mod_count 4 = .ok (.iload_n 1, 1) := by decide +kernel
theorem d_Mod_count_5 : decode b_Mod_count 5 = .ok (.bipush 6, 2) := by decide +kernel
theorem d_Mod_count_7 : decode b_Mod_count 7 = .ok (.if_icmp .le 5, 3) := by decide +kernel
theorem d_Mod_count_10 : decode b_Mod_count 10 = .ok (.iconst (-1), 1) := by decide +kernel
theorem d_Mod_count_11 : decode b_Mod_count 11 = .ok (.ireturn, 1) := by decide +kernel
theorem d_Mod_count_12 : decode b_Mod_count 12 = .ok (.iload_n 1, 1) := by decide +kernel
theorem d_Mod_count_13 : decode b_Mod_count 13 = .ok (.iconst 2, 1) := by decide +kernel
theorem d_Mod_count_14 : decode b_Mod_count 14 = .ok (.if_icmp .ge 19, 3) := by decide +kernel
theorem d_Mod_count_17 : decode b_Mod_count 17 = .ok (.iload_n 1, 1) := by decide +kernel
theorem d_Mod_count_18 : decode b_Mod_count 18 = .ok (.ifCond .ne 10, 3) := by decide +kernel
theorem d_Mod_count_21 : decode b_Mod_count 21 = .ok (.aload_n 0, 1) := by decide +kernel
theorem d_Mod_count_22 : decode b_Mod_count 22 = .ok (.getfield 199, 3) := by decide +kernel
theorem d_Mod_count_25 : decode b_Mod_count 25 = .ok (.goto 7, 3) := by decide +kernel
theorem d_Mod_count_28 : decode b_Mod_count 28 = .ok (.aload_n 0, 1) := by decide +kernel
theorem d_Mod_count_29 : decode b_Mod_count 29 = .ok (.getfield 202, 3) := by decide +kernel
theorem d_Mod_count_32 : decode b_Mod_count 32 = .ok (.ireturn, 1) := by decide +kernel
theorem d_Mod_count_33 : decode b_Mod_count 33 = .ok (.iload_n 1, 1) := by decide +kernel
theorem d_Mod_count_34 : decode b_Mod_count 34 = .ok (.iconst 4, 1) := by decide +kernel
theorem d_Mod_count_35 : decode b_Mod_count 35 = .ok (.if_icmp .ge 20, 3) := by decide +kernel
theorem d_Mod_count_38 : decode b_Mod_count 38 = .ok (.iload_n 1, 1) := by decide +kernel
theorem d_Mod_count_39 : decode b_Mod_count 39 = .ok (.iconst 2, 1) := by decide +kernel
theorem d_Mod_count_40 : decode b_Mod_count 40 = .ok (.if_icmp .ne 10, 3) := by decide +kernel
theorem d_Mod_count_43 : decode b_Mod_count 43 = .ok (.aload_n 0, 1) := by decide +kernel
theorem d_Mod_count_44 : decode b_Mod_count 44 = .ok (.getfield 205, 3) := by decide +kernel
theorem d_Mod_count_47 : decode b_Mod_count 47 = .ok (.goto 7, 3) := by decide +kernel
theorem d_Mod_count_50 : decode b_Mod_count 50 = .ok (.aload_n 0, 1) := by decide +kernel
theorem d_Mod_count_51 : decode b_Mod_count 51 = .ok (.getfield 208, 3) := by decide +kernel
theorem d_Mod_count_54 : decode b_Mod_count 54 = .ok (.ireturn, 1) := by decide +kernel
theorem d_Mod_count_55 : decode b_Mod_count 55 = .ok (.iload_n 1, 1) := by decide +kernel
theorem d_Mod_count_56 : decode b_Mod_count 56 = .ok (.iconst 4, 1) := by decide +kernel
theorem d_Mod_count_57 : decode b_Mod_count 57 = .ok (.if_icmp .ne 10, 3) := by decide +kernel
theorem d_Mod_count_60 : decode b_Mod_count 60 = .ok (.aload_n 0, 1) := by decide +kernel
theorem d_Mod_count_61 : decode b_Mod_count 61 = .ok (.getfield 211, 3) := by decide +kernel
theorem d_Mod_count_64 : decode b_Mod_count 64 = .ok (.goto 19, 3) := by decide +kernel
theorem d_Mod_count_67 : decode b_Mod_count 67 = .ok (.iload_n 1, 1) := by decide +kernel
theorem d_Mod_count_68 : decode b_Mod_count 68 = .ok (.iconst 5, 1) := by decide +kernel
theorem d_Mod_count_69 : decode b_Mod_count 69 = .ok (.if_icmp .ne 10, 3) := by decide +kernel
theorem d_Mod_count_72 : decode b_Mod_count 72 = .ok (.aload_n 0, 1) := by decide +kernel
theorem d_Mod_count_73 : decode b_Mod_count 73 = .ok (.getfield 122, 3) := by decide +kernel
theorem d_Mod_count_76 : decode b_Mod_count 76 = .ok (.goto 7, 3) := by decide +kernel
theorem d_Mod_count_79 : decode b_Mod_count 79 = .ok (.aload_n 0, 1) := by decide +kernel
theorem d_Mod_count_80 : decode b_Mod_count 80 = .ok (.getfield 118, 3) := by decide +kernel
theorem d_Mod_count_83 : decode b_Mod_count 83 = .ok (.ireturn, 1) := by decide +kernel
