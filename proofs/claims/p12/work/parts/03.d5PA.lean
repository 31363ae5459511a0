/-! DECODE ROWS -/
theorem d_PA_init_0 : decode c_PA_init 0 = .ok (.aload_n 0, 1) := by decide +kernel
theorem d_PA_init_1 : decode c_PA_init 1 = .ok (.invokespecial 3, 3) := by decide +kernel
theorem d_PA_init_4 : decode c_PA_init 4 = .ok (.aload_n 0, 1) := by decide +kernel
theorem d_PA_init_5 : decode c_PA_init 5 = .ok (.bipush 60, 2) := by decide +kernel
theorem d_PA_init_7 : decode c_PA_init 7 = .ok (.newarray .int, 2) := by decide +kernel
theorem d_PA_init_9 : decode c_PA_init 9 = .ok (.putfield 9, 3) := by decide +kernel
theorem d_PA_init_12 : decode c_PA_init 12 = .ok (.aload_n 0, 1) := by decide +kernel
theorem d_PA_init_13 : decode c_PA_init 13 = .ok (.bipush 40, 2) := by decide +kernel
theorem d_PA_init_15 : decode c_PA_init 15 = .ok (.newarray .int, 2) := by decide +kernel
theorem d_PA_init_17 : decode c_PA_init 17 = .ok (.putfield 15, 3) := by decide +kernel
theorem d_PA_init_20 : decode c_PA_init 20 = .ok (.aload_n 0, 1) := by decide +kernel
theorem d_PA_init_21 : decode c_PA_init 21 = .ok (.bipush 40, 2) := by decide +kernel
theorem d_PA_init_23 : decode c_PA_init 23 = .ok (.newarray .int, 2) := by decide +kernel
theorem d_PA_init_25 : decode c_PA_init 25 = .ok (.putfield 18, 3) := by decide +kernel
theorem d_PA_init_28 : decode c_PA_init 28 = .ok (.aload_n 0, 1) := by decide +kernel
theorem d_PA_init_29 : decode c_PA_init 29 = .ok (.bipush 40, 2) := by decide +kernel
theorem d_PA_init_31 : decode c_PA_init 31 = .ok (.newarray .int, 2) := by decide +kernel
theorem d_PA_init_33 : decode c_PA_init 33 = .ok (.putfield 21, 3) := by decide +kernel
theorem d_PA_init_36 : decode c_PA_init 36 = .ok (.aload_n 0, 1) := by decide +kernel
theorem d_PA_init_37 : decode c_PA_init 37 = .ok (.bipush (-100), 2) := by decide +kernel
theorem d_PA_init_39 : decode c_PA_init 39 = .ok (.putfield 24, 3) := by decide +kernel
theorem d_PA_init_42 : decode c_PA_init 42 = .ok (.return_, 1) := by decide +kernel
theorem d_PA_append_0 : decode c_PA_append 0 = .ok (.aload_n 0, 1) := by decide +kernel
theorem d_PA_append_1 : decode c_PA_append 1 = .ok (.getfield 28, 3) := by decide +kernel
theorem d_PA_append_4 : decode c_PA_append 4 = .ok (.bipush 60, 2) := by decide +kernel
theorem d_PA_append_6 : decode c_PA_append 6 = .ok (.if_icmp .lt 6, 3) := by decide +kernel
theorem d_PA_append_9 : decode c_PA_append 9 = .ok (.bipush (-3), 2) := by decide +kernel
theorem d_PA_append_11 : decode c_PA_append 11 = .ok (.ireturn, 1) := by decide +kernel
theorem d_PA_append_12 : decode c_PA_append 12 = .ok (.aload_n 0, 1) := by decide +kernel
theorem d_PA_append_13 : decode c_PA_append 13 = .ok (.getfield 9, 3) := by decide +kernel
theorem d_PA_append_16 : decode c_PA_append 16 = .ok (.aload_n 0, 1) := by decide +kernel
theorem d_PA_append_17 : decode c_PA_append 17 = .ok (.getfield 28, 3) := by decide +kernel
theorem d_PA_append_20 : decode c_PA_append 20 = .ok (.iload_n 1, 1) := by decide +kernel
theorem d_PA_append_21 : decode c_PA_append 21 = .ok (.iastore, 1) := by decide +kernel
theorem d_PA_append_22 : decode c_PA_append 22 = .ok (.aload_n 0, 1) := by decide +kernel
theorem d_PA_append_23 : decode c_PA_append 23 = .ok (.dup, 1) := by decide +kernel
theorem d_PA_append_24 : decode c_PA_append 24 = .ok (.getfield 28, 3) := by decide +kernel
theorem d_PA_append_27 : decode c_PA_append 27 = .ok (.iconst 1, 1) := by decide +kernel
theorem d_PA_append_28 : decode c_PA_append 28 = .ok (.iadd, 1) := by decide +kernel
theorem d_PA_append_29 : decode c_PA_append 29 = .ok (.putfield 28, 3) := by decide +kernel
theorem d_PA_append_32 : decode c_PA_append 32 = .ok (.aload_n 0, 1) := by decide +kernel
theorem d_PA_append_33 : decode c_PA_append 33 = .ok (.invokevirtual 31, 3) := by decide +kernel
theorem d_PA_append_36 : decode c_PA_append 36 = .ok (.aload_n 0, 1) := by decide +kernel
theorem d_PA_append_37 : decode c_PA_append 37 = .ok (.getfield 28, 3) := by decide +kernel
theorem d_PA_append_40 : decode c_PA_append 40 = .ok (.ireturn, 1) := by decide +kernel
theorem d_PA_readWords_0 : decode c_PA_readWords 0 = .ok (.aload_n 0, 1) := by decide +kernel
theorem d_PA_readWords_1 : decode c_PA_readWords 1 = .ok (.iconst 0, 1) := by decide +kernel
theorem d_PA_readWords_2 : decode c_PA_readWords 2 = .ok (.putfield 34, 3) := by decide +kernel
theorem d_PA_readWords_5 : decode c_PA_readWords 5 = .ok (.aload_n 0, 1) := by decide +kernel
theorem d_PA_readWords_6 : decode c_PA_readWords 6 = .ok (.iconst 0, 1) := by decide +kernel
theorem d_PA_readWords_7 : decode c_PA_readWords 7 = .ok (.iconst 1, 1) := by decide +kernel
theorem d_PA_readWords_8 : decode c_PA_readWords 8 = .ok (.invokevirtual 37, 3) := by decide +kernel
theorem d_PA_readWords_11 : decode c_PA_readWords 11 = .ok (.istore_n 1, 1) := by decide +kernel
theorem d_PA_readWords_12 : decode c_PA_readWords 12 = .ok (.iload_n 1, 1) := by decide +kernel
theorem d_PA_readWords_13 : decode c_PA_readWords 13 = .ok (.ifCond .ge 11, 3) := by decide +kernel
theorem d_PA_readWords_16 : decode c_PA_readWords 16 = .ok (.aload_n 0, 1) := by decide +kernel
theorem d_PA_readWords_17 : decode c_PA_readWords 17 = .ok (.iload_n 1, 1) := by decide +kernel
theorem d_PA_readWords_18 : decode c_PA_readWords 18 = .ok (.putfield 24, 3) := by decide +kernel
theorem d_PA_readWords_21 : decode c_PA_readWords 21 = .ok (.goto 23, 3) := by decide +kernel
theorem d_PA_readWords_24 : decode c_PA_readWords 24 = .ok (.aload_n 0, 1) := by decide +kernel
theorem d_PA_readWords_25 : decode c_PA_readWords 25 = .ok (.iload_n 1, 1) := by decide +kernel
theorem d_PA_readWords_26 : decode c_PA_readWords 26 = .ok (.aload_n 0, 1) := by decide +kernel
theorem d_PA_readWords_27 : decode c_PA_readWords 27 = .ok (.getfield 28, 3) := by decide +kernel
theorem d_PA_readWords_30 : decode c_PA_readWords 30 = .ok (.if_icmp .ge 10, 3) := by decide +kernel
theorem d_PA_readWords_33 : decode c_PA_readWords 33 = .ok (.iload_n 1, 1) := by decide +kernel
theorem d_PA_readWords_34 : decode c_PA_readWords 34 = .ok (.invokestatic 41, 3) := by decide +kernel
theorem d_PA_readWords_37 : decode c_PA_readWords 37 = .ok (.goto 4, 3) := by decide +kernel
theorem d_PA_readWords_40 : decode c_PA_readWords 40 = .ok (.iconst 0, 1) := by decide +kernel
theorem d_PA_readWords_41 : decode c_PA_readWords 41 = .ok (.putfield 24, 3) := by decide +kernel
theorem d_PA_readWords_44 : decode c_PA_readWords 44 = .ok (.return_, 1) := by decide +kernel
theorem d_PA_readPart_0 : decode c_PA_readPart 0 = .ok (.iload_n 2, 1) := by decide +kernel
theorem d_PA_readPart_1 : decode c_PA_readPart 1 = .ok (.bipush 12, 2) := by decide +kernel
theorem d_PA_readPart_3 : decode c_PA_readPart 3 = .ok (.if_icmp .gt 23, 3) := by decide +kernel
theorem d_PA_readPart_6 : decode c_PA_readPart 6 = .ok (.aload_n 0, 1) := by decide +kernel
theorem d_PA_readPart_7 : decode c_PA_readPart 7 = .ok (.getfield 34, 3) := by decide +kernel
theorem d_PA_readPart_10 : decode c_PA_readPart 10 = .ok (.bipush 40, 2) := by decide +kernel
theorem d_PA_readPart_12 : decode c_PA_readPart 12 = .ok (.if_icmp .ge 14, 3) := by decide +kernel
theorem d_PA_readPart_15 : decode c_PA_readPart 15 = .ok (.aload_n 0, 1) := by decide +kernel
theorem d_PA_readPart_16 : decode c_PA_readPart 16 = .ok (.iload_n 1, 1) := by decide +kernel
theorem d_PA_readPart_17 : decode c_PA_readPart 17 = .ok (.iconst 0, 1) := by decide +kernel
theorem d_PA_readPart_18 : decode c_PA_readPart 18 = .ok (.bipush 7, 2) := by decide +kernel
theorem d_PA_readPart_20 : decode c_PA_readPart 20 = .ok (.invokevirtual 45, 3) := by decide +kernel
theorem d_PA_readPart_23 : decode c_PA_readPart 23 = .ok (.ifCond .ne 8, 3) := by decide +kernel
theorem d_PA_readPart_26 : decode c_PA_readPart 26 = .ok (.iload_n 1, 1) := by decide +kernel
theorem d_PA_readPart_27 : decode c_PA_readPart 27 = .ok (.invokestatic 41, 3) := by decide +kernel
theorem d_PA_readPart_30 : decode c_PA_readPart 30 = .ok (.ireturn, 1) := by decide +kernel
theorem d_PA_readPart_31 : decode c_PA_readPart 31 = .ok (.aload_n 0, 1) := by decide +kernel
theorem d_PA_readPart_32 : decode c_PA_readPart 32 = .ok (.getfield 34, 3) := by decide +kernel
theorem d_PA_readPart_35 : decode c_PA_readPart 35 = .ok (.istore_n 3, 1) := by decide +kernel
theorem d_PA_readPart_36 : decode c_PA_readPart 36 = .ok (.aload_n 0, 1) := by decide +kernel
theorem d_PA_readPart_37 : decode c_PA_readPart 37 = .ok (.getfield 9, 3) := by decide +kernel
theorem d_PA_readPart_40 : decode c_PA_readPart 40 = .ok (.iload_n 1, 1) := by decide +kernel
theorem d_PA_readPart_41 : decode c_PA_readPart 41 = .ok (.iaload, 1) := by decide +kernel
theorem d_PA_readPart_42 : decode c_PA_readPart 42 = .ok (.istore 4, 2) := by decide +kernel
theorem d_PA_readPart_44 : decode c_PA_readPart 44 = .ok (.aload_n 0, 1) := by decide +kernel
theorem d_PA_readPart_45 : decode c_PA_readPart 45 = .ok (.dup, 1) := by decide +kernel
theorem d_PA_readPart_46 : decode c_PA_readPart 46 = .ok (.getfield 34, 3) := by decide +kernel
theorem d_PA_readPart_49 : decode c_PA_readPart 49 = .ok (.iconst 1, 1) := by decide +kernel
theorem d_PA_readPart_50 : decode c_PA_readPart 50 = .ok (.iadd, 1) := by decide +kernel
theorem d_PA_readPart_51 : decode c_PA_readPart 51 = .ok (.putfield 34, 3) := by decide +kernel
theorem d_PA_readPart_54 : decode c_PA_readPart 54 = .ok (.aload_n 0, 1) := by decide +kernel
theorem d_PA_readPart_55 : decode c_PA_readPart 55 = .ok (.getfield 15, 3) := by decide +kernel
theorem d_PA_readPart_58 : decode c_PA_readPart 58 = .ok (.iload_n 3, 1) := by decide +kernel
theorem d_PA_readPart_59 : decode c_PA_readPart 59 = .ok (.iload 4, 2) := by decide +kernel
theorem d_PA_readPart_61 : decode c_PA_readPart 61 = .ok (.iastore, 1) := by decide +kernel
theorem d_PA_readPart_62 : decode c_PA_readPart 62 = .ok (.aload_n 0, 1) := by decide +kernel
theorem d_PA_readPart_63 : decode c_PA_readPart 63 = .ok (.getfield 18, 3) := by decide +kernel
theorem d_PA_readPart_66 : decode c_PA_readPart 66 = .ok (.iload_n 3, 1) := by decide +kernel
theorem d_PA_readPart_67 : decode c_PA_readPart 67 = .ok (.iconst 0, 1) := by decide +kernel
theorem d_PA_readPart_68 : decode c_PA_readPart 68 = .ok (.iastore, 1) := by decide +kernel
theorem d_PA_readPart_69 : decode c_PA_readPart 69 = .ok (.aload_n 0, 1) := by decide +kernel
theorem d_PA_readPart_70 : decode c_PA_readPart 70 = .ok (.getfield 21, 3) := by decide +kernel
theorem d_PA_readPart_73 : decode c_PA_readPart 73 = .ok (.iload_n 3, 1) := by decide +kernel
theorem d_PA_readPart_74 : decode c_PA_readPart 74 = .ok (.iload_n 3, 1) := by decide +kernel
theorem d_PA_readPart_75 : decode c_PA_readPart 75 = .ok (.iastore, 1) := by decide +kernel
theorem d_PA_readPart_76 : decode c_PA_readPart 76 = .ok (.iload 4, 2) := by decide +kernel
theorem d_PA_readPart_78 : decode c_PA_readPart 78 = .ok (.ifCond .eq 10, 3) := by decide +kernel
theorem d_PA_readPart_81 : decode c_PA_readPart 81 = .ok (.iload 4, 2) := by decide +kernel
theorem d_PA_readPart_83 : decode c_PA_readPart 83 = .ok (.bipush 7, 2) := by decide +kernel
theorem d_PA_readPart_85 : decode c_PA_readPart 85 = .ok (.if_icmp .ne 12, 3) := by decide +kernel
theorem d_PA_readPart_88 : decode c_PA_readPart 88 = .ok (.aload_n 0, 1) := by decide +kernel
theorem d_PA_readPart_89 : decode c_PA_readPart 89 = .ok (.iload_n 3, 1) := by decide +kernel
theorem d_PA_readPart_90 : decode c_PA_readPart 90 = .ok (.iload_n 1, 1) := by decide +kernel
theorem d_PA_readPart_91 : decode c_PA_readPart 91 = .ok (.iconst 1, 1) := by decide +kernel
theorem d_PA_readPart_92 : decode c_PA_readPart 92 = .ok (.iadd, 1) := by decide +kernel
theorem d_PA_readPart_93 : decode c_PA_readPart 93 = .ok (.invokevirtual 49, 3) := by decide +kernel
theorem d_PA_readPart_96 : decode c_PA_readPart 96 = .ok (.ireturn, 1) := by decide +kernel
theorem d_PA_readPart_97 : decode c_PA_readPart 97 = .ok (.aload_n 0, 1) := by decide +kernel
theorem d_PA_readPart_98 : decode c_PA_readPart 98 = .ok (.iload_n 1, 1) := by decide +kernel
theorem d_PA_readPart_99 : decode c_PA_readPart 99 = .ok (.iconst 1, 1) := by decide +kernel
theorem d_PA_readPart_100 : decode c_PA_readPart 100 = .ok (.iadd, 1) := by decide +kernel
theorem d_PA_readPart_101 : decode c_PA_readPart 101 = .ok (.iload_n 2, 1) := by decide +kernel
theorem d_PA_readPart_102 : decode c_PA_readPart 102 = .ok (.iconst 1, 1) := by decide +kernel
theorem d_PA_readPart_103 : decode c_PA_readPart 103 = .ok (.iadd, 1) := by decide +kernel
theorem d_PA_readPart_104 : decode c_PA_readPart 104 = .ok (.invokevirtual 37, 3) := by decide +kernel
theorem d_PA_readPart_107 : decode c_PA_readPart 107 = .ok (.istore 5, 2) := by decide +kernel
theorem d_PA_readPart_109 : decode c_PA_readPart 109 = .ok (.iload 5, 2) := by decide +kernel
theorem d_PA_readPart_111 : decode c_PA_readPart 111 = .ok (.ifCond .lt 15, 3) := by decide +kernel
theorem d_PA_readPart_114 : decode c_PA_readPart 114 = .ok (.iload 4, 2) := by decide +kernel
theorem d_PA_readPart_116 : decode c_PA_readPart 116 = .ok (.iconst 2, 1) := by decide +kernel
theorem d_PA_readPart_117 : decode c_PA_readPart 117 = .ok (.if_icmp .eq 12, 3) := by decide +kernel
theorem d_PA_readPart_120 : decode c_PA_readPart 120 = .ok (.iload 4, 2) := by decide +kernel
theorem d_PA_readPart_122 : decode c_PA_readPart 122 = .ok (.iconst 3, 1) := by decide +kernel
theorem d_PA_readPart_123 : decode c_PA_readPart 123 = .ok (.if_icmp .eq 6, 3) := by decide +kernel
theorem d_PA_readPart_126 : decode c_PA_readPart 126 = .ok (.iload 5, 2) := by decide +kernel
theorem d_PA_readPart_128 : decode c_PA_readPart 128 = .ok (.ireturn, 1) := by decide +kernel
theorem d_PA_readPart_129 : decode c_PA_readPart 129 = .ok (.aload_n 0, 1) := by decide +kernel
theorem d_PA_readPart_130 : decode c_PA_readPart 130 = .ok (.getfield 21, 3) := by decide +kernel
theorem d_PA_readPart_133 : decode c_PA_readPart 133 = .ok (.iload_n 3, 1) := by decide +kernel
theorem d_PA_readPart_134 : decode c_PA_readPart 134 = .ok (.aload_n 0, 1) := by decide +kernel
theorem d_PA_readPart_135 : decode c_PA_readPart 135 = .ok (.getfield 34, 3) := by decide +kernel
theorem d_PA_readPart_138 : decode c_PA_readPart 138 = .ok (.iastore, 1) := by decide +kernel
theorem d_PA_readPart_139 : decode c_PA_readPart 139 = .ok (.aload_n 0, 1) := by decide +kernel
theorem d_PA_readPart_140 : decode c_PA_readPart 140 = .ok (.iload 5, 2) := by decide +kernel
theorem d_PA_readPart_142 : decode c_PA_readPart 142 = .ok (.iload_n 2, 1) := by decide +kernel
theorem d_PA_readPart_143 : decode c_PA_readPart 143 = .ok (.iconst 1, 1) := by decide +kernel
theorem d_PA_readPart_144 : decode c_PA_readPart 144 = .ok (.iadd, 1) := by decide +kernel
theorem d_PA_readPart_145 : decode c_PA_readPart 145 = .ok (.invokevirtual 37, 3) := by decide +kernel
theorem d_PA_readPart_148 : decode c_PA_readPart 148 = .ok (.ireturn, 1) := by decide +kernel
theorem d_PA_isWithin_0 : decode c_PA_isWithin 0 = .ok (.iload_n 1, 1) := by decide +kernel
theorem d_PA_isWithin_1 : decode c_PA_isWithin 1 = .ok (.ifCond .lt 35, 3) := by decide +kernel
theorem d_PA_isWithin_4 : decode c_PA_isWithin 4 = .ok (.iload_n 1, 1) := by decide +kernel
theorem d_PA_isWithin_5 : decode c_PA_isWithin 5 = .ok (.aload_n 0, 1) := by decide +kernel
theorem d_PA_isWithin_6 : decode c_PA_isWithin 6 = .ok (.getfield 28, 3) := by decide +kernel
theorem d_PA_isWithin_9 : decode c_PA_isWithin 9 = .ok (.if_icmp .ge 27, 3) := by decide +kernel
theorem d_PA_isWithin_12 : decode c_PA_isWithin 12 = .ok (.aload_n 0, 1) := by decide +kernel
theorem d_PA_isWithin_13 : decode c_PA_isWithin 13 = .ok (.getfield 9, 3) := by decide +kernel
theorem d_PA_isWithin_16 : decode c_PA_isWithin 16 = .ok (.iload_n 1, 1) := by decide +kernel
theorem d_PA_isWithin_17 : decode c_PA_isWithin 17 = .ok (.iaload, 1) := by decide +kernel
theorem d_PA_isWithin_18 : decode c_PA_isWithin 18 = .ok (.iload_n 2, 1) := by decide +kernel
theorem d_PA_isWithin_19 : decode c_PA_isWithin 19 = .ok (.if_icmp .lt 17, 3) := by decide +kernel
theorem d_PA_isWithin_22 : decode c_PA_isWithin 22 = .ok (.aload_n 0, 1) := by decide +kernel
theorem d_PA_isWithin_23 : decode c_PA_isWithin 23 = .ok (.getfield 9, 3) := by decide +kernel
theorem d_PA_isWithin_26 : decode c_PA_isWithin 26 = .ok (.iload_n 1, 1) := by decide +kernel
theorem d_PA_isWithin_27 : decode c_PA_isWithin 27 = .ok (.iaload, 1) := by decide +kernel
theorem d_PA_isWithin_28 : decode c_PA_isWithin 28 = .ok (.iload_n 3, 1) := by decide +kernel
theorem d_PA_isWithin_29 : decode c_PA_isWithin 29 = .ok (.if_icmp .gt 7, 3) := by decide +kernel
theorem d_PA_isWithin_32 : decode c_PA_isWithin 32 = .ok (.iconst 1, 1) := by decide +kernel
theorem d_PA_isWithin_33 : decode c_PA_isWithin 33 = .ok (.goto 4, 3) := by decide +kernel
theorem d_PA_isWithin_36 : decode c_PA_isWithin 36 = .ok (.iconst 0, 1) := by decide +kernel
theorem d_PA_isWithin_37 : decode c_PA_isWithin 37 = .ok (.ireturn, 1) := by decide +kernel
theorem d_PA_faultAt_0 : decode c_PA_faultAt 0 = .ok (.bipush (-100), 2) := by decide +kernel
theorem d_PA_faultAt_2 : decode c_PA_faultAt 2 = .ok (.iload_n 0, 1) := by decide +kernel
theorem d_PA_faultAt_3 : decode c_PA_faultAt 3 = .ok (.isub, 1) := by decide +kernel
theorem d_PA_faultAt_4 : decode c_PA_faultAt 4 = .ok (.ireturn, 1) := by decide +kernel
theorem d_PA_readLabels_0 : decode c_PA_readLabels 0 = .ok (.aload_n 0, 1) := by decide +kernel
theorem d_PA_readLabels_1 : decode c_PA_readLabels 1 = .ok (.getfield 15, 3) := by decide +kernel
theorem d_PA_readLabels_4 : decode c_PA_readLabels 4 = .ok (.iload_n 1, 1) := by decide +kernel
theorem d_PA_readLabels_5 : decode c_PA_readLabels 5 = .ok (.iaload, 1) := by decide +kernel
theorem d_PA_readLabels_6 : decode c_PA_readLabels 6 = .ok (.ifCond .ne 7, 3) := by decide +kernel
theorem d_PA_readLabels_9 : decode c_PA_readLabels 9 = .ok (.iconst 1, 1) := by decide +kernel
theorem d_PA_readLabels_10 : decode c_PA_readLabels 10 = .ok (.goto 4, 3) := by decide +kernel
theorem d_PA_readLabels_13 : decode c_PA_readLabels 13 = .ok (.iconst 0, 1) := by decide +kernel
theorem d_PA_readLabels_14 : decode c_PA_readLabels 14 = .ok (.istore_n 3, 1) := by decide +kernel
theorem d_PA_readLabels_15 : decode c_PA_readLabels 15 = .ok (.aload_n 0, 1) := by decide +kernel
theorem d_PA_readLabels_16 : decode c_PA_readLabels 16 = .ok (.iload_n 2, 1) := by decide +kernel
theorem d_PA_readLabels_17 : decode c_PA_readLabels 17 = .ok (.iconst 0, 1) := by decide +kernel
theorem d_PA_readLabels_18 : decode c_PA_readLabels 18 = .ok (.iload_n 3, 1) := by decide +kernel
theorem d_PA_readLabels_19 : decode c_PA_readLabels 19 = .ok (.ifCond .eq 8, 3) := by decide +kernel
theorem d_PA_readLabels_22 : decode c_PA_readLabels 22 = .ok (.bipush 7, 2) := by decide +kernel
theorem d_PA_readLabels_24 : decode c_PA_readLabels 24 = .ok (.goto 6, 3) := by decide +kernel
theorem d_PA_readLabels_27 : decode c_PA_readLabels 27 = .ok (.sipush 255, 3) := by decide +kernel
theorem d_PA_readLabels_30 : decode c_PA_readLabels 30 = .ok (.invokevirtual 45, 3) := by decide +kernel
theorem d_PA_readLabels_33 : decode c_PA_readLabels 33 = .ok (.ifCond .ne 8, 3) := by decide +kernel
theorem d_PA_readLabels_36 : decode c_PA_readLabels 36 = .ok (.iload_n 2, 1) := by decide +kernel
theorem d_PA_readLabels_37 : decode c_PA_readLabels 37 = .ok (.invokestatic 41, 3) := by decide +kernel
theorem d_PA_readLabels_40 : decode c_PA_readLabels 40 = .ok (.ireturn, 1) := by decide +kernel
theorem d_PA_readLabels_41 : decode c_PA_readLabels 41 = .ok (.aload_n 0, 1) := by decide +kernel
theorem d_PA_readLabels_42 : decode c_PA_readLabels 42 = .ok (.getfield 9, 3) := by decide +kernel
theorem d_PA_readLabels_45 : decode c_PA_readLabels 45 = .ok (.iload_n 2, 1) := by decide +kernel
theorem d_PA_readLabels_46 : decode c_PA_readLabels 46 = .ok (.iaload, 1) := by decide +kernel
theorem d_PA_readLabels_47 : decode c_PA_readLabels 47 = .ok (.istore 4, 2) := by decide +kernel
theorem d_PA_readLabels_49 : decode c_PA_readLabels 49 = .ok (.aload_n 0, 1) := by decide +kernel
theorem d_PA_readLabels_50 : decode c_PA_readLabels 50 = .ok (.getfield 18, 3) := by decide +kernel
theorem d_PA_readLabels_53 : decode c_PA_readLabels 53 = .ok (.iload_n 1, 1) := by decide +kernel
theorem d_PA_readLabels_54 : decode c_PA_readLabels 54 = .ok (.iload_n 3, 1) := by decide +kernel
theorem d_PA_readLabels_55 : decode c_PA_readLabels 55 = .ok (.ifCond .eq 10, 3) := by decide +kernel
theorem d_PA_readLabels_58 : decode c_PA_readLabels 58 = .ok (.iconst 1, 1) := by decide +kernel
theorem d_PA_readLabels_59 : decode c_PA_readLabels 59 = .ok (.iload 4, 2) := by decide +kernel
theorem d_PA_readLabels_61 : decode c_PA_readLabels 61 = .ok (.ishl, 1) := by decide +kernel
theorem d_PA_readLabels_62 : decode c_PA_readLabels 62 = .ok (.goto 9, 3) := by decide +kernel
theorem d_PA_readLabels_65 : decode c_PA_readLabels 65 = .ok (.sipush 255, 3) := by decide +kernel
theorem d_PA_readLabels_68 : decode c_PA_readLabels 68 = .ok (.iload 4, 2) := by decide +kernel
theorem d_PA_readLabels_70 : decode c_PA_readLabels 70 = .ok (.isub, 1) := by decide +kernel
theorem d_PA_readLabels_71 : decode c_PA_readLabels 71 = .ok (.iastore, 1) := by decide +kernel
theorem d_PA_readLabels_72 : decode c_PA_readLabels 72 = .ok (.iload_n 2, 1) := by decide +kernel
theorem d_PA_readLabels_73 : decode c_PA_readLabels 73 = .ok (.iconst 1, 1) := by decide +kernel
theorem d_PA_readLabels_74 : decode c_PA_readLabels 74 = .ok (.iadd, 1) := by decide +kernel
theorem d_PA_readLabels_75 : decode c_PA_readLabels 75 = .ok (.ireturn, 1) := by decide +kernel
theorem d_PA_empty_0 : decode c_PA_empty 0 = .ok (.aload_n 0, 1) := by decide +kernel
theorem d_PA_empty_1 : decode c_PA_empty 1 = .ok (.getfield 28, 3) := by decide +kernel
theorem d_PA_empty_4 : decode c_PA_empty 4 = .ok (.istore_n 1, 1) := by decide +kernel
theorem d_PA_empty_5 : decode c_PA_empty 5 = .ok (.aload_n 0, 1) := by decide +kernel
theorem d_PA_empty_6 : decode c_PA_empty 6 = .ok (.iconst 0, 1) := by decide +kernel
theorem d_PA_empty_7 : decode c_PA_empty 7 = .ok (.putfield 28, 3) := by decide +kernel
theorem d_PA_empty_10 : decode c_PA_empty 10 = .ok (.aload_n 0, 1) := by decide +kernel
theorem d_PA_empty_11 : decode c_PA_empty 11 = .ok (.invokevirtual 31, 3) := by decide +kernel
theorem d_PA_empty_14 : decode c_PA_empty 14 = .ok (.iload_n 1, 1) := by decide +kernel
theorem d_PA_empty_15 : decode c_PA_empty 15 = .ok (.ireturn, 1) := by decide +kernel
theorem d_PA_isJust_0 : decode c_PA_isJust 0 = .ok (.aload_n 0, 1) := by decide +kernel
theorem d_PA_isJust_1 : decode c_PA_isJust 1 = .ok (.getfield 24, 3) := by decide +kernel
theorem d_PA_isJust_4 : decode c_PA_isJust 4 = .ok (.ifCond .ne 7, 3) := by decide +kernel
theorem d_PA_isJust_7 : decode c_PA_isJust 7 = .ok (.iconst 1, 1) := by decide +kernel
theorem d_PA_isJust_8 : decode c_PA_isJust 8 = .ok (.goto 4, 3) := by decide +kernel
theorem d_PA_isJust_11 : decode c_PA_isJust 11 = .ok (.iconst 0, 1) := by decide +kernel
theorem d_PA_isJust_12 : decode c_PA_isJust 12 = .ok (.ireturn, 1) := by decide +kernel
