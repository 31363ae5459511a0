/-! DECODE ROWS -/
theorem d_CN_init_0 : decode c_CN_init 0 = .ok (.aload_n 0, 1) := by decide +kernel
theorem d_CN_init_1 : decode c_CN_init 1 = .ok (.invokespecial 3, 3) := by decide +kernel
theorem d_CN_init_4 : decode c_CN_init 4 = .ok (.aload_n 0, 1) := by decide +kernel
theorem d_CN_init_5 : decode c_CN_init 5 = .ok (.bipush 64, 2) := by decide +kernel
theorem d_CN_init_7 : decode c_CN_init 7 = .ok (.newarray .long, 2) := by decide +kernel
theorem d_CN_init_9 : decode c_CN_init 9 = .ok (.putfield 9, 3) := by decide +kernel
theorem d_CN_init_12 : decode c_CN_init 12 = .ok (.aload_n 0, 1) := by decide +kernel
theorem d_CN_init_13 : decode c_CN_init 13 = .ok (.bipush 64, 2) := by decide +kernel
theorem d_CN_init_15 : decode c_CN_init 15 = .ok (.newarray .long, 2) := by decide +kernel
theorem d_CN_init_17 : decode c_CN_init 17 = .ok (.putfield 15, 3) := by decide +kernel
theorem d_CN_init_20 : decode c_CN_init 20 = .ok (.aload_n 0, 1) := by decide +kernel
theorem d_CN_init_21 : decode c_CN_init 21 = .ok (.bipush 12, 2) := by decide +kernel
theorem d_CN_init_23 : decode c_CN_init 23 = .ok (.bipush 64, 2) := by decide +kernel
theorem d_CN_init_25 : decode c_CN_init 25 = .ok (.multianewarray 18 2, 4) := by decide +kernel
theorem d_CN_init_29 : decode c_CN_init 29 = .ok (.putfield 20, 3) := by decide +kernel
theorem d_CN_init_32 : decode c_CN_init 32 = .ok (.aload_n 0, 1) := by decide +kernel
theorem d_CN_init_33 : decode c_CN_init 33 = .ok (.iconst (-1), 1) := by decide +kernel
theorem d_CN_init_34 : decode c_CN_init 34 = .ok (.putfield 23, 3) := by decide +kernel
theorem d_CN_init_37 : decode c_CN_init 37 = .ok (.aload_n 0, 1) := by decide +kernel
theorem d_CN_init_38 : decode c_CN_init 38 = .ok (.aload_n 1, 1) := by decide +kernel
theorem d_CN_init_39 : decode c_CN_init 39 = .ok (.putfield 27, 3) := by decide +kernel
theorem d_CN_init_42 : decode c_CN_init 42 = .ok (.aload_n 0, 1) := by decide +kernel
theorem d_CN_init_43 : decode c_CN_init 43 = .ok (.aload_n 2, 1) := by decide +kernel
theorem d_CN_init_44 : decode c_CN_init 44 = .ok (.putfield 31, 3) := by decide +kernel
theorem d_CN_init_47 : decode c_CN_init 47 = .ok (.aload_n 0, 1) := by decide +kernel
theorem d_CN_init_48 : decode c_CN_init 48 = .ok (.aload_n 3, 1) := by decide +kernel
theorem d_CN_init_49 : decode c_CN_init 49 = .ok (.putfield 35, 3) := by decide +kernel
theorem d_CN_init_52 : decode c_CN_init 52 = .ok (.return_, 1) := by decide +kernel
theorem d_CN_from_0 : decode c_CN_from 0 = .ok (.aload_n 0, 1) := by decide +kernel
theorem d_CN_from_1 : decode c_CN_from 1 = .ok (.getfield 23, 3) := by decide +kernel
theorem d_CN_from_4 : decode c_CN_from 4 = .ok (.iload_n 1, 1) := by decide +kernel
theorem d_CN_from_5 : decode c_CN_from 5 = .ok (.if_icmp .eq 61, 3) := by decide +kernel
theorem d_CN_from_8 : decode c_CN_from 8 = .ok (.iload_n 1, 1) := by decide +kernel
theorem d_CN_from_9 : decode c_CN_from 9 = .ok (.invokestatic 39, 3) := by decide +kernel
theorem d_CN_from_12 : decode c_CN_from 12 = .ok (.ifCond .eq 54, 3) := by decide +kernel
theorem d_CN_from_15 : decode c_CN_from 15 = .ok (.aload_n 0, 1) := by decide +kernel
theorem d_CN_from_16 : decode c_CN_from 16 = .ok (.getfield 35, 3) := by decide +kernel
theorem d_CN_from_19 : decode c_CN_from 19 = .ok (.invokevirtual 43, 3) := by decide +kernel
theorem d_CN_from_22 : decode c_CN_from 22 = .ok (.pop, 1) := by decide +kernel
theorem d_CN_from_23 : decode c_CN_from 23 = .ok (.aload_n 0, 1) := by decide +kernel
theorem d_CN_from_24 : decode c_CN_from 24 = .ok (.getfield 9, 3) := by decide +kernel
theorem d_CN_from_27 : decode c_CN_from 27 = .ok (.lconst 0, 1) := by decide +kernel
theorem d_CN_from_28 : decode c_CN_from 28 = .ok (.invokestatic 49, 3) := by decide +kernel
theorem d_CN_from_31 : decode c_CN_from 31 = .ok (.aload_n 0, 1) := by decide +kernel
theorem d_CN_from_32 : decode c_CN_from 32 = .ok (.getfield 15, 3) := by decide +kernel
theorem d_CN_from_35 : decode c_CN_from 35 = .ok (.lconst 0, 1) := by decide +kernel
theorem d_CN_from_36 : decode c_CN_from 36 = .ok (.invokestatic 49, 3) := by decide +kernel
theorem d_CN_from_39 : decode c_CN_from 39 = .ok (.aload_n 0, 1) := by decide +kernel
theorem d_CN_from_40 : decode c_CN_from 40 = .ok (.getfield 9, 3) := by decide +kernel
theorem d_CN_from_43 : decode c_CN_from 43 = .ok (.iload_n 1, 1) := by decide +kernel
theorem d_CN_from_44 : decode c_CN_from 44 = .ok (.lconst 1, 1) := by decide +kernel
theorem d_CN_from_45 : decode c_CN_from 45 = .ok (.lastore, 1) := by decide +kernel
theorem d_CN_from_46 : decode c_CN_from 46 = .ok (.aload_n 0, 1) := by decide +kernel
theorem d_CN_from_47 : decode c_CN_from 47 = .ok (.iconst 0, 1) := by decide +kernel
theorem d_CN_from_48 : decode c_CN_from 48 = .ok (.iconst 0, 1) := by decide +kernel
theorem d_CN_from_49 : decode c_CN_from 49 = .ok (.iconst 0, 1) := by decide +kernel
theorem d_CN_from_50 : decode c_CN_from 50 = .ok (.aload_n 0, 1) := by decide +kernel
theorem d_CN_from_51 : decode c_CN_from 51 = .ok (.getfield 9, 3) := by decide +kernel
theorem d_CN_from_54 : decode c_CN_from 54 = .ok (.aload_n 0, 1) := by decide +kernel
theorem d_CN_from_55 : decode c_CN_from 55 = .ok (.getfield 15, 3) := by decide +kernel
theorem d_CN_from_58 : decode c_CN_from 58 = .ok (.invokevirtual 55, 3) := by decide +kernel
theorem d_CN_from_61 : decode c_CN_from 61 = .ok (.aload_n 0, 1) := by decide +kernel
theorem d_CN_from_62 : decode c_CN_from 62 = .ok (.iload_n 1, 1) := by decide +kernel
theorem d_CN_from_63 : decode c_CN_from 63 = .ok (.putfield 23, 3) := by decide +kernel
theorem d_CN_from_66 : decode c_CN_from 66 = .ok (.aload_n 0, 1) := by decide +kernel
theorem d_CN_from_67 : decode c_CN_from 67 = .ok (.getfield 15, 3) := by decide +kernel
theorem d_CN_from_70 : decode c_CN_from 70 = .ok (.areturn, 1) := by decide +kernel
theorem d_CN_carry_0 : decode c_CN_carry 0 = .ok (.iload_n 3, 1) := by decide +kernel
theorem d_CN_carry_1 : decode c_CN_carry 1 = .ok (.bipush 12, 2) := by decide +kernel
theorem d_CN_carry_3 : decode c_CN_carry 3 = .ok (.if_icmp .ge 14, 3) := by decide +kernel
theorem d_CN_carry_6 : decode c_CN_carry 6 = .ok (.iload_n 1, 1) := by decide +kernel
theorem d_CN_carry_7 : decode c_CN_carry 7 = .ok (.aload_n 0, 1) := by decide +kernel
theorem d_CN_carry_8 : decode c_CN_carry 8 = .ok (.getfield 31, 3) := by decide +kernel
theorem d_CN_carry_11 : decode c_CN_carry 11 = .ok (.getfield 59, 3) := by decide +kernel
theorem d_CN_carry_14 : decode c_CN_carry 14 = .ok (.if_icmp .lt 4, 3) := by decide +kernel
theorem d_CN_carry_17 : decode c_CN_carry 17 = .ok (.return_, 1) := by decide +kernel
theorem d_CN_carry_18 : decode c_CN_carry 18 = .ok (.aload_n 0, 1) := by decide +kernel
theorem d_CN_carry_19 : decode c_CN_carry 19 = .ok (.getfield 31, 3) := by decide +kernel
theorem d_CN_carry_22 : decode c_CN_carry 22 = .ok (.getfield 64, 3) := by decide +kernel
theorem d_CN_carry_25 : decode c_CN_carry 25 = .ok (.iload_n 1, 1) := by decide +kernel
theorem d_CN_carry_26 : decode c_CN_carry 26 = .ok (.iaload, 1) := by decide +kernel
theorem d_CN_carry_27 : decode c_CN_carry 27 = .ok (.tableswitch 145 0 7 #[45, 66, 92, 106, 145, 145, 145, 45], 45) := by decide +kernel
theorem d_CN_carry_72 : decode c_CN_carry 72 = .ok (.aload_n 0, 1) := by decide +kernel
theorem d_CN_carry_73 : decode c_CN_carry 73 = .ok (.aload_n 0, 1) := by decide +kernel
theorem d_CN_carry_74 : decode c_CN_carry 74 = .ok (.getfield 31, 3) := by decide +kernel
theorem d_CN_carry_77 : decode c_CN_carry 77 = .ok (.getfield 68, 3) := by decide +kernel
theorem d_CN_carry_80 : decode c_CN_carry 80 = .ok (.iload_n 1, 1) := by decide +kernel
theorem d_CN_carry_81 : decode c_CN_carry 81 = .ok (.iaload, 1) := by decide +kernel
theorem d_CN_carry_82 : decode c_CN_carry 82 = .ok (.iload_n 2, 1) := by decide +kernel
theorem d_CN_carry_83 : decode c_CN_carry 83 = .ok (.aload 4, 2) := by decide +kernel
theorem d_CN_carry_85 : decode c_CN_carry 85 = .ok (.aload 5, 2) := by decide +kernel
theorem d_CN_carry_87 : decode c_CN_carry 87 = .ok (.invokevirtual 71, 3) := by decide +kernel
theorem d_CN_carry_90 : decode c_CN_carry 90 = .ok (.goto 99, 3) := by decide +kernel
theorem d_CN_carry_93 : decode c_CN_carry 93 = .ok (.aload_n 0, 1) := by decide +kernel
theorem d_CN_carry_94 : decode c_CN_carry 94 = .ok (.iload_n 1, 1) := by decide +kernel
theorem d_CN_carry_95 : decode c_CN_carry 95 = .ok (.iconst 1, 1) := by decide +kernel
theorem d_CN_carry_96 : decode c_CN_carry 96 = .ok (.iadd, 1) := by decide +kernel
theorem d_CN_carry_97 : decode c_CN_carry 97 = .ok (.iload_n 2, 1) := by decide +kernel
theorem d_CN_carry_98 : decode c_CN_carry 98 = .ok (.ifCond .ne 7, 3) := by decide +kernel
theorem d_CN_carry_101 : decode c_CN_carry 101 = .ok (.iconst 1, 1) := by decide +kernel
theorem d_CN_carry_102 : decode c_CN_carry 102 = .ok (.goto 4, 3) := by decide +kernel
theorem d_CN_carry_105 : decode c_CN_carry 105 = .ok (.iconst 0, 1) := by decide +kernel
theorem d_CN_carry_106 : decode c_CN_carry 106 = .ok (.iload_n 3, 1) := by decide +kernel
theorem d_CN_carry_107 : decode c_CN_carry 107 = .ok (.iconst 1, 1) := by decide +kernel
theorem d_CN_carry_108 : decode c_CN_carry 108 = .ok (.iadd, 1) := by decide +kernel
theorem d_CN_carry_109 : decode c_CN_carry 109 = .ok (.aload 4, 2) := by decide +kernel
theorem d_CN_carry_111 : decode c_CN_carry 111 = .ok (.aload 5, 2) := by decide +kernel
theorem d_CN_carry_113 : decode c_CN_carry 113 = .ok (.invokevirtual 55, 3) := by decide +kernel
theorem d_CN_carry_116 : decode c_CN_carry 116 = .ok (.goto 73, 3) := by decide +kernel
theorem d_CN_carry_119 : decode c_CN_carry 119 = .ok (.aload_n 0, 1) := by decide +kernel
theorem d_CN_carry_120 : decode c_CN_carry 120 = .ok (.iload_n 1, 1) := by decide +kernel
theorem d_CN_carry_121 : decode c_CN_carry 121 = .ok (.iload_n 2, 1) := by decide +kernel
theorem d_CN_carry_122 : decode c_CN_carry 122 = .ok (.iload_n 3, 1) := by decide +kernel
theorem d_CN_carry_123 : decode c_CN_carry 123 = .ok (.aload 4, 2) := by decide +kernel
theorem d_CN_carry_125 : decode c_CN_carry 125 = .ok (.aload 5, 2) := by decide +kernel
theorem d_CN_carry_127 : decode c_CN_carry 127 = .ok (.invokevirtual 75, 3) := by decide +kernel
theorem d_CN_carry_130 : decode c_CN_carry 130 = .ok (.goto 59, 3) := by decide +kernel
theorem d_CN_carry_133 : decode c_CN_carry 133 = .ok (.aload_n 0, 1) := by decide +kernel
theorem d_CN_carry_134 : decode c_CN_carry 134 = .ok (.iload_n 1, 1) := by decide +kernel
theorem d_CN_carry_135 : decode c_CN_carry 135 = .ok (.iconst 1, 1) := by decide +kernel
theorem d_CN_carry_136 : decode c_CN_carry 136 = .ok (.iadd, 1) := by decide +kernel
theorem d_CN_carry_137 : decode c_CN_carry 137 = .ok (.iload_n 2, 1) := by decide +kernel
theorem d_CN_carry_138 : decode c_CN_carry 138 = .ok (.iload_n 3, 1) := by decide +kernel
theorem d_CN_carry_139 : decode c_CN_carry 139 = .ok (.iconst 1, 1) := by decide +kernel
theorem d_CN_carry_140 : decode c_CN_carry 140 = .ok (.iadd, 1) := by decide +kernel
theorem d_CN_carry_141 : decode c_CN_carry 141 = .ok (.aload 4, 2) := by decide +kernel
theorem d_CN_carry_143 : decode c_CN_carry 143 = .ok (.aload 5, 2) := by decide +kernel
theorem d_CN_carry_145 : decode c_CN_carry 145 = .ok (.invokevirtual 55, 3) := by decide +kernel
theorem d_CN_carry_148 : decode c_CN_carry 148 = .ok (.aload_n 0, 1) := by decide +kernel
theorem d_CN_carry_149 : decode c_CN_carry 149 = .ok (.aload_n 0, 1) := by decide +kernel
theorem d_CN_carry_150 : decode c_CN_carry 150 = .ok (.getfield 31, 3) := by decide +kernel
theorem d_CN_carry_153 : decode c_CN_carry 153 = .ok (.getfield 78, 3) := by decide +kernel
theorem d_CN_carry_156 : decode c_CN_carry 156 = .ok (.iload_n 1, 1) := by decide +kernel
theorem d_CN_carry_157 : decode c_CN_carry 157 = .ok (.iaload, 1) := by decide +kernel
theorem d_CN_carry_158 : decode c_CN_carry 158 = .ok (.iload_n 2, 1) := by decide +kernel
theorem d_CN_carry_159 : decode c_CN_carry 159 = .ok (.iload_n 3, 1) := by decide +kernel
theorem d_CN_carry_160 : decode c_CN_carry 160 = .ok (.iconst 1, 1) := by decide +kernel
theorem d_CN_carry_161 : decode c_CN_carry 161 = .ok (.iadd, 1) := by decide +kernel
theorem d_CN_carry_162 : decode c_CN_carry 162 = .ok (.aload 4, 2) := by decide +kernel
theorem d_CN_carry_164 : decode c_CN_carry 164 = .ok (.aload 5, 2) := by decide +kernel
theorem d_CN_carry_166 : decode c_CN_carry 166 = .ok (.invokevirtual 55, 3) := by decide +kernel
theorem d_CN_carry_169 : decode c_CN_carry 169 = .ok (.goto 20, 3) := by decide +kernel
theorem d_CN_carry_172 : decode c_CN_carry 172 = .ok (.aload_n 0, 1) := by decide +kernel
theorem d_CN_carry_173 : decode c_CN_carry 173 = .ok (.getfield 35, 3) := by decide +kernel
theorem d_CN_carry_176 : decode c_CN_carry 176 = .ok (.getfield 81, 3) := by decide +kernel
theorem d_CN_carry_179 : decode c_CN_carry 179 = .ok (.iload_n 1, 1) := by decide +kernel
theorem d_CN_carry_180 : decode c_CN_carry 180 = .ok (.aaload, 1) := by decide +kernel
theorem d_CN_carry_181 : decode c_CN_carry 181 = .ok (.iload_n 2, 1) := by decide +kernel
theorem d_CN_carry_182 : decode c_CN_carry 182 = .ok (.aload 4, 2) := by decide +kernel
theorem d_CN_carry_184 : decode c_CN_carry 184 = .ok (.aload 5, 2) := by decide +kernel
theorem d_CN_carry_186 : decode c_CN_carry 186 = .ok (.invokestatic 84, 3) := by decide +kernel
theorem d_CN_carry_189 : decode c_CN_carry 189 = .ok (.return_, 1) := by decide +kernel
theorem d_CN_carryOverEdges_0 : decode c_CN_carryOverEdges 0 = .ok (.iconst 0, 1) := by decide +kernel
theorem d_CN_carryOverEdges_1 : decode c_CN_carryOverEdges 1 = .ok (.istore 5, 2) := by decide +kernel
theorem d_CN_carryOverEdges_3 : decode c_CN_carryOverEdges 3 = .ok (.iload 5, 2) := by decide +kernel
theorem d_CN_carryOverEdges_5 : decode c_CN_carryOverEdges 5 = .ok (.bipush 8, 2) := by decide +kernel
theorem d_CN_carryOverEdges_7 : decode c_CN_carryOverEdges 7 = .ok (.if_icmp .ge 36, 3) := by decide +kernel
theorem d_CN_carryOverEdges_10 : decode c_CN_carryOverEdges 10 = .ok (.iload_n 1, 1) := by decide +kernel
theorem d_CN_carryOverEdges_11 : decode c_CN_carryOverEdges 11 = .ok (.i2l, 1) := by decide +kernel
theorem d_CN_carryOverEdges_12 : decode c_CN_carryOverEdges 12 = .ok (.iload 5, 2) := by decide +kernel
theorem d_CN_carryOverEdges_14 : decode c_CN_carryOverEdges 14 = .ok (.invokestatic 88, 3) := by decide +kernel
theorem d_CN_carryOverEdges_17 : decode c_CN_carryOverEdges 17 = .ok (.ifCond .eq 20, 3) := by decide +kernel
theorem d_CN_carryOverEdges_20 : decode c_CN_carryOverEdges 20 = .ok (.aload_n 0, 1) := by decide +kernel
theorem d_CN_carryOverEdges_21 : decode c_CN_carryOverEdges 21 = .ok (.getfield 27, 3) := by decide +kernel
theorem d_CN_carryOverEdges_24 : decode c_CN_carryOverEdges 24 = .ok (.getfield 92, 3) := by decide +kernel
theorem d_CN_carryOverEdges_27 : decode c_CN_carryOverEdges 27 = .ok (.iload 5, 2) := by decide +kernel
theorem d_CN_carryOverEdges_29 : decode c_CN_carryOverEdges 29 = .ok (.aaload, 1) := by decide +kernel
theorem d_CN_carryOverEdges_30 : decode c_CN_carryOverEdges 30 = .ok (.iload_n 2, 1) := by decide +kernel
theorem d_CN_carryOverEdges_31 : decode c_CN_carryOverEdges 31 = .ok (.aload_n 3, 1) := by decide +kernel
theorem d_CN_carryOverEdges_32 : decode c_CN_carryOverEdges 32 = .ok (.aload 4, 2) := by decide +kernel
theorem d_CN_carryOverEdges_34 : decode c_CN_carryOverEdges 34 = .ok (.invokestatic 84, 3) := by decide +kernel
theorem d_CN_carryOverEdges_37 : decode c_CN_carryOverEdges 37 = .ok (.iinc 5 1, 3) := by decide +kernel
theorem d_CN_carryOverEdges_40 : decode c_CN_carryOverEdges 40 = .ok (.goto (-37), 3) := by decide +kernel
theorem d_CN_carryOverEdges_43 : decode c_CN_carryOverEdges 43 = .ok (.return_, 1) := by decide +kernel
theorem d_CN_carryOver_0 : decode c_CN_carryOver 0 = .ok (.iconst 0, 1) := by decide +kernel
theorem d_CN_carryOver_1 : decode c_CN_carryOver 1 = .ok (.istore 4, 2) := by decide +kernel
theorem d_CN_carryOver_3 : decode c_CN_carryOver 3 = .ok (.iload 4, 2) := by decide +kernel
theorem d_CN_carryOver_5 : decode c_CN_carryOver 5 = .ok (.bipush 64, 2) := by decide +kernel
theorem d_CN_carryOver_7 : decode c_CN_carryOver 7 = .ok (.if_icmp .ge 56, 3) := by decide +kernel
theorem d_CN_carryOver_10 : decode c_CN_carryOver 10 = .ok (.iload_n 1, 1) := by decide +kernel
theorem d_CN_carryOver_11 : decode c_CN_carryOver 11 = .ok (.ifCond .eq 25, 3) := by decide +kernel
theorem d_CN_carryOver_14 : decode c_CN_carryOver 14 = .ok (.aload_n 3, 1) := by decide +kernel
theorem d_CN_carryOver_15 : decode c_CN_carryOver 15 = .ok (.iload 4, 2) := by decide +kernel
theorem d_CN_carryOver_17 : decode c_CN_carryOver 17 = .ok (.aload_n 3, 1) := by decide +kernel
theorem d_CN_carryOver_18 : decode c_CN_carryOver 18 = .ok (.iload 4, 2) := by decide +kernel
theorem d_CN_carryOver_20 : decode c_CN_carryOver 20 = .ok (.laload, 1) := by decide +kernel
theorem d_CN_carryOver_21 : decode c_CN_carryOver 21 = .ok (.aload_n 0, 1) := by decide +kernel
theorem d_CN_carryOver_22 : decode c_CN_carryOver 22 = .ok (.iload 4, 2) := by decide +kernel
theorem d_CN_carryOver_24 : decode c_CN_carryOver 24 = .ok (.laload, 1) := by decide +kernel
theorem d_CN_carryOver_25 : decode c_CN_carryOver 25 = .ok (.aload_n 2, 1) := by decide +kernel
theorem d_CN_carryOver_26 : decode c_CN_carryOver 26 = .ok (.invokestatic 97, 3) := by decide +kernel
theorem d_CN_carryOver_29 : decode c_CN_carryOver 29 = .ok (.invokestatic 101, 3) := by decide +kernel
theorem d_CN_carryOver_32 : decode c_CN_carryOver 32 = .ok (.lastore, 1) := by decide +kernel
theorem d_CN_carryOver_33 : decode c_CN_carryOver 33 = .ok (.goto 24, 3) := by decide +kernel
theorem d_CN_carryOver_36 : decode c_CN_carryOver 36 = .ok (.aload_n 2, 1) := by decide +kernel
theorem d_CN_carryOver_37 : decode c_CN_carryOver 37 = .ok (.iload 4, 2) := by decide +kernel
theorem d_CN_carryOver_39 : decode c_CN_carryOver 39 = .ok (.laload, 1) := by decide +kernel
theorem d_CN_carryOver_40 : decode c_CN_carryOver 40 = .ok (.lconst 0, 1) := by decide +kernel
theorem d_CN_carryOver_41 : decode c_CN_carryOver 41 = .ok (.lcmp, 1) := by decide +kernel
theorem d_CN_carryOver_42 : decode c_CN_carryOver 42 = .ok (.ifCond .eq 15, 3) := by decide +kernel
theorem d_CN_carryOver_45 : decode c_CN_carryOver 45 = .ok (.aload_n 0, 1) := by decide +kernel
theorem d_CN_carryOver_46 : decode c_CN_carryOver 46 = .ok (.iload 4, 2) := by decide +kernel
theorem d_CN_carryOver_48 : decode c_CN_carryOver 48 = .ok (.laload, 1) := by decide +kernel
theorem d_CN_carryOver_49 : decode c_CN_carryOver 49 = .ok (.aload_n 2, 1) := by decide +kernel
theorem d_CN_carryOver_50 : decode c_CN_carryOver 50 = .ok (.iload 4, 2) := by decide +kernel
theorem d_CN_carryOver_52 : decode c_CN_carryOver 52 = .ok (.laload, 1) := by decide +kernel
theorem d_CN_carryOver_53 : decode c_CN_carryOver 53 = .ok (.aload_n 3, 1) := by decide +kernel
theorem d_CN_carryOver_54 : decode c_CN_carryOver 54 = .ok (.invokestatic 105, 3) := by decide +kernel
theorem d_CN_carryOver_57 : decode c_CN_carryOver 57 = .ok (.iinc 4 1, 3) := by decide +kernel
theorem d_CN_carryOver_60 : decode c_CN_carryOver 60 = .ok (.goto (-57), 3) := by decide +kernel
theorem d_CN_carryOver_63 : decode c_CN_carryOver 63 = .ok (.return_, 1) := by decide +kernel
theorem d_CN_gather_0 : decode c_CN_gather 0 = .ok (.lconst 0, 1) := by decide +kernel
theorem d_CN_gather_1 : decode c_CN_gather 1 = .ok (.lstore_n 3, 1) := by decide +kernel
theorem d_CN_gather_2 : decode c_CN_gather 2 = .ok (.lload_n 0, 1) := by decide +kernel
theorem d_CN_gather_3 : decode c_CN_gather 3 = .ok (.lstore 5, 2) := by decide +kernel
theorem d_CN_gather_5 : decode c_CN_gather 5 = .ok (.iconst 0, 1) := by decide +kernel
theorem d_CN_gather_6 : decode c_CN_gather 6 = .ok (.istore 7, 2) := by decide +kernel
theorem d_CN_gather_8 : decode c_CN_gather 8 = .ok (.iload 7, 2) := by decide +kernel
theorem d_CN_gather_10 : decode c_CN_gather 10 = .ok (.bipush 64, 2) := by decide +kernel
theorem d_CN_gather_12 : decode c_CN_gather 12 = .ok (.if_icmp .ge 37, 3) := by decide +kernel
theorem d_CN_gather_15 : decode c_CN_gather 15 = .ok (.lload 5, 2) := by decide +kernel
theorem d_CN_gather_17 : decode c_CN_gather 17 = .ok (.lconst 0, 1) := by decide +kernel
theorem d_CN_gather_18 : decode c_CN_gather 18 = .ok (.lcmp, 1) := by decide +kernel
theorem d_CN_gather_19 : decode c_CN_gather 19 = .ok (.ifCond .eq 30, 3) := by decide +kernel
theorem d_CN_gather_22 : decode c_CN_gather 22 = .ok (.lload_n 3, 1) := by decide +kernel
theorem d_CN_gather_23 : decode c_CN_gather 23 = .ok (.aload_n 2, 1) := by decide +kernel
theorem d_CN_gather_24 : decode c_CN_gather 24 = .ok (.lload 5, 2) := by decide +kernel
theorem d_CN_gather_26 : decode c_CN_gather 26 = .ok (.invokestatic 109, 3) := by decide +kernel
theorem d_CN_gather_29 : decode c_CN_gather 29 = .ok (.laload, 1) := by decide +kernel
theorem d_CN_gather_30 : decode c_CN_gather 30 = .ok (.invokestatic 101, 3) := by decide +kernel
theorem d_CN_gather_33 : decode c_CN_gather 33 = .ok (.lstore_n 3, 1) := by decide +kernel
theorem d_CN_gather_34 : decode c_CN_gather 34 = .ok (.lload 5, 2) := by decide +kernel
theorem d_CN_gather_36 : decode c_CN_gather 36 = .ok (.lload 5, 2) := by decide +kernel
theorem d_CN_gather_38 : decode c_CN_gather 38 = .ok (.lconst 1, 1) := by decide +kernel
theorem d_CN_gather_39 : decode c_CN_gather 39 = .ok (.lsub, 1) := by decide +kernel
theorem d_CN_gather_40 : decode c_CN_gather 40 = .ok (.land, 1) := by decide +kernel
theorem d_CN_gather_41 : decode c_CN_gather 41 = .ok (.lstore 5, 2) := by decide +kernel
theorem d_CN_gather_43 : decode c_CN_gather 43 = .ok (.iinc 7 1, 3) := by decide +kernel
theorem d_CN_gather_46 : decode c_CN_gather 46 = .ok (.goto (-38), 3) := by decide +kernel
theorem d_CN_gather_49 : decode c_CN_gather 49 = .ok (.lload_n 3, 1) := by decide +kernel
theorem d_CN_gather_50 : decode c_CN_gather 50 = .ok (.lreturn, 1) := by decide +kernel
theorem d_CN_spread_0 : decode c_CN_spread 0 = .ok (.lload_n 0, 1) := by decide +kernel
theorem d_CN_spread_1 : decode c_CN_spread 1 = .ok (.lstore 5, 2) := by decide +kernel
theorem d_CN_spread_3 : decode c_CN_spread 3 = .ok (.iconst 0, 1) := by decide +kernel
theorem d_CN_spread_4 : decode c_CN_spread 4 = .ok (.istore 7, 2) := by decide +kernel
theorem d_CN_spread_6 : decode c_CN_spread 6 = .ok (.iload 7, 2) := by decide +kernel
theorem d_CN_spread_8 : decode c_CN_spread 8 = .ok (.bipush 64, 2) := by decide +kernel
theorem d_CN_spread_10 : decode c_CN_spread 10 = .ok (.if_icmp .ge 46, 3) := by decide +kernel
theorem d_CN_spread_13 : decode c_CN_spread 13 = .ok (.lload 5, 2) := by decide +kernel
theorem d_CN_spread_15 : decode c_CN_spread 15 = .ok (.lconst 0, 1) := by decide +kernel
theorem d_CN_spread_16 : decode c_CN_spread 16 = .ok (.lcmp, 1) := by decide +kernel
theorem d_CN_spread_17 : decode c_CN_spread 17 = .ok (.ifCond .eq 39, 3) := by decide +kernel
theorem d_CN_spread_20 : decode c_CN_spread 20 = .ok (.lload 5, 2) := by decide +kernel
theorem d_CN_spread_22 : decode c_CN_spread 22 = .ok (.invokestatic 109, 3) := by decide +kernel
theorem d_CN_spread_25 : decode c_CN_spread 25 = .ok (.istore 8, 2) := by decide +kernel
theorem d_CN_spread_27 : decode c_CN_spread 27 = .ok (.aload 4, 2) := by decide +kernel
theorem d_CN_spread_29 : decode c_CN_spread 29 = .ok (.iload 8, 2) := by decide +kernel
theorem d_CN_spread_31 : decode c_CN_spread 31 = .ok (.aload 4, 2) := by decide +kernel
theorem d_CN_spread_33 : decode c_CN_spread 33 = .ok (.iload 8, 2) := by decide +kernel
theorem d_CN_spread_35 : decode c_CN_spread 35 = .ok (.laload, 1) := by decide +kernel
theorem d_CN_spread_36 : decode c_CN_spread 36 = .ok (.lload_n 2, 1) := by decide +kernel
theorem d_CN_spread_37 : decode c_CN_spread 37 = .ok (.invokestatic 101, 3) := by decide +kernel
theorem d_CN_spread_40 : decode c_CN_spread 40 = .ok (.lastore, 1) := by decide +kernel
theorem d_CN_spread_41 : decode c_CN_spread 41 = .ok (.lload 5, 2) := by decide +kernel
theorem d_CN_spread_43 : decode c_CN_spread 43 = .ok (.lload 5, 2) := by decide +kernel
theorem d_CN_spread_45 : decode c_CN_spread 45 = .ok (.lconst 1, 1) := by decide +kernel
theorem d_CN_spread_46 : decode c_CN_spread 46 = .ok (.lsub, 1) := by decide +kernel
theorem d_CN_spread_47 : decode c_CN_spread 47 = .ok (.land, 1) := by decide +kernel
theorem d_CN_spread_48 : decode c_CN_spread 48 = .ok (.lstore 5, 2) := by decide +kernel
theorem d_CN_spread_50 : decode c_CN_spread 50 = .ok (.iinc 7 1, 3) := by decide +kernel
theorem d_CN_spread_53 : decode c_CN_spread 53 = .ok (.goto (-47), 3) := by decide +kernel
theorem d_CN_spread_56 : decode c_CN_spread 56 = .ok (.return_, 1) := by decide +kernel
theorem d_CN_carryOverBoth_0 : decode c_CN_carryOverBoth 0 = .ok (.iload_n 1, 1) := by decide +kernel
theorem d_CN_carryOverBoth_1 : decode c_CN_carryOverBoth 1 = .ok (.iconst 1, 1) := by decide +kernel
theorem d_CN_carryOverBoth_2 : decode c_CN_carryOverBoth 2 = .ok (.iadd, 1) := by decide +kernel
theorem d_CN_carryOverBoth_3 : decode c_CN_carryOverBoth 3 = .ok (.istore 6, 2) := by decide +kernel
theorem d_CN_carryOverBoth_5 : decode c_CN_carryOverBoth 5 = .ok (.aload_n 0, 1) := by decide +kernel
theorem d_CN_carryOverBoth_6 : decode c_CN_carryOverBoth 6 = .ok (.getfield 31, 3) := by decide +kernel
theorem d_CN_carryOverBoth_9 : decode c_CN_carryOverBoth 9 = .ok (.getfield 78, 3) := by decide +kernel
theorem d_CN_carryOverBoth_12 : decode c_CN_carryOverBoth 12 = .ok (.iload_n 1, 1) := by decide +kernel
theorem d_CN_carryOverBoth_13 : decode c_CN_carryOverBoth 13 = .ok (.iaload, 1) := by decide +kernel
theorem d_CN_carryOverBoth_14 : decode c_CN_carryOverBoth 14 = .ok (.istore 7, 2) := by decide +kernel
theorem d_CN_carryOverBoth_16 : decode c_CN_carryOverBoth 16 = .ok (.aload_n 0, 1) := by decide +kernel
theorem d_CN_carryOverBoth_17 : decode c_CN_carryOverBoth 17 = .ok (.getfield 20, 3) := by decide +kernel
theorem d_CN_carryOverBoth_20 : decode c_CN_carryOverBoth 20 = .ok (.iload_n 3, 1) := by decide +kernel
theorem d_CN_carryOverBoth_21 : decode c_CN_carryOverBoth 21 = .ok (.aaload, 1) := by decide +kernel
theorem d_CN_carryOverBoth_22 : decode c_CN_carryOverBoth 22 = .ok (.astore 8, 2) := by decide +kernel
theorem d_CN_carryOverBoth_24 : decode c_CN_carryOverBoth 24 = .ok (.aload 8, 2) := by decide +kernel
theorem d_CN_carryOverBoth_26 : decode c_CN_carryOverBoth 26 = .ok (.lconst 0, 1) := by decide +kernel
theorem d_CN_carryOverBoth_27 : decode c_CN_carryOverBoth 27 = .ok (.invokestatic 49, 3) := by decide +kernel
theorem d_CN_carryOverBoth_30 : decode c_CN_carryOverBoth 30 = .ok (.aload_n 0, 1) := by decide +kernel
theorem d_CN_carryOverBoth_31 : decode c_CN_carryOverBoth 31 = .ok (.iload_n 2, 1) := by decide +kernel
theorem d_CN_carryOverBoth_32 : decode c_CN_carryOverBoth 32 = .ok (.ifCond .eq 8, 3) := by decide +kernel
theorem d_CN_carryOverBoth_35 : decode c_CN_carryOverBoth 35 = .ok (.iload 7, 2) := by decide +kernel
theorem d_CN_carryOverBoth_37 : decode c_CN_carryOverBoth 37 = .ok (.goto 5, 3) := by decide +kernel
theorem d_CN_carryOverBoth_40 : decode c_CN_carryOverBoth 40 = .ok (.iload 6, 2) := by decide +kernel
theorem d_CN_carryOverBoth_42 : decode c_CN_carryOverBoth 42 = .ok (.iload_n 2, 1) := by decide +kernel
theorem d_CN_carryOverBoth_43 : decode c_CN_carryOverBoth 43 = .ok (.iload_n 3, 1) := by decide +kernel
theorem d_CN_carryOverBoth_44 : decode c_CN_carryOverBoth 44 = .ok (.iconst 1, 1) := by decide +kernel
theorem d_CN_carryOverBoth_45 : decode c_CN_carryOverBoth 45 = .ok (.iadd, 1) := by decide +kernel
theorem d_CN_carryOverBoth_46 : decode c_CN_carryOverBoth 46 = .ok (.aload 4, 2) := by decide +kernel
theorem d_CN_carryOverBoth_48 : decode c_CN_carryOverBoth 48 = .ok (.aload 8, 2) := by decide +kernel
theorem d_CN_carryOverBoth_50 : decode c_CN_carryOverBoth 50 = .ok (.invokevirtual 55, 3) := by decide +kernel
theorem d_CN_carryOverBoth_53 : decode c_CN_carryOverBoth 53 = .ok (.aload_n 0, 1) := by decide +kernel
theorem d_CN_carryOverBoth_54 : decode c_CN_carryOverBoth 54 = .ok (.iload_n 2, 1) := by decide +kernel
theorem d_CN_carryOverBoth_55 : decode c_CN_carryOverBoth 55 = .ok (.ifCond .eq 8, 3) := by decide +kernel
theorem d_CN_carryOverBoth_58 : decode c_CN_carryOverBoth 58 = .ok (.iload 6, 2) := by decide +kernel
theorem d_CN_carryOverBoth_60 : decode c_CN_carryOverBoth 60 = .ok (.goto 5, 3) := by decide +kernel
theorem d_CN_carryOverBoth_63 : decode c_CN_carryOverBoth 63 = .ok (.iload 7, 2) := by decide +kernel
theorem d_CN_carryOverBoth_65 : decode c_CN_carryOverBoth 65 = .ok (.iload_n 2, 1) := by decide +kernel
theorem d_CN_carryOverBoth_66 : decode c_CN_carryOverBoth 66 = .ok (.iload_n 3, 1) := by decide +kernel
theorem d_CN_carryOverBoth_67 : decode c_CN_carryOverBoth 67 = .ok (.iconst 1, 1) := by decide +kernel
theorem d_CN_carryOverBoth_68 : decode c_CN_carryOverBoth 68 = .ok (.iadd, 1) := by decide +kernel
theorem d_CN_carryOverBoth_69 : decode c_CN_carryOverBoth 69 = .ok (.aload 8, 2) := by decide +kernel
theorem d_CN_carryOverBoth_71 : decode c_CN_carryOverBoth 71 = .ok (.aload 5, 2) := by decide +kernel
theorem d_CN_carryOverBoth_73 : decode c_CN_carryOverBoth 73 = .ok (.invokevirtual 55, 3) := by decide +kernel
theorem d_CN_carryOverBoth_76 : decode c_CN_carryOverBoth 76 = .ok (.return_, 1) := by decide +kernel
