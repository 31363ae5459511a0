/-! DECODE ROWS -/
theorem d_AR_fill_0 : decode c_AR_fill 0 = .ok (.iconst 0, 1) := by decide +kernel
theorem d_AR_fill_1 : decode c_AR_fill 1 = .ok (.istore_n 3, 1) := by decide +kernel
theorem d_AR_fill_2 : decode c_AR_fill 2 = .ok (.aload_n 0, 1) := by decide +kernel
theorem d_AR_fill_3 : decode c_AR_fill 3 = .ok (.arraylength, 1) := by decide +kernel
theorem d_AR_fill_4 : decode c_AR_fill 4 = .ok (.istore 4, 2) := by decide +kernel
theorem d_AR_fill_6 : decode c_AR_fill 6 = .ok (.iload_n 3, 1) := by decide +kernel
theorem d_AR_fill_7 : decode c_AR_fill 7 = .ok (.iload 4, 2) := by decide +kernel
theorem d_AR_fill_9 : decode c_AR_fill 9 = .ok (.if_icmp .ge 13, 3) := by decide +kernel
theorem d_AR_fill_12 : decode c_AR_fill 12 = .ok (.aload_n 0, 1) := by decide +kernel
theorem d_AR_fill_13 : decode c_AR_fill 13 = .ok (.iload_n 3, 1) := by decide +kernel
theorem d_AR_fill_14 : decode c_AR_fill 14 = .ok (.lload_n 1, 1) := by decide +kernel
theorem d_AR_fill_15 : decode c_AR_fill 15 = .ok (.lastore, 1) := by decide +kernel
theorem d_AR_fill_16 : decode c_AR_fill 16 = .ok (.iinc 3 1, 3) := by decide +kernel
theorem d_AR_fill_19 : decode c_AR_fill 19 = .ok (.goto (-13), 3) := by decide +kernel
theorem d_AR_fill_22 : decode c_AR_fill 22 = .ok (.return_, 1) := by decide +kernel
theorem d_LO_ntz_0 : decode c_LO_ntz 0 = .ok (.lload_n 0, 1) := by decide +kernel
theorem d_LO_ntz_1 : decode c_LO_ntz 1 = .ok (.l2i, 1) := by decide +kernel
theorem d_LO_ntz_2 : decode c_LO_ntz 2 = .ok (.istore_n 2, 1) := by decide +kernel
theorem d_LO_ntz_3 : decode c_LO_ntz 3 = .ok (.iload_n 2, 1) := by decide +kernel
theorem d_LO_ntz_4 : decode c_LO_ntz 4 = .ok (.ifCond .ne 17, 3) := by decide +kernel
theorem d_LO_ntz_7 : decode c_LO_ntz 7 = .ok (.bipush 32, 2) := by decide +kernel
theorem d_LO_ntz_9 : decode c_LO_ntz 9 = .ok (.lload_n 0, 1) := by decide +kernel
theorem d_LO_ntz_10 : decode c_LO_ntz 10 = .ok (.bipush 32, 2) := by decide +kernel
theorem d_LO_ntz_12 : decode c_LO_ntz 12 = .ok (.lushr, 1) := by decide +kernel
theorem d_LO_ntz_13 : decode c_LO_ntz 13 = .ok (.l2i, 1) := by decide +kernel
theorem d_LO_ntz_14 : decode c_LO_ntz 14 = .ok (.invokestatic 311, 3) := by decide +kernel
theorem d_LO_ntz_17 : decode c_LO_ntz 17 = .ok (.iadd, 1) := by decide +kernel
theorem d_LO_ntz_18 : decode c_LO_ntz 18 = .ok (.goto 7, 3) := by decide +kernel
theorem d_LO_ntz_21 : decode c_LO_ntz 21 = .ok (.iload_n 2, 1) := by decide +kernel
theorem d_LO_ntz_22 : decode c_LO_ntz 22 = .ok (.invokestatic 311, 3) := by decide +kernel
theorem d_LO_ntz_25 : decode c_LO_ntz 25 = .ok (.ireturn, 1) := by decide +kernel
theorem d_IN_ntz_0 : decode c_IN_ntz 0 = .ok (.iload_n 0, 1) := by decide +kernel
theorem d_IN_ntz_1 : decode c_IN_ntz 1 = .ok (.iconst (-1), 1) := by decide +kernel
theorem d_IN_ntz_2 : decode c_IN_ntz 2 = .ok (.ixor, 1) := by decide +kernel
theorem d_IN_ntz_3 : decode c_IN_ntz 3 = .ok (.iload_n 0, 1) := by decide +kernel
theorem d_IN_ntz_4 : decode c_IN_ntz 4 = .ok (.iconst 1, 1) := by decide +kernel
theorem d_IN_ntz_5 : decode c_IN_ntz 5 = .ok (.isub, 1) := by decide +kernel
theorem d_IN_ntz_6 : decode c_IN_ntz 6 = .ok (.iand, 1) := by decide +kernel
theorem d_IN_ntz_7 : decode c_IN_ntz 7 = .ok (.istore_n 0, 1) := by decide +kernel
theorem d_IN_ntz_8 : decode c_IN_ntz 8 = .ok (.iload_n 0, 1) := by decide +kernel
theorem d_IN_ntz_9 : decode c_IN_ntz 9 = .ok (.ifCond .gt 8, 3) := by decide +kernel
theorem d_IN_ntz_12 : decode c_IN_ntz 12 = .ok (.iload_n 0, 1) := by decide +kernel
theorem d_IN_ntz_13 : decode c_IN_ntz 13 = .ok (.bipush 32, 2) := by decide +kernel
theorem d_IN_ntz_15 : decode c_IN_ntz 15 = .ok (.iand, 1) := by decide +kernel
theorem d_IN_ntz_16 : decode c_IN_ntz 16 = .ok (.ireturn, 1) := by decide +kernel
theorem d_IN_ntz_17 : decode c_IN_ntz 17 = .ok (.iconst 1, 1) := by decide +kernel
theorem d_IN_ntz_18 : decode c_IN_ntz 18 = .ok (.istore_n 1, 1) := by decide +kernel
theorem d_IN_ntz_19 : decode c_IN_ntz 19 = .ok (.iload_n 0, 1) := by decide +kernel
theorem d_IN_ntz_20 : decode c_IN_ntz 20 = .ok (.ldc_w 264, 3) := by decide +kernel
theorem d_IN_ntz_23 : decode c_IN_ntz 23 = .ok (.if_icmp .le 11, 3) := by decide +kernel
theorem d_IN_ntz_26 : decode c_IN_ntz 26 = .ok (.iinc 1 16, 3) := by decide +kernel
theorem d_IN_ntz_29 : decode c_IN_ntz 29 = .ok (.iload_n 0, 1) := by decide +kernel
theorem d_IN_ntz_30 : decode c_IN_ntz 30 = .ok (.bipush 16, 2) := by decide +kernel
theorem d_IN_ntz_32 : decode c_IN_ntz 32 = .ok (.iushr, 1) := by decide +kernel
theorem d_IN_ntz_33 : decode c_IN_ntz 33 = .ok (.istore_n 0, 1) := by decide +kernel
theorem d_IN_ntz_34 : decode c_IN_ntz 34 = .ok (.iload_n 0, 1) := by decide +kernel
theorem d_IN_ntz_35 : decode c_IN_ntz 35 = .ok (.sipush 256, 3) := by decide +kernel
theorem d_IN_ntz_38 : decode c_IN_ntz 38 = .ok (.if_icmp .le 11, 3) := by decide +kernel
theorem d_IN_ntz_41 : decode c_IN_ntz 41 = .ok (.iinc 1 8, 3) := by decide +kernel
theorem d_IN_ntz_44 : decode c_IN_ntz 44 = .ok (.iload_n 0, 1) := by decide +kernel
theorem d_IN_ntz_45 : decode c_IN_ntz 45 = .ok (.bipush 8, 2) := by decide +kernel
theorem d_IN_ntz_47 : decode c_IN_ntz 47 = .ok (.iushr, 1) := by decide +kernel
theorem d_IN_ntz_48 : decode c_IN_ntz 48 = .ok (.istore_n 0, 1) := by decide +kernel
theorem d_IN_ntz_49 : decode c_IN_ntz 49 = .ok (.iload_n 0, 1) := by decide +kernel
theorem d_IN_ntz_50 : decode c_IN_ntz 50 = .ok (.bipush 16, 2) := by decide +kernel
theorem d_IN_ntz_52 : decode c_IN_ntz 52 = .ok (.if_icmp .le 10, 3) := by decide +kernel
theorem d_IN_ntz_55 : decode c_IN_ntz 55 = .ok (.iinc 1 4, 3) := by decide +kernel
theorem d_IN_ntz_58 : decode c_IN_ntz 58 = .ok (.iload_n 0, 1) := by decide +kernel
theorem d_IN_ntz_59 : decode c_IN_ntz 59 = .ok (.iconst 4, 1) := by decide +kernel
theorem d_IN_ntz_60 : decode c_IN_ntz 60 = .ok (.iushr, 1) := by decide +kernel
theorem d_IN_ntz_61 : decode c_IN_ntz 61 = .ok (.istore_n 0, 1) := by decide +kernel
theorem d_IN_ntz_62 : decode c_IN_ntz 62 = .ok (.iload_n 0, 1) := by decide +kernel
theorem d_IN_ntz_63 : decode c_IN_ntz 63 = .ok (.iconst 4, 1) := by decide +kernel
theorem d_IN_ntz_64 : decode c_IN_ntz 64 = .ok (.if_icmp .le 10, 3) := by decide +kernel
theorem d_IN_ntz_67 : decode c_IN_ntz 67 = .ok (.iinc 1 2, 3) := by decide +kernel
theorem d_IN_ntz_70 : decode c_IN_ntz 70 = .ok (.iload_n 0, 1) := by decide +kernel
theorem d_IN_ntz_71 : decode c_IN_ntz 71 = .ok (.iconst 2, 1) := by decide +kernel
theorem d_IN_ntz_72 : decode c_IN_ntz 72 = .ok (.iushr, 1) := by decide +kernel
theorem d_IN_ntz_73 : decode c_IN_ntz 73 = .ok (.istore_n 0, 1) := by decide +kernel
theorem d_IN_ntz_74 : decode c_IN_ntz 74 = .ok (.iload_n 1, 1) := by decide +kernel
theorem d_IN_ntz_75 : decode c_IN_ntz 75 = .ok (.iload_n 0, 1) := by decide +kernel
theorem d_IN_ntz_76 : decode c_IN_ntz 76 = .ok (.iconst 1, 1) := by decide +kernel
theorem d_IN_ntz_77 : decode c_IN_ntz 77 = .ok (.iushr, 1) := by decide +kernel
theorem d_IN_ntz_78 : decode c_IN_ntz 78 = .ok (.iadd, 1) := by decide +kernel
theorem d_IN_ntz_79 : decode c_IN_ntz 79 = .ok (.ireturn, 1) := by decide +kernel
theorem d_LO_bc_0 : decode c_LO_bc 0 = .ok (.lload_n 0, 1) := by decide +kernel
theorem d_LO_bc_1 : decode c_LO_bc 1 = .ok (.lload_n 0, 1) := by decide +kernel
theorem d_LO_bc_2 : decode c_LO_bc 2 = .ok (.iconst 1, 1) := by decide +kernel
theorem d_LO_bc_3 : decode c_LO_bc 3 = .ok (.lushr, 1) := by decide +kernel
theorem d_LO_bc_4 : decode c_LO_bc 4 = .ok (.ldc2_w 314, 3) := by decide +kernel
theorem d_LO_bc_7 : decode c_LO_bc 7 = .ok (.land, 1) := by decide +kernel
theorem d_LO_bc_8 : decode c_LO_bc 8 = .ok (.lsub, 1) := by decide +kernel
theorem d_LO_bc_9 : decode c_LO_bc 9 = .ok (.lstore_n 0, 1) := by decide +kernel
theorem d_LO_bc_10 : decode c_LO_bc 10 = .ok (.lload_n 0, 1) := by decide +kernel
theorem d_LO_bc_11 : decode c_LO_bc 11 = .ok (.ldc2_w 316, 3) := by decide +kernel
theorem d_LO_bc_14 : decode c_LO_bc 14 = .ok (.land, 1) := by decide +kernel
theorem d_LO_bc_15 : decode c_LO_bc 15 = .ok (.lload_n 0, 1) := by decide +kernel
theorem d_LO_bc_16 : decode c_LO_bc 16 = .ok (.iconst 2, 1) := by decide +kernel
theorem d_LO_bc_17 : decode c_LO_bc 17 = .ok (.lushr, 1) := by decide +kernel
theorem d_LO_bc_18 : decode c_LO_bc 18 = .ok (.ldc2_w 316, 3) := by decide +kernel
theorem d_LO_bc_21 : decode c_LO_bc 21 = .ok (.land, 1) := by decide +kernel
theorem d_LO_bc_22 : decode c_LO_bc 22 = .ok (.ladd, 1) := by decide +kernel
theorem d_LO_bc_23 : decode c_LO_bc 23 = .ok (.lstore_n 0, 1) := by decide +kernel
theorem d_LO_bc_24 : decode c_LO_bc 24 = .ok (.lload_n 0, 1) := by decide +kernel
theorem d_LO_bc_25 : decode c_LO_bc 25 = .ok (.lload_n 0, 1) := by decide +kernel
theorem d_LO_bc_26 : decode c_LO_bc 26 = .ok (.iconst 4, 1) := by decide +kernel
theorem d_LO_bc_27 : decode c_LO_bc 27 = .ok (.lushr, 1) := by decide +kernel
theorem d_LO_bc_28 : decode c_LO_bc 28 = .ok (.ladd, 1) := by decide +kernel
theorem d_LO_bc_29 : decode c_LO_bc 29 = .ok (.ldc2_w 318, 3) := by decide +kernel
theorem d_LO_bc_32 : decode c_LO_bc 32 = .ok (.land, 1) := by decide +kernel
theorem d_LO_bc_33 : decode c_LO_bc 33 = .ok (.lstore_n 0, 1) := by decide +kernel
theorem d_LO_bc_34 : decode c_LO_bc 34 = .ok (.lload_n 0, 1) := by decide +kernel
theorem d_LO_bc_35 : decode c_LO_bc 35 = .ok (.lload_n 0, 1) := by decide +kernel
theorem d_LO_bc_36 : decode c_LO_bc 36 = .ok (.bipush 8, 2) := by decide +kernel
theorem d_LO_bc_38 : decode c_LO_bc 38 = .ok (.lushr, 1) := by decide +kernel
theorem d_LO_bc_39 : decode c_LO_bc 39 = .ok (.ladd, 1) := by decide +kernel
theorem d_LO_bc_40 : decode c_LO_bc 40 = .ok (.lstore_n 0, 1) := by decide +kernel
theorem d_LO_bc_41 : decode c_LO_bc 41 = .ok (.lload_n 0, 1) := by decide +kernel
theorem d_LO_bc_42 : decode c_LO_bc 42 = .ok (.lload_n 0, 1) := by decide +kernel
theorem d_LO_bc_43 : decode c_LO_bc 43 = .ok (.bipush 16, 2) := by decide +kernel
theorem d_LO_bc_45 : decode c_LO_bc 45 = .ok (.lushr, 1) := by decide +kernel
theorem d_LO_bc_46 : decode c_LO_bc 46 = .ok (.ladd, 1) := by decide +kernel
theorem d_LO_bc_47 : decode c_LO_bc 47 = .ok (.lstore_n 0, 1) := by decide +kernel
theorem d_LO_bc_48 : decode c_LO_bc 48 = .ok (.lload_n 0, 1) := by decide +kernel
theorem d_LO_bc_49 : decode c_LO_bc 49 = .ok (.lload_n 0, 1) := by decide +kernel
theorem d_LO_bc_50 : decode c_LO_bc 50 = .ok (.bipush 32, 2) := by decide +kernel
theorem d_LO_bc_52 : decode c_LO_bc 52 = .ok (.lushr, 1) := by decide +kernel
theorem d_LO_bc_53 : decode c_LO_bc 53 = .ok (.ladd, 1) := by decide +kernel
theorem d_LO_bc_54 : decode c_LO_bc 54 = .ok (.lstore_n 0, 1) := by decide +kernel
theorem d_LO_bc_55 : decode c_LO_bc 55 = .ok (.lload_n 0, 1) := by decide +kernel
theorem d_LO_bc_56 : decode c_LO_bc 56 = .ok (.l2i, 1) := by decide +kernel
theorem d_LO_bc_57 : decode c_LO_bc 57 = .ok (.bipush 127, 2) := by decide +kernel
theorem d_LO_bc_59 : decode c_LO_bc 59 = .ok (.iand, 1) := by decide +kernel
theorem d_LO_bc_60 : decode c_LO_bc 60 = .ok (.ireturn, 1) := by decide +kernel
