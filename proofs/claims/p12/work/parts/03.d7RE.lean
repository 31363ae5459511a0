/-! DECODE ROWS -/
theorem d_RE_init_0 : decode c_RE_init 0 = .ok (.aload_n 0, 1) := by decide +kernel
theorem d_RE_init_1 : decode c_RE_init 1 = .ok (.invokespecial 3, 3) := by decide +kernel
theorem d_RE_init_4 : decode c_RE_init 4 = .ok (.aload_n 0, 1) := by decide +kernel
theorem d_RE_init_5 : decode c_RE_init 5 = .ok (.bipush 40, 2) := by decide +kernel
theorem d_RE_init_7 : decode c_RE_init 7 = .ok (.bipush 64, 2) := by decide +kernel
theorem d_RE_init_9 : decode c_RE_init 9 = .ok (.multianewarray 9 2, 4) := by decide +kernel
theorem d_RE_init_13 : decode c_RE_init 13 = .ok (.putfield 11, 3) := by decide +kernel
theorem d_RE_init_16 : decode c_RE_init 16 = .ok (.aload_n 0, 1) := by decide +kernel
theorem d_RE_init_17 : decode c_RE_init 17 = .ok (.aload_n 1, 1) := by decide +kernel
theorem d_RE_init_18 : decode c_RE_init 18 = .ok (.putfield 16, 3) := by decide +kernel
theorem d_RE_init_21 : decode c_RE_init 21 = .ok (.aload_n 0, 1) := by decide +kernel
theorem d_RE_init_22 : decode c_RE_init 22 = .ok (.aload_n 2, 1) := by decide +kernel
theorem d_RE_init_23 : decode c_RE_init 23 = .ok (.putfield 20, 3) := by decide +kernel
theorem d_RE_init_26 : decode c_RE_init 26 = .ok (.return_, 1) := by decide +kernel
theorem d_RE_ofPath_0 : decode c_RE_ofPath 0 = .ok (.aload_n 0, 1) := by decide +kernel
theorem d_RE_ofPath_1 : decode c_RE_ofPath 1 = .ok (.getfield 24, 3) := by decide +kernel
theorem d_RE_ofPath_4 : decode c_RE_ofPath 4 = .ok (.ifCond .ne 33, 3) := by decide +kernel
theorem d_RE_ofPath_7 : decode c_RE_ofPath 7 = .ok (.aload_n 0, 1) := by decide +kernel
theorem d_RE_ofPath_8 : decode c_RE_ofPath 8 = .ok (.getfield 20, 3) := by decide +kernel
theorem d_RE_ofPath_11 : decode c_RE_ofPath 11 = .ok (.getfield 28, 3) := by decide +kernel
theorem d_RE_ofPath_14 : decode c_RE_ofPath 14 = .ok (.iconst 1, 1) := by decide +kernel
theorem d_RE_ofPath_15 : decode c_RE_ofPath 15 = .ok (.isub, 1) := by decide +kernel
theorem d_RE_ofPath_16 : decode c_RE_ofPath 16 = .ok (.istore_n 1, 1) := by decide +kernel
theorem d_RE_ofPath_17 : decode c_RE_ofPath 17 = .ok (.iload_n 1, 1) := by decide +kernel
theorem d_RE_ofPath_18 : decode c_RE_ofPath 18 = .ok (.ifCond .lt 14, 3) := by decide +kernel
theorem d_RE_ofPath_21 : decode c_RE_ofPath 21 = .ok (.aload_n 0, 1) := by decide +kernel
theorem d_RE_ofPath_22 : decode c_RE_ofPath 22 = .ok (.iload_n 1, 1) := by decide +kernel
theorem d_RE_ofPath_23 : decode c_RE_ofPath 23 = .ok (.invokevirtual 34, 3) := by decide +kernel
theorem d_RE_ofPath_26 : decode c_RE_ofPath 26 = .ok (.iinc 1 (-1), 3) := by decide +kernel
theorem d_RE_ofPath_29 : decode c_RE_ofPath 29 = .ok (.goto (-12), 3) := by decide +kernel
theorem d_RE_ofPath_32 : decode c_RE_ofPath 32 = .ok (.aload_n 0, 1) := by decide +kernel
theorem d_RE_ofPath_33 : decode c_RE_ofPath 33 = .ok (.iconst 1, 1) := by decide +kernel
theorem d_RE_ofPath_34 : decode c_RE_ofPath 34 = .ok (.putfield 24, 3) := by decide +kernel
theorem d_RE_ofPath_37 : decode c_RE_ofPath 37 = .ok (.aload_n 0, 1) := by decide +kernel
theorem d_RE_ofPath_38 : decode c_RE_ofPath 38 = .ok (.getfield 11, 3) := by decide +kernel
theorem d_RE_ofPath_41 : decode c_RE_ofPath 41 = .ok (.iconst 0, 1) := by decide +kernel
theorem d_RE_ofPath_42 : decode c_RE_ofPath 42 = .ok (.aaload, 1) := by decide +kernel
theorem d_RE_ofPath_43 : decode c_RE_ofPath 43 = .ok (.areturn, 1) := by decide +kernel
theorem d_RE_fill_0 : decode c_RE_fill 0 = .ok (.aload_n 0, 1) := by decide +kernel
theorem d_RE_fill_1 : decode c_RE_fill 1 = .ok (.getfield 11, 3) := by decide +kernel
theorem d_RE_fill_4 : decode c_RE_fill 4 = .ok (.iload_n 1, 1) := by decide +kernel
theorem d_RE_fill_5 : decode c_RE_fill 5 = .ok (.aaload, 1) := by decide +kernel
theorem d_RE_fill_6 : decode c_RE_fill 6 = .ok (.astore_n 2, 1) := by decide +kernel
theorem d_RE_fill_7 : decode c_RE_fill 7 = .ok (.aload_n 2, 1) := by decide +kernel
theorem d_RE_fill_8 : decode c_RE_fill 8 = .ok (.lconst 0, 1) := by decide +kernel
theorem d_RE_fill_9 : decode c_RE_fill 9 = .ok (.invokestatic 38, 3) := by decide +kernel
theorem d_RE_fill_12 : decode c_RE_fill 12 = .ok (.aload_n 0, 1) := by decide +kernel
theorem d_RE_fill_13 : decode c_RE_fill 13 = .ok (.getfield 20, 3) := by decide +kernel
theorem d_RE_fill_16 : decode c_RE_fill 16 = .ok (.getfield 43, 3) := by decide +kernel
theorem d_RE_fill_19 : decode c_RE_fill 19 = .ok (.iload_n 1, 1) := by decide +kernel
theorem d_RE_fill_20 : decode c_RE_fill 20 = .ok (.iaload, 1) := by decide +kernel
theorem d_RE_fill_21 : decode c_RE_fill 21 = .ok (.istore_n 3, 1) := by decide +kernel
theorem d_RE_fill_22 : decode c_RE_fill 22 = .ok (.iload_n 1, 1) := by decide +kernel
theorem d_RE_fill_23 : decode c_RE_fill 23 = .ok (.iconst 1, 1) := by decide +kernel
theorem d_RE_fill_24 : decode c_RE_fill 24 = .ok (.iadd, 1) := by decide +kernel
theorem d_RE_fill_25 : decode c_RE_fill 25 = .ok (.istore 4, 2) := by decide +kernel
theorem d_RE_fill_27 : decode c_RE_fill 27 = .ok (.aload_n 0, 1) := by decide +kernel
theorem d_RE_fill_28 : decode c_RE_fill 28 = .ok (.getfield 20, 3) := by decide +kernel
theorem d_RE_fill_31 : decode c_RE_fill 31 = .ok (.getfield 47, 3) := by decide +kernel
theorem d_RE_fill_34 : decode c_RE_fill 34 = .ok (.iload_n 1, 1) := by decide +kernel
theorem d_RE_fill_35 : decode c_RE_fill 35 = .ok (.iaload, 1) := by decide +kernel
theorem d_RE_fill_36 : decode c_RE_fill 36 = .ok (.istore 5, 2) := by decide +kernel
theorem d_RE_fill_38 : decode c_RE_fill 38 = .ok (.iload_n 3, 1) := by decide +kernel
theorem d_RE_fill_39 : decode c_RE_fill 39 = .ok (.ifCond .eq 9, 3) := by decide +kernel
theorem d_RE_fill_42 : decode c_RE_fill 42 = .ok (.iload_n 3, 1) := by decide +kernel
theorem d_RE_fill_43 : decode c_RE_fill 43 = .ok (.bipush 7, 2) := by decide +kernel
theorem d_RE_fill_45 : decode c_RE_fill 45 = .ok (.if_icmp .ne 20, 3) := by decide +kernel
theorem d_RE_fill_48 : decode c_RE_fill 48 = .ok (.aload_n 0, 1) := by decide +kernel
theorem d_RE_fill_49 : decode c_RE_fill 49 = .ok (.aload_n 2, 1) := by decide +kernel
theorem d_RE_fill_50 : decode c_RE_fill 50 = .ok (.aload_n 0, 1) := by decide +kernel
theorem d_RE_fill_51 : decode c_RE_fill 51 = .ok (.getfield 20, 3) := by decide +kernel
theorem d_RE_fill_54 : decode c_RE_fill 54 = .ok (.getfield 50, 3) := by decide +kernel
theorem d_RE_fill_57 : decode c_RE_fill 57 = .ok (.iload_n 1, 1) := by decide +kernel
theorem d_RE_fill_58 : decode c_RE_fill 58 = .ok (.iaload, 1) := by decide +kernel
theorem d_RE_fill_59 : decode c_RE_fill 59 = .ok (.invokevirtual 53, 3) := by decide +kernel
theorem d_RE_fill_62 : decode c_RE_fill 62 = .ok (.goto 46, 3) := by decide +kernel
theorem d_RE_fill_65 : decode c_RE_fill 65 = .ok (.iload 4, 2) := by decide +kernel
theorem d_RE_fill_67 : decode c_RE_fill 67 = .ok (.aload_n 0, 1) := by decide +kernel
theorem d_RE_fill_68 : decode c_RE_fill 68 = .ok (.getfield 20, 3) := by decide +kernel
theorem d_RE_fill_71 : decode c_RE_fill 71 = .ok (.getfield 28, 3) := by decide +kernel
theorem d_RE_fill_74 : decode c_RE_fill 74 = .ok (.if_icmp .ge 34, 3) := by decide +kernel
theorem d_RE_fill_77 : decode c_RE_fill 77 = .ok (.iload 5, 2) := by decide +kernel
theorem d_RE_fill_79 : decode c_RE_fill 79 = .ok (.aload_n 0, 1) := by decide +kernel
theorem d_RE_fill_80 : decode c_RE_fill 80 = .ok (.getfield 20, 3) := by decide +kernel
theorem d_RE_fill_83 : decode c_RE_fill 83 = .ok (.getfield 28, 3) := by decide +kernel
theorem d_RE_fill_86 : decode c_RE_fill 86 = .ok (.if_icmp .ge 22, 3) := by decide +kernel
theorem d_RE_fill_89 : decode c_RE_fill 89 = .ok (.aload_n 2, 1) := by decide +kernel
theorem d_RE_fill_90 : decode c_RE_fill 90 = .ok (.iload_n 3, 1) := by decide +kernel
theorem d_RE_fill_91 : decode c_RE_fill 91 = .ok (.aload_n 0, 1) := by decide +kernel
theorem d_RE_fill_92 : decode c_RE_fill 92 = .ok (.getfield 11, 3) := by decide +kernel
theorem d_RE_fill_95 : decode c_RE_fill 95 = .ok (.iload 4, 2) := by decide +kernel
theorem d_RE_fill_97 : decode c_RE_fill 97 = .ok (.aaload, 1) := by decide +kernel
theorem d_RE_fill_98 : decode c_RE_fill 98 = .ok (.aload_n 0, 1) := by decide +kernel
theorem d_RE_fill_99 : decode c_RE_fill 99 = .ok (.getfield 11, 3) := by decide +kernel
theorem d_RE_fill_102 : decode c_RE_fill 102 = .ok (.iload 5, 2) := by decide +kernel
theorem d_RE_fill_104 : decode c_RE_fill 104 = .ok (.aaload, 1) := by decide +kernel
theorem d_RE_fill_105 : decode c_RE_fill 105 = .ok (.invokestatic 57, 3) := by decide +kernel
theorem d_RE_fill_108 : decode c_RE_fill 108 = .ok (.return_, 1) := by decide +kernel
theorem d_RE_addEdges_0 : decode c_RE_addEdges 0 = .ok (.iconst 0, 1) := by decide +kernel
theorem d_RE_addEdges_1 : decode c_RE_addEdges 1 = .ok (.istore_n 3, 1) := by decide +kernel
theorem d_RE_addEdges_2 : decode c_RE_addEdges 2 = .ok (.iload_n 3, 1) := by decide +kernel
theorem d_RE_addEdges_3 : decode c_RE_addEdges 3 = .ok (.bipush 8, 2) := by decide +kernel
theorem d_RE_addEdges_5 : decode c_RE_addEdges 5 = .ok (.if_icmp .ge 31, 3) := by decide +kernel
theorem d_RE_addEdges_8 : decode c_RE_addEdges 8 = .ok (.iload_n 2, 1) := by decide +kernel
theorem d_RE_addEdges_9 : decode c_RE_addEdges 9 = .ok (.i2l, 1) := by decide +kernel
theorem d_RE_addEdges_10 : decode c_RE_addEdges 10 = .ok (.iload_n 3, 1) := by decide +kernel
theorem d_RE_addEdges_11 : decode c_RE_addEdges 11 = .ok (.invokestatic 79, 3) := by decide +kernel
theorem d_RE_addEdges_14 : decode c_RE_addEdges 14 = .ok (.ifCond .eq 16, 3) := by decide +kernel
theorem d_RE_addEdges_17 : decode c_RE_addEdges 17 = .ok (.aload_n 1, 1) := by decide +kernel
theorem d_RE_addEdges_18 : decode c_RE_addEdges 18 = .ok (.aload_n 0, 1) := by decide +kernel
theorem d_RE_addEdges_19 : decode c_RE_addEdges 19 = .ok (.getfield 16, 3) := by decide +kernel
theorem d_RE_addEdges_22 : decode c_RE_addEdges 22 = .ok (.getfield 83, 3) := by decide +kernel
theorem d_RE_addEdges_25 : decode c_RE_addEdges 25 = .ok (.iload_n 3, 1) := by decide +kernel
theorem d_RE_addEdges_26 : decode c_RE_addEdges 26 = .ok (.aaload, 1) := by decide +kernel
theorem d_RE_addEdges_27 : decode c_RE_addEdges 27 = .ok (.invokestatic 69, 3) := by decide +kernel
theorem d_RE_addEdges_30 : decode c_RE_addEdges 30 = .ok (.iinc 3 1, 3) := by decide +kernel
theorem d_RE_addEdges_33 : decode c_RE_addEdges 33 = .ok (.goto (-31), 3) := by decide +kernel
theorem d_RE_addEdges_36 : decode c_RE_addEdges 36 = .ok (.return_, 1) := by decide +kernel
theorem d_RE_add_0 : decode c_RE_add 0 = .ok (.iconst 0, 1) := by decide +kernel
theorem d_RE_add_1 : decode c_RE_add 1 = .ok (.istore_n 2, 1) := by decide +kernel
theorem d_RE_add_2 : decode c_RE_add 2 = .ok (.iload_n 2, 1) := by decide +kernel
theorem d_RE_add_3 : decode c_RE_add 3 = .ok (.bipush 64, 2) := by decide +kernel
theorem d_RE_add_5 : decode c_RE_add 5 = .ok (.if_icmp .ge 18, 3) := by decide +kernel
theorem d_RE_add_8 : decode c_RE_add 8 = .ok (.aload_n 0, 1) := by decide +kernel
theorem d_RE_add_9 : decode c_RE_add 9 = .ok (.iload_n 2, 1) := by decide +kernel
theorem d_RE_add_10 : decode c_RE_add 10 = .ok (.dup2, 1) := by decide +kernel
theorem d_RE_add_11 : decode c_RE_add 11 = .ok (.laload, 1) := by decide +kernel
theorem d_RE_add_12 : decode c_RE_add 12 = .ok (.aload_n 1, 1) := by decide +kernel
theorem d_RE_add_13 : decode c_RE_add 13 = .ok (.iload_n 2, 1) := by decide +kernel
theorem d_RE_add_14 : decode c_RE_add 14 = .ok (.laload, 1) := by decide +kernel
theorem d_RE_add_15 : decode c_RE_add 15 = .ok (.lor, 1) := by decide +kernel
theorem d_RE_add_16 : decode c_RE_add 16 = .ok (.lastore, 1) := by decide +kernel
theorem d_RE_add_17 : decode c_RE_add 17 = .ok (.iinc 2 1, 3) := by decide +kernel
theorem d_RE_add_20 : decode c_RE_add 20 = .ok (.goto (-18), 3) := by decide +kernel
theorem d_RE_add_23 : decode c_RE_add 23 = .ok (.return_, 1) := by decide +kernel
theorem d_RE_fillFrom_0 : decode c_RE_fillFrom 0 = .ok (.iload_n 1, 1) := by decide +kernel
theorem d_RE_fillFrom_1 : decode c_RE_fillFrom 1 = .ok (.tableswitch 109 1 6 #[39, 47, 56, 69, 81, 97], 39) := by decide +kernel
theorem d_RE_fillFrom_40 : decode c_RE_fillFrom 40 = .ok (.aload_n 0, 1) := by decide +kernel
theorem d_RE_fillFrom_41 : decode c_RE_fillFrom 41 = .ok (.aload_n 2, 1) := by decide +kernel
theorem d_RE_fillFrom_42 : decode c_RE_fillFrom 42 = .ok (.invokestatic 61, 3) := by decide +kernel
theorem d_RE_fillFrom_45 : decode c_RE_fillFrom 45 = .ok (.goto 65, 3) := by decide +kernel
theorem d_RE_fillFrom_48 : decode c_RE_fillFrom 48 = .ok (.aload_n 0, 1) := by decide +kernel
theorem d_RE_fillFrom_49 : decode c_RE_fillFrom 49 = .ok (.aload_n 2, 1) := by decide +kernel
theorem d_RE_fillFrom_50 : decode c_RE_fillFrom 50 = .ok (.aload_n 3, 1) := by decide +kernel
theorem d_RE_fillFrom_51 : decode c_RE_fillFrom 51 = .ok (.invokestatic 65, 3) := by decide +kernel
theorem d_RE_fillFrom_54 : decode c_RE_fillFrom 54 = .ok (.goto 56, 3) := by decide +kernel
theorem d_RE_fillFrom_57 : decode c_RE_fillFrom 57 = .ok (.aload_n 0, 1) := by decide +kernel
theorem d_RE_fillFrom_58 : decode c_RE_fillFrom 58 = .ok (.aload_n 2, 1) := by decide +kernel
theorem d_RE_fillFrom_59 : decode c_RE_fillFrom 59 = .ok (.invokestatic 69, 3) := by decide +kernel
theorem d_RE_fillFrom_62 : decode c_RE_fillFrom 62 = .ok (.aload_n 0, 1) := by decide +kernel
theorem d_RE_fillFrom_63 : decode c_RE_fillFrom 63 = .ok (.aload_n 3, 1) := by decide +kernel
theorem d_RE_fillFrom_64 : decode c_RE_fillFrom 64 = .ok (.invokestatic 69, 3) := by decide +kernel
theorem d_RE_fillFrom_67 : decode c_RE_fillFrom 67 = .ok (.goto 43, 3) := by decide +kernel
theorem d_RE_fillFrom_70 : decode c_RE_fillFrom 70 = .ok (.aload_n 0, 1) := by decide +kernel
theorem d_RE_fillFrom_71 : decode c_RE_fillFrom 71 = .ok (.aload_n 2, 1) := by decide +kernel
theorem d_RE_fillFrom_72 : decode c_RE_fillFrom 72 = .ok (.invokestatic 69, 3) := by decide +kernel
theorem d_RE_fillFrom_75 : decode c_RE_fillFrom 75 = .ok (.aload_n 0, 1) := by decide +kernel
theorem d_RE_fillFrom_76 : decode c_RE_fillFrom 76 = .ok (.invokestatic 72, 3) := by decide +kernel
theorem d_RE_fillFrom_79 : decode c_RE_fillFrom 79 = .ok (.goto 31, 3) := by decide +kernel
theorem d_RE_fillFrom_82 : decode c_RE_fillFrom 82 = .ok (.aload_n 0, 1) := by decide +kernel
theorem d_RE_fillFrom_83 : decode c_RE_fillFrom 83 = .ok (.aload_n 2, 1) := by decide +kernel
theorem d_RE_fillFrom_84 : decode c_RE_fillFrom 84 = .ok (.invokestatic 69, 3) := by decide +kernel
theorem d_RE_fillFrom_87 : decode c_RE_fillFrom 87 = .ok (.aload_n 0, 1) := by decide +kernel
theorem d_RE_fillFrom_88 : decode c_RE_fillFrom 88 = .ok (.invokestatic 76, 3) := by decide +kernel
theorem d_RE_fillFrom_91 : decode c_RE_fillFrom 91 = .ok (.aload_n 0, 1) := by decide +kernel
theorem d_RE_fillFrom_92 : decode c_RE_fillFrom 92 = .ok (.invokestatic 72, 3) := by decide +kernel
theorem d_RE_fillFrom_95 : decode c_RE_fillFrom 95 = .ok (.goto 15, 3) := by decide +kernel
theorem d_RE_fillFrom_98 : decode c_RE_fillFrom 98 = .ok (.aload_n 0, 1) := by decide +kernel
theorem d_RE_fillFrom_99 : decode c_RE_fillFrom 99 = .ok (.aload_n 2, 1) := by decide +kernel
theorem d_RE_fillFrom_100 : decode c_RE_fillFrom 100 = .ok (.invokestatic 69, 3) := by decide +kernel
theorem d_RE_fillFrom_103 : decode c_RE_fillFrom 103 = .ok (.aload_n 0, 1) := by decide +kernel
theorem d_RE_fillFrom_104 : decode c_RE_fillFrom 104 = .ok (.invokestatic 76, 3) := by decide +kernel
theorem d_RE_fillFrom_107 : decode c_RE_fillFrom 107 = .ok (.goto 3, 3) := by decide +kernel
theorem d_RE_fillFrom_110 : decode c_RE_fillFrom 110 = .ok (.return_, 1) := by decide +kernel
theorem d_RE_addTurned_0 : decode c_RE_addTurned 0 = .ok (.iconst 0, 1) := by decide +kernel
theorem d_RE_addTurned_1 : decode c_RE_addTurned 1 = .ok (.istore_n 2, 1) := by decide +kernel
theorem d_RE_addTurned_2 : decode c_RE_addTurned 2 = .ok (.iload_n 2, 1) := by decide +kernel
theorem d_RE_addTurned_3 : decode c_RE_addTurned 3 = .ok (.bipush 64, 2) := by decide +kernel
theorem d_RE_addTurned_5 : decode c_RE_addTurned 5 = .ok (.if_icmp .ge 54, 3) := by decide +kernel
theorem d_RE_addTurned_8 : decode c_RE_addTurned 8 = .ok (.aload_n 1, 1) := by decide +kernel
theorem d_RE_addTurned_9 : decode c_RE_addTurned 9 = .ok (.iload_n 2, 1) := by decide +kernel
theorem d_RE_addTurned_10 : decode c_RE_addTurned 10 = .ok (.laload, 1) := by decide +kernel
theorem d_RE_addTurned_11 : decode c_RE_addTurned 11 = .ok (.lstore_n 3, 1) := by decide +kernel
theorem d_RE_addTurned_12 : decode c_RE_addTurned 12 = .ok (.iconst 0, 1) := by decide +kernel
theorem d_RE_addTurned_13 : decode c_RE_addTurned 13 = .ok (.istore 5, 2) := by decide +kernel
theorem d_RE_addTurned_15 : decode c_RE_addTurned 15 = .ok (.iload 5, 2) := by decide +kernel
theorem d_RE_addTurned_17 : decode c_RE_addTurned 17 = .ok (.bipush 64, 2) := by decide +kernel
theorem d_RE_addTurned_19 : decode c_RE_addTurned 19 = .ok (.if_icmp .ge 34, 3) := by decide +kernel
theorem d_RE_addTurned_22 : decode c_RE_addTurned 22 = .ok (.lload_n 3, 1) := by decide +kernel
theorem d_RE_addTurned_23 : decode c_RE_addTurned 23 = .ok (.lconst 0, 1) := by decide +kernel
theorem d_RE_addTurned_24 : decode c_RE_addTurned 24 = .ok (.lcmp, 1) := by decide +kernel
theorem d_RE_addTurned_25 : decode c_RE_addTurned 25 = .ok (.ifCond .eq 28, 3) := by decide +kernel
theorem d_RE_addTurned_28 : decode c_RE_addTurned 28 = .ok (.aload_n 0, 1) := by decide +kernel
theorem d_RE_addTurned_29 : decode c_RE_addTurned 29 = .ok (.lload_n 3, 1) := by decide +kernel
theorem d_RE_addTurned_30 : decode c_RE_addTurned 30 = .ok (.invokestatic 92, 3) := by decide +kernel
theorem d_RE_addTurned_33 : decode c_RE_addTurned 33 = .ok (.dup2, 1) := by decide +kernel
theorem d_RE_addTurned_34 : decode c_RE_addTurned 34 = .ok (.laload, 1) := by decide +kernel
theorem d_RE_addTurned_35 : decode c_RE_addTurned 35 = .ok (.iload_n 2, 1) := by decide +kernel
theorem d_RE_addTurned_36 : decode c_RE_addTurned 36 = .ok (.invokestatic 88, 3) := by decide +kernel
theorem d_RE_addTurned_39 : decode c_RE_addTurned 39 = .ok (.lor, 1) := by decide +kernel
theorem d_RE_addTurned_40 : decode c_RE_addTurned 40 = .ok (.lastore, 1) := by decide +kernel
theorem d_RE_addTurned_41 : decode c_RE_addTurned 41 = .ok (.lload_n 3, 1) := by decide +kernel
theorem d_RE_addTurned_42 : decode c_RE_addTurned 42 = .ok (.lload_n 3, 1) := by decide +kernel
theorem d_RE_addTurned_43 : decode c_RE_addTurned 43 = .ok (.lconst 1, 1) := by decide +kernel
theorem d_RE_addTurned_44 : decode c_RE_addTurned 44 = .ok (.lsub, 1) := by decide +kernel
theorem d_RE_addTurned_45 : decode c_RE_addTurned 45 = .ok (.land, 1) := by decide +kernel
theorem d_RE_addTurned_46 : decode c_RE_addTurned 46 = .ok (.lstore_n 3, 1) := by decide +kernel
theorem d_RE_addTurned_47 : decode c_RE_addTurned 47 = .ok (.iinc 5 1, 3) := by decide +kernel
theorem d_RE_addTurned_50 : decode c_RE_addTurned 50 = .ok (.goto (-35), 3) := by decide +kernel
theorem d_RE_addTurned_53 : decode c_RE_addTurned 53 = .ok (.iinc 2 1, 3) := by decide +kernel
theorem d_RE_addTurned_56 : decode c_RE_addTurned 56 = .ok (.goto (-54), 3) := by decide +kernel
theorem d_RE_addTurned_59 : decode c_RE_addTurned 59 = .ok (.return_, 1) := by decide +kernel
theorem d_RE_addJoined_0 : decode c_RE_addJoined 0 = .ok (.iconst 0, 1) := by decide +kernel
theorem d_RE_addJoined_1 : decode c_RE_addJoined 1 = .ok (.istore_n 3, 1) := by decide +kernel
theorem d_RE_addJoined_2 : decode c_RE_addJoined 2 = .ok (.iload_n 3, 1) := by decide +kernel
theorem d_RE_addJoined_3 : decode c_RE_addJoined 3 = .ok (.bipush 64, 2) := by decide +kernel
theorem d_RE_addJoined_5 : decode c_RE_addJoined 5 = .ok (.if_icmp .ge 59, 3) := by decide +kernel
theorem d_RE_addJoined_8 : decode c_RE_addJoined 8 = .ok (.aload_n 1, 1) := by decide +kernel
theorem d_RE_addJoined_9 : decode c_RE_addJoined 9 = .ok (.iload_n 3, 1) := by decide +kernel
theorem d_RE_addJoined_10 : decode c_RE_addJoined 10 = .ok (.laload, 1) := by decide +kernel
theorem d_RE_addJoined_11 : decode c_RE_addJoined 11 = .ok (.lstore 4, 2) := by decide +kernel
theorem d_RE_addJoined_13 : decode c_RE_addJoined 13 = .ok (.iconst 0, 1) := by decide +kernel
theorem d_RE_addJoined_14 : decode c_RE_addJoined 14 = .ok (.istore 6, 2) := by decide +kernel
theorem d_RE_addJoined_16 : decode c_RE_addJoined 16 = .ok (.iload 6, 2) := by decide +kernel
theorem d_RE_addJoined_18 : decode c_RE_addJoined 18 = .ok (.bipush 64, 2) := by decide +kernel
theorem d_RE_addJoined_20 : decode c_RE_addJoined 20 = .ok (.if_icmp .ge 38, 3) := by decide +kernel
theorem d_RE_addJoined_23 : decode c_RE_addJoined 23 = .ok (.lload 4, 2) := by decide +kernel
theorem d_RE_addJoined_25 : decode c_RE_addJoined 25 = .ok (.lconst 0, 1) := by decide +kernel
theorem d_RE_addJoined_26 : decode c_RE_addJoined 26 = .ok (.lcmp, 1) := by decide +kernel
theorem d_RE_addJoined_27 : decode c_RE_addJoined 27 = .ok (.ifCond .eq 31, 3) := by decide +kernel
theorem d_RE_addJoined_30 : decode c_RE_addJoined 30 = .ok (.aload_n 0, 1) := by decide +kernel
theorem d_RE_addJoined_31 : decode c_RE_addJoined 31 = .ok (.iload_n 3, 1) := by decide +kernel
theorem d_RE_addJoined_32 : decode c_RE_addJoined 32 = .ok (.dup2, 1) := by decide +kernel
theorem d_RE_addJoined_33 : decode c_RE_addJoined 33 = .ok (.laload, 1) := by decide +kernel
theorem d_RE_addJoined_34 : decode c_RE_addJoined 34 = .ok (.aload_n 2, 1) := by decide +kernel
theorem d_RE_addJoined_35 : decode c_RE_addJoined 35 = .ok (.lload 4, 2) := by decide +kernel
theorem d_RE_addJoined_37 : decode c_RE_addJoined 37 = .ok (.invokestatic 92, 3) := by decide +kernel
theorem d_RE_addJoined_40 : decode c_RE_addJoined 40 = .ok (.laload, 1) := by decide +kernel
theorem d_RE_addJoined_41 : decode c_RE_addJoined 41 = .ok (.lor, 1) := by decide +kernel
theorem d_RE_addJoined_42 : decode c_RE_addJoined 42 = .ok (.lastore, 1) := by decide +kernel
theorem d_RE_addJoined_43 : decode c_RE_addJoined 43 = .ok (.lload 4, 2) := by decide +kernel
theorem d_RE_addJoined_45 : decode c_RE_addJoined 45 = .ok (.lload 4, 2) := by decide +kernel
theorem d_RE_addJoined_47 : decode c_RE_addJoined 47 = .ok (.lconst 1, 1) := by decide +kernel
theorem d_RE_addJoined_48 : decode c_RE_addJoined 48 = .ok (.lsub, 1) := by decide +kernel
theorem d_RE_addJoined_49 : decode c_RE_addJoined 49 = .ok (.land, 1) := by decide +kernel
theorem d_RE_addJoined_50 : decode c_RE_addJoined 50 = .ok (.lstore 4, 2) := by decide +kernel
theorem d_RE_addJoined_52 : decode c_RE_addJoined 52 = .ok (.iinc 6 1, 3) := by decide +kernel
theorem d_RE_addJoined_55 : decode c_RE_addJoined 55 = .ok (.goto (-39), 3) := by decide +kernel
theorem d_RE_addJoined_58 : decode c_RE_addJoined 58 = .ok (.iinc 3 1, 3) := by decide +kernel
theorem d_RE_addJoined_61 : decode c_RE_addJoined 61 = .ok (.goto (-59), 3) := by decide +kernel
theorem d_RE_addJoined_64 : decode c_RE_addJoined 64 = .ok (.return_, 1) := by decide +kernel
theorem d_RE_addStaying_0 : decode c_RE_addStaying 0 = .ok (.iconst 0, 1) := by decide +kernel
theorem d_RE_addStaying_1 : decode c_RE_addStaying 1 = .ok (.istore_n 1, 1) := by decide +kernel
theorem d_RE_addStaying_2 : decode c_RE_addStaying 2 = .ok (.iload_n 1, 1) := by decide +kernel
theorem d_RE_addStaying_3 : decode c_RE_addStaying 3 = .ok (.bipush 64, 2) := by decide +kernel
theorem d_RE_addStaying_5 : decode c_RE_addStaying 5 = .ok (.if_icmp .ge 19, 3) := by decide +kernel
theorem d_RE_addStaying_8 : decode c_RE_addStaying 8 = .ok (.aload_n 0, 1) := by decide +kernel
theorem d_RE_addStaying_9 : decode c_RE_addStaying 9 = .ok (.iload_n 1, 1) := by decide +kernel
theorem d_RE_addStaying_10 : decode c_RE_addStaying 10 = .ok (.dup2, 1) := by decide +kernel
theorem d_RE_addStaying_11 : decode c_RE_addStaying 11 = .ok (.laload, 1) := by decide +kernel
theorem d_RE_addStaying_12 : decode c_RE_addStaying 12 = .ok (.iload_n 1, 1) := by decide +kernel
theorem d_RE_addStaying_13 : decode c_RE_addStaying 13 = .ok (.invokestatic 88, 3) := by decide +kernel
theorem d_RE_addStaying_16 : decode c_RE_addStaying 16 = .ok (.lor, 1) := by decide +kernel
theorem d_RE_addStaying_17 : decode c_RE_addStaying 17 = .ok (.lastore, 1) := by decide +kernel
theorem d_RE_addStaying_18 : decode c_RE_addStaying 18 = .ok (.iinc 1 1, 3) := by decide +kernel
theorem d_RE_addStaying_21 : decode c_RE_addStaying 21 = .ok (.goto (-19), 3) := by decide +kernel
theorem d_RE_addStaying_24 : decode c_RE_addStaying 24 = .ok (.return_, 1) := by decide +kernel
theorem d_RE_close_0 : decode c_RE_close 0 = .ok (.iconst 0, 1) := by decide +kernel
theorem d_RE_close_1 : decode c_RE_close 1 = .ok (.istore_n 1, 1) := by decide +kernel
theorem d_RE_close_2 : decode c_RE_close 2 = .ok (.iload_n 1, 1) := by decide +kernel
theorem d_RE_close_3 : decode c_RE_close 3 = .ok (.bipush 64, 2) := by decide +kernel
theorem d_RE_close_5 : decode c_RE_close 5 = .ok (.if_icmp .ge 42, 3) := by decide +kernel
theorem d_RE_close_8 : decode c_RE_close 8 = .ok (.iconst 0, 1) := by decide +kernel
theorem d_RE_close_9 : decode c_RE_close 9 = .ok (.istore_n 2, 1) := by decide +kernel
theorem d_RE_close_10 : decode c_RE_close 10 = .ok (.iload_n 2, 1) := by decide +kernel
theorem d_RE_close_11 : decode c_RE_close 11 = .ok (.bipush 64, 2) := by decide +kernel
theorem d_RE_close_13 : decode c_RE_close 13 = .ok (.if_icmp .ge 28, 3) := by decide +kernel
theorem d_RE_close_16 : decode c_RE_close 16 = .ok (.aload_n 0, 1) := by decide +kernel
theorem d_RE_close_17 : decode c_RE_close 17 = .ok (.iload_n 2, 1) := by decide +kernel
theorem d_RE_close_18 : decode c_RE_close 18 = .ok (.laload, 1) := by decide +kernel
theorem d_RE_close_19 : decode c_RE_close 19 = .ok (.iload_n 1, 1) := by decide +kernel
theorem d_RE_close_20 : decode c_RE_close 20 = .ok (.invokestatic 79, 3) := by decide +kernel
theorem d_RE_close_23 : decode c_RE_close 23 = .ok (.ifCond .eq 12, 3) := by decide +kernel
theorem d_RE_close_26 : decode c_RE_close 26 = .ok (.aload_n 0, 1) := by decide +kernel
theorem d_RE_close_27 : decode c_RE_close 27 = .ok (.iload_n 2, 1) := by decide +kernel
theorem d_RE_close_28 : decode c_RE_close 28 = .ok (.dup2, 1) := by decide +kernel
theorem d_RE_close_29 : decode c_RE_close 29 = .ok (.laload, 1) := by decide +kernel
theorem d_RE_close_30 : decode c_RE_close 30 = .ok (.aload_n 0, 1) := by decide +kernel
theorem d_RE_close_31 : decode c_RE_close 31 = .ok (.iload_n 1, 1) := by decide +kernel
theorem d_RE_close_32 : decode c_RE_close 32 = .ok (.laload, 1) := by decide +kernel
theorem d_RE_close_33 : decode c_RE_close 33 = .ok (.lor, 1) := by decide +kernel
theorem d_RE_close_34 : decode c_RE_close 34 = .ok (.lastore, 1) := by decide +kernel
theorem d_RE_close_35 : decode c_RE_close 35 = .ok (.iinc 2 1, 3) := by decide +kernel
theorem d_RE_close_38 : decode c_RE_close 38 = .ok (.goto (-28), 3) := by decide +kernel
theorem d_RE_close_41 : decode c_RE_close 41 = .ok (.iinc 1 1, 3) := by decide +kernel
theorem d_RE_close_44 : decode c_RE_close 44 = .ok (.goto (-42), 3) := by decide +kernel
theorem d_RE_close_47 : decode c_RE_close 47 = .ok (.return_, 1) := by decide +kernel
