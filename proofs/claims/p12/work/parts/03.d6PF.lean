/-! DECODE ROWS -/
theorem d_PF_init_0 : decode c_PF_init 0 = .ok (.aload_n 0, 1) := by decide +kernel
theorem d_PF_init_1 : decode c_PF_init 1 = .ok (.invokespecial 1, 3) := by decide +kernel
theorem d_PF_init_4 : decode c_PF_init 4 = .ok (.aload_n 0, 1) := by decide +kernel
theorem d_PF_init_5 : decode c_PF_init 5 = .ok (.new 7, 3) := by decide +kernel
theorem d_PF_init_8 : decode c_PF_init 8 = .ok (.dup, 1) := by decide +kernel
theorem d_PF_init_9 : decode c_PF_init 9 = .ok (.invokespecial 9, 3) := by decide +kernel
theorem d_PF_init_12 : decode c_PF_init 12 = .ok (.putfield 10, 3) := by decide +kernel
theorem d_PF_init_15 : decode c_PF_init 15 = .ok (.aload_n 0, 1) := by decide +kernel
theorem d_PF_init_16 : decode c_PF_init 16 = .ok (.new 16, 3) := by decide +kernel
theorem d_PF_init_19 : decode c_PF_init 19 = .ok (.dup, 1) := by decide +kernel
theorem d_PF_init_20 : decode c_PF_init 20 = .ok (.invokespecial 18, 3) := by decide +kernel
theorem d_PF_init_23 : decode c_PF_init 23 = .ok (.putfield 19, 3) := by decide +kernel
theorem d_PF_init_26 : decode c_PF_init 26 = .ok (.aload_n 0, 1) := by decide +kernel
theorem d_PF_init_27 : decode c_PF_init 27 = .ok (.new 23, 3) := by decide +kernel
theorem d_PF_init_30 : decode c_PF_init 30 = .ok (.dup, 1) := by decide +kernel
theorem d_PF_init_31 : decode c_PF_init 31 = .ok (.aload_n 0, 1) := by decide +kernel
theorem d_PF_init_32 : decode c_PF_init 32 = .ok (.getfield 10, 3) := by decide +kernel
theorem d_PF_init_35 : decode c_PF_init 35 = .ok (.aload_n 0, 1) := by decide +kernel
theorem d_PF_init_36 : decode c_PF_init 36 = .ok (.getfield 19, 3) := by decide +kernel
theorem d_PF_init_39 : decode c_PF_init 39 = .ok (.invokespecial 25, 3) := by decide +kernel
theorem d_PF_init_42 : decode c_PF_init 42 = .ok (.putfield 28, 3) := by decide +kernel
theorem d_PF_init_45 : decode c_PF_init 45 = .ok (.aload_n 0, 1) := by decide +kernel
theorem d_PF_init_46 : decode c_PF_init 46 = .ok (.new 32, 3) := by decide +kernel
theorem d_PF_init_49 : decode c_PF_init 49 = .ok (.dup, 1) := by decide +kernel
theorem d_PF_init_50 : decode c_PF_init 50 = .ok (.aload_n 0, 1) := by decide +kernel
theorem d_PF_init_51 : decode c_PF_init 51 = .ok (.getfield 10, 3) := by decide +kernel
theorem d_PF_init_54 : decode c_PF_init 54 = .ok (.aload_n 0, 1) := by decide +kernel
theorem d_PF_init_55 : decode c_PF_init 55 = .ok (.getfield 19, 3) := by decide +kernel
theorem d_PF_init_58 : decode c_PF_init 58 = .ok (.aload_n 0, 1) := by decide +kernel
theorem d_PF_init_59 : decode c_PF_init 59 = .ok (.getfield 28, 3) := by decide +kernel
theorem d_PF_init_62 : decode c_PF_init 62 = .ok (.invokespecial 34, 3) := by decide +kernel
theorem d_PF_init_65 : decode c_PF_init 65 = .ok (.putfield 37, 3) := by decide +kernel
theorem d_PF_init_68 : decode c_PF_init 68 = .ok (.return_, 1) := by decide +kernel
theorem d_PF_edge_0 : decode c_PF_edge 0 = .ok (.aload_n 0, 1) := by decide +kernel
theorem d_PF_edge_1 : decode c_PF_edge 1 = .ok (.getfield 10, 3) := by decide +kernel
theorem d_PF_edge_4 : decode c_PF_edge 4 = .ok (.iload_n 1, 1) := by decide +kernel
theorem d_PF_edge_5 : decode c_PF_edge 5 = .ok (.iload_n 2, 1) := by decide +kernel
theorem d_PF_edge_6 : decode c_PF_edge 6 = .ok (.iload_n 3, 1) := by decide +kernel
theorem d_PF_edge_7 : decode c_PF_edge 7 = .ok (.invokevirtual 41, 3) := by decide +kernel
theorem d_PF_edge_10 : decode c_PF_edge 10 = .ok (.istore 4, 2) := by decide +kernel
theorem d_PF_edge_12 : decode c_PF_edge 12 = .ok (.iload 4, 2) := by decide +kernel
theorem d_PF_edge_14 : decode c_PF_edge 14 = .ok (.iconst 1, 1) := by decide +kernel
theorem d_PF_edge_15 : decode c_PF_edge 15 = .ok (.if_icmp .ne 7, 3) := by decide +kernel
theorem d_PF_edge_18 : decode c_PF_edge 18 = .ok (.aload_n 0, 1) := by decide +kernel
theorem d_PF_edge_19 : decode c_PF_edge 19 = .ok (.invokevirtual 45, 3) := by decide +kernel
theorem d_PF_edge_22 : decode c_PF_edge 22 = .ok (.iload 4, 2) := by decide +kernel
theorem d_PF_edge_24 : decode c_PF_edge 24 = .ok (.ireturn, 1) := by decide +kernel
theorem d_PF_isPoint_0 : decode c_PF_isPoint 0 = .ok (.iload_n 0, 1) := by decide +kernel
theorem d_PF_isPoint_1 : decode c_PF_isPoint 1 = .ok (.ifCond .lt 13, 3) := by decide +kernel
theorem d_PF_isPoint_4 : decode c_PF_isPoint 4 = .ok (.iload_n 0, 1) := by decide +kernel
theorem d_PF_isPoint_5 : decode c_PF_isPoint 5 = .ok (.bipush 64, 2) := by decide +kernel
theorem d_PF_isPoint_7 : decode c_PF_isPoint 7 = .ok (.if_icmp .ge 7, 3) := by decide +kernel
theorem d_PF_isPoint_10 : decode c_PF_isPoint 10 = .ok (.iconst 1, 1) := by decide +kernel
theorem d_PF_isPoint_11 : decode c_PF_isPoint 11 = .ok (.goto 4, 3) := by decide +kernel
theorem d_PF_isPoint_14 : decode c_PF_isPoint 14 = .ok (.iconst 0, 1) := by decide +kernel
theorem d_PF_isPoint_15 : decode c_PF_isPoint 15 = .ok (.ireturn, 1) := by decide +kernel
theorem d_PF_isLabel_0 : decode c_PF_isLabel 0 = .ok (.iload_n 0, 1) := by decide +kernel
theorem d_PF_isLabel_1 : decode c_PF_isLabel 1 = .ok (.ifCond .lt 13, 3) := by decide +kernel
theorem d_PF_isLabel_4 : decode c_PF_isLabel 4 = .ok (.iload_n 0, 1) := by decide +kernel
theorem d_PF_isLabel_5 : decode c_PF_isLabel 5 = .ok (.bipush 8, 2) := by decide +kernel
theorem d_PF_isLabel_7 : decode c_PF_isLabel 7 = .ok (.if_icmp .ge 7, 3) := by decide +kernel
theorem d_PF_isLabel_10 : decode c_PF_isLabel 10 = .ok (.iconst 1, 1) := by decide +kernel
theorem d_PF_isLabel_11 : decode c_PF_isLabel 11 = .ok (.goto 4, 3) := by decide +kernel
theorem d_PF_isLabel_14 : decode c_PF_isLabel 14 = .ok (.iconst 0, 1) := by decide +kernel
theorem d_PF_isLabel_15 : decode c_PF_isLabel 15 = .ok (.ireturn, 1) := by decide +kernel
theorem d_PF_holds_0 : decode c_PF_holds 0 = .ok (.lload_n 0, 1) := by decide +kernel
theorem d_PF_holds_1 : decode c_PF_holds 1 = .ok (.iload_n 2, 1) := by decide +kernel
theorem d_PF_holds_2 : decode c_PF_holds 2 = .ok (.lushr, 1) := by decide +kernel
theorem d_PF_holds_3 : decode c_PF_holds 3 = .ok (.lconst 1, 1) := by decide +kernel
theorem d_PF_holds_4 : decode c_PF_holds 4 = .ok (.land, 1) := by decide +kernel
theorem d_PF_holds_5 : decode c_PF_holds 5 = .ok (.lconst 0, 1) := by decide +kernel
theorem d_PF_holds_6 : decode c_PF_holds 6 = .ok (.lcmp, 1) := by decide +kernel
theorem d_PF_holds_7 : decode c_PF_holds 7 = .ok (.ifCond .eq 7, 3) := by decide +kernel
theorem d_PF_holds_10 : decode c_PF_holds 10 = .ok (.iconst 1, 1) := by decide +kernel
theorem d_PF_holds_11 : decode c_PF_holds 11 = .ok (.goto 4, 3) := by decide +kernel
theorem d_PF_holds_14 : decode c_PF_holds 14 = .ok (.iconst 0, 1) := by decide +kernel
theorem d_PF_holds_15 : decode c_PF_holds 15 = .ok (.ireturn, 1) := by decide +kernel
theorem d_PF_bit_0 : decode c_PF_bit 0 = .ok (.lconst 1, 1) := by decide +kernel
theorem d_PF_bit_1 : decode c_PF_bit 1 = .ok (.iload_n 0, 1) := by decide +kernel
theorem d_PF_bit_2 : decode c_PF_bit 2 = .ok (.lshl, 1) := by decide +kernel
theorem d_PF_bit_3 : decode c_PF_bit 3 = .ok (.lreturn, 1) := by decide +kernel
theorem d_PF_forget_0 : decode c_PF_forget 0 = .ok (.aload_n 0, 1) := by decide +kernel
theorem d_PF_forget_1 : decode c_PF_forget 1 = .ok (.getfield 28, 3) := by decide +kernel
theorem d_PF_forget_4 : decode c_PF_forget 4 = .ok (.iconst 0, 1) := by decide +kernel
theorem d_PF_forget_5 : decode c_PF_forget 5 = .ok (.putfield 104, 3) := by decide +kernel
theorem d_PF_forget_8 : decode c_PF_forget 8 = .ok (.aload_n 0, 1) := by decide +kernel
theorem d_PF_forget_9 : decode c_PF_forget 9 = .ok (.getfield 37, 3) := by decide +kernel
theorem d_PF_forget_12 : decode c_PF_forget 12 = .ok (.iconst (-1), 1) := by decide +kernel
theorem d_PF_forget_13 : decode c_PF_forget 13 = .ok (.putfield 108, 3) := by decide +kernel
theorem d_PF_forget_16 : decode c_PF_forget 16 = .ok (.return_, 1) := by decide +kernel
theorem d_PF_drop_0 : decode c_PF_drop 0 = .ok (.aload_n 0, 1) := by decide +kernel
theorem d_PF_drop_1 : decode c_PF_drop 1 = .ok (.getfield 10, 3) := by decide +kernel
theorem d_PF_drop_4 : decode c_PF_drop 4 = .ok (.iload_n 1, 1) := by decide +kernel
theorem d_PF_drop_5 : decode c_PF_drop 5 = .ok (.iload_n 2, 1) := by decide +kernel
theorem d_PF_drop_6 : decode c_PF_drop 6 = .ok (.iload_n 3, 1) := by decide +kernel
theorem d_PF_drop_7 : decode c_PF_drop 7 = .ok (.invokevirtual 48, 3) := by decide +kernel
theorem d_PF_drop_10 : decode c_PF_drop 10 = .ok (.istore 4, 2) := by decide +kernel
theorem d_PF_drop_12 : decode c_PF_drop 12 = .ok (.iload 4, 2) := by decide +kernel
theorem d_PF_drop_14 : decode c_PF_drop 14 = .ok (.iconst 1, 1) := by decide +kernel
theorem d_PF_drop_15 : decode c_PF_drop 15 = .ok (.if_icmp .ne 7, 3) := by decide +kernel
theorem d_PF_drop_18 : decode c_PF_drop 18 = .ok (.aload_n 0, 1) := by decide +kernel
theorem d_PF_drop_19 : decode c_PF_drop 19 = .ok (.invokevirtual 45, 3) := by decide +kernel
theorem d_PF_drop_22 : decode c_PF_drop 22 = .ok (.iload 4, 2) := by decide +kernel
theorem d_PF_drop_24 : decode c_PF_drop 24 = .ok (.ireturn, 1) := by decide +kernel
theorem d_PF_edges_0 : decode c_PF_edges 0 = .ok (.aload_n 0, 1) := by decide +kernel
theorem d_PF_edges_1 : decode c_PF_edges 1 = .ok (.getfield 10, 3) := by decide +kernel
theorem d_PF_edges_4 : decode c_PF_edges 4 = .ok (.getfield 51, 3) := by decide +kernel
theorem d_PF_edges_7 : decode c_PF_edges 7 = .ok (.ireturn, 1) := by decide +kernel
theorem d_PF_word_0 : decode c_PF_word 0 = .ok (.aload_n 0, 1) := by decide +kernel
theorem d_PF_word_1 : decode c_PF_word 1 = .ok (.getfield 19, 3) := by decide +kernel
theorem d_PF_word_4 : decode c_PF_word 4 = .ok (.iload_n 1, 1) := by decide +kernel
theorem d_PF_word_5 : decode c_PF_word 5 = .ok (.invokevirtual 55, 3) := by decide +kernel
theorem d_PF_word_8 : decode c_PF_word 8 = .ok (.istore_n 2, 1) := by decide +kernel
theorem d_PF_word_9 : decode c_PF_word 9 = .ok (.aload_n 0, 1) := by decide +kernel
theorem d_PF_word_10 : decode c_PF_word 10 = .ok (.invokevirtual 45, 3) := by decide +kernel
theorem d_PF_word_13 : decode c_PF_word 13 = .ok (.iload_n 2, 1) := by decide +kernel
theorem d_PF_word_14 : decode c_PF_word 14 = .ok (.ireturn, 1) := by decide +kernel
theorem d_PF_clear_0 : decode c_PF_clear 0 = .ok (.aload_n 0, 1) := by decide +kernel
theorem d_PF_clear_1 : decode c_PF_clear 1 = .ok (.getfield 19, 3) := by decide +kernel
theorem d_PF_clear_4 : decode c_PF_clear 4 = .ok (.invokevirtual 59, 3) := by decide +kernel
theorem d_PF_clear_7 : decode c_PF_clear 7 = .ok (.istore_n 1, 1) := by decide +kernel
theorem d_PF_clear_8 : decode c_PF_clear 8 = .ok (.aload_n 0, 1) := by decide +kernel
theorem d_PF_clear_9 : decode c_PF_clear 9 = .ok (.invokevirtual 45, 3) := by decide +kernel
theorem d_PF_clear_12 : decode c_PF_clear 12 = .ok (.iload_n 1, 1) := by decide +kernel
theorem d_PF_clear_13 : decode c_PF_clear 13 = .ok (.ireturn, 1) := by decide +kernel
theorem d_PF_look_0 : decode c_PF_look 0 = .ok (.aload_n 0, 1) := by decide +kernel
theorem d_PF_look_1 : decode c_PF_look 1 = .ok (.getfield 19, 3) := by decide +kernel
theorem d_PF_look_4 : decode c_PF_look 4 = .ok (.getfield 63, 3) := by decide +kernel
theorem d_PF_look_7 : decode c_PF_look 7 = .ok (.ireturn, 1) := by decide +kernel
theorem d_PF_times_0 : decode c_PF_times 0 = .ok (.iload_n 1, 1) := by decide +kernel
theorem d_PF_times_1 : decode c_PF_times 1 = .ok (.invokestatic 66, 3) := by decide +kernel
theorem d_PF_times_4 : decode c_PF_times 4 = .ok (.ifCond .eq 10, 3) := by decide +kernel
theorem d_PF_times_7 : decode c_PF_times 7 = .ok (.iload_n 2, 1) := by decide +kernel
theorem d_PF_times_8 : decode c_PF_times 8 = .ok (.invokestatic 66, 3) := by decide +kernel
theorem d_PF_times_11 : decode c_PF_times 11 = .ok (.ifCond .ne 7, 3) := by decide +kernel
theorem d_PF_times_14 : decode c_PF_times 14 = .ok (.ldc2_w 70, 3) := by decide +kernel
theorem d_PF_times_17 : decode c_PF_times 17 = .ok (.lreturn, 1) := by decide +kernel
theorem d_PF_times_18 : decode c_PF_times 18 = .ok (.aload_n 0, 1) := by decide +kernel
theorem d_PF_times_19 : decode c_PF_times 19 = .ok (.getfield 19, 3) := by decide +kernel
theorem d_PF_times_22 : decode c_PF_times 22 = .ok (.invokevirtual 72, 3) := by decide +kernel
theorem d_PF_times_25 : decode c_PF_times 25 = .ok (.ifCond .ne 7, 3) := by decide +kernel
theorem d_PF_times_28 : decode c_PF_times 28 = .ok (.ldc2_w 76, 3) := by decide +kernel
theorem d_PF_times_31 : decode c_PF_times 31 = .ok (.lreturn, 1) := by decide +kernel
theorem d_PF_times_32 : decode c_PF_times 32 = .ok (.aload_n 0, 1) := by decide +kernel
theorem d_PF_times_33 : decode c_PF_times 33 = .ok (.getfield 37, 3) := by decide +kernel
theorem d_PF_times_36 : decode c_PF_times 36 = .ok (.iload_n 1, 1) := by decide +kernel
theorem d_PF_times_37 : decode c_PF_times 37 = .ok (.invokevirtual 78, 3) := by decide +kernel
theorem d_PF_times_40 : decode c_PF_times 40 = .ok (.iload_n 2, 1) := by decide +kernel
theorem d_PF_times_41 : decode c_PF_times 41 = .ok (.laload, 1) := by decide +kernel
theorem d_PF_times_42 : decode c_PF_times 42 = .ok (.lreturn, 1) := by decide +kernel
theorem d_PF_sumOf_0 : decode c_PF_sumOf 0 = .ok (.lload_n 0, 1) := by decide +kernel
theorem d_PF_sumOf_1 : decode c_PF_sumOf 1 = .ok (.lload_n 2, 1) := by decide +kernel
theorem d_PF_sumOf_2 : decode c_PF_sumOf 2 = .ok (.ladd, 1) := by decide +kernel
theorem d_PF_sumOf_3 : decode c_PF_sumOf 3 = .ok (.lstore 4, 2) := by decide +kernel
theorem d_PF_sumOf_5 : decode c_PF_sumOf 5 = .ok (.lload 4, 2) := by decide +kernel
theorem d_PF_sumOf_7 : decode c_PF_sumOf 7 = .ok (.ldc2_w 111, 3) := by decide +kernel
theorem d_PF_sumOf_10 : decode c_PF_sumOf 10 = .ok (.lcmp, 1) := by decide +kernel
theorem d_PF_sumOf_11 : decode c_PF_sumOf 11 = .ok (.ifCond .ge 8, 3) := by decide +kernel
theorem d_PF_sumOf_14 : decode c_PF_sumOf 14 = .ok (.lload 4, 2) := by decide +kernel
theorem d_PF_sumOf_16 : decode c_PF_sumOf 16 = .ok (.goto 6, 3) := by decide +kernel
theorem d_PF_sumOf_19 : decode c_PF_sumOf 19 = .ok (.ldc2_w 111, 3) := by decide +kernel
theorem d_PF_sumOf_22 : decode c_PF_sumOf 22 = .ok (.lreturn, 1) := by decide +kernel
theorem d_PF_ends_0 : decode c_PF_ends 0 = .ok (.iload_n 1, 1) := by decide +kernel
theorem d_PF_ends_1 : decode c_PF_ends 1 = .ok (.invokestatic 66, 3) := by decide +kernel
theorem d_PF_ends_4 : decode c_PF_ends 4 = .ok (.ifCond .ne 5, 3) := by decide +kernel
theorem d_PF_ends_7 : decode c_PF_ends 7 = .ok (.iconst (-1), 1) := by decide +kernel
theorem d_PF_ends_8 : decode c_PF_ends 8 = .ok (.ireturn, 1) := by decide +kernel
theorem d_PF_ends_9 : decode c_PF_ends 9 = .ok (.aload_n 0, 1) := by decide +kernel
theorem d_PF_ends_10 : decode c_PF_ends 10 = .ok (.getfield 19, 3) := by decide +kernel
theorem d_PF_ends_13 : decode c_PF_ends 13 = .ok (.invokevirtual 72, 3) := by decide +kernel
theorem d_PF_ends_16 : decode c_PF_ends 16 = .ok (.ifCond .ne 6, 3) := by decide +kernel
theorem d_PF_ends_19 : decode c_PF_ends 19 = .ok (.bipush (-2), 2) := by decide +kernel
theorem d_PF_ends_21 : decode c_PF_ends 21 = .ok (.ireturn, 1) := by decide +kernel
theorem d_PF_ends_22 : decode c_PF_ends 22 = .ok (.aload_n 0, 1) := by decide +kernel
theorem d_PF_ends_23 : decode c_PF_ends 23 = .ok (.getfield 28, 3) := by decide +kernel
theorem d_PF_ends_26 : decode c_PF_ends 26 = .ok (.invokevirtual 82, 3) := by decide +kernel
theorem d_PF_ends_29 : decode c_PF_ends 29 = .ok (.iload_n 1, 1) := by decide +kernel
theorem d_PF_ends_30 : decode c_PF_ends 30 = .ok (.laload, 1) := by decide +kernel
theorem d_PF_ends_31 : decode c_PF_ends 31 = .ok (.invokestatic 86, 3) := by decide +kernel
theorem d_PF_ends_34 : decode c_PF_ends 34 = .ok (.ireturn, 1) := by decide +kernel
theorem d_PF_reached_0 : decode c_PF_reached 0 = .ok (.aload_n 0, 1) := by decide +kernel
theorem d_PF_reached_1 : decode c_PF_reached 1 = .ok (.getfield 19, 3) := by decide +kernel
theorem d_PF_reached_4 : decode c_PF_reached 4 = .ok (.invokevirtual 72, 3) := by decide +kernel
theorem d_PF_reached_7 : decode c_PF_reached 7 = .ok (.ifCond .ne 5, 3) := by decide +kernel
theorem d_PF_reached_10 : decode c_PF_reached 10 = .ok (.lconst 0, 1) := by decide +kernel
theorem d_PF_reached_11 : decode c_PF_reached 11 = .ok (.lreturn, 1) := by decide +kernel
theorem d_PF_reached_12 : decode c_PF_reached 12 = .ok (.iload_n 1, 1) := by decide +kernel
theorem d_PF_reached_13 : decode c_PF_reached 13 = .ok (.invokestatic 66, 3) := by decide +kernel
theorem d_PF_reached_16 : decode c_PF_reached 16 = .ok (.ifCond .ne 7, 3) := by decide +kernel
theorem d_PF_reached_19 : decode c_PF_reached 19 = .ok (.ldc2_w 70, 3) := by decide +kernel
theorem d_PF_reached_22 : decode c_PF_reached 22 = .ok (.lreturn, 1) := by decide +kernel
theorem d_PF_reached_23 : decode c_PF_reached 23 = .ok (.aload_n 0, 1) := by decide +kernel
theorem d_PF_reached_24 : decode c_PF_reached 24 = .ok (.getfield 28, 3) := by decide +kernel
theorem d_PF_reached_27 : decode c_PF_reached 27 = .ok (.invokevirtual 82, 3) := by decide +kernel
theorem d_PF_reached_30 : decode c_PF_reached 30 = .ok (.iload_n 1, 1) := by decide +kernel
theorem d_PF_reached_31 : decode c_PF_reached 31 = .ok (.laload, 1) := by decide +kernel
theorem d_PF_reached_32 : decode c_PF_reached 32 = .ok (.lreturn, 1) := by decide +kernel
theorem d_PF_all_0 : decode c_PF_all 0 = .ok (.iload_n 1, 1) := by decide +kernel
theorem d_PF_all_1 : decode c_PF_all 1 = .ok (.invokestatic 66, 3) := by decide +kernel
theorem d_PF_all_4 : decode c_PF_all 4 = .ok (.ifCond .ne 7, 3) := by decide +kernel
theorem d_PF_all_7 : decode c_PF_all 7 = .ok (.ldc2_w 70, 3) := by decide +kernel
theorem d_PF_all_10 : decode c_PF_all 10 = .ok (.lreturn, 1) := by decide +kernel
theorem d_PF_all_11 : decode c_PF_all 11 = .ok (.aload_n 0, 1) := by decide +kernel
theorem d_PF_all_12 : decode c_PF_all 12 = .ok (.getfield 19, 3) := by decide +kernel
theorem d_PF_all_15 : decode c_PF_all 15 = .ok (.invokevirtual 72, 3) := by decide +kernel
theorem d_PF_all_18 : decode c_PF_all 18 = .ok (.ifCond .ne 7, 3) := by decide +kernel
theorem d_PF_all_21 : decode c_PF_all 21 = .ok (.ldc2_w 76, 3) := by decide +kernel
theorem d_PF_all_24 : decode c_PF_all 24 = .ok (.lreturn, 1) := by decide +kernel
theorem d_PF_all_25 : decode c_PF_all 25 = .ok (.aload_n 0, 1) := by decide +kernel
theorem d_PF_all_26 : decode c_PF_all 26 = .ok (.getfield 37, 3) := by decide +kernel
theorem d_PF_all_29 : decode c_PF_all 29 = .ok (.iload_n 1, 1) := by decide +kernel
theorem d_PF_all_30 : decode c_PF_all 30 = .ok (.invokevirtual 78, 3) := by decide +kernel
theorem d_PF_all_33 : decode c_PF_all 33 = .ok (.astore_n 2, 1) := by decide +kernel
theorem d_PF_all_34 : decode c_PF_all 34 = .ok (.lconst 0, 1) := by decide +kernel
theorem d_PF_all_35 : decode c_PF_all 35 = .ok (.lstore_n 3, 1) := by decide +kernel
theorem d_PF_all_36 : decode c_PF_all 36 = .ok (.iconst 0, 1) := by decide +kernel
theorem d_PF_all_37 : decode c_PF_all 37 = .ok (.istore 5, 2) := by decide +kernel
theorem d_PF_all_39 : decode c_PF_all 39 = .ok (.iload 5, 2) := by decide +kernel
theorem d_PF_all_41 : decode c_PF_all 41 = .ok (.bipush 64, 2) := by decide +kernel
theorem d_PF_all_43 : decode c_PF_all 43 = .ok (.if_icmp .ge 18, 3) := by decide +kernel
theorem d_PF_all_46 : decode c_PF_all 46 = .ok (.lload_n 3, 1) := by decide +kernel
theorem d_PF_all_47 : decode c_PF_all 47 = .ok (.aload_n 2, 1) := by decide +kernel
theorem d_PF_all_48 : decode c_PF_all 48 = .ok (.iload 5, 2) := by decide +kernel
theorem d_PF_all_50 : decode c_PF_all 50 = .ok (.laload, 1) := by decide +kernel
theorem d_PF_all_51 : decode c_PF_all 51 = .ok (.invokestatic 92, 3) := by decide +kernel
theorem d_PF_all_54 : decode c_PF_all 54 = .ok (.lstore_n 3, 1) := by decide +kernel
theorem d_PF_all_55 : decode c_PF_all 55 = .ok (.iinc 5 1, 3) := by decide +kernel
theorem d_PF_all_58 : decode c_PF_all 58 = .ok (.goto (-19), 3) := by decide +kernel
theorem d_PF_all_61 : decode c_PF_all 61 = .ok (.lload_n 3, 1) := by decide +kernel
theorem d_PF_all_62 : decode c_PF_all 62 = .ok (.lreturn, 1) := by decide +kernel
theorem d_PF_reaching_0 : decode c_PF_reaching 0 = .ok (.aload_n 0, 1) := by decide +kernel
theorem d_PF_reaching_1 : decode c_PF_reaching 1 = .ok (.getfield 19, 3) := by decide +kernel
theorem d_PF_reaching_4 : decode c_PF_reaching 4 = .ok (.invokevirtual 72, 3) := by decide +kernel
theorem d_PF_reaching_7 : decode c_PF_reaching 7 = .ok (.ifCond .eq 10, 3) := by decide +kernel
theorem d_PF_reaching_10 : decode c_PF_reaching 10 = .ok (.iload_n 1, 1) := by decide +kernel
theorem d_PF_reaching_11 : decode c_PF_reaching 11 = .ok (.invokestatic 66, 3) := by decide +kernel
theorem d_PF_reaching_14 : decode c_PF_reaching 14 = .ok (.ifCond .ne 5, 3) := by decide +kernel
theorem d_PF_reaching_17 : decode c_PF_reaching 17 = .ok (.lconst 0, 1) := by decide +kernel
theorem d_PF_reaching_18 : decode c_PF_reaching 18 = .ok (.lreturn, 1) := by decide +kernel
theorem d_PF_reaching_19 : decode c_PF_reaching 19 = .ok (.aload_n 0, 1) := by decide +kernel
theorem d_PF_reaching_20 : decode c_PF_reaching 20 = .ok (.getfield 28, 3) := by decide +kernel
theorem d_PF_reaching_23 : decode c_PF_reaching 23 = .ok (.invokevirtual 82, 3) := by decide +kernel
theorem d_PF_reaching_26 : decode c_PF_reaching 26 = .ok (.astore_n 2, 1) := by decide +kernel
theorem d_PF_reaching_27 : decode c_PF_reaching 27 = .ok (.lconst 0, 1) := by decide +kernel
theorem d_PF_reaching_28 : decode c_PF_reaching 28 = .ok (.lstore_n 3, 1) := by decide +kernel
theorem d_PF_reaching_29 : decode c_PF_reaching 29 = .ok (.iconst 0, 1) := by decide +kernel
theorem d_PF_reaching_30 : decode c_PF_reaching 30 = .ok (.istore 5, 2) := by decide +kernel
theorem d_PF_reaching_32 : decode c_PF_reaching 32 = .ok (.iload 5, 2) := by decide +kernel
theorem d_PF_reaching_34 : decode c_PF_reaching 34 = .ok (.bipush 64, 2) := by decide +kernel
theorem d_PF_reaching_36 : decode c_PF_reaching 36 = .ok (.if_icmp .ge 28, 3) := by decide +kernel
theorem d_PF_reaching_39 : decode c_PF_reaching 39 = .ok (.aload_n 2, 1) := by decide +kernel
theorem d_PF_reaching_40 : decode c_PF_reaching 40 = .ok (.iload 5, 2) := by decide +kernel
theorem d_PF_reaching_42 : decode c_PF_reaching 42 = .ok (.laload, 1) := by decide +kernel
theorem d_PF_reaching_43 : decode c_PF_reaching 43 = .ok (.iload_n 1, 1) := by decide +kernel
theorem d_PF_reaching_44 : decode c_PF_reaching 44 = .ok (.invokestatic 96, 3) := by decide +kernel
theorem d_PF_reaching_47 : decode c_PF_reaching 47 = .ok (.ifCond .eq 11, 3) := by decide +kernel
theorem d_PF_reaching_50 : decode c_PF_reaching 50 = .ok (.lload_n 3, 1) := by decide +kernel
theorem d_PF_reaching_51 : decode c_PF_reaching 51 = .ok (.iload 5, 2) := by decide +kernel
theorem d_PF_reaching_53 : decode c_PF_reaching 53 = .ok (.invokestatic 100, 3) := by decide +kernel
theorem d_PF_reaching_56 : decode c_PF_reaching 56 = .ok (.lor, 1) := by decide +kernel
theorem d_PF_reaching_57 : decode c_PF_reaching 57 = .ok (.lstore_n 3, 1) := by decide +kernel
theorem d_PF_reaching_58 : decode c_PF_reaching 58 = .ok (.iinc 5 1, 3) := by decide +kernel
theorem d_PF_reaching_61 : decode c_PF_reaching 61 = .ok (.goto (-29), 3) := by decide +kernel
theorem d_PF_reaching_64 : decode c_PF_reaching 64 = .ok (.lload_n 3, 1) := by decide +kernel
theorem d_PF_reaching_65 : decode c_PF_reaching 65 = .ok (.lreturn, 1) := by decide +kernel
theorem d_PF_pairs_0 : decode c_PF_pairs 0 = .ok (.aload_n 0, 1) := by decide +kernel
theorem d_PF_pairs_1 : decode c_PF_pairs 1 = .ok (.getfield 19, 3) := by decide +kernel
theorem d_PF_pairs_4 : decode c_PF_pairs 4 = .ok (.invokevirtual 72, 3) := by decide +kernel
theorem d_PF_pairs_7 : decode c_PF_pairs 7 = .ok (.ifCond .ne 6, 3) := by decide +kernel
theorem d_PF_pairs_10 : decode c_PF_pairs 10 = .ok (.bipush (-2), 2) := by decide +kernel
theorem d_PF_pairs_12 : decode c_PF_pairs 12 = .ok (.ireturn, 1) := by decide +kernel
theorem d_PF_pairs_13 : decode c_PF_pairs 13 = .ok (.aload_n 0, 1) := by decide +kernel
theorem d_PF_pairs_14 : decode c_PF_pairs 14 = .ok (.getfield 28, 3) := by decide +kernel
theorem d_PF_pairs_17 : decode c_PF_pairs 17 = .ok (.invokevirtual 82, 3) := by decide +kernel
theorem d_PF_pairs_20 : decode c_PF_pairs 20 = .ok (.astore_n 1, 1) := by decide +kernel
theorem d_PF_pairs_21 : decode c_PF_pairs 21 = .ok (.iconst 0, 1) := by decide +kernel
theorem d_PF_pairs_22 : decode c_PF_pairs 22 = .ok (.istore_n 2, 1) := by decide +kernel
theorem d_PF_pairs_23 : decode c_PF_pairs 23 = .ok (.iconst 0, 1) := by decide +kernel
theorem d_PF_pairs_24 : decode c_PF_pairs 24 = .ok (.istore_n 3, 1) := by decide +kernel
theorem d_PF_pairs_25 : decode c_PF_pairs 25 = .ok (.iload_n 3, 1) := by decide +kernel
theorem d_PF_pairs_26 : decode c_PF_pairs 26 = .ok (.bipush 64, 2) := by decide +kernel
theorem d_PF_pairs_28 : decode c_PF_pairs 28 = .ok (.if_icmp .ge 18, 3) := by decide +kernel
theorem d_PF_pairs_31 : decode c_PF_pairs 31 = .ok (.iload_n 2, 1) := by decide +kernel
theorem d_PF_pairs_32 : decode c_PF_pairs 32 = .ok (.aload_n 1, 1) := by decide +kernel
theorem d_PF_pairs_33 : decode c_PF_pairs 33 = .ok (.iload_n 3, 1) := by decide +kernel
theorem d_PF_pairs_34 : decode c_PF_pairs 34 = .ok (.laload, 1) := by decide +kernel
theorem d_PF_pairs_35 : decode c_PF_pairs 35 = .ok (.invokestatic 86, 3) := by decide +kernel
theorem d_PF_pairs_38 : decode c_PF_pairs 38 = .ok (.iadd, 1) := by decide +kernel
theorem d_PF_pairs_39 : decode c_PF_pairs 39 = .ok (.istore_n 2, 1) := by decide +kernel
theorem d_PF_pairs_40 : decode c_PF_pairs 40 = .ok (.iinc 3 1, 3) := by decide +kernel
theorem d_PF_pairs_43 : decode c_PF_pairs 43 = .ok (.goto (-18), 3) := by decide +kernel
theorem d_PF_pairs_46 : decode c_PF_pairs 46 = .ok (.iload_n 2, 1) := by decide +kernel
theorem d_PF_pairs_47 : decode c_PF_pairs 47 = .ok (.ireturn, 1) := by decide +kernel
