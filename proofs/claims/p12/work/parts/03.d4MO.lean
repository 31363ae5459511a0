/-! DECODE ROWS -/
theorem d_MO_init_0 : decode c_MO_init 0 = .ok (.aload_n 0, 1) := by decide +kernel
theorem d_MO_init_1 : decode c_MO_init 1 = .ok (.invokespecial 1, 3) := by decide +kernel
theorem d_MO_init_4 : decode c_MO_init 4 = .ok (.aload_n 0, 1) := by decide +kernel
theorem d_MO_init_5 : decode c_MO_init 5 = .ok (.ldc 7, 2) := by decide +kernel
theorem d_MO_init_7 : decode c_MO_init 7 = .ok (.newarray .boolean, 2) := by decide +kernel
theorem d_MO_init_9 : decode c_MO_init 9 = .ok (.putfield 8, 3) := by decide +kernel
theorem d_MO_init_12 : decode c_MO_init 12 = .ok (.aload_n 0, 1) := by decide +kernel
theorem d_MO_init_13 : decode c_MO_init 13 = .ok (.bipush 60, 2) := by decide +kernel
theorem d_MO_init_15 : decode c_MO_init 15 = .ok (.newarray .int, 2) := by decide +kernel
theorem d_MO_init_17 : decode c_MO_init 17 = .ok (.putfield 14, 3) := by decide +kernel
theorem d_MO_init_20 : decode c_MO_init 20 = .ok (.aload_n 0, 1) := by decide +kernel
theorem d_MO_init_21 : decode c_MO_init 21 = .ok (.bipush 41, 2) := by decide +kernel
theorem d_MO_init_23 : decode c_MO_init 23 = .ok (.newarray .int, 2) := by decide +kernel
theorem d_MO_init_25 : decode c_MO_init 25 = .ok (.putfield 18, 3) := by decide +kernel
theorem d_MO_init_28 : decode c_MO_init 28 = .ok (.aload_n 0, 1) := by decide +kernel
theorem d_MO_init_29 : decode c_MO_init 29 = .ok (.bipush 16, 2) := by decide +kernel
theorem d_MO_init_31 : decode c_MO_init 31 = .ok (.newarray .int, 2) := by decide +kernel
theorem d_MO_init_33 : decode c_MO_init 33 = .ok (.putfield 21, 3) := by decide +kernel
theorem d_MO_init_36 : decode c_MO_init 36 = .ok (.aload_n 0, 1) := by decide +kernel
theorem d_MO_init_37 : decode c_MO_init 37 = .ok (.ldc 24, 2) := by decide +kernel
theorem d_MO_init_39 : decode c_MO_init 39 = .ok (.newarray .long, 2) := by decide +kernel
theorem d_MO_init_41 : decode c_MO_init 41 = .ok (.putfield 25, 3) := by decide +kernel
theorem d_MO_init_44 : decode c_MO_init 44 = .ok (.aload_n 0, 1) := by decide +kernel
theorem d_MO_init_45 : decode c_MO_init 45 = .ok (.bipush 64, 2) := by decide +kernel
theorem d_MO_init_47 : decode c_MO_init 47 = .ok (.newarray .long, 2) := by decide +kernel
theorem d_MO_init_49 : decode c_MO_init 49 = .ok (.putfield 29, 3) := by decide +kernel
theorem d_MO_init_52 : decode c_MO_init 52 = .ok (.return_, 1) := by decide +kernel
theorem d_MO_edge_0 : decode c_MO_edge 0 = .ok (.iload_n 1, 1) := by decide +kernel
theorem d_MO_edge_1 : decode c_MO_edge 1 = .ok (.iload_n 2, 1) := by decide +kernel
theorem d_MO_edge_2 : decode c_MO_edge 2 = .ok (.iload_n 3, 1) := by decide +kernel
theorem d_MO_edge_3 : decode c_MO_edge 3 = .ok (.invokestatic 36, 3) := by decide +kernel
theorem d_MO_edge_6 : decode c_MO_edge 6 = .ok (.ifCond .ne 5, 3) := by decide +kernel
theorem d_MO_edge_9 : decode c_MO_edge 9 = .ok (.iconst (-1), 1) := by decide +kernel
theorem d_MO_edge_10 : decode c_MO_edge 10 = .ok (.ireturn, 1) := by decide +kernel
theorem d_MO_edge_11 : decode c_MO_edge 11 = .ok (.aload_n 0, 1) := by decide +kernel
theorem d_MO_edge_12 : decode c_MO_edge 12 = .ok (.getfield 8, 3) := by decide +kernel
theorem d_MO_edge_15 : decode c_MO_edge 15 = .ok (.iload_n 1, 1) := by decide +kernel
theorem d_MO_edge_16 : decode c_MO_edge 16 = .ok (.iload_n 2, 1) := by decide +kernel
theorem d_MO_edge_17 : decode c_MO_edge 17 = .ok (.iload_n 3, 1) := by decide +kernel
theorem d_MO_edge_18 : decode c_MO_edge 18 = .ok (.invokestatic 40, 3) := by decide +kernel
theorem d_MO_edge_21 : decode c_MO_edge 21 = .ok (.baload, 1) := by decide +kernel
theorem d_MO_edge_22 : decode c_MO_edge 22 = .ok (.ifCond .eq 5, 3) := by decide +kernel
theorem d_MO_edge_25 : decode c_MO_edge 25 = .ok (.iconst 0, 1) := by decide +kernel
theorem d_MO_edge_26 : decode c_MO_edge 26 = .ok (.ireturn, 1) := by decide +kernel
theorem d_MO_edge_27 : decode c_MO_edge 27 = .ok (.aload_n 0, 1) := by decide +kernel
theorem d_MO_edge_28 : decode c_MO_edge 28 = .ok (.getfield 8, 3) := by decide +kernel
theorem d_MO_edge_31 : decode c_MO_edge 31 = .ok (.iload_n 1, 1) := by decide +kernel
theorem d_MO_edge_32 : decode c_MO_edge 32 = .ok (.iload_n 2, 1) := by decide +kernel
theorem d_MO_edge_33 : decode c_MO_edge 33 = .ok (.iload_n 3, 1) := by decide +kernel
theorem d_MO_edge_34 : decode c_MO_edge 34 = .ok (.invokestatic 40, 3) := by decide +kernel
theorem d_MO_edge_37 : decode c_MO_edge 37 = .ok (.iconst 1, 1) := by decide +kernel
theorem d_MO_edge_38 : decode c_MO_edge 38 = .ok (.bastore, 1) := by decide +kernel
theorem d_MO_edge_39 : decode c_MO_edge 39 = .ok (.aload_n 0, 1) := by decide +kernel
theorem d_MO_edge_40 : decode c_MO_edge 40 = .ok (.dup, 1) := by decide +kernel
theorem d_MO_edge_41 : decode c_MO_edge 41 = .ok (.getfield 44, 3) := by decide +kernel
theorem d_MO_edge_44 : decode c_MO_edge 44 = .ok (.iconst 1, 1) := by decide +kernel
theorem d_MO_edge_45 : decode c_MO_edge 45 = .ok (.iadd, 1) := by decide +kernel
theorem d_MO_edge_46 : decode c_MO_edge 46 = .ok (.putfield 44, 3) := by decide +kernel
theorem d_MO_edge_49 : decode c_MO_edge 49 = .ok (.aload_n 0, 1) := by decide +kernel
theorem d_MO_edge_50 : decode c_MO_edge 50 = .ok (.iconst 0, 1) := by decide +kernel
theorem d_MO_edge_51 : decode c_MO_edge 51 = .ok (.putfield 48, 3) := by decide +kernel
theorem d_MO_edge_54 : decode c_MO_edge 54 = .ok (.iconst 1, 1) := by decide +kernel
theorem d_MO_edge_55 : decode c_MO_edge 55 = .ok (.ireturn, 1) := by decide +kernel
theorem d_MO_isEdge_0 : decode c_MO_isEdge 0 = .ok (.iload_n 0, 1) := by decide +kernel
theorem d_MO_isEdge_1 : decode c_MO_isEdge 1 = .ok (.invokestatic 32, 3) := by decide +kernel
theorem d_MO_isEdge_4 : decode c_MO_isEdge 4 = .ok (.ifCond .eq 24, 3) := by decide +kernel
theorem d_MO_isEdge_7 : decode c_MO_isEdge 7 = .ok (.iload_n 2, 1) := by decide +kernel
theorem d_MO_isEdge_8 : decode c_MO_isEdge 8 = .ok (.invokestatic 32, 3) := by decide +kernel
theorem d_MO_isEdge_11 : decode c_MO_isEdge 11 = .ok (.ifCond .eq 17, 3) := by decide +kernel
theorem d_MO_isEdge_14 : decode c_MO_isEdge 14 = .ok (.iload_n 1, 1) := by decide +kernel
theorem d_MO_isEdge_15 : decode c_MO_isEdge 15 = .ok (.ifCond .lt 13, 3) := by decide +kernel
theorem d_MO_isEdge_18 : decode c_MO_isEdge 18 = .ok (.iload_n 1, 1) := by decide +kernel
theorem d_MO_isEdge_19 : decode c_MO_isEdge 19 = .ok (.bipush 8, 2) := by decide +kernel
theorem d_MO_isEdge_21 : decode c_MO_isEdge 21 = .ok (.if_icmp .ge 7, 3) := by decide +kernel
theorem d_MO_isEdge_24 : decode c_MO_isEdge 24 = .ok (.iconst 1, 1) := by decide +kernel
theorem d_MO_isEdge_25 : decode c_MO_isEdge 25 = .ok (.goto 4, 3) := by decide +kernel
theorem d_MO_isEdge_28 : decode c_MO_isEdge 28 = .ok (.iconst 0, 1) := by decide +kernel
theorem d_MO_isEdge_29 : decode c_MO_isEdge 29 = .ok (.ireturn, 1) := by decide +kernel
theorem d_MO_isPoint_0 : decode c_MO_isPoint 0 = .ok (.iload_n 0, 1) := by decide +kernel
theorem d_MO_isPoint_1 : decode c_MO_isPoint 1 = .ok (.ifCond .lt 13, 3) := by decide +kernel
theorem d_MO_isPoint_4 : decode c_MO_isPoint 4 = .ok (.iload_n 0, 1) := by decide +kernel
theorem d_MO_isPoint_5 : decode c_MO_isPoint 5 = .ok (.bipush 64, 2) := by decide +kernel
theorem d_MO_isPoint_7 : decode c_MO_isPoint 7 = .ok (.if_icmp .ge 7, 3) := by decide +kernel
theorem d_MO_isPoint_10 : decode c_MO_isPoint 10 = .ok (.iconst 1, 1) := by decide +kernel
theorem d_MO_isPoint_11 : decode c_MO_isPoint 11 = .ok (.goto 4, 3) := by decide +kernel
theorem d_MO_isPoint_14 : decode c_MO_isPoint 14 = .ok (.iconst 0, 1) := by decide +kernel
theorem d_MO_isPoint_15 : decode c_MO_isPoint 15 = .ok (.ireturn, 1) := by decide +kernel
theorem d_MO_place_0 : decode c_MO_place 0 = .ok (.sipush 4096, 3) := by decide +kernel
theorem d_MO_place_3 : decode c_MO_place 3 = .ok (.iload_n 1, 1) := by decide +kernel
theorem d_MO_place_4 : decode c_MO_place 4 = .ok (.imul, 1) := by decide +kernel
theorem d_MO_place_5 : decode c_MO_place 5 = .ok (.bipush 64, 2) := by decide +kernel
theorem d_MO_place_7 : decode c_MO_place 7 = .ok (.iload_n 0, 1) := by decide +kernel
theorem d_MO_place_8 : decode c_MO_place 8 = .ok (.imul, 1) := by decide +kernel
theorem d_MO_place_9 : decode c_MO_place 9 = .ok (.iadd, 1) := by decide +kernel
theorem d_MO_place_10 : decode c_MO_place 10 = .ok (.iload_n 2, 1) := by decide +kernel
theorem d_MO_place_11 : decode c_MO_place 11 = .ok (.iadd, 1) := by decide +kernel
theorem d_MO_place_12 : decode c_MO_place 12 = .ok (.ireturn, 1) := by decide +kernel
theorem d_MO_drop_0 : decode c_MO_drop 0 = .ok (.iload_n 1, 1) := by decide +kernel
theorem d_MO_drop_1 : decode c_MO_drop 1 = .ok (.iload_n 2, 1) := by decide +kernel
theorem d_MO_drop_2 : decode c_MO_drop 2 = .ok (.iload_n 3, 1) := by decide +kernel
theorem d_MO_drop_3 : decode c_MO_drop 3 = .ok (.invokestatic 36, 3) := by decide +kernel
theorem d_MO_drop_6 : decode c_MO_drop 6 = .ok (.ifCond .ne 5, 3) := by decide +kernel
theorem d_MO_drop_9 : decode c_MO_drop 9 = .ok (.iconst (-1), 1) := by decide +kernel
theorem d_MO_drop_10 : decode c_MO_drop 10 = .ok (.ireturn, 1) := by decide +kernel
theorem d_MO_drop_11 : decode c_MO_drop 11 = .ok (.aload_n 0, 1) := by decide +kernel
theorem d_MO_drop_12 : decode c_MO_drop 12 = .ok (.getfield 8, 3) := by decide +kernel
theorem d_MO_drop_15 : decode c_MO_drop 15 = .ok (.iload_n 1, 1) := by decide +kernel
theorem d_MO_drop_16 : decode c_MO_drop 16 = .ok (.iload_n 2, 1) := by decide +kernel
theorem d_MO_drop_17 : decode c_MO_drop 17 = .ok (.iload_n 3, 1) := by decide +kernel
theorem d_MO_drop_18 : decode c_MO_drop 18 = .ok (.invokestatic 40, 3) := by decide +kernel
theorem d_MO_drop_21 : decode c_MO_drop 21 = .ok (.baload, 1) := by decide +kernel
theorem d_MO_drop_22 : decode c_MO_drop 22 = .ok (.ifCond .ne 5, 3) := by decide +kernel
theorem d_MO_drop_25 : decode c_MO_drop 25 = .ok (.iconst 0, 1) := by decide +kernel
theorem d_MO_drop_26 : decode c_MO_drop 26 = .ok (.ireturn, 1) := by decide +kernel
theorem d_MO_drop_27 : decode c_MO_drop 27 = .ok (.aload_n 0, 1) := by decide +kernel
theorem d_MO_drop_28 : decode c_MO_drop 28 = .ok (.getfield 8, 3) := by decide +kernel
theorem d_MO_drop_31 : decode c_MO_drop 31 = .ok (.iload_n 1, 1) := by decide +kernel
theorem d_MO_drop_32 : decode c_MO_drop 32 = .ok (.iload_n 2, 1) := by decide +kernel
theorem d_MO_drop_33 : decode c_MO_drop 33 = .ok (.iload_n 3, 1) := by decide +kernel
theorem d_MO_drop_34 : decode c_MO_drop 34 = .ok (.invokestatic 40, 3) := by decide +kernel
theorem d_MO_drop_37 : decode c_MO_drop 37 = .ok (.iconst 0, 1) := by decide +kernel
theorem d_MO_drop_38 : decode c_MO_drop 38 = .ok (.bastore, 1) := by decide +kernel
theorem d_MO_drop_39 : decode c_MO_drop 39 = .ok (.aload_n 0, 1) := by decide +kernel
theorem d_MO_drop_40 : decode c_MO_drop 40 = .ok (.dup, 1) := by decide +kernel
theorem d_MO_drop_41 : decode c_MO_drop 41 = .ok (.getfield 44, 3) := by decide +kernel
theorem d_MO_drop_44 : decode c_MO_drop 44 = .ok (.iconst 1, 1) := by decide +kernel
theorem d_MO_drop_45 : decode c_MO_drop 45 = .ok (.isub, 1) := by decide +kernel
theorem d_MO_drop_46 : decode c_MO_drop 46 = .ok (.putfield 44, 3) := by decide +kernel
theorem d_MO_drop_49 : decode c_MO_drop 49 = .ok (.aload_n 0, 1) := by decide +kernel
theorem d_MO_drop_50 : decode c_MO_drop 50 = .ok (.iconst 0, 1) := by decide +kernel
theorem d_MO_drop_51 : decode c_MO_drop 51 = .ok (.putfield 48, 3) := by decide +kernel
theorem d_MO_drop_54 : decode c_MO_drop 54 = .ok (.iconst 1, 1) := by decide +kernel
theorem d_MO_drop_55 : decode c_MO_drop 55 = .ok (.ireturn, 1) := by decide +kernel
theorem d_MO_edges_0 : decode c_MO_edges 0 = .ok (.aload_n 0, 1) := by decide +kernel
theorem d_MO_edges_1 : decode c_MO_edges 1 = .ok (.getfield 44, 3) := by decide +kernel
theorem d_MO_edges_4 : decode c_MO_edges 4 = .ok (.ireturn, 1) := by decide +kernel
theorem d_MO_word_0 : decode c_MO_word 0 = .ok (.aload_n 0, 1) := by decide +kernel
theorem d_MO_word_1 : decode c_MO_word 1 = .ok (.getfield 52, 3) := by decide +kernel
theorem d_MO_word_4 : decode c_MO_word 4 = .ok (.bipush 60, 2) := by decide +kernel
theorem d_MO_word_6 : decode c_MO_word 6 = .ok (.if_icmp .ne 6, 3) := by decide +kernel
theorem d_MO_word_9 : decode c_MO_word 9 = .ok (.bipush (-3), 2) := by decide +kernel
theorem d_MO_word_11 : decode c_MO_word 11 = .ok (.ireturn, 1) := by decide +kernel
theorem d_MO_word_12 : decode c_MO_word 12 = .ok (.aload_n 0, 1) := by decide +kernel
theorem d_MO_word_13 : decode c_MO_word 13 = .ok (.getfield 14, 3) := by decide +kernel
theorem d_MO_word_16 : decode c_MO_word 16 = .ok (.aload_n 0, 1) := by decide +kernel
theorem d_MO_word_17 : decode c_MO_word 17 = .ok (.getfield 52, 3) := by decide +kernel
theorem d_MO_word_20 : decode c_MO_word 20 = .ok (.iload_n 1, 1) := by decide +kernel
theorem d_MO_word_21 : decode c_MO_word 21 = .ok (.iastore, 1) := by decide +kernel
theorem d_MO_word_22 : decode c_MO_word 22 = .ok (.aload_n 0, 1) := by decide +kernel
theorem d_MO_word_23 : decode c_MO_word 23 = .ok (.dup, 1) := by decide +kernel
theorem d_MO_word_24 : decode c_MO_word 24 = .ok (.getfield 52, 3) := by decide +kernel
theorem d_MO_word_27 : decode c_MO_word 27 = .ok (.iconst 1, 1) := by decide +kernel
theorem d_MO_word_28 : decode c_MO_word 28 = .ok (.iadd, 1) := by decide +kernel
theorem d_MO_word_29 : decode c_MO_word 29 = .ok (.putfield 52, 3) := by decide +kernel
theorem d_MO_word_32 : decode c_MO_word 32 = .ok (.aload_n 0, 1) := by decide +kernel
theorem d_MO_word_33 : decode c_MO_word 33 = .ok (.iconst 0, 1) := by decide +kernel
theorem d_MO_word_34 : decode c_MO_word 34 = .ok (.putfield 48, 3) := by decide +kernel
theorem d_MO_word_37 : decode c_MO_word 37 = .ok (.aload_n 0, 1) := by decide +kernel
theorem d_MO_word_38 : decode c_MO_word 38 = .ok (.getfield 52, 3) := by decide +kernel
theorem d_MO_word_41 : decode c_MO_word 41 = .ok (.ireturn, 1) := by decide +kernel
theorem d_MO_clear_0 : decode c_MO_clear 0 = .ok (.aload_n 0, 1) := by decide +kernel
theorem d_MO_clear_1 : decode c_MO_clear 1 = .ok (.getfield 52, 3) := by decide +kernel
theorem d_MO_clear_4 : decode c_MO_clear 4 = .ok (.istore_n 1, 1) := by decide +kernel
theorem d_MO_clear_5 : decode c_MO_clear 5 = .ok (.aload_n 0, 1) := by decide +kernel
theorem d_MO_clear_6 : decode c_MO_clear 6 = .ok (.iconst 0, 1) := by decide +kernel
theorem d_MO_clear_7 : decode c_MO_clear 7 = .ok (.putfield 52, 3) := by decide +kernel
theorem d_MO_clear_10 : decode c_MO_clear 10 = .ok (.aload_n 0, 1) := by decide +kernel
theorem d_MO_clear_11 : decode c_MO_clear 11 = .ok (.iconst 0, 1) := by decide +kernel
theorem d_MO_clear_12 : decode c_MO_clear 12 = .ok (.putfield 48, 3) := by decide +kernel
theorem d_MO_clear_15 : decode c_MO_clear 15 = .ok (.iload_n 1, 1) := by decide +kernel
theorem d_MO_clear_16 : decode c_MO_clear 16 = .ok (.ireturn, 1) := by decide +kernel
theorem d_MO_look_0 : decode c_MO_look 0 = .ok (.iconst 0, 1) := by decide +kernel
theorem d_MO_look_1 : decode c_MO_look 1 = .ok (.istore_n 1, 1) := by decide +kernel
theorem d_MO_look_2 : decode c_MO_look 2 = .ok (.iconst 1, 1) := by decide +kernel
theorem d_MO_look_3 : decode c_MO_look 3 = .ok (.istore_n 2, 1) := by decide +kernel
theorem d_MO_look_4 : decode c_MO_look 4 = .ok (.aload_n 0, 1) := by decide +kernel
theorem d_MO_look_5 : decode c_MO_look 5 = .ok (.getfield 21, 3) := by decide +kernel
theorem d_MO_look_8 : decode c_MO_look 8 = .ok (.iconst 1, 1) := by decide +kernel
theorem d_MO_look_9 : decode c_MO_look 9 = .ok (.iconst 1, 1) := by decide +kernel
theorem d_MO_look_10 : decode c_MO_look 10 = .ok (.iastore, 1) := by decide +kernel
theorem d_MO_look_11 : decode c_MO_look 11 = .ok (.aload_n 0, 1) := by decide +kernel
theorem d_MO_look_12 : decode c_MO_look 12 = .ok (.iconst 0, 1) := by decide +kernel
theorem d_MO_look_13 : decode c_MO_look 13 = .ok (.putfield 55, 3) := by decide +kernel
theorem d_MO_look_16 : decode c_MO_look 16 = .ok (.iload_n 2, 1) := by decide +kernel
theorem d_MO_look_17 : decode c_MO_look 17 = .ok (.ifCond .le 212, 3) := by decide +kernel
theorem d_MO_look_20 : decode c_MO_look 20 = .ok (.iload_n 1, 1) := by decide +kernel
theorem d_MO_look_21 : decode c_MO_look 21 = .ok (.aload_n 0, 1) := by decide +kernel
theorem d_MO_look_22 : decode c_MO_look 22 = .ok (.getfield 52, 3) := by decide +kernel
theorem d_MO_look_25 : decode c_MO_look 25 = .ok (.if_icmp .ne 11, 3) := by decide +kernel
theorem d_MO_look_28 : decode c_MO_look 28 = .ok (.bipush (-100), 2) := by decide +kernel
theorem d_MO_look_30 : decode c_MO_look 30 = .ok (.aload_n 0, 1) := by decide +kernel
theorem d_MO_look_31 : decode c_MO_look 31 = .ok (.getfield 52, 3) := by decide +kernel
theorem d_MO_look_34 : decode c_MO_look 34 = .ok (.isub, 1) := by decide +kernel
theorem d_MO_look_35 : decode c_MO_look 35 = .ok (.ireturn, 1) := by decide +kernel
theorem d_MO_look_36 : decode c_MO_look 36 = .ok (.aload_n 0, 1) := by decide +kernel
theorem d_MO_look_37 : decode c_MO_look 37 = .ok (.getfield 14, 3) := by decide +kernel
theorem d_MO_look_40 : decode c_MO_look 40 = .ok (.iload_n 1, 1) := by decide +kernel
theorem d_MO_look_41 : decode c_MO_look 41 = .ok (.iaload, 1) := by decide +kernel
theorem d_MO_look_42 : decode c_MO_look 42 = .ok (.istore_n 3, 1) := by decide +kernel
theorem d_MO_look_43 : decode c_MO_look 43 = .ok (.iload_n 3, 1) := by decide +kernel
theorem d_MO_look_44 : decode c_MO_look 44 = .ok (.ifCond .lt 24, 3) := by decide +kernel
theorem d_MO_look_47 : decode c_MO_look 47 = .ok (.iload_n 3, 1) := by decide +kernel
theorem d_MO_look_48 : decode c_MO_look 48 = .ok (.bipush 7, 2) := by decide +kernel
theorem d_MO_look_50 : decode c_MO_look 50 = .ok (.if_icmp .gt 18, 3) := by decide +kernel
theorem d_MO_look_53 : decode c_MO_look 53 = .ok (.aload_n 0, 1) := by decide +kernel
theorem d_MO_look_54 : decode c_MO_look 54 = .ok (.getfield 55, 3) := by decide +kernel
theorem d_MO_look_57 : decode c_MO_look 57 = .ok (.bipush 40, 2) := by decide +kernel
theorem d_MO_look_59 : decode c_MO_look 59 = .ok (.if_icmp .eq 9, 3) := by decide +kernel
theorem d_MO_look_62 : decode c_MO_look 62 = .ok (.iload_n 2, 1) := by decide +kernel
theorem d_MO_look_63 : decode c_MO_look 63 = .ok (.bipush 12, 2) := by decide +kernel
theorem d_MO_look_65 : decode c_MO_look 65 = .ok (.if_icmp .le 8, 3) := by decide +kernel
theorem d_MO_look_68 : decode c_MO_look 68 = .ok (.bipush (-100), 2) := by decide +kernel
theorem d_MO_look_70 : decode c_MO_look 70 = .ok (.iload_n 1, 1) := by decide +kernel
theorem d_MO_look_71 : decode c_MO_look 71 = .ok (.isub, 1) := by decide +kernel
theorem d_MO_look_72 : decode c_MO_look 72 = .ok (.ireturn, 1) := by decide +kernel
theorem d_MO_look_73 : decode c_MO_look 73 = .ok (.aload_n 0, 1) := by decide +kernel
theorem d_MO_look_74 : decode c_MO_look 74 = .ok (.getfield 18, 3) := by decide +kernel
theorem d_MO_look_77 : decode c_MO_look 77 = .ok (.aload_n 0, 1) := by decide +kernel
theorem d_MO_look_78 : decode c_MO_look 78 = .ok (.getfield 55, 3) := by decide +kernel
theorem d_MO_look_81 : decode c_MO_look 81 = .ok (.iload_n 1, 1) := by decide +kernel
theorem d_MO_look_82 : decode c_MO_look 82 = .ok (.iastore, 1) := by decide +kernel
theorem d_MO_look_83 : decode c_MO_look 83 = .ok (.aload_n 0, 1) := by decide +kernel
theorem d_MO_look_84 : decode c_MO_look 84 = .ok (.dup, 1) := by decide +kernel
theorem d_MO_look_85 : decode c_MO_look 85 = .ok (.getfield 55, 3) := by decide +kernel
theorem d_MO_look_88 : decode c_MO_look 88 = .ok (.iconst 1, 1) := by decide +kernel
theorem d_MO_look_89 : decode c_MO_look 89 = .ok (.iadd, 1) := by decide +kernel
theorem d_MO_look_90 : decode c_MO_look 90 = .ok (.putfield 55, 3) := by decide +kernel
theorem d_MO_look_93 : decode c_MO_look 93 = .ok (.iinc 1 1, 3) := by decide +kernel
theorem d_MO_look_96 : decode c_MO_look 96 = .ok (.iload_n 3, 1) := by decide +kernel
theorem d_MO_look_97 : decode c_MO_look 97 = .ok (.ifCond .eq 9, 3) := by decide +kernel
theorem d_MO_look_100 : decode c_MO_look 100 = .ok (.iload_n 3, 1) := by decide +kernel
theorem d_MO_look_101 : decode c_MO_look 101 = .ok (.bipush 7, 2) := by decide +kernel
theorem d_MO_look_103 : decode c_MO_look 103 = .ok (.if_icmp .ne 57, 3) := by decide +kernel
theorem d_MO_look_106 : decode c_MO_look 106 = .ok (.iload_n 1, 1) := by decide +kernel
theorem d_MO_look_107 : decode c_MO_look 107 = .ok (.aload_n 0, 1) := by decide +kernel
theorem d_MO_look_108 : decode c_MO_look 108 = .ok (.getfield 52, 3) := by decide +kernel
theorem d_MO_look_111 : decode c_MO_look 111 = .ok (.if_icmp .ne 11, 3) := by decide +kernel
theorem d_MO_look_114 : decode c_MO_look 114 = .ok (.bipush (-100), 2) := by decide +kernel
theorem d_MO_look_116 : decode c_MO_look 116 = .ok (.aload_n 0, 1) := by decide +kernel
theorem d_MO_look_117 : decode c_MO_look 117 = .ok (.getfield 52, 3) := by decide +kernel
theorem d_MO_look_120 : decode c_MO_look 120 = .ok (.isub, 1) := by decide +kernel
theorem d_MO_look_121 : decode c_MO_look 121 = .ok (.ireturn, 1) := by decide +kernel
theorem d_MO_look_122 : decode c_MO_look 122 = .ok (.aload_n 0, 1) := by decide +kernel
theorem d_MO_look_123 : decode c_MO_look 123 = .ok (.getfield 14, 3) := by decide +kernel
theorem d_MO_look_126 : decode c_MO_look 126 = .ok (.iload_n 1, 1) := by decide +kernel
theorem d_MO_look_127 : decode c_MO_look 127 = .ok (.iaload, 1) := by decide +kernel
theorem d_MO_look_128 : decode c_MO_look 128 = .ok (.ifCond .lt 24, 3) := by decide +kernel
theorem d_MO_look_131 : decode c_MO_look 131 = .ok (.aload_n 0, 1) := by decide +kernel
theorem d_MO_look_132 : decode c_MO_look 132 = .ok (.getfield 14, 3) := by decide +kernel
theorem d_MO_look_135 : decode c_MO_look 135 = .ok (.iload_n 1, 1) := by decide +kernel
theorem d_MO_look_136 : decode c_MO_look 136 = .ok (.iaload, 1) := by decide +kernel
theorem d_MO_look_137 : decode c_MO_look 137 = .ok (.iload_n 3, 1) := by decide +kernel
theorem d_MO_look_138 : decode c_MO_look 138 = .ok (.ifCond .ne 8, 3) := by decide +kernel
theorem d_MO_look_141 : decode c_MO_look 141 = .ok (.bipush 7, 2) := by decide +kernel
theorem d_MO_look_143 : decode c_MO_look 143 = .ok (.goto 6, 3) := by decide +kernel
theorem d_MO_look_146 : decode c_MO_look 146 = .ok (.sipush 255, 3) := by decide +kernel
theorem d_MO_look_149 : decode c_MO_look 149 = .ok (.if_icmp .le 8, 3) := by decide +kernel
theorem d_MO_look_152 : decode c_MO_look 152 = .ok (.bipush (-100), 2) := by decide +kernel
theorem d_MO_look_154 : decode c_MO_look 154 = .ok (.iload_n 1, 1) := by decide +kernel
theorem d_MO_look_155 : decode c_MO_look 155 = .ok (.isub, 1) := by decide +kernel
theorem d_MO_look_156 : decode c_MO_look 156 = .ok (.ireturn, 1) := by decide +kernel
theorem d_MO_look_157 : decode c_MO_look 157 = .ok (.iinc 1 1, 3) := by decide +kernel
theorem d_MO_look_160 : decode c_MO_look 160 = .ok (.iload_n 3, 1) := by decide +kernel
theorem d_MO_look_161 : decode c_MO_look 161 = .ok (.invokestatic 58, 3) := by decide +kernel
theorem d_MO_look_164 : decode c_MO_look 164 = .ok (.ifCond .le 19, 3) := by decide +kernel
theorem d_MO_look_167 : decode c_MO_look 167 = .ok (.iinc 2 1, 3) := by decide +kernel
theorem d_MO_look_170 : decode c_MO_look 170 = .ok (.aload_n 0, 1) := by decide +kernel
theorem d_MO_look_171 : decode c_MO_look 171 = .ok (.getfield 21, 3) := by decide +kernel
theorem d_MO_look_174 : decode c_MO_look 174 = .ok (.iload_n 2, 1) := by decide +kernel
theorem d_MO_look_175 : decode c_MO_look 175 = .ok (.iload_n 3, 1) := by decide +kernel
theorem d_MO_look_176 : decode c_MO_look 176 = .ok (.invokestatic 58, 3) := by decide +kernel
theorem d_MO_look_179 : decode c_MO_look 179 = .ok (.iastore, 1) := by decide +kernel
theorem d_MO_look_180 : decode c_MO_look 180 = .ok (.goto (-164), 3) := by decide +kernel
theorem d_MO_look_183 : decode c_MO_look 183 = .ok (.aload_n 0, 1) := by decide +kernel
theorem d_MO_look_184 : decode c_MO_look 184 = .ok (.getfield 21, 3) := by decide +kernel
theorem d_MO_look_187 : decode c_MO_look 187 = .ok (.iload_n 2, 1) := by decide +kernel
theorem d_MO_look_188 : decode c_MO_look 188 = .ok (.dup2, 1) := by decide +kernel
theorem d_MO_look_189 : decode c_MO_look 189 = .ok (.iaload, 1) := by decide +kernel
theorem d_MO_look_190 : decode c_MO_look 190 = .ok (.iconst 1, 1) := by decide +kernel
theorem d_MO_look_191 : decode c_MO_look 191 = .ok (.isub, 1) := by decide +kernel
theorem d_MO_look_192 : decode c_MO_look 192 = .ok (.iastore, 1) := by decide +kernel
theorem d_MO_look_193 : decode c_MO_look 193 = .ok (.iload_n 2, 1) := by decide +kernel
theorem d_MO_look_194 : decode c_MO_look 194 = .ok (.ifCond .le 32, 3) := by decide +kernel
theorem d_MO_look_197 : decode c_MO_look 197 = .ok (.aload_n 0, 1) := by decide +kernel
theorem d_MO_look_198 : decode c_MO_look 198 = .ok (.getfield 21, 3) := by decide +kernel
theorem d_MO_look_201 : decode c_MO_look 201 = .ok (.iload_n 2, 1) := by decide +kernel
theorem d_MO_look_202 : decode c_MO_look 202 = .ok (.iaload, 1) := by decide +kernel
theorem d_MO_look_203 : decode c_MO_look 203 = .ok (.ifCond .ne 23, 3) := by decide +kernel
theorem d_MO_look_206 : decode c_MO_look 206 = .ok (.iinc 2 (-1), 3) := by decide +kernel
theorem d_MO_look_209 : decode c_MO_look 209 = .ok (.iload_n 2, 1) := by decide +kernel
theorem d_MO_look_210 : decode c_MO_look 210 = .ok (.ifCond .le (-17), 3) := by decide +kernel
theorem d_MO_look_213 : decode c_MO_look 213 = .ok (.aload_n 0, 1) := by decide +kernel
theorem d_MO_look_214 : decode c_MO_look 214 = .ok (.getfield 21, 3) := by decide +kernel
theorem d_MO_look_217 : decode c_MO_look 217 = .ok (.iload_n 2, 1) := by decide +kernel
theorem d_MO_look_218 : decode c_MO_look 218 = .ok (.dup2, 1) := by decide +kernel
theorem d_MO_look_219 : decode c_MO_look 219 = .ok (.iaload, 1) := by decide +kernel
theorem d_MO_look_220 : decode c_MO_look 220 = .ok (.iconst 1, 1) := by decide +kernel
theorem d_MO_look_221 : decode c_MO_look 221 = .ok (.isub, 1) := by decide +kernel
theorem d_MO_look_222 : decode c_MO_look 222 = .ok (.iastore, 1) := by decide +kernel
theorem d_MO_look_223 : decode c_MO_look 223 = .ok (.goto (-30), 3) := by decide +kernel
theorem d_MO_look_226 : decode c_MO_look 226 = .ok (.goto (-210), 3) := by decide +kernel
theorem d_MO_look_229 : decode c_MO_look 229 = .ok (.iload_n 1, 1) := by decide +kernel
theorem d_MO_look_230 : decode c_MO_look 230 = .ok (.aload_n 0, 1) := by decide +kernel
theorem d_MO_look_231 : decode c_MO_look 231 = .ok (.getfield 52, 3) := by decide +kernel
theorem d_MO_look_234 : decode c_MO_look 234 = .ok (.if_icmp .ge 10, 3) := by decide +kernel
theorem d_MO_look_237 : decode c_MO_look 237 = .ok (.bipush (-100), 2) := by decide +kernel
theorem d_MO_look_239 : decode c_MO_look 239 = .ok (.iload_n 1, 1) := by decide +kernel
theorem d_MO_look_240 : decode c_MO_look 240 = .ok (.isub, 1) := by decide +kernel
theorem d_MO_look_241 : decode c_MO_look 241 = .ok (.goto 4, 3) := by decide +kernel
theorem d_MO_look_244 : decode c_MO_look 244 = .ok (.iconst 0, 1) := by decide +kernel
theorem d_MO_look_245 : decode c_MO_look 245 = .ok (.ireturn, 1) := by decide +kernel
theorem d_MO_children_0 : decode c_MO_children 0 = .ok (.iload_n 0, 1) := by decide +kernel
theorem d_MO_children_1 : decode c_MO_children 1 = .ok (.iconst 2, 1) := by decide +kernel
theorem d_MO_children_2 : decode c_MO_children 2 = .ok (.if_icmp .eq 8, 3) := by decide +kernel
theorem d_MO_children_5 : decode c_MO_children 5 = .ok (.iload_n 0, 1) := by decide +kernel
theorem d_MO_children_6 : decode c_MO_children 6 = .ok (.iconst 3, 1) := by decide +kernel
theorem d_MO_children_7 : decode c_MO_children 7 = .ok (.if_icmp .ne 7, 3) := by decide +kernel
theorem d_MO_children_10 : decode c_MO_children 10 = .ok (.iconst 2, 1) := by decide +kernel
theorem d_MO_children_11 : decode c_MO_children 11 = .ok (.goto 18, 3) := by decide +kernel
theorem d_MO_children_14 : decode c_MO_children 14 = .ok (.iload_n 0, 1) := by decide +kernel
theorem d_MO_children_15 : decode c_MO_children 15 = .ok (.ifCond .eq 9, 3) := by decide +kernel
theorem d_MO_children_18 : decode c_MO_children 18 = .ok (.iload_n 0, 1) := by decide +kernel
theorem d_MO_children_19 : decode c_MO_children 19 = .ok (.bipush 7, 2) := by decide +kernel
theorem d_MO_children_21 : decode c_MO_children 21 = .ok (.if_icmp .ne 7, 3) := by decide +kernel
theorem d_MO_children_24 : decode c_MO_children 24 = .ok (.iconst 0, 1) := by decide +kernel
theorem d_MO_children_25 : decode c_MO_children 25 = .ok (.goto 4, 3) := by decide +kernel
theorem d_MO_children_28 : decode c_MO_children 28 = .ok (.iconst 1, 1) := by decide +kernel
theorem d_MO_children_29 : decode c_MO_children 29 = .ok (.ireturn, 1) := by decide +kernel
theorem d_MO_times_0 : decode c_MO_times 0 = .ok (.iload_n 1, 1) := by decide +kernel
theorem d_MO_times_1 : decode c_MO_times 1 = .ok (.invokestatic 32, 3) := by decide +kernel
theorem d_MO_times_4 : decode c_MO_times 4 = .ok (.ifCond .eq 10, 3) := by decide +kernel
theorem d_MO_times_7 : decode c_MO_times 7 = .ok (.iload_n 2, 1) := by decide +kernel
theorem d_MO_times_8 : decode c_MO_times 8 = .ok (.invokestatic 32, 3) := by decide +kernel
theorem d_MO_times_11 : decode c_MO_times 11 = .ok (.ifCond .ne 7, 3) := by decide +kernel
theorem d_MO_times_14 : decode c_MO_times 14 = .ok (.ldc2_w 97, 3) := by decide +kernel
theorem d_MO_times_17 : decode c_MO_times 17 = .ok (.lreturn, 1) := by decide +kernel
theorem d_MO_times_18 : decode c_MO_times 18 = .ok (.aload_n 0, 1) := by decide +kernel
theorem d_MO_times_19 : decode c_MO_times 19 = .ok (.invokevirtual 99, 3) := by decide +kernel
theorem d_MO_times_22 : decode c_MO_times 22 = .ok (.ifCond .eq 17, 3) := by decide +kernel
theorem d_MO_times_25 : decode c_MO_times 25 = .ok (.aload_n 0, 1) := by decide +kernel
theorem d_MO_times_26 : decode c_MO_times 26 = .ok (.getfield 25, 3) := by decide +kernel
theorem d_MO_times_29 : decode c_MO_times 29 = .ok (.bipush 64, 2) := by decide +kernel
theorem d_MO_times_31 : decode c_MO_times 31 = .ok (.iload_n 1, 1) := by decide +kernel
theorem d_MO_times_32 : decode c_MO_times 32 = .ok (.imul, 1) := by decide +kernel
theorem d_MO_times_33 : decode c_MO_times 33 = .ok (.iload_n 2, 1) := by decide +kernel
theorem d_MO_times_34 : decode c_MO_times 34 = .ok (.iadd, 1) := by decide +kernel
theorem d_MO_times_35 : decode c_MO_times 35 = .ok (.laload, 1) := by decide +kernel
theorem d_MO_times_36 : decode c_MO_times 36 = .ok (.goto 6, 3) := by decide +kernel
theorem d_MO_times_39 : decode c_MO_times 39 = .ok (.ldc2_w 103, 3) := by decide +kernel
theorem d_MO_times_42 : decode c_MO_times 42 = .ok (.lreturn, 1) := by decide +kernel
theorem d_MO_reckon_0 : decode c_MO_reckon 0 = .ok (.aload_n 0, 1) := by decide +kernel
theorem d_MO_reckon_1 : decode c_MO_reckon 1 = .ok (.getfield 48, 3) := by decide +kernel
theorem d_MO_reckon_4 : decode c_MO_reckon 4 = .ok (.ifCond .eq 5, 3) := by decide +kernel
theorem d_MO_reckon_7 : decode c_MO_reckon 7 = .ok (.iconst 1, 1) := by decide +kernel
theorem d_MO_reckon_8 : decode c_MO_reckon 8 = .ok (.ireturn, 1) := by decide +kernel
theorem d_MO_reckon_9 : decode c_MO_reckon 9 = .ok (.aload_n 0, 1) := by decide +kernel
theorem d_MO_reckon_10 : decode c_MO_reckon 10 = .ok (.invokevirtual 76, 3) := by decide +kernel
theorem d_MO_reckon_13 : decode c_MO_reckon 13 = .ok (.ifCond .eq 5, 3) := by decide +kernel
theorem d_MO_reckon_16 : decode c_MO_reckon 16 = .ok (.iconst 0, 1) := by decide +kernel
theorem d_MO_reckon_17 : decode c_MO_reckon 17 = .ok (.ireturn, 1) := by decide +kernel
theorem d_MO_reckon_18 : decode c_MO_reckon 18 = .ok (.iconst 0, 1) := by decide +kernel
theorem d_MO_reckon_19 : decode c_MO_reckon 19 = .ok (.istore_n 1, 1) := by decide +kernel
theorem d_MO_reckon_20 : decode c_MO_reckon 20 = .ok (.aload_n 0, 1) := by decide +kernel
theorem d_MO_reckon_21 : decode c_MO_reckon 21 = .ok (.getfield 55, 3) := by decide +kernel
theorem d_MO_reckon_24 : decode c_MO_reckon 24 = .ok (.iconst 1, 1) := by decide +kernel
theorem d_MO_reckon_25 : decode c_MO_reckon 25 = .ok (.isub, 1) := by decide +kernel
theorem d_MO_reckon_26 : decode c_MO_reckon 26 = .ok (.istore_n 2, 1) := by decide +kernel
theorem d_MO_reckon_27 : decode c_MO_reckon 27 = .ok (.iload_n 2, 1) := by decide +kernel
theorem d_MO_reckon_28 : decode c_MO_reckon 28 = .ok (.ifCond .lt 233, 3) := by decide +kernel
theorem d_MO_reckon_31 : decode c_MO_reckon 31 = .ok (.aload_n 0, 1) := by decide +kernel
theorem d_MO_reckon_32 : decode c_MO_reckon 32 = .ok (.getfield 14, 3) := by decide +kernel
theorem d_MO_reckon_35 : decode c_MO_reckon 35 = .ok (.aload_n 0, 1) := by decide +kernel
theorem d_MO_reckon_36 : decode c_MO_reckon 36 = .ok (.getfield 18, 3) := by decide +kernel
theorem d_MO_reckon_39 : decode c_MO_reckon 39 = .ok (.iload_n 2, 1) := by decide +kernel
theorem d_MO_reckon_40 : decode c_MO_reckon 40 = .ok (.iaload, 1) := by decide +kernel
theorem d_MO_reckon_41 : decode c_MO_reckon 41 = .ok (.iaload, 1) := by decide +kernel
theorem d_MO_reckon_42 : decode c_MO_reckon 42 = .ok (.istore_n 3, 1) := by decide +kernel
theorem d_MO_reckon_43 : decode c_MO_reckon 43 = .ok (.sipush 4096, 3) := by decide +kernel
theorem d_MO_reckon_46 : decode c_MO_reckon 46 = .ok (.iload_n 1, 1) := by decide +kernel
theorem d_MO_reckon_47 : decode c_MO_reckon 47 = .ok (.iconst 1, 1) := by decide +kernel
theorem d_MO_reckon_48 : decode c_MO_reckon 48 = .ok (.isub, 1) := by decide +kernel
theorem d_MO_reckon_49 : decode c_MO_reckon 49 = .ok (.imul, 1) := by decide +kernel
theorem d_MO_reckon_50 : decode c_MO_reckon 50 = .ok (.istore 4, 2) := by decide +kernel
theorem d_MO_reckon_52 : decode c_MO_reckon 52 = .ok (.iload_n 3, 1) := by decide +kernel
theorem d_MO_reckon_53 : decode c_MO_reckon 53 = .ok (.ifCond .eq 9, 3) := by decide +kernel
theorem d_MO_reckon_56 : decode c_MO_reckon 56 = .ok (.iload_n 3, 1) := by decide +kernel
theorem d_MO_reckon_57 : decode c_MO_reckon 57 = .ok (.bipush 7, 2) := by decide +kernel
theorem d_MO_reckon_59 : decode c_MO_reckon 59 = .ok (.if_icmp .ne 52, 3) := by decide +kernel
theorem d_MO_reckon_62 : decode c_MO_reckon 62 = .ok (.aload_n 0, 1) := by decide +kernel
theorem d_MO_reckon_63 : decode c_MO_reckon 63 = .ok (.getfield 14, 3) := by decide +kernel
theorem d_MO_reckon_66 : decode c_MO_reckon 66 = .ok (.aload_n 0, 1) := by decide +kernel
theorem d_MO_reckon_67 : decode c_MO_reckon 67 = .ok (.getfield 18, 3) := by decide +kernel
theorem d_MO_reckon_70 : decode c_MO_reckon 70 = .ok (.iload_n 2, 1) := by decide +kernel
theorem d_MO_reckon_71 : decode c_MO_reckon 71 = .ok (.iaload, 1) := by decide +kernel
theorem d_MO_reckon_72 : decode c_MO_reckon 72 = .ok (.iconst 1, 1) := by decide +kernel
theorem d_MO_reckon_73 : decode c_MO_reckon 73 = .ok (.iadd, 1) := by decide +kernel
theorem d_MO_reckon_74 : decode c_MO_reckon 74 = .ok (.iaload, 1) := by decide +kernel
theorem d_MO_reckon_75 : decode c_MO_reckon 75 = .ok (.istore 5, 2) := by decide +kernel
theorem d_MO_reckon_77 : decode c_MO_reckon 77 = .ok (.aload_n 0, 1) := by decide +kernel
theorem d_MO_reckon_78 : decode c_MO_reckon 78 = .ok (.sipush 4096, 3) := by decide +kernel
theorem d_MO_reckon_81 : decode c_MO_reckon 81 = .ok (.iload_n 1, 1) := by decide +kernel
theorem d_MO_reckon_82 : decode c_MO_reckon 82 = .ok (.imul, 1) := by decide +kernel
theorem d_MO_reckon_83 : decode c_MO_reckon 83 = .ok (.iload_n 3, 1) := by decide +kernel
theorem d_MO_reckon_84 : decode c_MO_reckon 84 = .ok (.ifCond .ne 10, 3) := by decide +kernel
theorem d_MO_reckon_87 : decode c_MO_reckon 87 = .ok (.iconst 1, 1) := by decide +kernel
theorem d_MO_reckon_88 : decode c_MO_reckon 88 = .ok (.iload 5, 2) := by decide +kernel
theorem d_MO_reckon_90 : decode c_MO_reckon 90 = .ok (.ishl, 1) := by decide +kernel
theorem d_MO_reckon_91 : decode c_MO_reckon 91 = .ok (.goto 11, 3) := by decide +kernel
theorem d_MO_reckon_94 : decode c_MO_reckon 94 = .ok (.sipush 255, 3) := by decide +kernel
theorem d_MO_reckon_97 : decode c_MO_reckon 97 = .ok (.iload 5, 2) := by decide +kernel
theorem d_MO_reckon_99 : decode c_MO_reckon 99 = .ok (.iconst (-1), 1) := by decide +kernel
theorem d_MO_reckon_100 : decode c_MO_reckon 100 = .ok (.ixor, 1) := by decide +kernel
theorem d_MO_reckon_101 : decode c_MO_reckon 101 = .ok (.iand, 1) := by decide +kernel
theorem d_MO_reckon_102 : decode c_MO_reckon 102 = .ok (.invokevirtual 80, 3) := by decide +kernel
theorem d_MO_reckon_105 : decode c_MO_reckon 105 = .ok (.iinc 1 1, 3) := by decide +kernel
theorem d_MO_reckon_108 : decode c_MO_reckon 108 = .ok (.goto 147, 3) := by decide +kernel
theorem d_MO_reckon_111 : decode c_MO_reckon 111 = .ok (.iload_n 3, 1) := by decide +kernel
theorem d_MO_reckon_112 : decode c_MO_reckon 112 = .ok (.iconst 1, 1) := by decide +kernel
theorem d_MO_reckon_113 : decode c_MO_reckon 113 = .ok (.if_icmp .ne 12, 3) := by decide +kernel
theorem d_MO_reckon_116 : decode c_MO_reckon 116 = .ok (.aload_n 0, 1) := by decide +kernel
theorem d_MO_reckon_117 : decode c_MO_reckon 117 = .ok (.iload 4, 2) := by decide +kernel
theorem d_MO_reckon_119 : decode c_MO_reckon 119 = .ok (.invokevirtual 84, 3) := by decide +kernel
theorem d_MO_reckon_122 : decode c_MO_reckon 122 = .ok (.goto 133, 3) := by decide +kernel
theorem d_MO_reckon_125 : decode c_MO_reckon 125 = .ok (.iload_n 3, 1) := by decide +kernel
theorem d_MO_reckon_126 : decode c_MO_reckon 126 = .ok (.iconst 2, 1) := by decide +kernel
theorem d_MO_reckon_127 : decode c_MO_reckon 127 = .ok (.if_icmp .ne 27, 3) := by decide +kernel
theorem d_MO_reckon_130 : decode c_MO_reckon 130 = .ok (.aload_n 0, 1) := by decide +kernel
theorem d_MO_reckon_131 : decode c_MO_reckon 131 = .ok (.iload 4, 2) := by decide +kernel
theorem d_MO_reckon_133 : decode c_MO_reckon 133 = .ok (.iload 4, 2) := by decide +kernel
theorem d_MO_reckon_135 : decode c_MO_reckon 135 = .ok (.sipush 4096, 3) := by decide +kernel
theorem d_MO_reckon_138 : decode c_MO_reckon 138 = .ok (.isub, 1) := by decide +kernel
theorem d_MO_reckon_139 : decode c_MO_reckon 139 = .ok (.invokevirtual 88, 3) := by decide +kernel
theorem d_MO_reckon_142 : decode c_MO_reckon 142 = .ok (.aload_n 0, 1) := by decide +kernel
theorem d_MO_reckon_143 : decode c_MO_reckon 143 = .ok (.iload 4, 2) := by decide +kernel
theorem d_MO_reckon_145 : decode c_MO_reckon 145 = .ok (.invokevirtual 91, 3) := by decide +kernel
theorem d_MO_reckon_148 : decode c_MO_reckon 148 = .ok (.iinc 1 (-1), 3) := by decide +kernel
theorem d_MO_reckon_151 : decode c_MO_reckon 151 = .ok (.goto 104, 3) := by decide +kernel
theorem d_MO_reckon_154 : decode c_MO_reckon 154 = .ok (.iload_n 3, 1) := by decide +kernel
theorem d_MO_reckon_155 : decode c_MO_reckon 155 = .ok (.iconst 3, 1) := by decide +kernel
theorem d_MO_reckon_156 : decode c_MO_reckon 156 = .ok (.if_icmp .ne 68, 3) := by decide +kernel
theorem d_MO_reckon_159 : decode c_MO_reckon 159 = .ok (.iconst 0, 1) := by decide +kernel
theorem d_MO_reckon_160 : decode c_MO_reckon 160 = .ok (.istore 5, 2) := by decide +kernel
theorem d_MO_reckon_162 : decode c_MO_reckon 162 = .ok (.iload 5, 2) := by decide +kernel
theorem d_MO_reckon_164 : decode c_MO_reckon 164 = .ok (.sipush 4096, 3) := by decide +kernel
theorem d_MO_reckon_167 : decode c_MO_reckon 167 = .ok (.if_icmp .ge 51, 3) := by decide +kernel
theorem d_MO_reckon_170 : decode c_MO_reckon 170 = .ok (.aload_n 0, 1) := by decide +kernel
theorem d_MO_reckon_171 : decode c_MO_reckon 171 = .ok (.getfield 25, 3) := by decide +kernel
theorem d_MO_reckon_174 : decode c_MO_reckon 174 = .ok (.iload 4, 2) := by decide +kernel
theorem d_MO_reckon_176 : decode c_MO_reckon 176 = .ok (.sipush 4096, 3) := by decide +kernel
theorem d_MO_reckon_179 : decode c_MO_reckon 179 = .ok (.isub, 1) := by decide +kernel
theorem d_MO_reckon_180 : decode c_MO_reckon 180 = .ok (.iload 5, 2) := by decide +kernel
theorem d_MO_reckon_182 : decode c_MO_reckon 182 = .ok (.iadd, 1) := by decide +kernel
theorem d_MO_reckon_183 : decode c_MO_reckon 183 = .ok (.aload_n 0, 1) := by decide +kernel
theorem d_MO_reckon_184 : decode c_MO_reckon 184 = .ok (.getfield 25, 3) := by decide +kernel
theorem d_MO_reckon_187 : decode c_MO_reckon 187 = .ok (.iload 4, 2) := by decide +kernel
theorem d_MO_reckon_189 : decode c_MO_reckon 189 = .ok (.sipush 4096, 3) := by decide +kernel
theorem d_MO_reckon_192 : decode c_MO_reckon 192 = .ok (.isub, 1) := by decide +kernel
theorem d_MO_reckon_193 : decode c_MO_reckon 193 = .ok (.iload 5, 2) := by decide +kernel
theorem d_MO_reckon_195 : decode c_MO_reckon 195 = .ok (.iadd, 1) := by decide +kernel
theorem d_MO_reckon_196 : decode c_MO_reckon 196 = .ok (.laload, 1) := by decide +kernel
theorem d_MO_reckon_197 : decode c_MO_reckon 197 = .ok (.aload_n 0, 1) := by decide +kernel
theorem d_MO_reckon_198 : decode c_MO_reckon 198 = .ok (.getfield 25, 3) := by decide +kernel
theorem d_MO_reckon_201 : decode c_MO_reckon 201 = .ok (.iload 4, 2) := by decide +kernel
theorem d_MO_reckon_203 : decode c_MO_reckon 203 = .ok (.iload 5, 2) := by decide +kernel
theorem d_MO_reckon_205 : decode c_MO_reckon 205 = .ok (.iadd, 1) := by decide +kernel
theorem d_MO_reckon_206 : decode c_MO_reckon 206 = .ok (.laload, 1) := by decide +kernel
theorem d_MO_reckon_207 : decode c_MO_reckon 207 = .ok (.ladd, 1) := by decide +kernel
theorem d_MO_reckon_208 : decode c_MO_reckon 208 = .ok (.invokestatic 68, 3) := by decide +kernel
theorem d_MO_reckon_211 : decode c_MO_reckon 211 = .ok (.lastore, 1) := by decide +kernel
theorem d_MO_reckon_212 : decode c_MO_reckon 212 = .ok (.iinc 5 1, 3) := by decide +kernel
theorem d_MO_reckon_215 : decode c_MO_reckon 215 = .ok (.goto (-53), 3) := by decide +kernel
theorem d_MO_reckon_218 : decode c_MO_reckon 218 = .ok (.iinc 1 (-1), 3) := by decide +kernel
theorem d_MO_reckon_221 : decode c_MO_reckon 221 = .ok (.goto 34, 3) := by decide +kernel
theorem d_MO_reckon_224 : decode c_MO_reckon 224 = .ok (.iload_n 3, 1) := by decide +kernel
theorem d_MO_reckon_225 : decode c_MO_reckon 225 = .ok (.iconst 4, 1) := by decide +kernel
theorem d_MO_reckon_226 : decode c_MO_reckon 226 = .ok (.if_icmp .ne 13, 3) := by decide +kernel
theorem d_MO_reckon_229 : decode c_MO_reckon 229 = .ok (.aload_n 0, 1) := by decide +kernel
theorem d_MO_reckon_230 : decode c_MO_reckon 230 = .ok (.iload 4, 2) := by decide +kernel
theorem d_MO_reckon_232 : decode c_MO_reckon 232 = .ok (.iconst 1, 1) := by decide +kernel
theorem d_MO_reckon_233 : decode c_MO_reckon 233 = .ok (.invokevirtual 72, 3) := by decide +kernel
theorem d_MO_reckon_236 : decode c_MO_reckon 236 = .ok (.goto 19, 3) := by decide +kernel
theorem d_MO_reckon_239 : decode c_MO_reckon 239 = .ok (.aload_n 0, 1) := by decide +kernel
theorem d_MO_reckon_240 : decode c_MO_reckon 240 = .ok (.iload 4, 2) := by decide +kernel
theorem d_MO_reckon_242 : decode c_MO_reckon 242 = .ok (.iload_n 3, 1) := by decide +kernel
theorem d_MO_reckon_243 : decode c_MO_reckon 243 = .ok (.iconst 5, 1) := by decide +kernel
theorem d_MO_reckon_244 : decode c_MO_reckon 244 = .ok (.if_icmp .ne 7, 3) := by decide +kernel
theorem d_MO_reckon_247 : decode c_MO_reckon 247 = .ok (.iconst 1, 1) := by decide +kernel
theorem d_MO_reckon_248 : decode c_MO_reckon 248 = .ok (.goto 4, 3) := by decide +kernel
theorem d_MO_reckon_251 : decode c_MO_reckon 251 = .ok (.iconst 0, 1) := by decide +kernel
theorem d_MO_reckon_252 : decode c_MO_reckon 252 = .ok (.invokevirtual 94, 3) := by decide +kernel
theorem d_MO_reckon_255 : decode c_MO_reckon 255 = .ok (.iinc 2 (-1), 3) := by decide +kernel
theorem d_MO_reckon_258 : decode c_MO_reckon 258 = .ok (.goto (-231), 3) := by decide +kernel
theorem d_MO_reckon_261 : decode c_MO_reckon 261 = .ok (.aload_n 0, 1) := by decide +kernel
theorem d_MO_reckon_262 : decode c_MO_reckon 262 = .ok (.iconst 1, 1) := by decide +kernel
theorem d_MO_reckon_263 : decode c_MO_reckon 263 = .ok (.putfield 48, 3) := by decide +kernel
theorem d_MO_reckon_266 : decode c_MO_reckon 266 = .ok (.iconst 1, 1) := by decide +kernel
theorem d_MO_reckon_267 : decode c_MO_reckon 267 = .ok (.ireturn, 1) := by decide +kernel
theorem d_MO_edgesOf_0 : decode c_MO_edgesOf 0 = .ok (.iconst 0, 1) := by decide +kernel
theorem d_MO_edgesOf_1 : decode c_MO_edgesOf 1 = .ok (.istore_n 3, 1) := by decide +kernel
theorem d_MO_edgesOf_2 : decode c_MO_edgesOf 2 = .ok (.iload_n 3, 1) := by decide +kernel
theorem d_MO_edgesOf_3 : decode c_MO_edgesOf 3 = .ok (.sipush 4096, 3) := by decide +kernel
theorem d_MO_edgesOf_6 : decode c_MO_edgesOf 6 = .ok (.if_icmp .ge 74, 3) := by decide +kernel
theorem d_MO_edgesOf_9 : decode c_MO_edgesOf 9 = .ok (.lconst 0, 1) := by decide +kernel
theorem d_MO_edgesOf_10 : decode c_MO_edgesOf 10 = .ok (.lstore 4, 2) := by decide +kernel
theorem d_MO_edgesOf_12 : decode c_MO_edgesOf 12 = .ok (.iconst 0, 1) := by decide +kernel
theorem d_MO_edgesOf_13 : decode c_MO_edgesOf 13 = .ok (.istore 6, 2) := by decide +kernel
theorem d_MO_edgesOf_15 : decode c_MO_edgesOf 15 = .ok (.iload 6, 2) := by decide +kernel
theorem d_MO_edgesOf_17 : decode c_MO_edgesOf 17 = .ok (.bipush 8, 2) := by decide +kernel
theorem d_MO_edgesOf_19 : decode c_MO_edgesOf 19 = .ok (.if_icmp .ge 45, 3) := by decide +kernel
theorem d_MO_edgesOf_22 : decode c_MO_edgesOf 22 = .ok (.lload 4, 2) := by decide +kernel
theorem d_MO_edgesOf_24 : decode c_MO_edgesOf 24 = .ok (.iload_n 2, 1) := by decide +kernel
theorem d_MO_edgesOf_25 : decode c_MO_edgesOf 25 = .ok (.iload 6, 2) := by decide +kernel
theorem d_MO_edgesOf_27 : decode c_MO_edgesOf 27 = .ok (.ishr, 1) := by decide +kernel
theorem d_MO_edgesOf_28 : decode c_MO_edgesOf 28 = .ok (.iconst 1, 1) := by decide +kernel
theorem d_MO_edgesOf_29 : decode c_MO_edgesOf 29 = .ok (.iand, 1) := by decide +kernel
theorem d_MO_edgesOf_30 : decode c_MO_edgesOf 30 = .ok (.iconst 1, 1) := by decide +kernel
theorem d_MO_edgesOf_31 : decode c_MO_edgesOf 31 = .ok (.if_icmp .ne 23, 3) := by decide +kernel
theorem d_MO_edgesOf_34 : decode c_MO_edgesOf 34 = .ok (.aload_n 0, 1) := by decide +kernel
theorem d_MO_edgesOf_35 : decode c_MO_edgesOf 35 = .ok (.getfield 8, 3) := by decide +kernel
theorem d_MO_edgesOf_38 : decode c_MO_edgesOf 38 = .ok (.sipush 4096, 3) := by decide +kernel
theorem d_MO_edgesOf_41 : decode c_MO_edgesOf 41 = .ok (.iload 6, 2) := by decide +kernel
theorem d_MO_edgesOf_43 : decode c_MO_edgesOf 43 = .ok (.imul, 1) := by decide +kernel
theorem d_MO_edgesOf_44 : decode c_MO_edgesOf 44 = .ok (.iload_n 3, 1) := by decide +kernel
theorem d_MO_edgesOf_45 : decode c_MO_edgesOf 45 = .ok (.iadd, 1) := by decide +kernel
theorem d_MO_edgesOf_46 : decode c_MO_edgesOf 46 = .ok (.baload, 1) := by decide +kernel
theorem d_MO_edgesOf_47 : decode c_MO_edgesOf 47 = .ok (.ifCond .eq 7, 3) := by decide +kernel
theorem d_MO_edgesOf_50 : decode c_MO_edgesOf 50 = .ok (.lconst 1, 1) := by decide +kernel
theorem d_MO_edgesOf_51 : decode c_MO_edgesOf 51 = .ok (.goto 4, 3) := by decide +kernel
theorem d_MO_edgesOf_54 : decode c_MO_edgesOf 54 = .ok (.lconst 0, 1) := by decide +kernel
theorem d_MO_edgesOf_55 : decode c_MO_edgesOf 55 = .ok (.ladd, 1) := by decide +kernel
theorem d_MO_edgesOf_56 : decode c_MO_edgesOf 56 = .ok (.lstore 4, 2) := by decide +kernel
theorem d_MO_edgesOf_58 : decode c_MO_edgesOf 58 = .ok (.iinc 6 1, 3) := by decide +kernel
theorem d_MO_edgesOf_61 : decode c_MO_edgesOf 61 = .ok (.goto (-46), 3) := by decide +kernel
theorem d_MO_edgesOf_64 : decode c_MO_edgesOf 64 = .ok (.aload_n 0, 1) := by decide +kernel
theorem d_MO_edgesOf_65 : decode c_MO_edgesOf 65 = .ok (.getfield 25, 3) := by decide +kernel
theorem d_MO_edgesOf_68 : decode c_MO_edgesOf 68 = .ok (.iload_n 1, 1) := by decide +kernel
theorem d_MO_edgesOf_69 : decode c_MO_edgesOf 69 = .ok (.iload_n 3, 1) := by decide +kernel
theorem d_MO_edgesOf_70 : decode c_MO_edgesOf 70 = .ok (.iadd, 1) := by decide +kernel
theorem d_MO_edgesOf_71 : decode c_MO_edgesOf 71 = .ok (.lload 4, 2) := by decide +kernel
theorem d_MO_edgesOf_73 : decode c_MO_edgesOf 73 = .ok (.lastore, 1) := by decide +kernel
theorem d_MO_edgesOf_74 : decode c_MO_edgesOf 74 = .ok (.iinc 3 1, 3) := by decide +kernel
theorem d_MO_edgesOf_77 : decode c_MO_edgesOf 77 = .ok (.goto (-75), 3) := by decide +kernel
theorem d_MO_edgesOf_80 : decode c_MO_edgesOf 80 = .ok (.return_, 1) := by decide +kernel
theorem d_MO_turn_0 : decode c_MO_turn 0 = .ok (.iconst 0, 1) := by decide +kernel
theorem d_MO_turn_1 : decode c_MO_turn 1 = .ok (.istore_n 2, 1) := by decide +kernel
theorem d_MO_turn_2 : decode c_MO_turn 2 = .ok (.iload_n 2, 1) := by decide +kernel
theorem d_MO_turn_3 : decode c_MO_turn 3 = .ok (.bipush 64, 2) := by decide +kernel
theorem d_MO_turn_5 : decode c_MO_turn 5 = .ok (.if_icmp .ge 78, 3) := by decide +kernel
theorem d_MO_turn_8 : decode c_MO_turn 8 = .ok (.iconst 0, 1) := by decide +kernel
theorem d_MO_turn_9 : decode c_MO_turn 9 = .ok (.istore_n 3, 1) := by decide +kernel
theorem d_MO_turn_10 : decode c_MO_turn 10 = .ok (.iload_n 3, 1) := by decide +kernel
theorem d_MO_turn_11 : decode c_MO_turn 11 = .ok (.iload_n 2, 1) := by decide +kernel
theorem d_MO_turn_12 : decode c_MO_turn 12 = .ok (.if_icmp .ge 65, 3) := by decide +kernel
theorem d_MO_turn_15 : decode c_MO_turn 15 = .ok (.aload_n 0, 1) := by decide +kernel
theorem d_MO_turn_16 : decode c_MO_turn 16 = .ok (.getfield 25, 3) := by decide +kernel
theorem d_MO_turn_19 : decode c_MO_turn 19 = .ok (.iload_n 1, 1) := by decide +kernel
theorem d_MO_turn_20 : decode c_MO_turn 20 = .ok (.bipush 64, 2) := by decide +kernel
theorem d_MO_turn_22 : decode c_MO_turn 22 = .ok (.iload_n 2, 1) := by decide +kernel
theorem d_MO_turn_23 : decode c_MO_turn 23 = .ok (.imul, 1) := by decide +kernel
theorem d_MO_turn_24 : decode c_MO_turn 24 = .ok (.iadd, 1) := by decide +kernel
theorem d_MO_turn_25 : decode c_MO_turn 25 = .ok (.iload_n 3, 1) := by decide +kernel
theorem d_MO_turn_26 : decode c_MO_turn 26 = .ok (.iadd, 1) := by decide +kernel
theorem d_MO_turn_27 : decode c_MO_turn 27 = .ok (.laload, 1) := by decide +kernel
theorem d_MO_turn_28 : decode c_MO_turn 28 = .ok (.lstore 4, 2) := by decide +kernel
theorem d_MO_turn_30 : decode c_MO_turn 30 = .ok (.aload_n 0, 1) := by decide +kernel
theorem d_MO_turn_31 : decode c_MO_turn 31 = .ok (.getfield 25, 3) := by decide +kernel
theorem d_MO_turn_34 : decode c_MO_turn 34 = .ok (.iload_n 1, 1) := by decide +kernel
theorem d_MO_turn_35 : decode c_MO_turn 35 = .ok (.bipush 64, 2) := by decide +kernel
theorem d_MO_turn_37 : decode c_MO_turn 37 = .ok (.iload_n 2, 1) := by decide +kernel
theorem d_MO_turn_38 : decode c_MO_turn 38 = .ok (.imul, 1) := by decide +kernel
theorem d_MO_turn_39 : decode c_MO_turn 39 = .ok (.iadd, 1) := by decide +kernel
theorem d_MO_turn_40 : decode c_MO_turn 40 = .ok (.iload_n 3, 1) := by decide +kernel
theorem d_MO_turn_41 : decode c_MO_turn 41 = .ok (.iadd, 1) := by decide +kernel
theorem d_MO_turn_42 : decode c_MO_turn 42 = .ok (.aload_n 0, 1) := by decide +kernel
theorem d_MO_turn_43 : decode c_MO_turn 43 = .ok (.getfield 25, 3) := by decide +kernel
theorem d_MO_turn_46 : decode c_MO_turn 46 = .ok (.iload_n 1, 1) := by decide +kernel
theorem d_MO_turn_47 : decode c_MO_turn 47 = .ok (.bipush 64, 2) := by decide +kernel
theorem d_MO_turn_49 : decode c_MO_turn 49 = .ok (.iload_n 3, 1) := by decide +kernel
theorem d_MO_turn_50 : decode c_MO_turn 50 = .ok (.imul, 1) := by decide +kernel
theorem d_MO_turn_51 : decode c_MO_turn 51 = .ok (.iadd, 1) := by decide +kernel
theorem d_MO_turn_52 : decode c_MO_turn 52 = .ok (.iload_n 2, 1) := by decide +kernel
theorem d_MO_turn_53 : decode c_MO_turn 53 = .ok (.iadd, 1) := by decide +kernel
theorem d_MO_turn_54 : decode c_MO_turn 54 = .ok (.laload, 1) := by decide +kernel
theorem d_MO_turn_55 : decode c_MO_turn 55 = .ok (.lastore, 1) := by decide +kernel
theorem d_MO_turn_56 : decode c_MO_turn 56 = .ok (.aload_n 0, 1) := by decide +kernel
theorem d_MO_turn_57 : decode c_MO_turn 57 = .ok (.getfield 25, 3) := by decide +kernel
theorem d_MO_turn_60 : decode c_MO_turn 60 = .ok (.iload_n 1, 1) := by decide +kernel
theorem d_MO_turn_61 : decode c_MO_turn 61 = .ok (.bipush 64, 2) := by decide +kernel
theorem d_MO_turn_63 : decode c_MO_turn 63 = .ok (.iload_n 3, 1) := by decide +kernel
theorem d_MO_turn_64 : decode c_MO_turn 64 = .ok (.imul, 1) := by decide +kernel
theorem d_MO_turn_65 : decode c_MO_turn 65 = .ok (.iadd, 1) := by decide +kernel
theorem d_MO_turn_66 : decode c_MO_turn 66 = .ok (.iload_n 2, 1) := by decide +kernel
theorem d_MO_turn_67 : decode c_MO_turn 67 = .ok (.iadd, 1) := by decide +kernel
theorem d_MO_turn_68 : decode c_MO_turn 68 = .ok (.lload 4, 2) := by decide +kernel
theorem d_MO_turn_70 : decode c_MO_turn 70 = .ok (.lastore, 1) := by decide +kernel
theorem d_MO_turn_71 : decode c_MO_turn 71 = .ok (.iinc 3 1, 3) := by decide +kernel
theorem d_MO_turn_74 : decode c_MO_turn 74 = .ok (.goto (-64), 3) := by decide +kernel
theorem d_MO_turn_77 : decode c_MO_turn 77 = .ok (.iinc 2 1, 3) := by decide +kernel
theorem d_MO_turn_80 : decode c_MO_turn 80 = .ok (.goto (-78), 3) := by decide +kernel
theorem d_MO_turn_83 : decode c_MO_turn 83 = .ok (.return_, 1) := by decide +kernel
theorem d_MO_chain_0 : decode c_MO_chain 0 = .ok (.aload_n 0, 1) := by decide +kernel
theorem d_MO_chain_1 : decode c_MO_chain 1 = .ok (.getfield 29, 3) := by decide +kernel
theorem d_MO_chain_4 : decode c_MO_chain 4 = .ok (.astore_n 3, 1) := by decide +kernel
theorem d_MO_chain_5 : decode c_MO_chain 5 = .ok (.iconst 0, 1) := by decide +kernel
theorem d_MO_chain_6 : decode c_MO_chain 6 = .ok (.istore 4, 2) := by decide +kernel
theorem d_MO_chain_8 : decode c_MO_chain 8 = .ok (.iload 4, 2) := by decide +kernel
theorem d_MO_chain_10 : decode c_MO_chain 10 = .ok (.bipush 64, 2) := by decide +kernel
theorem d_MO_chain_12 : decode c_MO_chain 12 = .ok (.if_icmp .ge 156, 3) := by decide +kernel
theorem d_MO_chain_15 : decode c_MO_chain 15 = .ok (.iconst 0, 1) := by decide +kernel
theorem d_MO_chain_16 : decode c_MO_chain 16 = .ok (.istore 5, 2) := by decide +kernel
theorem d_MO_chain_18 : decode c_MO_chain 18 = .ok (.iload 5, 2) := by decide +kernel
theorem d_MO_chain_20 : decode c_MO_chain 20 = .ok (.bipush 64, 2) := by decide +kernel
theorem d_MO_chain_22 : decode c_MO_chain 22 = .ok (.if_icmp .ge 14, 3) := by decide +kernel
theorem d_MO_chain_25 : decode c_MO_chain 25 = .ok (.aload_n 3, 1) := by decide +kernel
theorem d_MO_chain_26 : decode c_MO_chain 26 = .ok (.iload 5, 2) := by decide +kernel
theorem d_MO_chain_28 : decode c_MO_chain 28 = .ok (.lconst 0, 1) := by decide +kernel
theorem d_MO_chain_29 : decode c_MO_chain 29 = .ok (.lastore, 1) := by decide +kernel
theorem d_MO_chain_30 : decode c_MO_chain 30 = .ok (.iinc 5 1, 3) := by decide +kernel
theorem d_MO_chain_33 : decode c_MO_chain 33 = .ok (.goto (-15), 3) := by decide +kernel
theorem d_MO_chain_36 : decode c_MO_chain 36 = .ok (.iconst 0, 1) := by decide +kernel
theorem d_MO_chain_37 : decode c_MO_chain 37 = .ok (.istore 5, 2) := by decide +kernel
theorem d_MO_chain_39 : decode c_MO_chain 39 = .ok (.iload 5, 2) := by decide +kernel
theorem d_MO_chain_41 : decode c_MO_chain 41 = .ok (.bipush 64, 2) := by decide +kernel
theorem d_MO_chain_43 : decode c_MO_chain 43 = .ok (.if_icmp .ge 84, 3) := by decide +kernel
theorem d_MO_chain_46 : decode c_MO_chain 46 = .ok (.aload_n 0, 1) := by decide +kernel
theorem d_MO_chain_47 : decode c_MO_chain 47 = .ok (.getfield 25, 3) := by decide +kernel
theorem d_MO_chain_50 : decode c_MO_chain 50 = .ok (.iload_n 1, 1) := by decide +kernel
theorem d_MO_chain_51 : decode c_MO_chain 51 = .ok (.bipush 64, 2) := by decide +kernel
theorem d_MO_chain_53 : decode c_MO_chain 53 = .ok (.iload 4, 2) := by decide +kernel
theorem d_MO_chain_55 : decode c_MO_chain 55 = .ok (.imul, 1) := by decide +kernel
theorem d_MO_chain_56 : decode c_MO_chain 56 = .ok (.iadd, 1) := by decide +kernel
theorem d_MO_chain_57 : decode c_MO_chain 57 = .ok (.iload 5, 2) := by decide +kernel
theorem d_MO_chain_59 : decode c_MO_chain 59 = .ok (.iadd, 1) := by decide +kernel
theorem d_MO_chain_60 : decode c_MO_chain 60 = .ok (.laload, 1) := by decide +kernel
theorem d_MO_chain_61 : decode c_MO_chain 61 = .ok (.lstore 6, 2) := by decide +kernel
theorem d_MO_chain_63 : decode c_MO_chain 63 = .ok (.lload 6, 2) := by decide +kernel
theorem d_MO_chain_65 : decode c_MO_chain 65 = .ok (.lconst 0, 1) := by decide +kernel
theorem d_MO_chain_66 : decode c_MO_chain 66 = .ok (.lcmp, 1) := by decide +kernel
theorem d_MO_chain_67 : decode c_MO_chain 67 = .ok (.ifCond .ne 6, 3) := by decide +kernel
theorem d_MO_chain_70 : decode c_MO_chain 70 = .ok (.goto 51, 3) := by decide +kernel
theorem d_MO_chain_73 : decode c_MO_chain 73 = .ok (.iconst 0, 1) := by decide +kernel
theorem d_MO_chain_74 : decode c_MO_chain 74 = .ok (.istore 8, 2) := by decide +kernel
theorem d_MO_chain_76 : decode c_MO_chain 76 = .ok (.iload 8, 2) := by decide +kernel
theorem d_MO_chain_78 : decode c_MO_chain 78 = .ok (.bipush 64, 2) := by decide +kernel
theorem d_MO_chain_80 : decode c_MO_chain 80 = .ok (.if_icmp .ge 41, 3) := by decide +kernel
theorem d_MO_chain_83 : decode c_MO_chain 83 = .ok (.aload_n 3, 1) := by decide +kernel
theorem d_MO_chain_84 : decode c_MO_chain 84 = .ok (.iload 8, 2) := by decide +kernel
theorem d_MO_chain_86 : decode c_MO_chain 86 = .ok (.aload_n 3, 1) := by decide +kernel
theorem d_MO_chain_87 : decode c_MO_chain 87 = .ok (.iload 8, 2) := by decide +kernel
theorem d_MO_chain_89 : decode c_MO_chain 89 = .ok (.laload, 1) := by decide +kernel
theorem d_MO_chain_90 : decode c_MO_chain 90 = .ok (.lload 6, 2) := by decide +kernel
theorem d_MO_chain_92 : decode c_MO_chain 92 = .ok (.aload_n 0, 1) := by decide +kernel
theorem d_MO_chain_93 : decode c_MO_chain 93 = .ok (.getfield 25, 3) := by decide +kernel
theorem d_MO_chain_96 : decode c_MO_chain 96 = .ok (.iload_n 2, 1) := by decide +kernel
theorem d_MO_chain_97 : decode c_MO_chain 97 = .ok (.bipush 64, 2) := by decide +kernel
theorem d_MO_chain_99 : decode c_MO_chain 99 = .ok (.iload 5, 2) := by decide +kernel
theorem d_MO_chain_101 : decode c_MO_chain 101 = .ok (.imul, 1) := by decide +kernel
theorem d_MO_chain_102 : decode c_MO_chain 102 = .ok (.iadd, 1) := by decide +kernel
theorem d_MO_chain_103 : decode c_MO_chain 103 = .ok (.iload 8, 2) := by decide +kernel
theorem d_MO_chain_105 : decode c_MO_chain 105 = .ok (.iadd, 1) := by decide +kernel
theorem d_MO_chain_106 : decode c_MO_chain 106 = .ok (.laload, 1) := by decide +kernel
theorem d_MO_chain_107 : decode c_MO_chain 107 = .ok (.invokestatic 64, 3) := by decide +kernel
theorem d_MO_chain_110 : decode c_MO_chain 110 = .ok (.ladd, 1) := by decide +kernel
theorem d_MO_chain_111 : decode c_MO_chain 111 = .ok (.invokestatic 68, 3) := by decide +kernel
theorem d_MO_chain_114 : decode c_MO_chain 114 = .ok (.lastore, 1) := by decide +kernel
theorem d_MO_chain_115 : decode c_MO_chain 115 = .ok (.iinc 8 1, 3) := by decide +kernel
theorem d_MO_chain_118 : decode c_MO_chain 118 = .ok (.goto (-42), 3) := by decide +kernel
theorem d_MO_chain_121 : decode c_MO_chain 121 = .ok (.iinc 5 1, 3) := by decide +kernel
theorem d_MO_chain_124 : decode c_MO_chain 124 = .ok (.goto (-85), 3) := by decide +kernel
theorem d_MO_chain_127 : decode c_MO_chain 127 = .ok (.iconst 0, 1) := by decide +kernel
theorem d_MO_chain_128 : decode c_MO_chain 128 = .ok (.istore 5, 2) := by decide +kernel
theorem d_MO_chain_130 : decode c_MO_chain 130 = .ok (.iload 5, 2) := by decide +kernel
theorem d_MO_chain_132 : decode c_MO_chain 132 = .ok (.bipush 64, 2) := by decide +kernel
theorem d_MO_chain_134 : decode c_MO_chain 134 = .ok (.if_icmp .ge 28, 3) := by decide +kernel
theorem d_MO_chain_137 : decode c_MO_chain 137 = .ok (.aload_n 0, 1) := by decide +kernel
theorem d_MO_chain_138 : decode c_MO_chain 138 = .ok (.getfield 25, 3) := by decide +kernel
theorem d_MO_chain_141 : decode c_MO_chain 141 = .ok (.iload_n 1, 1) := by decide +kernel
theorem d_MO_chain_142 : decode c_MO_chain 142 = .ok (.bipush 64, 2) := by decide +kernel
theorem d_MO_chain_144 : decode c_MO_chain 144 = .ok (.iload 4, 2) := by decide +kernel
theorem d_MO_chain_146 : decode c_MO_chain 146 = .ok (.imul, 1) := by decide +kernel
theorem d_MO_chain_147 : decode c_MO_chain 147 = .ok (.iadd, 1) := by decide +kernel
theorem d_MO_chain_148 : decode c_MO_chain 148 = .ok (.iload 5, 2) := by decide +kernel
theorem d_MO_chain_150 : decode c_MO_chain 150 = .ok (.iadd, 1) := by decide +kernel
theorem d_MO_chain_151 : decode c_MO_chain 151 = .ok (.aload_n 3, 1) := by decide +kernel
theorem d_MO_chain_152 : decode c_MO_chain 152 = .ok (.iload 5, 2) := by decide +kernel
theorem d_MO_chain_154 : decode c_MO_chain 154 = .ok (.laload, 1) := by decide +kernel
theorem d_MO_chain_155 : decode c_MO_chain 155 = .ok (.lastore, 1) := by decide +kernel
theorem d_MO_chain_156 : decode c_MO_chain 156 = .ok (.iinc 5 1, 3) := by decide +kernel
theorem d_MO_chain_159 : decode c_MO_chain 159 = .ok (.goto (-29), 3) := by decide +kernel
theorem d_MO_chain_162 : decode c_MO_chain 162 = .ok (.iinc 4 1, 3) := by decide +kernel
theorem d_MO_chain_165 : decode c_MO_chain 165 = .ok (.goto (-157), 3) := by decide +kernel
theorem d_MO_chain_168 : decode c_MO_chain 168 = .ok (.return_, 1) := by decide +kernel
theorem d_MO_product_0 : decode c_MO_product 0 = .ok (.lload_n 0, 1) := by decide +kernel
theorem d_MO_product_1 : decode c_MO_product 1 = .ok (.lconst 0, 1) := by decide +kernel
theorem d_MO_product_2 : decode c_MO_product 2 = .ok (.lcmp, 1) := by decide +kernel
theorem d_MO_product_3 : decode c_MO_product 3 = .ok (.ifCond .eq 9, 3) := by decide +kernel
theorem d_MO_product_6 : decode c_MO_product 6 = .ok (.lload_n 2, 1) := by decide +kernel
theorem d_MO_product_7 : decode c_MO_product 7 = .ok (.lconst 0, 1) := by decide +kernel
theorem d_MO_product_8 : decode c_MO_product 8 = .ok (.lcmp, 1) := by decide +kernel
theorem d_MO_product_9 : decode c_MO_product 9 = .ok (.ifCond .ne 7, 3) := by decide +kernel
theorem d_MO_product_12 : decode c_MO_product 12 = .ok (.lconst 0, 1) := by decide +kernel
theorem d_MO_product_13 : decode c_MO_product 13 = .ok (.goto 22, 3) := by decide +kernel
theorem d_MO_product_16 : decode c_MO_product 16 = .ok (.lload_n 2, 1) := by decide +kernel
theorem d_MO_product_17 : decode c_MO_product 17 = .ok (.ldc2_w 62, 3) := by decide +kernel
theorem d_MO_product_20 : decode c_MO_product 20 = .ok (.lload_n 0, 1) := by decide +kernel
theorem d_MO_product_21 : decode c_MO_product 21 = .ok (.ldiv, 1) := by decide +kernel
theorem d_MO_product_22 : decode c_MO_product 22 = .ok (.lcmp, 1) := by decide +kernel
theorem d_MO_product_23 : decode c_MO_product 23 = .ok (.ifCond .le 9, 3) := by decide +kernel
theorem d_MO_product_26 : decode c_MO_product 26 = .ok (.ldc2_w 62, 3) := by decide +kernel
theorem d_MO_product_29 : decode c_MO_product 29 = .ok (.goto 6, 3) := by decide +kernel
theorem d_MO_product_32 : decode c_MO_product 32 = .ok (.lload_n 0, 1) := by decide +kernel
theorem d_MO_product_33 : decode c_MO_product 33 = .ok (.lload_n 2, 1) := by decide +kernel
theorem d_MO_product_34 : decode c_MO_product 34 = .ok (.lmul, 1) := by decide +kernel
theorem d_MO_product_35 : decode c_MO_product 35 = .ok (.lreturn, 1) := by decide +kernel
theorem d_MO_least_0 : decode c_MO_least 0 = .ok (.lload_n 0, 1) := by decide +kernel
theorem d_MO_least_1 : decode c_MO_least 1 = .ok (.ldc2_w 62, 3) := by decide +kernel
theorem d_MO_least_4 : decode c_MO_least 4 = .ok (.lcmp, 1) := by decide +kernel
theorem d_MO_least_5 : decode c_MO_least 5 = .ok (.ifCond .le 9, 3) := by decide +kernel
theorem d_MO_least_8 : decode c_MO_least 8 = .ok (.ldc2_w 62, 3) := by decide +kernel
theorem d_MO_least_11 : decode c_MO_least 11 = .ok (.goto 4, 3) := by decide +kernel
theorem d_MO_least_14 : decode c_MO_least 14 = .ok (.lload_n 0, 1) := by decide +kernel
theorem d_MO_least_15 : decode c_MO_least 15 = .ok (.lreturn, 1) := by decide +kernel
theorem d_MO_fall_0 : decode c_MO_fall 0 = .ok (.iconst 0, 1) := by decide +kernel
theorem d_MO_fall_1 : decode c_MO_fall 1 = .ok (.istore_n 2, 1) := by decide +kernel
theorem d_MO_fall_2 : decode c_MO_fall 2 = .ok (.iload_n 2, 1) := by decide +kernel
theorem d_MO_fall_3 : decode c_MO_fall 3 = .ok (.sipush 4096, 3) := by decide +kernel
theorem d_MO_fall_6 : decode c_MO_fall 6 = .ok (.if_icmp .ge 29, 3) := by decide +kernel
theorem d_MO_fall_9 : decode c_MO_fall 9 = .ok (.aload_n 0, 1) := by decide +kernel
theorem d_MO_fall_10 : decode c_MO_fall 10 = .ok (.getfield 25, 3) := by decide +kernel
theorem d_MO_fall_13 : decode c_MO_fall 13 = .ok (.iload_n 1, 1) := by decide +kernel
theorem d_MO_fall_14 : decode c_MO_fall 14 = .ok (.sipush 4096, 3) := by decide +kernel
theorem d_MO_fall_17 : decode c_MO_fall 17 = .ok (.isub, 1) := by decide +kernel
theorem d_MO_fall_18 : decode c_MO_fall 18 = .ok (.iload_n 2, 1) := by decide +kernel
theorem d_MO_fall_19 : decode c_MO_fall 19 = .ok (.iadd, 1) := by decide +kernel
theorem d_MO_fall_20 : decode c_MO_fall 20 = .ok (.aload_n 0, 1) := by decide +kernel
theorem d_MO_fall_21 : decode c_MO_fall 21 = .ok (.getfield 25, 3) := by decide +kernel
theorem d_MO_fall_24 : decode c_MO_fall 24 = .ok (.iload_n 1, 1) := by decide +kernel
theorem d_MO_fall_25 : decode c_MO_fall 25 = .ok (.iload_n 2, 1) := by decide +kernel
theorem d_MO_fall_26 : decode c_MO_fall 26 = .ok (.iadd, 1) := by decide +kernel
theorem d_MO_fall_27 : decode c_MO_fall 27 = .ok (.laload, 1) := by decide +kernel
theorem d_MO_fall_28 : decode c_MO_fall 28 = .ok (.lastore, 1) := by decide +kernel
theorem d_MO_fall_29 : decode c_MO_fall 29 = .ok (.iinc 2 1, 3) := by decide +kernel
theorem d_MO_fall_32 : decode c_MO_fall 32 = .ok (.goto (-30), 3) := by decide +kernel
theorem d_MO_fall_35 : decode c_MO_fall 35 = .ok (.return_, 1) := by decide +kernel
theorem d_MO_mark_0 : decode c_MO_mark 0 = .ok (.iconst 0, 1) := by decide +kernel
theorem d_MO_mark_1 : decode c_MO_mark 1 = .ok (.istore_n 3, 1) := by decide +kernel
theorem d_MO_mark_2 : decode c_MO_mark 2 = .ok (.iload_n 3, 1) := by decide +kernel
theorem d_MO_mark_3 : decode c_MO_mark 3 = .ok (.sipush 4096, 3) := by decide +kernel
theorem d_MO_mark_6 : decode c_MO_mark 6 = .ok (.if_icmp .ge 62, 3) := by decide +kernel
theorem d_MO_mark_9 : decode c_MO_mark 9 = .ok (.aload_n 0, 1) := by decide +kernel
theorem d_MO_mark_10 : decode c_MO_mark 10 = .ok (.getfield 25, 3) := by decide +kernel
theorem d_MO_mark_13 : decode c_MO_mark 13 = .ok (.iload_n 1, 1) := by decide +kernel
theorem d_MO_mark_14 : decode c_MO_mark 14 = .ok (.iload_n 3, 1) := by decide +kernel
theorem d_MO_mark_15 : decode c_MO_mark 15 = .ok (.iadd, 1) := by decide +kernel
theorem d_MO_mark_16 : decode c_MO_mark 16 = .ok (.laload, 1) := by decide +kernel
theorem d_MO_mark_17 : decode c_MO_mark 17 = .ok (.lconst 0, 1) := by decide +kernel
theorem d_MO_mark_18 : decode c_MO_mark 18 = .ok (.lcmp, 1) := by decide +kernel
theorem d_MO_mark_19 : decode c_MO_mark 19 = .ok (.ifCond .gt 18, 3) := by decide +kernel
theorem d_MO_mark_22 : decode c_MO_mark 22 = .ok (.iload_n 2, 1) := by decide +kernel
theorem d_MO_mark_23 : decode c_MO_mark 23 = .ok (.ifCond .eq 18, 3) := by decide +kernel
theorem d_MO_mark_26 : decode c_MO_mark 26 = .ok (.iload_n 3, 1) := by decide +kernel
theorem d_MO_mark_27 : decode c_MO_mark 27 = .ok (.bipush 64, 2) := by decide +kernel
theorem d_MO_mark_29 : decode c_MO_mark 29 = .ok (.idiv, 1) := by decide +kernel
theorem d_MO_mark_30 : decode c_MO_mark 30 = .ok (.iload_n 3, 1) := by decide +kernel
theorem d_MO_mark_31 : decode c_MO_mark 31 = .ok (.bipush 64, 2) := by decide +kernel
theorem d_MO_mark_33 : decode c_MO_mark 33 = .ok (.irem, 1) := by decide +kernel
theorem d_MO_mark_34 : decode c_MO_mark 34 = .ok (.if_icmp .ne 7, 3) := by decide +kernel
theorem d_MO_mark_37 : decode c_MO_mark 37 = .ok (.iconst 1, 1) := by decide +kernel
theorem d_MO_mark_38 : decode c_MO_mark 38 = .ok (.goto 4, 3) := by decide +kernel
theorem d_MO_mark_41 : decode c_MO_mark 41 = .ok (.iconst 0, 1) := by decide +kernel
theorem d_MO_mark_42 : decode c_MO_mark 42 = .ok (.istore 4, 2) := by decide +kernel
theorem d_MO_mark_44 : decode c_MO_mark 44 = .ok (.aload_n 0, 1) := by decide +kernel
theorem d_MO_mark_45 : decode c_MO_mark 45 = .ok (.getfield 25, 3) := by decide +kernel
theorem d_MO_mark_48 : decode c_MO_mark 48 = .ok (.iload_n 1, 1) := by decide +kernel
theorem d_MO_mark_49 : decode c_MO_mark 49 = .ok (.iload_n 3, 1) := by decide +kernel
theorem d_MO_mark_50 : decode c_MO_mark 50 = .ok (.iadd, 1) := by decide +kernel
theorem d_MO_mark_51 : decode c_MO_mark 51 = .ok (.iload 4, 2) := by decide +kernel
theorem d_MO_mark_53 : decode c_MO_mark 53 = .ok (.ifCond .eq 7, 3) := by decide +kernel
theorem d_MO_mark_56 : decode c_MO_mark 56 = .ok (.lconst 1, 1) := by decide +kernel
theorem d_MO_mark_57 : decode c_MO_mark 57 = .ok (.goto 4, 3) := by decide +kernel
theorem d_MO_mark_60 : decode c_MO_mark 60 = .ok (.lconst 0, 1) := by decide +kernel
theorem d_MO_mark_61 : decode c_MO_mark 61 = .ok (.lastore, 1) := by decide +kernel
theorem d_MO_mark_62 : decode c_MO_mark 62 = .ok (.iinc 3 1, 3) := by decide +kernel
theorem d_MO_mark_65 : decode c_MO_mark 65 = .ok (.goto (-63), 3) := by decide +kernel
theorem d_MO_mark_68 : decode c_MO_mark 68 = .ok (.return_, 1) := by decide +kernel
theorem d_MO_close_0 : decode c_MO_close 0 = .ok (.aload_n 0, 1) := by decide +kernel
theorem d_MO_close_1 : decode c_MO_close 1 = .ok (.iload_n 1, 1) := by decide +kernel
theorem d_MO_close_2 : decode c_MO_close 2 = .ok (.iload_n 2, 1) := by decide +kernel
theorem d_MO_close_3 : decode c_MO_close 3 = .ok (.invokevirtual 72, 3) := by decide +kernel
theorem d_MO_close_6 : decode c_MO_close 6 = .ok (.iconst 0, 1) := by decide +kernel
theorem d_MO_close_7 : decode c_MO_close 7 = .ok (.istore_n 3, 1) := by decide +kernel
theorem d_MO_close_8 : decode c_MO_close 8 = .ok (.iload_n 3, 1) := by decide +kernel
theorem d_MO_close_9 : decode c_MO_close 9 = .ok (.bipush 64, 2) := by decide +kernel
theorem d_MO_close_11 : decode c_MO_close 11 = .ok (.if_icmp .ge 95, 3) := by decide +kernel
theorem d_MO_close_14 : decode c_MO_close 14 = .ok (.iconst 0, 1) := by decide +kernel
theorem d_MO_close_15 : decode c_MO_close 15 = .ok (.istore 4, 2) := by decide +kernel
theorem d_MO_close_17 : decode c_MO_close 17 = .ok (.iload 4, 2) := by decide +kernel
theorem d_MO_close_19 : decode c_MO_close 19 = .ok (.bipush 64, 2) := by decide +kernel
theorem d_MO_close_21 : decode c_MO_close 21 = .ok (.if_icmp .ge 79, 3) := by decide +kernel
theorem d_MO_close_24 : decode c_MO_close 24 = .ok (.aload_n 0, 1) := by decide +kernel
theorem d_MO_close_25 : decode c_MO_close 25 = .ok (.getfield 25, 3) := by decide +kernel
theorem d_MO_close_28 : decode c_MO_close 28 = .ok (.iload_n 1, 1) := by decide +kernel
theorem d_MO_close_29 : decode c_MO_close 29 = .ok (.bipush 64, 2) := by decide +kernel
theorem d_MO_close_31 : decode c_MO_close 31 = .ok (.iload 4, 2) := by decide +kernel
theorem d_MO_close_33 : decode c_MO_close 33 = .ok (.imul, 1) := by decide +kernel
theorem d_MO_close_34 : decode c_MO_close 34 = .ok (.iadd, 1) := by decide +kernel
theorem d_MO_close_35 : decode c_MO_close 35 = .ok (.iload_n 3, 1) := by decide +kernel
theorem d_MO_close_36 : decode c_MO_close 36 = .ok (.iadd, 1) := by decide +kernel
theorem d_MO_close_37 : decode c_MO_close 37 = .ok (.laload, 1) := by decide +kernel
theorem d_MO_close_38 : decode c_MO_close 38 = .ok (.lconst 0, 1) := by decide +kernel
theorem d_MO_close_39 : decode c_MO_close 39 = .ok (.lcmp, 1) := by decide +kernel
theorem d_MO_close_40 : decode c_MO_close 40 = .ok (.ifCond .ne 6, 3) := by decide +kernel
theorem d_MO_close_43 : decode c_MO_close 43 = .ok (.goto 51, 3) := by decide +kernel
theorem d_MO_close_46 : decode c_MO_close 46 = .ok (.iconst 0, 1) := by decide +kernel
theorem d_MO_close_47 : decode c_MO_close 47 = .ok (.istore 5, 2) := by decide +kernel
theorem d_MO_close_49 : decode c_MO_close 49 = .ok (.iload 5, 2) := by decide +kernel
theorem d_MO_close_51 : decode c_MO_close 51 = .ok (.bipush 64, 2) := by decide +kernel
theorem d_MO_close_53 : decode c_MO_close 53 = .ok (.if_icmp .ge 41, 3) := by decide +kernel
theorem d_MO_close_56 : decode c_MO_close 56 = .ok (.aload_n 0, 1) := by decide +kernel
theorem d_MO_close_57 : decode c_MO_close 57 = .ok (.getfield 25, 3) := by decide +kernel
theorem d_MO_close_60 : decode c_MO_close 60 = .ok (.iload_n 1, 1) := by decide +kernel
theorem d_MO_close_61 : decode c_MO_close 61 = .ok (.bipush 64, 2) := by decide +kernel
theorem d_MO_close_63 : decode c_MO_close 63 = .ok (.iload 4, 2) := by decide +kernel
theorem d_MO_close_65 : decode c_MO_close 65 = .ok (.imul, 1) := by decide +kernel
theorem d_MO_close_66 : decode c_MO_close 66 = .ok (.iadd, 1) := by decide +kernel
theorem d_MO_close_67 : decode c_MO_close 67 = .ok (.iload 5, 2) := by decide +kernel
theorem d_MO_close_69 : decode c_MO_close 69 = .ok (.iadd, 1) := by decide +kernel
theorem d_MO_close_70 : decode c_MO_close 70 = .ok (.dup2, 1) := by decide +kernel
theorem d_MO_close_71 : decode c_MO_close 71 = .ok (.laload, 1) := by decide +kernel
theorem d_MO_close_72 : decode c_MO_close 72 = .ok (.aload_n 0, 1) := by decide +kernel
theorem d_MO_close_73 : decode c_MO_close 73 = .ok (.getfield 25, 3) := by decide +kernel
theorem d_MO_close_76 : decode c_MO_close 76 = .ok (.iload_n 1, 1) := by decide +kernel
theorem d_MO_close_77 : decode c_MO_close 77 = .ok (.bipush 64, 2) := by decide +kernel
theorem d_MO_close_79 : decode c_MO_close 79 = .ok (.iload_n 3, 1) := by decide +kernel
theorem d_MO_close_80 : decode c_MO_close 80 = .ok (.imul, 1) := by decide +kernel
theorem d_MO_close_81 : decode c_MO_close 81 = .ok (.iadd, 1) := by decide +kernel
theorem d_MO_close_82 : decode c_MO_close 82 = .ok (.iload 5, 2) := by decide +kernel
theorem d_MO_close_84 : decode c_MO_close 84 = .ok (.iadd, 1) := by decide +kernel
theorem d_MO_close_85 : decode c_MO_close 85 = .ok (.laload, 1) := by decide +kernel
theorem d_MO_close_86 : decode c_MO_close 86 = .ok (.lor, 1) := by decide +kernel
theorem d_MO_close_87 : decode c_MO_close 87 = .ok (.lastore, 1) := by decide +kernel
theorem d_MO_close_88 : decode c_MO_close 88 = .ok (.iinc 5 1, 3) := by decide +kernel
theorem d_MO_close_91 : decode c_MO_close 91 = .ok (.goto (-42), 3) := by decide +kernel
theorem d_MO_close_94 : decode c_MO_close 94 = .ok (.iinc 4 1, 3) := by decide +kernel
theorem d_MO_close_97 : decode c_MO_close 97 = .ok (.goto (-80), 3) := by decide +kernel
theorem d_MO_close_100 : decode c_MO_close 100 = .ok (.iinc 3 1, 3) := by decide +kernel
theorem d_MO_close_103 : decode c_MO_close 103 = .ok (.goto (-95), 3) := by decide +kernel
theorem d_MO_close_106 : decode c_MO_close 106 = .ok (.return_, 1) := by decide +kernel
theorem d_MO_ends_0 : decode c_MO_ends 0 = .ok (.iload_n 1, 1) := by decide +kernel
theorem d_MO_ends_1 : decode c_MO_ends 1 = .ok (.invokestatic 32, 3) := by decide +kernel
theorem d_MO_ends_4 : decode c_MO_ends 4 = .ok (.ifCond .ne 5, 3) := by decide +kernel
theorem d_MO_ends_7 : decode c_MO_ends 7 = .ok (.iconst (-1), 1) := by decide +kernel
theorem d_MO_ends_8 : decode c_MO_ends 8 = .ok (.ireturn, 1) := by decide +kernel
theorem d_MO_ends_9 : decode c_MO_ends 9 = .ok (.aload_n 0, 1) := by decide +kernel
theorem d_MO_ends_10 : decode c_MO_ends 10 = .ok (.invokevirtual 99, 3) := by decide +kernel
theorem d_MO_ends_13 : decode c_MO_ends 13 = .ok (.ifCond .ne 6, 3) := by decide +kernel
theorem d_MO_ends_16 : decode c_MO_ends 16 = .ok (.bipush (-2), 2) := by decide +kernel
theorem d_MO_ends_18 : decode c_MO_ends 18 = .ok (.ireturn, 1) := by decide +kernel
theorem d_MO_ends_19 : decode c_MO_ends 19 = .ok (.iconst 0, 1) := by decide +kernel
theorem d_MO_ends_20 : decode c_MO_ends 20 = .ok (.istore_n 2, 1) := by decide +kernel
theorem d_MO_ends_21 : decode c_MO_ends 21 = .ok (.iconst 0, 1) := by decide +kernel
theorem d_MO_ends_22 : decode c_MO_ends 22 = .ok (.istore_n 3, 1) := by decide +kernel
theorem d_MO_ends_23 : decode c_MO_ends 23 = .ok (.iload_n 3, 1) := by decide +kernel
theorem d_MO_ends_24 : decode c_MO_ends 24 = .ok (.bipush 64, 2) := by decide +kernel
theorem d_MO_ends_26 : decode c_MO_ends 26 = .ok (.if_icmp .ge 33, 3) := by decide +kernel
theorem d_MO_ends_29 : decode c_MO_ends 29 = .ok (.iload_n 2, 1) := by decide +kernel
theorem d_MO_ends_30 : decode c_MO_ends 30 = .ok (.aload_n 0, 1) := by decide +kernel
theorem d_MO_ends_31 : decode c_MO_ends 31 = .ok (.getfield 25, 3) := by decide +kernel
theorem d_MO_ends_34 : decode c_MO_ends 34 = .ok (.bipush 64, 2) := by decide +kernel
theorem d_MO_ends_36 : decode c_MO_ends 36 = .ok (.iload_n 1, 1) := by decide +kernel
theorem d_MO_ends_37 : decode c_MO_ends 37 = .ok (.imul, 1) := by decide +kernel
theorem d_MO_ends_38 : decode c_MO_ends 38 = .ok (.iload_n 3, 1) := by decide +kernel
theorem d_MO_ends_39 : decode c_MO_ends 39 = .ok (.iadd, 1) := by decide +kernel
theorem d_MO_ends_40 : decode c_MO_ends 40 = .ok (.laload, 1) := by decide +kernel
theorem d_MO_ends_41 : decode c_MO_ends 41 = .ok (.lconst 0, 1) := by decide +kernel
theorem d_MO_ends_42 : decode c_MO_ends 42 = .ok (.lcmp, 1) := by decide +kernel
theorem d_MO_ends_43 : decode c_MO_ends 43 = .ok (.ifCond .le 7, 3) := by decide +kernel
theorem d_MO_ends_46 : decode c_MO_ends 46 = .ok (.iconst 1, 1) := by decide +kernel
theorem d_MO_ends_47 : decode c_MO_ends 47 = .ok (.goto 4, 3) := by decide +kernel
theorem d_MO_ends_50 : decode c_MO_ends 50 = .ok (.iconst 0, 1) := by decide +kernel
theorem d_MO_ends_51 : decode c_MO_ends 51 = .ok (.iadd, 1) := by decide +kernel
theorem d_MO_ends_52 : decode c_MO_ends 52 = .ok (.istore_n 2, 1) := by decide +kernel
theorem d_MO_ends_53 : decode c_MO_ends 53 = .ok (.iinc 3 1, 3) := by decide +kernel
theorem d_MO_ends_56 : decode c_MO_ends 56 = .ok (.goto (-33), 3) := by decide +kernel
theorem d_MO_ends_59 : decode c_MO_ends 59 = .ok (.iload_n 2, 1) := by decide +kernel
theorem d_MO_ends_60 : decode c_MO_ends 60 = .ok (.ireturn, 1) := by decide +kernel
theorem d_MO_reached_0 : decode c_MO_reached 0 = .ok (.iload_n 1, 1) := by decide +kernel
theorem d_MO_reached_1 : decode c_MO_reached 1 = .ok (.invokestatic 32, 3) := by decide +kernel
theorem d_MO_reached_4 : decode c_MO_reached 4 = .ok (.ifCond .eq 10, 3) := by decide +kernel
theorem d_MO_reached_7 : decode c_MO_reached 7 = .ok (.aload_n 0, 1) := by decide +kernel
theorem d_MO_reached_8 : decode c_MO_reached 8 = .ok (.invokevirtual 99, 3) := by decide +kernel
theorem d_MO_reached_11 : decode c_MO_reached 11 = .ok (.ifCond .ne 5, 3) := by decide +kernel
theorem d_MO_reached_14 : decode c_MO_reached 14 = .ok (.lconst 0, 1) := by decide +kernel
theorem d_MO_reached_15 : decode c_MO_reached 15 = .ok (.lreturn, 1) := by decide +kernel
theorem d_MO_reached_16 : decode c_MO_reached 16 = .ok (.lconst 0, 1) := by decide +kernel
theorem d_MO_reached_17 : decode c_MO_reached 17 = .ok (.lstore_n 2, 1) := by decide +kernel
theorem d_MO_reached_18 : decode c_MO_reached 18 = .ok (.iconst 0, 1) := by decide +kernel
theorem d_MO_reached_19 : decode c_MO_reached 19 = .ok (.istore 4, 2) := by decide +kernel
theorem d_MO_reached_21 : decode c_MO_reached 21 = .ok (.iload 4, 2) := by decide +kernel
theorem d_MO_reached_23 : decode c_MO_reached 23 = .ok (.bipush 64, 2) := by decide +kernel
theorem d_MO_reached_25 : decode c_MO_reached 25 = .ok (.if_icmp .ge 37, 3) := by decide +kernel
theorem d_MO_reached_28 : decode c_MO_reached 28 = .ok (.lload_n 2, 1) := by decide +kernel
theorem d_MO_reached_29 : decode c_MO_reached 29 = .ok (.aload_n 0, 1) := by decide +kernel
theorem d_MO_reached_30 : decode c_MO_reached 30 = .ok (.getfield 25, 3) := by decide +kernel
theorem d_MO_reached_33 : decode c_MO_reached 33 = .ok (.bipush 64, 2) := by decide +kernel
theorem d_MO_reached_35 : decode c_MO_reached 35 = .ok (.iload_n 1, 1) := by decide +kernel
theorem d_MO_reached_36 : decode c_MO_reached 36 = .ok (.imul, 1) := by decide +kernel
theorem d_MO_reached_37 : decode c_MO_reached 37 = .ok (.iload 4, 2) := by decide +kernel
theorem d_MO_reached_39 : decode c_MO_reached 39 = .ok (.iadd, 1) := by decide +kernel
theorem d_MO_reached_40 : decode c_MO_reached 40 = .ok (.laload, 1) := by decide +kernel
theorem d_MO_reached_41 : decode c_MO_reached 41 = .ok (.lconst 0, 1) := by decide +kernel
theorem d_MO_reached_42 : decode c_MO_reached 42 = .ok (.lcmp, 1) := by decide +kernel
theorem d_MO_reached_43 : decode c_MO_reached 43 = .ok (.ifCond .le 10, 3) := by decide +kernel
theorem d_MO_reached_46 : decode c_MO_reached 46 = .ok (.lconst 1, 1) := by decide +kernel
theorem d_MO_reached_47 : decode c_MO_reached 47 = .ok (.iload 4, 2) := by decide +kernel
theorem d_MO_reached_49 : decode c_MO_reached 49 = .ok (.lshl, 1) := by decide +kernel
theorem d_MO_reached_50 : decode c_MO_reached 50 = .ok (.goto 4, 3) := by decide +kernel
theorem d_MO_reached_53 : decode c_MO_reached 53 = .ok (.lconst 0, 1) := by decide +kernel
theorem d_MO_reached_54 : decode c_MO_reached 54 = .ok (.lor, 1) := by decide +kernel
theorem d_MO_reached_55 : decode c_MO_reached 55 = .ok (.lstore_n 2, 1) := by decide +kernel
theorem d_MO_reached_56 : decode c_MO_reached 56 = .ok (.iinc 4 1, 3) := by decide +kernel
theorem d_MO_reached_59 : decode c_MO_reached 59 = .ok (.goto (-38), 3) := by decide +kernel
theorem d_MO_reached_62 : decode c_MO_reached 62 = .ok (.lload_n 2, 1) := by decide +kernel
theorem d_MO_reached_63 : decode c_MO_reached 63 = .ok (.lreturn, 1) := by decide +kernel
theorem d_MO_all_0 : decode c_MO_all 0 = .ok (.iload_n 1, 1) := by decide +kernel
theorem d_MO_all_1 : decode c_MO_all 1 = .ok (.invokestatic 32, 3) := by decide +kernel
theorem d_MO_all_4 : decode c_MO_all 4 = .ok (.ifCond .ne 7, 3) := by decide +kernel
theorem d_MO_all_7 : decode c_MO_all 7 = .ok (.ldc2_w 97, 3) := by decide +kernel
theorem d_MO_all_10 : decode c_MO_all 10 = .ok (.lreturn, 1) := by decide +kernel
theorem d_MO_all_11 : decode c_MO_all 11 = .ok (.aload_n 0, 1) := by decide +kernel
theorem d_MO_all_12 : decode c_MO_all 12 = .ok (.invokevirtual 99, 3) := by decide +kernel
theorem d_MO_all_15 : decode c_MO_all 15 = .ok (.ifCond .ne 7, 3) := by decide +kernel
theorem d_MO_all_18 : decode c_MO_all 18 = .ok (.ldc2_w 103, 3) := by decide +kernel
theorem d_MO_all_21 : decode c_MO_all 21 = .ok (.lreturn, 1) := by decide +kernel
theorem d_MO_all_22 : decode c_MO_all 22 = .ok (.lconst 0, 1) := by decide +kernel
theorem d_MO_all_23 : decode c_MO_all 23 = .ok (.lstore_n 2, 1) := by decide +kernel
theorem d_MO_all_24 : decode c_MO_all 24 = .ok (.iconst 0, 1) := by decide +kernel
theorem d_MO_all_25 : decode c_MO_all 25 = .ok (.istore 4, 2) := by decide +kernel
theorem d_MO_all_27 : decode c_MO_all 27 = .ok (.iload 4, 2) := by decide +kernel
theorem d_MO_all_29 : decode c_MO_all 29 = .ok (.bipush 64, 2) := by decide +kernel
theorem d_MO_all_31 : decode c_MO_all 31 = .ok (.if_icmp .ge 27, 3) := by decide +kernel
theorem d_MO_all_34 : decode c_MO_all 34 = .ok (.lload_n 2, 1) := by decide +kernel
theorem d_MO_all_35 : decode c_MO_all 35 = .ok (.aload_n 0, 1) := by decide +kernel
theorem d_MO_all_36 : decode c_MO_all 36 = .ok (.getfield 25, 3) := by decide +kernel
theorem d_MO_all_39 : decode c_MO_all 39 = .ok (.bipush 64, 2) := by decide +kernel
theorem d_MO_all_41 : decode c_MO_all 41 = .ok (.iload_n 1, 1) := by decide +kernel
theorem d_MO_all_42 : decode c_MO_all 42 = .ok (.imul, 1) := by decide +kernel
theorem d_MO_all_43 : decode c_MO_all 43 = .ok (.iload 4, 2) := by decide +kernel
theorem d_MO_all_45 : decode c_MO_all 45 = .ok (.iadd, 1) := by decide +kernel
theorem d_MO_all_46 : decode c_MO_all 46 = .ok (.laload, 1) := by decide +kernel
theorem d_MO_all_47 : decode c_MO_all 47 = .ok (.ladd, 1) := by decide +kernel
theorem d_MO_all_48 : decode c_MO_all 48 = .ok (.invokestatic 68, 3) := by decide +kernel
theorem d_MO_all_51 : decode c_MO_all 51 = .ok (.lstore_n 2, 1) := by decide +kernel
theorem d_MO_all_52 : decode c_MO_all 52 = .ok (.iinc 4 1, 3) := by decide +kernel
theorem d_MO_all_55 : decode c_MO_all 55 = .ok (.goto (-28), 3) := by decide +kernel
theorem d_MO_all_58 : decode c_MO_all 58 = .ok (.lload_n 2, 1) := by decide +kernel
theorem d_MO_all_59 : decode c_MO_all 59 = .ok (.lreturn, 1) := by decide +kernel
theorem d_MO_reaching_0 : decode c_MO_reaching 0 = .ok (.iload_n 1, 1) := by decide +kernel
theorem d_MO_reaching_1 : decode c_MO_reaching 1 = .ok (.invokestatic 32, 3) := by decide +kernel
theorem d_MO_reaching_4 : decode c_MO_reaching 4 = .ok (.ifCond .eq 10, 3) := by decide +kernel
theorem d_MO_reaching_7 : decode c_MO_reaching 7 = .ok (.aload_n 0, 1) := by decide +kernel
theorem d_MO_reaching_8 : decode c_MO_reaching 8 = .ok (.invokevirtual 99, 3) := by decide +kernel
theorem d_MO_reaching_11 : decode c_MO_reaching 11 = .ok (.ifCond .ne 5, 3) := by decide +kernel
theorem d_MO_reaching_14 : decode c_MO_reaching 14 = .ok (.lconst 0, 1) := by decide +kernel
theorem d_MO_reaching_15 : decode c_MO_reaching 15 = .ok (.lreturn, 1) := by decide +kernel
theorem d_MO_reaching_16 : decode c_MO_reaching 16 = .ok (.lconst 0, 1) := by decide +kernel
theorem d_MO_reaching_17 : decode c_MO_reaching 17 = .ok (.lstore_n 2, 1) := by decide +kernel
theorem d_MO_reaching_18 : decode c_MO_reaching 18 = .ok (.iconst 0, 1) := by decide +kernel
theorem d_MO_reaching_19 : decode c_MO_reaching 19 = .ok (.istore 4, 2) := by decide +kernel
theorem d_MO_reaching_21 : decode c_MO_reaching 21 = .ok (.iload 4, 2) := by decide +kernel
theorem d_MO_reaching_23 : decode c_MO_reaching 23 = .ok (.bipush 64, 2) := by decide +kernel
theorem d_MO_reaching_25 : decode c_MO_reaching 25 = .ok (.if_icmp .ge 37, 3) := by decide +kernel
theorem d_MO_reaching_28 : decode c_MO_reaching 28 = .ok (.lload_n 2, 1) := by decide +kernel
theorem d_MO_reaching_29 : decode c_MO_reaching 29 = .ok (.aload_n 0, 1) := by decide +kernel
theorem d_MO_reaching_30 : decode c_MO_reaching 30 = .ok (.getfield 25, 3) := by decide +kernel
theorem d_MO_reaching_33 : decode c_MO_reaching 33 = .ok (.bipush 64, 2) := by decide +kernel
theorem d_MO_reaching_35 : decode c_MO_reaching 35 = .ok (.iload 4, 2) := by decide +kernel
theorem d_MO_reaching_37 : decode c_MO_reaching 37 = .ok (.imul, 1) := by decide +kernel
theorem d_MO_reaching_38 : decode c_MO_reaching 38 = .ok (.iload_n 1, 1) := by decide +kernel
theorem d_MO_reaching_39 : decode c_MO_reaching 39 = .ok (.iadd, 1) := by decide +kernel
theorem d_MO_reaching_40 : decode c_MO_reaching 40 = .ok (.laload, 1) := by decide +kernel
theorem d_MO_reaching_41 : decode c_MO_reaching 41 = .ok (.lconst 0, 1) := by decide +kernel
theorem d_MO_reaching_42 : decode c_MO_reaching 42 = .ok (.lcmp, 1) := by decide +kernel
theorem d_MO_reaching_43 : decode c_MO_reaching 43 = .ok (.ifCond .le 10, 3) := by decide +kernel
theorem d_MO_reaching_46 : decode c_MO_reaching 46 = .ok (.lconst 1, 1) := by decide +kernel
theorem d_MO_reaching_47 : decode c_MO_reaching 47 = .ok (.iload 4, 2) := by decide +kernel
theorem d_MO_reaching_49 : decode c_MO_reaching 49 = .ok (.lshl, 1) := by decide +kernel
theorem d_MO_reaching_50 : decode c_MO_reaching 50 = .ok (.goto 4, 3) := by decide +kernel
theorem d_MO_reaching_53 : decode c_MO_reaching 53 = .ok (.lconst 0, 1) := by decide +kernel
theorem d_MO_reaching_54 : decode c_MO_reaching 54 = .ok (.lor, 1) := by decide +kernel
theorem d_MO_reaching_55 : decode c_MO_reaching 55 = .ok (.lstore_n 2, 1) := by decide +kernel
theorem d_MO_reaching_56 : decode c_MO_reaching 56 = .ok (.iinc 4 1, 3) := by decide +kernel
theorem d_MO_reaching_59 : decode c_MO_reaching 59 = .ok (.goto (-38), 3) := by decide +kernel
theorem d_MO_reaching_62 : decode c_MO_reaching 62 = .ok (.lload_n 2, 1) := by decide +kernel
theorem d_MO_reaching_63 : decode c_MO_reaching 63 = .ok (.lreturn, 1) := by decide +kernel
theorem d_MO_pairs_0 : decode c_MO_pairs 0 = .ok (.aload_n 0, 1) := by decide +kernel
theorem d_MO_pairs_1 : decode c_MO_pairs 1 = .ok (.invokevirtual 99, 3) := by decide +kernel
theorem d_MO_pairs_4 : decode c_MO_pairs 4 = .ok (.ifCond .ne 6, 3) := by decide +kernel
theorem d_MO_pairs_7 : decode c_MO_pairs 7 = .ok (.bipush (-2), 2) := by decide +kernel
theorem d_MO_pairs_9 : decode c_MO_pairs 9 = .ok (.ireturn, 1) := by decide +kernel
theorem d_MO_pairs_10 : decode c_MO_pairs 10 = .ok (.iconst 0, 1) := by decide +kernel
theorem d_MO_pairs_11 : decode c_MO_pairs 11 = .ok (.istore_n 1, 1) := by decide +kernel
theorem d_MO_pairs_12 : decode c_MO_pairs 12 = .ok (.iconst 0, 1) := by decide +kernel
theorem d_MO_pairs_13 : decode c_MO_pairs 13 = .ok (.istore_n 2, 1) := by decide +kernel
theorem d_MO_pairs_14 : decode c_MO_pairs 14 = .ok (.iload_n 2, 1) := by decide +kernel
theorem d_MO_pairs_15 : decode c_MO_pairs 15 = .ok (.sipush 4096, 3) := by decide +kernel
theorem d_MO_pairs_18 : decode c_MO_pairs 18 = .ok (.if_icmp .ge 28, 3) := by decide +kernel
theorem d_MO_pairs_21 : decode c_MO_pairs 21 = .ok (.iload_n 1, 1) := by decide +kernel
theorem d_MO_pairs_22 : decode c_MO_pairs 22 = .ok (.aload_n 0, 1) := by decide +kernel
theorem d_MO_pairs_23 : decode c_MO_pairs 23 = .ok (.getfield 25, 3) := by decide +kernel
theorem d_MO_pairs_26 : decode c_MO_pairs 26 = .ok (.iload_n 2, 1) := by decide +kernel
theorem d_MO_pairs_27 : decode c_MO_pairs 27 = .ok (.laload, 1) := by decide +kernel
theorem d_MO_pairs_28 : decode c_MO_pairs 28 = .ok (.lconst 0, 1) := by decide +kernel
theorem d_MO_pairs_29 : decode c_MO_pairs 29 = .ok (.lcmp, 1) := by decide +kernel
theorem d_MO_pairs_30 : decode c_MO_pairs 30 = .ok (.ifCond .le 7, 3) := by decide +kernel
theorem d_MO_pairs_33 : decode c_MO_pairs 33 = .ok (.iconst 1, 1) := by decide +kernel
theorem d_MO_pairs_34 : decode c_MO_pairs 34 = .ok (.goto 4, 3) := by decide +kernel
theorem d_MO_pairs_37 : decode c_MO_pairs 37 = .ok (.iconst 0, 1) := by decide +kernel
theorem d_MO_pairs_38 : decode c_MO_pairs 38 = .ok (.iadd, 1) := by decide +kernel
theorem d_MO_pairs_39 : decode c_MO_pairs 39 = .ok (.istore_n 1, 1) := by decide +kernel
theorem d_MO_pairs_40 : decode c_MO_pairs 40 = .ok (.iinc 2 1, 3) := by decide +kernel
theorem d_MO_pairs_43 : decode c_MO_pairs 43 = .ok (.goto (-29), 3) := by decide +kernel
theorem d_MO_pairs_46 : decode c_MO_pairs 46 = .ok (.iload_n 1, 1) := by decide +kernel
theorem d_MO_pairs_47 : decode c_MO_pairs 47 = .ok (.ireturn, 1) := by decide +kernel
