/-! DECODE ROWS -/
theorem d_GR_init_0 : decode c_GR_init 0 = .ok (.aload_n 0, 1) := by decide +kernel
theorem d_GR_init_1 : decode c_GR_init 1 = .ok (.invokespecial 3, 3) := by decide +kernel
theorem d_GR_init_4 : decode c_GR_init 4 = .ok (.aload_n 0, 1) := by decide +kernel
theorem d_GR_init_5 : decode c_GR_init 5 = .ok (.bipush 8, 2) := by decide +kernel
theorem d_GR_init_7 : decode c_GR_init 7 = .ok (.bipush 64, 2) := by decide +kernel
theorem d_GR_init_9 : decode c_GR_init 9 = .ok (.multianewarray 9 2, 4) := by decide +kernel
theorem d_GR_init_13 : decode c_GR_init 13 = .ok (.putfield 11, 3) := by decide +kernel
theorem d_GR_init_16 : decode c_GR_init 16 = .ok (.return_, 1) := by decide +kernel
theorem d_GR_put_0 : decode c_GR_put 0 = .ok (.iload_n 1, 1) := by decide +kernel
theorem d_GR_put_1 : decode c_GR_put 1 = .ok (.iload_n 2, 1) := by decide +kernel
theorem d_GR_put_2 : decode c_GR_put 2 = .ok (.iload_n 3, 1) := by decide +kernel
theorem d_GR_put_3 : decode c_GR_put 3 = .ok (.invokestatic 16, 3) := by decide +kernel
theorem d_GR_put_6 : decode c_GR_put 6 = .ok (.ifCond .ne 5, 3) := by decide +kernel
theorem d_GR_put_9 : decode c_GR_put 9 = .ok (.iconst (-1), 1) := by decide +kernel
theorem d_GR_put_10 : decode c_GR_put 10 = .ok (.ireturn, 1) := by decide +kernel
theorem d_GR_put_11 : decode c_GR_put 11 = .ok (.aload_n 0, 1) := by decide +kernel
theorem d_GR_put_12 : decode c_GR_put 12 = .ok (.getfield 11, 3) := by decide +kernel
theorem d_GR_put_15 : decode c_GR_put 15 = .ok (.iload_n 2, 1) := by decide +kernel
theorem d_GR_put_16 : decode c_GR_put 16 = .ok (.aaload, 1) := by decide +kernel
theorem d_GR_put_17 : decode c_GR_put 17 = .ok (.iload_n 1, 1) := by decide +kernel
theorem d_GR_put_18 : decode c_GR_put 18 = .ok (.laload, 1) := by decide +kernel
theorem d_GR_put_19 : decode c_GR_put 19 = .ok (.iload_n 3, 1) := by decide +kernel
theorem d_GR_put_20 : decode c_GR_put 20 = .ok (.invokestatic 20, 3) := by decide +kernel
theorem d_GR_put_23 : decode c_GR_put 23 = .ok (.ifCond .eq 5, 3) := by decide +kernel
theorem d_GR_put_26 : decode c_GR_put 26 = .ok (.iconst 0, 1) := by decide +kernel
theorem d_GR_put_27 : decode c_GR_put 27 = .ok (.ireturn, 1) := by decide +kernel
theorem d_GR_put_28 : decode c_GR_put 28 = .ok (.aload_n 0, 1) := by decide +kernel
theorem d_GR_put_29 : decode c_GR_put 29 = .ok (.getfield 11, 3) := by decide +kernel
theorem d_GR_put_32 : decode c_GR_put 32 = .ok (.iload_n 2, 1) := by decide +kernel
theorem d_GR_put_33 : decode c_GR_put 33 = .ok (.aaload, 1) := by decide +kernel
theorem d_GR_put_34 : decode c_GR_put 34 = .ok (.iload_n 1, 1) := by decide +kernel
theorem d_GR_put_35 : decode c_GR_put 35 = .ok (.dup2, 1) := by decide +kernel
theorem d_GR_put_36 : decode c_GR_put 36 = .ok (.laload, 1) := by decide +kernel
theorem d_GR_put_37 : decode c_GR_put 37 = .ok (.iload_n 3, 1) := by decide +kernel
theorem d_GR_put_38 : decode c_GR_put 38 = .ok (.invokestatic 24, 3) := by decide +kernel
theorem d_GR_put_41 : decode c_GR_put 41 = .ok (.lor, 1) := by decide +kernel
theorem d_GR_put_42 : decode c_GR_put 42 = .ok (.lastore, 1) := by decide +kernel
theorem d_GR_put_43 : decode c_GR_put 43 = .ok (.aload_n 0, 1) := by decide +kernel
theorem d_GR_put_44 : decode c_GR_put 44 = .ok (.dup, 1) := by decide +kernel
theorem d_GR_put_45 : decode c_GR_put 45 = .ok (.getfield 28, 3) := by decide +kernel
theorem d_GR_put_48 : decode c_GR_put 48 = .ok (.iconst 1, 1) := by decide +kernel
theorem d_GR_put_49 : decode c_GR_put 49 = .ok (.iadd, 1) := by decide +kernel
theorem d_GR_put_50 : decode c_GR_put 50 = .ok (.putfield 28, 3) := by decide +kernel
theorem d_GR_put_53 : decode c_GR_put 53 = .ok (.iconst 1, 1) := by decide +kernel
theorem d_GR_put_54 : decode c_GR_put 54 = .ok (.ireturn, 1) := by decide +kernel
theorem d_GR_isEdge_0 : decode c_GR_isEdge 0 = .ok (.iload_n 0, 1) := by decide +kernel
theorem d_GR_isEdge_1 : decode c_GR_isEdge 1 = .ok (.invokestatic 34, 3) := by decide +kernel
theorem d_GR_isEdge_4 : decode c_GR_isEdge 4 = .ok (.ifCond .eq 21, 3) := by decide +kernel
theorem d_GR_isEdge_7 : decode c_GR_isEdge 7 = .ok (.iload_n 1, 1) := by decide +kernel
theorem d_GR_isEdge_8 : decode c_GR_isEdge 8 = .ok (.invokestatic 38, 3) := by decide +kernel
theorem d_GR_isEdge_11 : decode c_GR_isEdge 11 = .ok (.ifCond .eq 14, 3) := by decide +kernel
theorem d_GR_isEdge_14 : decode c_GR_isEdge 14 = .ok (.iload_n 2, 1) := by decide +kernel
theorem d_GR_isEdge_15 : decode c_GR_isEdge 15 = .ok (.invokestatic 34, 3) := by decide +kernel
theorem d_GR_isEdge_18 : decode c_GR_isEdge 18 = .ok (.ifCond .eq 7, 3) := by decide +kernel
theorem d_GR_isEdge_21 : decode c_GR_isEdge 21 = .ok (.iconst 1, 1) := by decide +kernel
theorem d_GR_isEdge_22 : decode c_GR_isEdge 22 = .ok (.goto 4, 3) := by decide +kernel
theorem d_GR_isEdge_25 : decode c_GR_isEdge 25 = .ok (.iconst 0, 1) := by decide +kernel
theorem d_GR_isEdge_26 : decode c_GR_isEdge 26 = .ok (.ireturn, 1) := by decide +kernel
theorem d_GR_remove_0 : decode c_GR_remove 0 = .ok (.iload_n 1, 1) := by decide +kernel
theorem d_GR_remove_1 : decode c_GR_remove 1 = .ok (.iload_n 2, 1) := by decide +kernel
theorem d_GR_remove_2 : decode c_GR_remove 2 = .ok (.iload_n 3, 1) := by decide +kernel
theorem d_GR_remove_3 : decode c_GR_remove 3 = .ok (.invokestatic 16, 3) := by decide +kernel
theorem d_GR_remove_6 : decode c_GR_remove 6 = .ok (.ifCond .ne 5, 3) := by decide +kernel
theorem d_GR_remove_9 : decode c_GR_remove 9 = .ok (.iconst (-1), 1) := by decide +kernel
theorem d_GR_remove_10 : decode c_GR_remove 10 = .ok (.ireturn, 1) := by decide +kernel
theorem d_GR_remove_11 : decode c_GR_remove 11 = .ok (.aload_n 0, 1) := by decide +kernel
theorem d_GR_remove_12 : decode c_GR_remove 12 = .ok (.getfield 11, 3) := by decide +kernel
theorem d_GR_remove_15 : decode c_GR_remove 15 = .ok (.iload_n 2, 1) := by decide +kernel
theorem d_GR_remove_16 : decode c_GR_remove 16 = .ok (.aaload, 1) := by decide +kernel
theorem d_GR_remove_17 : decode c_GR_remove 17 = .ok (.iload_n 1, 1) := by decide +kernel
theorem d_GR_remove_18 : decode c_GR_remove 18 = .ok (.laload, 1) := by decide +kernel
theorem d_GR_remove_19 : decode c_GR_remove 19 = .ok (.iload_n 3, 1) := by decide +kernel
theorem d_GR_remove_20 : decode c_GR_remove 20 = .ok (.invokestatic 20, 3) := by decide +kernel
theorem d_GR_remove_23 : decode c_GR_remove 23 = .ok (.ifCond .ne 5, 3) := by decide +kernel
theorem d_GR_remove_26 : decode c_GR_remove 26 = .ok (.iconst 0, 1) := by decide +kernel
theorem d_GR_remove_27 : decode c_GR_remove 27 = .ok (.ireturn, 1) := by decide +kernel
theorem d_GR_remove_28 : decode c_GR_remove 28 = .ok (.aload_n 0, 1) := by decide +kernel
theorem d_GR_remove_29 : decode c_GR_remove 29 = .ok (.getfield 11, 3) := by decide +kernel
theorem d_GR_remove_32 : decode c_GR_remove 32 = .ok (.iload_n 2, 1) := by decide +kernel
theorem d_GR_remove_33 : decode c_GR_remove 33 = .ok (.aaload, 1) := by decide +kernel
theorem d_GR_remove_34 : decode c_GR_remove 34 = .ok (.iload_n 1, 1) := by decide +kernel
theorem d_GR_remove_35 : decode c_GR_remove 35 = .ok (.dup2, 1) := by decide +kernel
theorem d_GR_remove_36 : decode c_GR_remove 36 = .ok (.laload, 1) := by decide +kernel
theorem d_GR_remove_37 : decode c_GR_remove 37 = .ok (.iload_n 3, 1) := by decide +kernel
theorem d_GR_remove_38 : decode c_GR_remove 38 = .ok (.invokestatic 24, 3) := by decide +kernel
theorem d_GR_remove_41 : decode c_GR_remove 41 = .ok (.ldc2_w 32, 3) := by decide +kernel
theorem d_GR_remove_44 : decode c_GR_remove 44 = .ok (.lxor, 1) := by decide +kernel
theorem d_GR_remove_45 : decode c_GR_remove 45 = .ok (.land, 1) := by decide +kernel
theorem d_GR_remove_46 : decode c_GR_remove 46 = .ok (.lastore, 1) := by decide +kernel
theorem d_GR_remove_47 : decode c_GR_remove 47 = .ok (.aload_n 0, 1) := by decide +kernel
theorem d_GR_remove_48 : decode c_GR_remove 48 = .ok (.dup, 1) := by decide +kernel
theorem d_GR_remove_49 : decode c_GR_remove 49 = .ok (.getfield 28, 3) := by decide +kernel
theorem d_GR_remove_52 : decode c_GR_remove 52 = .ok (.iconst 1, 1) := by decide +kernel
theorem d_GR_remove_53 : decode c_GR_remove 53 = .ok (.isub, 1) := by decide +kernel
theorem d_GR_remove_54 : decode c_GR_remove 54 = .ok (.putfield 28, 3) := by decide +kernel
theorem d_GR_remove_57 : decode c_GR_remove 57 = .ok (.iconst 1, 1) := by decide +kernel
theorem d_GR_remove_58 : decode c_GR_remove 58 = .ok (.ireturn, 1) := by decide +kernel
