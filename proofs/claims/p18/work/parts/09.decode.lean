/-! ===== decode rows (printed by program: NAMES.whole) ===== -/
theorem dX0_init_0 : decode cX0_init 0 = .ok (.aload_n 0, 1) := by decide +kernel
theorem dX0_init_1 : decode cX0_init 1 = .ok (.invokespecial 3, 3) := by decide +kernel
theorem dX0_init_4 : decode cX0_init 4 = .ok (.aload_n 0, 1) := by decide +kernel
theorem dX0_init_5 : decode cX0_init 5 = .ok (.aload_n 1, 1) := by decide +kernel
theorem dX0_init_6 : decode cX0_init 6 = .ok (.putfield 9, 3) := by decide +kernel
theorem dX0_init_9 : decode cX0_init 9 = .ok (.aload_n 0, 1) := by decide +kernel
theorem dX0_init_10 : decode cX0_init 10 = .ok (.new 15, 3) := by decide +kernel
theorem dX0_init_13 : decode cX0_init 13 = .ok (.dup, 1) := by decide +kernel
theorem dX0_init_14 : decode cX0_init 14 = .ok (.sipush 450, 3) := by decide +kernel
theorem dX0_init_17 : decode cX0_init 17 = .ok (.invokespecial 17, 3) := by decide +kernel
theorem dX0_init_20 : decode cX0_init 20 = .ok (.putfield 20, 3) := by decide +kernel
theorem dX0_init_23 : decode cX0_init 23 = .ok (.aload_n 0, 1) := by decide +kernel
theorem dX0_init_24 : decode cX0_init 24 = .ok (.new 15, 3) := by decide +kernel
theorem dX0_init_27 : decode cX0_init 27 = .ok (.dup, 1) := by decide +kernel
theorem dX0_init_28 : decode cX0_init 28 = .ok (.sipush 450, 3) := by decide +kernel
theorem dX0_init_31 : decode cX0_init 31 = .ok (.invokespecial 17, 3) := by decide +kernel
theorem dX0_init_34 : decode cX0_init 34 = .ok (.putfield 24, 3) := by decide +kernel
theorem dX0_init_37 : decode cX0_init 37 = .ok (.return_, 1) := by decide +kernel
theorem dX0_evaluate_0 : decode cX0_evaluate 0 = .ok (.aload_n 1, 1) := by decide +kernel
theorem dX0_evaluate_1 : decode cX0_evaluate 1 = .ok (.invokevirtual 27, 3) := by decide +kernel
theorem dX0_evaluate_4 : decode cX0_evaluate 4 = .ok (.iconst 3, 1) := by decide +kernel
theorem dX0_evaluate_5 : decode cX0_evaluate 5 = .ok (.imul, 1) := by decide +kernel
theorem dX0_evaluate_6 : decode cX0_evaluate 6 = .ok (.istore_n 2, 1) := by decide +kernel
theorem dX0_evaluate_7 : decode cX0_evaluate 7 = .ok (.iconst 0, 1) := by decide +kernel
theorem dX0_evaluate_8 : decode cX0_evaluate 8 = .ok (.istore_n 3, 1) := by decide +kernel
theorem dX0_evaluate_9 : decode cX0_evaluate 9 = .ok (.iload_n 3, 1) := by decide +kernel
theorem dX0_evaluate_10 : decode cX0_evaluate 10 = .ok (.iload_n 2, 1) := by decide +kernel
theorem dX0_evaluate_11 : decode cX0_evaluate 11 = .ok (.if_icmp .ge 32, 3) := by decide +kernel
theorem dX0_evaluate_14 : decode cX0_evaluate 14 = .ok (.aload_n 0, 1) := by decide +kernel
theorem dX0_evaluate_15 : decode cX0_evaluate 15 = .ok (.getfield 20, 3) := by decide +kernel
theorem dX0_evaluate_18 : decode cX0_evaluate 18 = .ok (.iload_n 3, 1) := by decide +kernel
theorem dX0_evaluate_19 : decode cX0_evaluate 19 = .ok (.aload_n 1, 1) := by decide +kernel
theorem dX0_evaluate_20 : decode cX0_evaluate 20 = .ok (.iload_n 3, 1) := by decide +kernel
theorem dX0_evaluate_21 : decode cX0_evaluate 21 = .ok (.iconst 3, 1) := by decide +kernel
theorem dX0_evaluate_22 : decode cX0_evaluate 22 = .ok (.idiv, 1) := by decide +kernel
theorem dX0_evaluate_23 : decode cX0_evaluate 23 = .ok (.invokevirtual 33, 3) := by decide +kernel
theorem dX0_evaluate_26 : decode cX0_evaluate 26 = .ok (.ifCond .eq 7, 3) := by decide +kernel
theorem dX0_evaluate_29 : decode cX0_evaluate 29 = .ok (.iconst 1, 1) := by decide +kernel
theorem dX0_evaluate_30 : decode cX0_evaluate 30 = .ok (.goto 4, 3) := by decide +kernel
theorem dX0_evaluate_33 : decode cX0_evaluate 33 = .ok (.iconst 0, 1) := by decide +kernel
theorem dX0_evaluate_34 : decode cX0_evaluate 34 = .ok (.invokevirtual 37, 3) := by decide +kernel
theorem dX0_evaluate_37 : decode cX0_evaluate 37 = .ok (.iinc 3 1, 3) := by decide +kernel
theorem dX0_evaluate_40 : decode cX0_evaluate 40 = .ok (.goto (-31), 3) := by decide +kernel
theorem dX0_evaluate_43 : decode cX0_evaluate 43 = .ok (.iconst 0, 1) := by decide +kernel
theorem dX0_evaluate_44 : decode cX0_evaluate 44 = .ok (.istore_n 3, 1) := by decide +kernel
theorem dX0_evaluate_45 : decode cX0_evaluate 45 = .ok (.iload_n 3, 1) := by decide +kernel
theorem dX0_evaluate_46 : decode cX0_evaluate 46 = .ok (.iload_n 2, 1) := by decide +kernel
theorem dX0_evaluate_47 : decode cX0_evaluate 47 = .ok (.if_icmp .ge 26, 3) := by decide +kernel
theorem dX0_evaluate_50 : decode cX0_evaluate 50 = .ok (.aload_n 0, 1) := by decide +kernel
theorem dX0_evaluate_51 : decode cX0_evaluate 51 = .ok (.getfield 20, 3) := by decide +kernel
theorem dX0_evaluate_54 : decode cX0_evaluate 54 = .ok (.iload_n 3, 1) := by decide +kernel
theorem dX0_evaluate_55 : decode cX0_evaluate 55 = .ok (.invokevirtual 41, 3) := by decide +kernel
theorem dX0_evaluate_58 : decode cX0_evaluate 58 = .ok (.ifCond .ne 9, 3) := by decide +kernel
theorem dX0_evaluate_61 : decode cX0_evaluate 61 = .ok (.aload_n 0, 1) := by decide +kernel
theorem dX0_evaluate_62 : decode cX0_evaluate 62 = .ok (.aload_n 1, 1) := by decide +kernel
theorem dX0_evaluate_63 : decode cX0_evaluate 63 = .ok (.iload_n 3, 1) := by decide +kernel
theorem dX0_evaluate_64 : decode cX0_evaluate 64 = .ok (.invokevirtual 45, 3) := by decide +kernel
theorem dX0_evaluate_67 : decode cX0_evaluate 67 = .ok (.iinc 3 1, 3) := by decide +kernel
theorem dX0_evaluate_70 : decode cX0_evaluate 70 = .ok (.goto (-25), 3) := by decide +kernel
theorem dX0_evaluate_73 : decode cX0_evaluate 73 = .ok (.return_, 1) := by decide +kernel
theorem dX0_settle_0 : decode cX0_settle 0 = .ok (.aload_n 0, 1) := by decide +kernel
theorem dX0_settle_1 : decode cX0_settle 1 = .ok (.getfield 24, 3) := by decide +kernel
theorem dX0_settle_4 : decode cX0_settle 4 = .ok (.iconst 0, 1) := by decide +kernel
theorem dX0_settle_5 : decode cX0_settle 5 = .ok (.iload_n 2, 1) := by decide +kernel
theorem dX0_settle_6 : decode cX0_settle 6 = .ok (.invokevirtual 37, 3) := by decide +kernel
theorem dX0_settle_9 : decode cX0_settle 9 = .ok (.iconst 1, 1) := by decide +kernel
theorem dX0_settle_10 : decode cX0_settle 10 = .ok (.istore_n 3, 1) := by decide +kernel
theorem dX0_settle_11 : decode cX0_settle 11 = .ok (.iconst 0, 1) := by decide +kernel
theorem dX0_settle_12 : decode cX0_settle 12 = .ok (.istore 4, 2) := by decide +kernel
theorem dX0_settle_14 : decode cX0_settle 14 = .ok (.iload 4, 2) := by decide +kernel
theorem dX0_settle_16 : decode cX0_settle 16 = .ok (.ldc 49, 2) := by decide +kernel
theorem dX0_settle_18 : decode cX0_settle 18 = .ok (.if_icmp .ge 81, 3) := by decide +kernel
theorem dX0_settle_21 : decode cX0_settle 21 = .ok (.iload_n 3, 1) := by decide +kernel
theorem dX0_settle_22 : decode cX0_settle 22 = .ok (.ifCond .le 77, 3) := by decide +kernel
theorem dX0_settle_25 : decode cX0_settle 25 = .ok (.aload_n 0, 1) := by decide +kernel
theorem dX0_settle_26 : decode cX0_settle 26 = .ok (.getfield 24, 3) := by decide +kernel
theorem dX0_settle_29 : decode cX0_settle 29 = .ok (.iload_n 3, 1) := by decide +kernel
theorem dX0_settle_30 : decode cX0_settle 30 = .ok (.iconst 1, 1) := by decide +kernel
theorem dX0_settle_31 : decode cX0_settle 31 = .ok (.isub, 1) := by decide +kernel
theorem dX0_settle_32 : decode cX0_settle 32 = .ok (.invokevirtual 41, 3) := by decide +kernel
theorem dX0_settle_35 : decode cX0_settle 35 = .ok (.istore 5, 2) := by decide +kernel
theorem dX0_settle_37 : decode cX0_settle 37 = .ok (.aload_n 0, 1) := by decide +kernel
theorem dX0_settle_38 : decode cX0_settle 38 = .ok (.aload_n 1, 1) := by decide +kernel
theorem dX0_settle_39 : decode cX0_settle 39 = .ok (.iload 5, 2) := by decide +kernel
theorem dX0_settle_41 : decode cX0_settle 41 = .ok (.invokevirtual 50, 3) := by decide +kernel
theorem dX0_settle_44 : decode cX0_settle 44 = .ok (.istore 6, 2) := by decide +kernel
theorem dX0_settle_46 : decode cX0_settle 46 = .ok (.iload 6, 2) := by decide +kernel
theorem dX0_settle_48 : decode cX0_settle 48 = .ok (.ifCond .lt 19, 3) := by decide +kernel
theorem dX0_settle_51 : decode cX0_settle 51 = .ok (.aload_n 0, 1) := by decide +kernel
theorem dX0_settle_52 : decode cX0_settle 52 = .ok (.getfield 24, 3) := by decide +kernel
theorem dX0_settle_55 : decode cX0_settle 55 = .ok (.iload_n 3, 1) := by decide +kernel
theorem dX0_settle_56 : decode cX0_settle 56 = .ok (.iload 6, 2) := by decide +kernel
theorem dX0_settle_58 : decode cX0_settle 58 = .ok (.invokevirtual 37, 3) := by decide +kernel
theorem dX0_settle_61 : decode cX0_settle 61 = .ok (.iinc 3 1, 3) := by decide +kernel
theorem dX0_settle_64 : decode cX0_settle 64 = .ok (.goto 29, 3) := by decide +kernel
theorem dX0_settle_67 : decode cX0_settle 67 = .ok (.aload_n 1, 1) := by decide +kernel
theorem dX0_settle_68 : decode cX0_settle 68 = .ok (.iload 5, 2) := by decide +kernel
theorem dX0_settle_70 : decode cX0_settle 70 = .ok (.aload_n 0, 1) := by decide +kernel
theorem dX0_settle_71 : decode cX0_settle 71 = .ok (.aload_n 1, 1) := by decide +kernel
theorem dX0_settle_72 : decode cX0_settle 72 = .ok (.iload 5, 2) := by decide +kernel
theorem dX0_settle_74 : decode cX0_settle 74 = .ok (.invokevirtual 54, 3) := by decide +kernel
theorem dX0_settle_77 : decode cX0_settle 77 = .ok (.invokevirtual 58, 3) := by decide +kernel
theorem dX0_settle_80 : decode cX0_settle 80 = .ok (.aload_n 0, 1) := by decide +kernel
theorem dX0_settle_81 : decode cX0_settle 81 = .ok (.getfield 20, 3) := by decide +kernel
theorem dX0_settle_84 : decode cX0_settle 84 = .ok (.iload 5, 2) := by decide +kernel
theorem dX0_settle_86 : decode cX0_settle 86 = .ok (.iconst 1, 1) := by decide +kernel
theorem dX0_settle_87 : decode cX0_settle 87 = .ok (.invokevirtual 37, 3) := by decide +kernel
theorem dX0_settle_90 : decode cX0_settle 90 = .ok (.iinc 3 (-1), 3) := by decide +kernel
theorem dX0_settle_93 : decode cX0_settle 93 = .ok (.iinc 4 1, 3) := by decide +kernel
theorem dX0_settle_96 : decode cX0_settle 96 = .ok (.goto (-82), 3) := by decide +kernel
theorem dX0_settle_99 : decode cX0_settle 99 = .ok (.return_, 1) := by decide +kernel
theorem dX0_contextOf_0 : decode cX0_contextOf 0 = .ok (.iload_n 1, 1) := by decide +kernel
theorem dX0_contextOf_1 : decode cX0_contextOf 1 = .ok (.iconst 3, 1) := by decide +kernel
theorem dX0_contextOf_2 : decode cX0_contextOf 2 = .ok (.idiv, 1) := by decide +kernel
theorem dX0_contextOf_3 : decode cX0_contextOf 3 = .ok (.istore_n 2, 1) := by decide +kernel
theorem dX0_contextOf_4 : decode cX0_contextOf 4 = .ok (.iload_n 1, 1) := by decide +kernel
theorem dX0_contextOf_5 : decode cX0_contextOf 5 = .ok (.iconst 3, 1) := by decide +kernel
theorem dX0_contextOf_6 : decode cX0_contextOf 6 = .ok (.irem, 1) := by decide +kernel
theorem dX0_contextOf_7 : decode cX0_contextOf 7 = .ok (.iconst 2, 1) := by decide +kernel
theorem dX0_contextOf_8 : decode cX0_contextOf 8 = .ok (.if_icmp .ne 12, 3) := by decide +kernel
theorem dX0_contextOf_11 : decode cX0_contextOf 11 = .ok (.aload_n 0, 1) := by decide +kernel
theorem dX0_contextOf_12 : decode cX0_contextOf 12 = .ok (.iload_n 2, 1) := by decide +kernel
theorem dX0_contextOf_13 : decode cX0_contextOf 13 = .ok (.iconst 2, 1) := by decide +kernel
theorem dX0_contextOf_14 : decode cX0_contextOf 14 = .ok (.invokevirtual 62, 3) := by decide +kernel
theorem dX0_contextOf_17 : decode cX0_contextOf 17 = .ok (.goto 4, 3) := by decide +kernel
theorem dX0_contextOf_20 : decode cX0_contextOf 20 = .ok (.iload_n 2, 1) := by decide +kernel
theorem dX0_contextOf_21 : decode cX0_contextOf 21 = .ok (.ireturn, 1) := by decide +kernel
theorem dX0_placeOf_0 : decode cX0_placeOf 0 = .ok (.iload_n 1, 1) := by decide +kernel
theorem dX0_placeOf_1 : decode cX0_placeOf 1 = .ok (.iconst 3, 1) := by decide +kernel
theorem dX0_placeOf_2 : decode cX0_placeOf 2 = .ok (.irem, 1) := by decide +kernel
theorem dX0_placeOf_3 : decode cX0_placeOf 3 = .ok (.istore_n 2, 1) := by decide +kernel
theorem dX0_placeOf_4 : decode cX0_placeOf 4 = .ok (.iload_n 2, 1) := by decide +kernel
theorem dX0_placeOf_5 : decode cX0_placeOf 5 = .ok (.iconst 2, 1) := by decide +kernel
theorem dX0_placeOf_6 : decode cX0_placeOf 6 = .ok (.if_icmp .ne 14, 3) := by decide +kernel
theorem dX0_placeOf_9 : decode cX0_placeOf 9 = .ok (.aload_n 0, 1) := by decide +kernel
theorem dX0_placeOf_10 : decode cX0_placeOf 10 = .ok (.iload_n 1, 1) := by decide +kernel
theorem dX0_placeOf_11 : decode cX0_placeOf 11 = .ok (.iconst 3, 1) := by decide +kernel
theorem dX0_placeOf_12 : decode cX0_placeOf 12 = .ok (.idiv, 1) := by decide +kernel
theorem dX0_placeOf_13 : decode cX0_placeOf 13 = .ok (.iconst 3, 1) := by decide +kernel
theorem dX0_placeOf_14 : decode cX0_placeOf 14 = .ok (.invokevirtual 62, 3) := by decide +kernel
theorem dX0_placeOf_17 : decode cX0_placeOf 17 = .ok (.goto 4, 3) := by decide +kernel
theorem dX0_placeOf_20 : decode cX0_placeOf 20 = .ok (.iconst 0, 1) := by decide +kernel
theorem dX0_placeOf_21 : decode cX0_placeOf 21 = .ok (.istore_n 3, 1) := by decide +kernel
theorem dX0_placeOf_22 : decode cX0_placeOf 22 = .ok (.iload_n 3, 1) := by decide +kernel
theorem dX0_placeOf_23 : decode cX0_placeOf 23 = .ok (.iconst 3, 1) := by decide +kernel
theorem dX0_placeOf_24 : decode cX0_placeOf 24 = .ok (.imul, 1) := by decide +kernel
theorem dX0_placeOf_25 : decode cX0_placeOf 25 = .ok (.iload_n 2, 1) := by decide +kernel
theorem dX0_placeOf_26 : decode cX0_placeOf 26 = .ok (.iadd, 1) := by decide +kernel
theorem dX0_placeOf_27 : decode cX0_placeOf 27 = .ok (.ireturn, 1) := by decide +kernel
theorem dX0_ruleOf_0 : decode cX0_ruleOf 0 = .ok (.iload_n 1, 1) := by decide +kernel
theorem dX0_ruleOf_1 : decode cX0_ruleOf 1 = .ok (.ifCond .ge 7, 3) := by decide +kernel
theorem dX0_ruleOf_4 : decode cX0_ruleOf 4 = .ok (.iconst (-1), 1) := by decide +kernel
theorem dX0_ruleOf_5 : decode cX0_ruleOf 5 = .ok (.goto 9, 3) := by decide +kernel
theorem dX0_ruleOf_8 : decode cX0_ruleOf 8 = .ok (.aload_n 0, 1) := by decide +kernel
theorem dX0_ruleOf_9 : decode cX0_ruleOf 9 = .ok (.iload_n 1, 1) := by decide +kernel
theorem dX0_ruleOf_10 : decode cX0_ruleOf 10 = .ok (.iconst 1, 1) := by decide +kernel
theorem dX0_ruleOf_11 : decode cX0_ruleOf 11 = .ok (.invokevirtual 62, 3) := by decide +kernel
theorem dX0_ruleOf_14 : decode cX0_ruleOf 14 = .ok (.ireturn, 1) := by decide +kernel
theorem dX0_slotOf_0 : decode cX0_slotOf 0 = .ok (.iload_n 2, 1) := by decide +kernel
theorem dX0_slotOf_1 : decode cX0_slotOf 1 = .ok (.iconst 3, 1) := by decide +kernel
theorem dX0_slotOf_2 : decode cX0_slotOf 2 = .ok (.idiv, 1) := by decide +kernel
theorem dX0_slotOf_3 : decode cX0_slotOf 3 = .ok (.istore_n 3, 1) := by decide +kernel
theorem dX0_slotOf_4 : decode cX0_slotOf 4 = .ok (.iload_n 3, 1) := by decide +kernel
theorem dX0_slotOf_5 : decode cX0_slotOf 5 = .ok (.ifCond .ne 7, 3) := by decide +kernel
theorem dX0_slotOf_8 : decode cX0_slotOf 8 = .ok (.iload_n 1, 1) := by decide +kernel
theorem dX0_slotOf_9 : decode cX0_slotOf 9 = .ok (.goto 9, 3) := by decide +kernel
theorem dX0_slotOf_12 : decode cX0_slotOf 12 = .ok (.aload_n 0, 1) := by decide +kernel
theorem dX0_slotOf_13 : decode cX0_slotOf 13 = .ok (.iload_n 1, 1) := by decide +kernel
theorem dX0_slotOf_14 : decode cX0_slotOf 14 = .ok (.iload_n 3, 1) := by decide +kernel
theorem dX0_slotOf_15 : decode cX0_slotOf 15 = .ok (.invokevirtual 66, 3) := by decide +kernel
theorem dX0_slotOf_18 : decode cX0_slotOf 18 = .ok (.istore 4, 2) := by decide +kernel
theorem dX0_slotOf_20 : decode cX0_slotOf 20 = .ok (.iload 4, 2) := by decide +kernel
theorem dX0_slotOf_22 : decode cX0_slotOf 22 = .ok (.iconst 3, 1) := by decide +kernel
theorem dX0_slotOf_23 : decode cX0_slotOf 23 = .ok (.imul, 1) := by decide +kernel
theorem dX0_slotOf_24 : decode cX0_slotOf 24 = .ok (.iload_n 2, 1) := by decide +kernel
theorem dX0_slotOf_25 : decode cX0_slotOf 25 = .ok (.iconst 3, 1) := by decide +kernel
theorem dX0_slotOf_26 : decode cX0_slotOf 26 = .ok (.irem, 1) := by decide +kernel
theorem dX0_slotOf_27 : decode cX0_slotOf 27 = .ok (.iadd, 1) := by decide +kernel
theorem dX0_slotOf_28 : decode cX0_slotOf 28 = .ok (.ireturn, 1) := by decide +kernel
theorem dX0_missingFor_0 : decode cX0_missingFor 0 = .ok (.aload_n 1, 1) := by decide +kernel
theorem dX0_missingFor_1 : decode cX0_missingFor 1 = .ok (.iload_n 2, 1) := by decide +kernel
theorem dX0_missingFor_2 : decode cX0_missingFor 2 = .ok (.invokestatic 69, 3) := by decide +kernel
theorem dX0_missingFor_5 : decode cX0_missingFor 5 = .ok (.istore_n 3, 1) := by decide +kernel
theorem dX0_missingFor_6 : decode cX0_missingFor 6 = .ok (.aload_n 1, 1) := by decide +kernel
theorem dX0_missingFor_7 : decode cX0_missingFor 7 = .ok (.iload_n 3, 1) := by decide +kernel
theorem dX0_missingFor_8 : decode cX0_missingFor 8 = .ok (.invokestatic 72, 3) := by decide +kernel
theorem dX0_missingFor_11 : decode cX0_missingFor 11 = .ok (.istore 4, 2) := by decide +kernel
theorem dX0_missingFor_13 : decode cX0_missingFor 13 = .ok (.aload_n 1, 1) := by decide +kernel
theorem dX0_missingFor_14 : decode cX0_missingFor 14 = .ok (.iload_n 2, 1) := by decide +kernel
theorem dX0_missingFor_15 : decode cX0_missingFor 15 = .ok (.invokestatic 75, 3) := by decide +kernel
theorem dX0_missingFor_18 : decode cX0_missingFor 18 = .ok (.istore 5, 2) := by decide +kernel
theorem dX0_missingFor_20 : decode cX0_missingFor 20 = .ok (.aload_n 0, 1) := by decide +kernel
theorem dX0_missingFor_21 : decode cX0_missingFor 21 = .ok (.getfield 9, 3) := by decide +kernel
theorem dX0_missingFor_24 : decode cX0_missingFor 24 = .ok (.iload 4, 2) := by decide +kernel
theorem dX0_missingFor_26 : decode cX0_missingFor 26 = .ok (.iload 5, 2) := by decide +kernel
theorem dX0_missingFor_28 : decode cX0_missingFor 28 = .ok (.invokevirtual 78, 3) := by decide +kernel
theorem dX0_missingFor_31 : decode cX0_missingFor 31 = .ok (.istore 6, 2) := by decide +kernel
theorem dX0_missingFor_33 : decode cX0_missingFor 33 = .ok (.iload 6, 2) := by decide +kernel
theorem dX0_missingFor_35 : decode cX0_missingFor 35 = .ok (.iconst 1, 1) := by decide +kernel
theorem dX0_missingFor_36 : decode cX0_missingFor 36 = .ok (.if_icmp .lt 36, 3) := by decide +kernel
theorem dX0_missingFor_39 : decode cX0_missingFor 39 = .ok (.aload_n 1, 1) := by decide +kernel
theorem dX0_missingFor_40 : decode cX0_missingFor 40 = .ok (.iload_n 3, 1) := by decide +kernel
theorem dX0_missingFor_41 : decode cX0_missingFor 41 = .ok (.aload_n 0, 1) := by decide +kernel
theorem dX0_missingFor_42 : decode cX0_missingFor 42 = .ok (.getfield 9, 3) := by decide +kernel
theorem dX0_missingFor_45 : decode cX0_missingFor 45 = .ok (.iload 4, 2) := by decide +kernel
theorem dX0_missingFor_47 : decode cX0_missingFor 47 = .ok (.iload 5, 2) := by decide +kernel
theorem dX0_missingFor_49 : decode cX0_missingFor 49 = .ok (.invokevirtual 83, 3) := by decide +kernel
theorem dX0_missingFor_52 : decode cX0_missingFor 52 = .ok (.invokestatic 86, 3) := by decide +kernel
theorem dX0_missingFor_55 : decode cX0_missingFor 55 = .ok (.istore 7, 2) := by decide +kernel
theorem dX0_missingFor_57 : decode cX0_missingFor 57 = .ok (.aload_n 0, 1) := by decide +kernel
theorem dX0_missingFor_58 : decode cX0_missingFor 58 = .ok (.getfield 20, 3) := by decide +kernel
theorem dX0_missingFor_61 : decode cX0_missingFor 61 = .ok (.iload 7, 2) := by decide +kernel
theorem dX0_missingFor_63 : decode cX0_missingFor 63 = .ok (.invokevirtual 41, 3) := by decide +kernel
theorem dX0_missingFor_66 : decode cX0_missingFor 66 = .ok (.ifCond .ne 6, 3) := by decide +kernel
theorem dX0_missingFor_69 : decode cX0_missingFor 69 = .ok (.iload 7, 2) := by decide +kernel
theorem dX0_missingFor_71 : decode cX0_missingFor 71 = .ok (.ireturn, 1) := by decide +kernel
theorem dX0_missingFor_72 : decode cX0_missingFor 72 = .ok (.iload 6, 2) := by decide +kernel
theorem dX0_missingFor_74 : decode cX0_missingFor 74 = .ok (.iconst 2, 1) := by decide +kernel
theorem dX0_missingFor_75 : decode cX0_missingFor 75 = .ok (.if_icmp .lt 36, 3) := by decide +kernel
theorem dX0_missingFor_78 : decode cX0_missingFor 78 = .ok (.aload_n 1, 1) := by decide +kernel
theorem dX0_missingFor_79 : decode cX0_missingFor 79 = .ok (.iload_n 3, 1) := by decide +kernel
theorem dX0_missingFor_80 : decode cX0_missingFor 80 = .ok (.aload_n 0, 1) := by decide +kernel
theorem dX0_missingFor_81 : decode cX0_missingFor 81 = .ok (.getfield 9, 3) := by decide +kernel
theorem dX0_missingFor_84 : decode cX0_missingFor 84 = .ok (.iload 4, 2) := by decide +kernel
theorem dX0_missingFor_86 : decode cX0_missingFor 86 = .ok (.iload 5, 2) := by decide +kernel
theorem dX0_missingFor_88 : decode cX0_missingFor 88 = .ok (.invokevirtual 90, 3) := by decide +kernel
theorem dX0_missingFor_91 : decode cX0_missingFor 91 = .ok (.invokestatic 86, 3) := by decide +kernel
theorem dX0_missingFor_94 : decode cX0_missingFor 94 = .ok (.istore 7, 2) := by decide +kernel
theorem dX0_missingFor_96 : decode cX0_missingFor 96 = .ok (.aload_n 0, 1) := by decide +kernel
theorem dX0_missingFor_97 : decode cX0_missingFor 97 = .ok (.getfield 20, 3) := by decide +kernel
theorem dX0_missingFor_100 : decode cX0_missingFor 100 = .ok (.iload 7, 2) := by decide +kernel
theorem dX0_missingFor_102 : decode cX0_missingFor 102 = .ok (.invokevirtual 41, 3) := by decide +kernel
theorem dX0_missingFor_105 : decode cX0_missingFor 105 = .ok (.ifCond .ne 6, 3) := by decide +kernel
theorem dX0_missingFor_108 : decode cX0_missingFor 108 = .ok (.iload 7, 2) := by decide +kernel
theorem dX0_missingFor_110 : decode cX0_missingFor 110 = .ok (.ireturn, 1) := by decide +kernel
theorem dX0_missingFor_111 : decode cX0_missingFor 111 = .ok (.iconst (-1), 1) := by decide +kernel
theorem dX0_missingFor_112 : decode cX0_missingFor 112 = .ok (.ireturn, 1) := by decide +kernel
theorem dX0_workOut_0 : decode cX0_workOut 0 = .ok (.aload_n 1, 1) := by decide +kernel
theorem dX0_workOut_1 : decode cX0_workOut 1 = .ok (.iload_n 2, 1) := by decide +kernel
theorem dX0_workOut_2 : decode cX0_workOut 2 = .ok (.invokestatic 69, 3) := by decide +kernel
theorem dX0_workOut_5 : decode cX0_workOut 5 = .ok (.istore_n 3, 1) := by decide +kernel
theorem dX0_workOut_6 : decode cX0_workOut 6 = .ok (.aload_n 1, 1) := by decide +kernel
theorem dX0_workOut_7 : decode cX0_workOut 7 = .ok (.iload_n 3, 1) := by decide +kernel
theorem dX0_workOut_8 : decode cX0_workOut 8 = .ok (.invokestatic 72, 3) := by decide +kernel
theorem dX0_workOut_11 : decode cX0_workOut 11 = .ok (.istore 4, 2) := by decide +kernel
theorem dX0_workOut_13 : decode cX0_workOut 13 = .ok (.aload_n 1, 1) := by decide +kernel
theorem dX0_workOut_14 : decode cX0_workOut 14 = .ok (.iload_n 2, 1) := by decide +kernel
theorem dX0_workOut_15 : decode cX0_workOut 15 = .ok (.invokestatic 75, 3) := by decide +kernel
theorem dX0_workOut_18 : decode cX0_workOut 18 = .ok (.istore 5, 2) := by decide +kernel
theorem dX0_workOut_20 : decode cX0_workOut 20 = .ok (.aload_n 0, 1) := by decide +kernel
theorem dX0_workOut_21 : decode cX0_workOut 21 = .ok (.getfield 9, 3) := by decide +kernel
theorem dX0_workOut_24 : decode cX0_workOut 24 = .ok (.iload 4, 2) := by decide +kernel
theorem dX0_workOut_26 : decode cX0_workOut 26 = .ok (.iload 5, 2) := by decide +kernel
theorem dX0_workOut_28 : decode cX0_workOut 28 = .ok (.invokevirtual 78, 3) := by decide +kernel
theorem dX0_workOut_31 : decode cX0_workOut 31 = .ok (.istore 6, 2) := by decide +kernel
theorem dX0_workOut_33 : decode cX0_workOut 33 = .ok (.iload 6, 2) := by decide +kernel
theorem dX0_workOut_35 : decode cX0_workOut 35 = .ok (.ifCond .ge 5, 3) := by decide +kernel
theorem dX0_workOut_38 : decode cX0_workOut 38 = .ok (.lconst 0, 1) := by decide +kernel
theorem dX0_workOut_39 : decode cX0_workOut 39 = .ok (.lreturn, 1) := by decide +kernel
theorem dX0_workOut_40 : decode cX0_workOut 40 = .ok (.iload 6, 2) := by decide +kernel
theorem dX0_workOut_42 : decode cX0_workOut 42 = .ok (.ifCond .ne 16, 3) := by decide +kernel
theorem dX0_workOut_45 : decode cX0_workOut 45 = .ok (.aload_n 0, 1) := by decide +kernel
theorem dX0_workOut_46 : decode cX0_workOut 46 = .ok (.getfield 9, 3) := by decide +kernel
theorem dX0_workOut_49 : decode cX0_workOut 49 = .ok (.iload 4, 2) := by decide +kernel
theorem dX0_workOut_51 : decode cX0_workOut 51 = .ok (.iload 5, 2) := by decide +kernel
theorem dX0_workOut_53 : decode cX0_workOut 53 = .ok (.invokevirtual 83, 3) := by decide +kernel
theorem dX0_workOut_56 : decode cX0_workOut 56 = .ok (.i2l, 1) := by decide +kernel
theorem dX0_workOut_57 : decode cX0_workOut 57 = .ok (.lreturn, 1) := by decide +kernel
theorem dX0_workOut_58 : decode cX0_workOut 58 = .ok (.aload_n 1, 1) := by decide +kernel
theorem dX0_workOut_59 : decode cX0_workOut 59 = .ok (.aload_n 1, 1) := by decide +kernel
theorem dX0_workOut_60 : decode cX0_workOut 60 = .ok (.iload_n 3, 1) := by decide +kernel
theorem dX0_workOut_61 : decode cX0_workOut 61 = .ok (.aload_n 0, 1) := by decide +kernel
theorem dX0_workOut_62 : decode cX0_workOut 62 = .ok (.getfield 9, 3) := by decide +kernel
theorem dX0_workOut_65 : decode cX0_workOut 65 = .ok (.iload 4, 2) := by decide +kernel
theorem dX0_workOut_67 : decode cX0_workOut 67 = .ok (.iload 5, 2) := by decide +kernel
theorem dX0_workOut_69 : decode cX0_workOut 69 = .ok (.invokevirtual 83, 3) := by decide +kernel
theorem dX0_workOut_72 : decode cX0_workOut 72 = .ok (.invokestatic 86, 3) := by decide +kernel
theorem dX0_workOut_75 : decode cX0_workOut 75 = .ok (.invokevirtual 93, 3) := by decide +kernel
theorem dX0_workOut_78 : decode cX0_workOut 78 = .ok (.lstore 7, 2) := by decide +kernel
theorem dX0_workOut_80 : decode cX0_workOut 80 = .ok (.aload_n 1, 1) := by decide +kernel
theorem dX0_workOut_81 : decode cX0_workOut 81 = .ok (.aload_n 1, 1) := by decide +kernel
theorem dX0_workOut_82 : decode cX0_workOut 82 = .ok (.iload_n 3, 1) := by decide +kernel
theorem dX0_workOut_83 : decode cX0_workOut 83 = .ok (.aload_n 0, 1) := by decide +kernel
theorem dX0_workOut_84 : decode cX0_workOut 84 = .ok (.getfield 9, 3) := by decide +kernel
theorem dX0_workOut_87 : decode cX0_workOut 87 = .ok (.iload 4, 2) := by decide +kernel
theorem dX0_workOut_89 : decode cX0_workOut 89 = .ok (.iload 5, 2) := by decide +kernel
theorem dX0_workOut_91 : decode cX0_workOut 91 = .ok (.invokevirtual 90, 3) := by decide +kernel
theorem dX0_workOut_94 : decode cX0_workOut 94 = .ok (.invokestatic 86, 3) := by decide +kernel
theorem dX0_workOut_97 : decode cX0_workOut 97 = .ok (.invokevirtual 93, 3) := by decide +kernel
theorem dX0_workOut_100 : decode cX0_workOut 100 = .ok (.lstore 9, 2) := by decide +kernel
theorem dX0_workOut_102 : decode cX0_workOut 102 = .ok (.iload 6, 2) := by decide +kernel
theorem dX0_workOut_104 : decode cX0_workOut 104 = .ok (.lload 7, 2) := by decide +kernel
theorem dX0_workOut_106 : decode cX0_workOut 106 = .ok (.lload 9, 2) := by decide +kernel
theorem dX0_workOut_108 : decode cX0_workOut 108 = .ok (.invokestatic 97, 3) := by decide +kernel
theorem dX0_workOut_111 : decode cX0_workOut 111 = .ok (.lreturn, 1) := by decide +kernel
theorem dX0_operate_0 : decode cX0_operate 0 = .ok (.iload_n 0, 1) := by decide +kernel
theorem dX0_operate_1 : decode cX0_operate 1 = .ok (.tableswitch 71 1 6 #[39, 41, 45, 49, 53, 65], 39) := by decide +kernel
theorem dX0_operate_40 : decode cX0_operate 40 = .ok (.lload_n 1, 1) := by decide +kernel
theorem dX0_operate_41 : decode cX0_operate 41 = .ok (.lreturn, 1) := by decide +kernel
theorem dX0_operate_42 : decode cX0_operate 42 = .ok (.lload_n 1, 1) := by decide +kernel
theorem dX0_operate_43 : decode cX0_operate 43 = .ok (.lload_n 3, 1) := by decide +kernel
theorem dX0_operate_44 : decode cX0_operate 44 = .ok (.ladd, 1) := by decide +kernel
theorem dX0_operate_45 : decode cX0_operate 45 = .ok (.lreturn, 1) := by decide +kernel
theorem dX0_operate_46 : decode cX0_operate 46 = .ok (.lload_n 1, 1) := by decide +kernel
theorem dX0_operate_47 : decode cX0_operate 47 = .ok (.lload_n 3, 1) := by decide +kernel
theorem dX0_operate_48 : decode cX0_operate 48 = .ok (.lsub, 1) := by decide +kernel
theorem dX0_operate_49 : decode cX0_operate 49 = .ok (.lreturn, 1) := by decide +kernel
theorem dX0_operate_50 : decode cX0_operate 50 = .ok (.lload_n 1, 1) := by decide +kernel
theorem dX0_operate_51 : decode cX0_operate 51 = .ok (.lload_n 3, 1) := by decide +kernel
theorem dX0_operate_52 : decode cX0_operate 52 = .ok (.lmul, 1) := by decide +kernel
theorem dX0_operate_53 : decode cX0_operate 53 = .ok (.lreturn, 1) := by decide +kernel
theorem dX0_operate_54 : decode cX0_operate 54 = .ok (.lload_n 1, 1) := by decide +kernel
theorem dX0_operate_55 : decode cX0_operate 55 = .ok (.lload_n 3, 1) := by decide +kernel
theorem dX0_operate_56 : decode cX0_operate 56 = .ok (.lcmp, 1) := by decide +kernel
theorem dX0_operate_57 : decode cX0_operate 57 = .ok (.ifCond .ge 7, 3) := by decide +kernel
theorem dX0_operate_60 : decode cX0_operate 60 = .ok (.lconst 1, 1) := by decide +kernel
theorem dX0_operate_61 : decode cX0_operate 61 = .ok (.goto 4, 3) := by decide +kernel
theorem dX0_operate_64 : decode cX0_operate 64 = .ok (.lconst 0, 1) := by decide +kernel
theorem dX0_operate_65 : decode cX0_operate 65 = .ok (.lreturn, 1) := by decide +kernel
theorem dX0_operate_66 : decode cX0_operate 66 = .ok (.lload_n 1, 1) := by decide +kernel
theorem dX0_operate_67 : decode cX0_operate 67 = .ok (.lload_n 3, 1) := by decide +kernel
theorem dX0_operate_68 : decode cX0_operate 68 = .ok (.invokestatic 101, 3) := by decide +kernel
theorem dX0_operate_71 : decode cX0_operate 71 = .ok (.lreturn, 1) := by decide +kernel
theorem dX0_operate_72 : decode cX0_operate 72 = .ok (.lload_n 3, 1) := by decide +kernel
theorem dX0_operate_73 : decode cX0_operate 73 = .ok (.lconst 0, 1) := by decide +kernel
theorem dX0_operate_74 : decode cX0_operate 74 = .ok (.lcmp, 1) := by decide +kernel
theorem dX0_operate_75 : decode cX0_operate 75 = .ok (.ifCond .eq 7, 3) := by decide +kernel
theorem dX0_operate_78 : decode cX0_operate 78 = .ok (.lload_n 1, 1) := by decide +kernel
theorem dX0_operate_79 : decode cX0_operate 79 = .ok (.goto 4, 3) := by decide +kernel
theorem dX0_operate_82 : decode cX0_operate 82 = .ok (.lconst 0, 1) := by decide +kernel
theorem dX0_operate_83 : decode cX0_operate 83 = .ok (.lreturn, 1) := by decide +kernel
theorem dX1_init_0 : decode cX1_init 0 = .ok (.aload_n 0, 1) := by decide +kernel
theorem dX1_init_1 : decode cX1_init 1 = .ok (.invokespecial 3, 3) := by decide +kernel
theorem dX1_init_4 : decode cX1_init 4 = .ok (.aload_n 0, 1) := by decide +kernel
theorem dX1_init_5 : decode cX1_init 5 = .ok (.new 9, 3) := by decide +kernel
theorem dX1_init_8 : decode cX1_init 8 = .ok (.dup, 1) := by decide +kernel
theorem dX1_init_9 : decode cX1_init 9 = .ok (.bipush 15, 2) := by decide +kernel
theorem dX1_init_11 : decode cX1_init 11 = .ok (.iconst 5, 1) := by decide +kernel
theorem dX1_init_12 : decode cX1_init 12 = .ok (.invokespecial 11, 3) := by decide +kernel
theorem dX1_init_15 : decode cX1_init 15 = .ok (.putfield 14, 3) := by decide +kernel
theorem dX1_init_18 : decode cX1_init 18 = .ok (.aload_n 0, 1) := by decide +kernel
theorem dX1_init_19 : decode cX1_init 19 = .ok (.new 20, 3) := by decide +kernel
theorem dX1_init_22 : decode cX1_init 22 = .ok (.dup, 1) := by decide +kernel
theorem dX1_init_23 : decode cX1_init 23 = .ok (.bipush 7, 2) := by decide +kernel
theorem dX1_init_25 : decode cX1_init 25 = .ok (.invokespecial 22, 3) := by decide +kernel
theorem dX1_init_28 : decode cX1_init 28 = .ok (.putfield 25, 3) := by decide +kernel
theorem dX1_init_31 : decode cX1_init 31 = .ok (.aload_n 0, 1) := by decide +kernel
theorem dX1_init_32 : decode cX1_init 32 = .ok (.new 20, 3) := by decide +kernel
theorem dX1_init_35 : decode cX1_init 35 = .ok (.dup, 1) := by decide +kernel
theorem dX1_init_36 : decode cX1_init 36 = .ok (.bipush 7, 2) := by decide +kernel
theorem dX1_init_38 : decode cX1_init 38 = .ok (.invokespecial 22, 3) := by decide +kernel
theorem dX1_init_41 : decode cX1_init 41 = .ok (.putfield 29, 3) := by decide +kernel
theorem dX1_init_44 : decode cX1_init 44 = .ok (.aload_n 0, 1) := by decide +kernel
theorem dX1_init_45 : decode cX1_init 45 = .ok (.new 20, 3) := by decide +kernel
theorem dX1_init_48 : decode cX1_init 48 = .ok (.dup, 1) := by decide +kernel
theorem dX1_init_49 : decode cX1_init 49 = .ok (.bipush 14, 2) := by decide +kernel
theorem dX1_init_51 : decode cX1_init 51 = .ok (.invokespecial 22, 3) := by decide +kernel
theorem dX1_init_54 : decode cX1_init 54 = .ok (.putfield 32, 3) := by decide +kernel
theorem dX1_init_57 : decode cX1_init 57 = .ok (.aload_n 0, 1) := by decide +kernel
theorem dX1_init_58 : decode cX1_init 58 = .ok (.new 9, 3) := by decide +kernel
theorem dX1_init_61 : decode cX1_init 61 = .ok (.dup, 1) := by decide +kernel
theorem dX1_init_62 : decode cX1_init 62 = .ok (.bipush 14, 2) := by decide +kernel
theorem dX1_init_64 : decode cX1_init 64 = .ok (.bipush 15, 2) := by decide +kernel
theorem dX1_init_66 : decode cX1_init 66 = .ok (.invokespecial 11, 3) := by decide +kernel
theorem dX1_init_69 : decode cX1_init 69 = .ok (.putfield 35, 3) := by decide +kernel
theorem dX1_init_72 : decode cX1_init 72 = .ok (.aload_n 0, 1) := by decide +kernel
theorem dX1_init_73 : decode cX1_init 73 = .ok (.new 9, 3) := by decide +kernel
theorem dX1_init_76 : decode cX1_init 76 = .ok (.dup, 1) := by decide +kernel
theorem dX1_init_77 : decode cX1_init 77 = .ok (.bipush 14, 2) := by decide +kernel
theorem dX1_init_79 : decode cX1_init 79 = .ok (.bipush 15, 2) := by decide +kernel
theorem dX1_init_81 : decode cX1_init 81 = .ok (.invokespecial 11, 3) := by decide +kernel
theorem dX1_init_84 : decode cX1_init 84 = .ok (.putfield 38, 3) := by decide +kernel
theorem dX1_init_87 : decode cX1_init 87 = .ok (.aload_n 0, 1) := by decide +kernel
theorem dX1_init_88 : decode cX1_init 88 = .ok (.new 9, 3) := by decide +kernel
theorem dX1_init_91 : decode cX1_init 91 = .ok (.dup, 1) := by decide +kernel
theorem dX1_init_92 : decode cX1_init 92 = .ok (.bipush 14, 2) := by decide +kernel
theorem dX1_init_94 : decode cX1_init 94 = .ok (.bipush 15, 2) := by decide +kernel
theorem dX1_init_96 : decode cX1_init 96 = .ok (.invokespecial 11, 3) := by decide +kernel
theorem dX1_init_99 : decode cX1_init 99 = .ok (.putfield 41, 3) := by decide +kernel
theorem dX1_init_102 : decode cX1_init 102 = .ok (.aload_n 0, 1) := by decide +kernel
theorem dX1_init_103 : decode cX1_init 103 = .ok (.iconst 0, 1) := by decide +kernel
theorem dX1_init_104 : decode cX1_init 104 = .ok (.putfield 44, 3) := by decide +kernel
theorem dX1_init_107 : decode cX1_init 107 = .ok (.aload_n 0, 1) := by decide +kernel
theorem dX1_init_108 : decode cX1_init 108 = .ok (.iconst 0, 1) := by decide +kernel
theorem dX1_init_109 : decode cX1_init 109 = .ok (.putfield 48, 3) := by decide +kernel
theorem dX1_init_112 : decode cX1_init 112 = .ok (.return_, 1) := by decide +kernel
theorem dX1_size_0 : decode cX1_size 0 = .ok (.aload_n 0, 1) := by decide +kernel
theorem dX1_size_1 : decode cX1_size 1 = .ok (.getfield 44, 3) := by decide +kernel
theorem dX1_size_4 : decode cX1_size 4 = .ok (.ireturn, 1) := by decide +kernel
theorem dX1_equations_0 : decode cX1_equations 0 = .ok (.aload_n 0, 1) := by decide +kernel
theorem dX1_equations_1 : decode cX1_equations 1 = .ok (.getfield 48, 3) := by decide +kernel
theorem dX1_equations_4 : decode cX1_equations 4 = .ok (.ireturn, 1) := by decide +kernel
theorem dX1_addRule_0 : decode cX1_addRule 0 = .ok (.aload_n 0, 1) := by decide +kernel
theorem dX1_addRule_1 : decode cX1_addRule 1 = .ok (.getfield 44, 3) := by decide +kernel
theorem dX1_addRule_4 : decode cX1_addRule 4 = .ok (.istore 6, 2) := by decide +kernel
theorem dX1_addRule_6 : decode cX1_addRule 6 = .ok (.aload_n 0, 1) := by decide +kernel
theorem dX1_addRule_7 : decode cX1_addRule 7 = .ok (.getfield 14, 3) := by decide +kernel
theorem dX1_addRule_10 : decode cX1_addRule 10 = .ok (.iload 6, 2) := by decide +kernel
theorem dX1_addRule_12 : decode cX1_addRule 12 = .ok (.iconst 0, 1) := by decide +kernel
theorem dX1_addRule_13 : decode cX1_addRule 13 = .ok (.iload_n 1, 1) := by decide +kernel
theorem dX1_addRule_14 : decode cX1_addRule 14 = .ok (.invokevirtual 55, 3) := by decide +kernel
theorem dX1_addRule_17 : decode cX1_addRule 17 = .ok (.aload_n 0, 1) := by decide +kernel
theorem dX1_addRule_18 : decode cX1_addRule 18 = .ok (.getfield 14, 3) := by decide +kernel
theorem dX1_addRule_21 : decode cX1_addRule 21 = .ok (.iload 6, 2) := by decide +kernel
theorem dX1_addRule_23 : decode cX1_addRule 23 = .ok (.iconst 1, 1) := by decide +kernel
theorem dX1_addRule_24 : decode cX1_addRule 24 = .ok (.iload_n 2, 1) := by decide +kernel
theorem dX1_addRule_25 : decode cX1_addRule 25 = .ok (.invokevirtual 55, 3) := by decide +kernel
theorem dX1_addRule_28 : decode cX1_addRule 28 = .ok (.aload_n 0, 1) := by decide +kernel
theorem dX1_addRule_29 : decode cX1_addRule 29 = .ok (.getfield 14, 3) := by decide +kernel
theorem dX1_addRule_32 : decode cX1_addRule 32 = .ok (.iload 6, 2) := by decide +kernel
theorem dX1_addRule_34 : decode cX1_addRule 34 = .ok (.iconst 2, 1) := by decide +kernel
theorem dX1_addRule_35 : decode cX1_addRule 35 = .ok (.iload_n 3, 1) := by decide +kernel
theorem dX1_addRule_36 : decode cX1_addRule 36 = .ok (.invokevirtual 55, 3) := by decide +kernel
theorem dX1_addRule_39 : decode cX1_addRule 39 = .ok (.aload_n 0, 1) := by decide +kernel
theorem dX1_addRule_40 : decode cX1_addRule 40 = .ok (.getfield 14, 3) := by decide +kernel
theorem dX1_addRule_43 : decode cX1_addRule 43 = .ok (.iload 6, 2) := by decide +kernel
theorem dX1_addRule_45 : decode cX1_addRule 45 = .ok (.iconst 3, 1) := by decide +kernel
theorem dX1_addRule_46 : decode cX1_addRule 46 = .ok (.iload 4, 2) := by decide +kernel
theorem dX1_addRule_48 : decode cX1_addRule 48 = .ok (.invokevirtual 55, 3) := by decide +kernel
theorem dX1_addRule_51 : decode cX1_addRule 51 = .ok (.aload_n 0, 1) := by decide +kernel
theorem dX1_addRule_52 : decode cX1_addRule 52 = .ok (.getfield 14, 3) := by decide +kernel
theorem dX1_addRule_55 : decode cX1_addRule 55 = .ok (.iload 6, 2) := by decide +kernel
theorem dX1_addRule_57 : decode cX1_addRule 57 = .ok (.iconst 4, 1) := by decide +kernel
theorem dX1_addRule_58 : decode cX1_addRule 58 = .ok (.iload 5, 2) := by decide +kernel
theorem dX1_addRule_60 : decode cX1_addRule 60 = .ok (.invokevirtual 55, 3) := by decide +kernel
theorem dX1_addRule_63 : decode cX1_addRule 63 = .ok (.iload 6, 2) := by decide +kernel
theorem dX1_addRule_65 : decode cX1_addRule 65 = .ok (.ifCond .ne 14, 3) := by decide +kernel
theorem dX1_addRule_68 : decode cX1_addRule 68 = .ok (.aload_n 0, 1) := by decide +kernel
theorem dX1_addRule_69 : decode cX1_addRule 69 = .ok (.getfield 14, 3) := by decide +kernel
theorem dX1_addRule_72 : decode cX1_addRule 72 = .ok (.bipush 14, 2) := by decide +kernel
theorem dX1_addRule_74 : decode cX1_addRule 74 = .ok (.iconst 1, 1) := by decide +kernel
theorem dX1_addRule_75 : decode cX1_addRule 75 = .ok (.iload_n 1, 1) := by decide +kernel
theorem dX1_addRule_76 : decode cX1_addRule 76 = .ok (.invokevirtual 55, 3) := by decide +kernel
theorem dX1_addRule_79 : decode cX1_addRule 79 = .ok (.aload_n 0, 1) := by decide +kernel
theorem dX1_addRule_80 : decode cX1_addRule 80 = .ok (.dup, 1) := by decide +kernel
theorem dX1_addRule_81 : decode cX1_addRule 81 = .ok (.getfield 44, 3) := by decide +kernel
theorem dX1_addRule_84 : decode cX1_addRule 84 = .ok (.iconst 1, 1) := by decide +kernel
theorem dX1_addRule_85 : decode cX1_addRule 85 = .ok (.iadd, 1) := by decide +kernel
theorem dX1_addRule_86 : decode cX1_addRule 86 = .ok (.putfield 44, 3) := by decide +kernel
theorem dX1_addRule_89 : decode cX1_addRule 89 = .ok (.aload_n 0, 1) := by decide +kernel
theorem dX1_addRule_90 : decode cX1_addRule 90 = .ok (.invokevirtual 59, 3) := by decide +kernel
theorem dX1_addRule_93 : decode cX1_addRule 93 = .ok (.iload 6, 2) := by decide +kernel
theorem dX1_addRule_95 : decode cX1_addRule 95 = .ok (.ireturn, 1) := by decide +kernel
theorem dX1_leftOf_0 : decode cX1_leftOf 0 = .ok (.aload_n 0, 1) := by decide +kernel
theorem dX1_leftOf_1 : decode cX1_leftOf 1 = .ok (.getfield 14, 3) := by decide +kernel
theorem dX1_leftOf_4 : decode cX1_leftOf 4 = .ok (.iload_n 1, 1) := by decide +kernel
theorem dX1_leftOf_5 : decode cX1_leftOf 5 = .ok (.iconst 0, 1) := by decide +kernel
theorem dX1_leftOf_6 : decode cX1_leftOf 6 = .ok (.invokevirtual 62, 3) := by decide +kernel
theorem dX1_leftOf_9 : decode cX1_leftOf 9 = .ok (.ireturn, 1) := by decide +kernel
theorem dX1_symbolAt_0 : decode cX1_symbolAt 0 = .ok (.aload_n 0, 1) := by decide +kernel
theorem dX1_symbolAt_1 : decode cX1_symbolAt 1 = .ok (.getfield 14, 3) := by decide +kernel
theorem dX1_symbolAt_4 : decode cX1_symbolAt 4 = .ok (.iload_n 1, 1) := by decide +kernel
theorem dX1_symbolAt_5 : decode cX1_symbolAt 5 = .ok (.iload_n 2, 1) := by decide +kernel
theorem dX1_symbolAt_6 : decode cX1_symbolAt 6 = .ok (.invokevirtual 62, 3) := by decide +kernel
theorem dX1_symbolAt_9 : decode cX1_symbolAt 9 = .ok (.ireturn, 1) := by decide +kernel
theorem dX1_lengthOf_0 : decode cX1_lengthOf 0 = .ok (.iconst 0, 1) := by decide +kernel
theorem dX1_lengthOf_1 : decode cX1_lengthOf 1 = .ok (.istore_n 2, 1) := by decide +kernel
theorem dX1_lengthOf_2 : decode cX1_lengthOf 2 = .ok (.iload_n 2, 1) := by decide +kernel
theorem dX1_lengthOf_3 : decode cX1_lengthOf 3 = .ok (.iconst 4, 1) := by decide +kernel
theorem dX1_lengthOf_4 : decode cX1_lengthOf 4 = .ok (.if_icmp .ge 23, 3) := by decide +kernel
theorem dX1_lengthOf_7 : decode cX1_lengthOf 7 = .ok (.aload_n 0, 1) := by decide +kernel
theorem dX1_lengthOf_8 : decode cX1_lengthOf 8 = .ok (.getfield 14, 3) := by decide +kernel
theorem dX1_lengthOf_11 : decode cX1_lengthOf 11 = .ok (.iload_n 1, 1) := by decide +kernel
theorem dX1_lengthOf_12 : decode cX1_lengthOf 12 = .ok (.iload_n 2, 1) := by decide +kernel
theorem dX1_lengthOf_13 : decode cX1_lengthOf 13 = .ok (.iconst 1, 1) := by decide +kernel
theorem dX1_lengthOf_14 : decode cX1_lengthOf 14 = .ok (.iadd, 1) := by decide +kernel
theorem dX1_lengthOf_15 : decode cX1_lengthOf 15 = .ok (.invokevirtual 62, 3) := by decide +kernel
theorem dX1_lengthOf_18 : decode cX1_lengthOf 18 = .ok (.ifCond .eq 9, 3) := by decide +kernel
theorem dX1_lengthOf_21 : decode cX1_lengthOf 21 = .ok (.iinc 2 1, 3) := by decide +kernel
theorem dX1_lengthOf_24 : decode cX1_lengthOf 24 = .ok (.goto (-22), 3) := by decide +kernel
theorem dX1_lengthOf_27 : decode cX1_lengthOf 27 = .ok (.iload_n 2, 1) := by decide +kernel
theorem dX1_lengthOf_28 : decode cX1_lengthOf 28 = .ok (.ireturn, 1) := by decide +kernel
theorem dX1_levelOf_0 : decode cX1_levelOf 0 = .ok (.aload_n 0, 1) := by decide +kernel
theorem dX1_levelOf_1 : decode cX1_levelOf 1 = .ok (.getfield 25, 3) := by decide +kernel
theorem dX1_levelOf_4 : decode cX1_levelOf 4 = .ok (.iload_n 1, 1) := by decide +kernel
theorem dX1_levelOf_5 : decode cX1_levelOf 5 = .ok (.invokevirtual 66, 3) := by decide +kernel
theorem dX1_levelOf_8 : decode cX1_levelOf 8 = .ok (.ireturn, 1) := by decide +kernel
theorem dX1_kindOf_0 : decode cX1_kindOf 0 = .ok (.aload_n 0, 1) := by decide +kernel
theorem dX1_kindOf_1 : decode cX1_kindOf 1 = .ok (.getfield 29, 3) := by decide +kernel
theorem dX1_kindOf_4 : decode cX1_kindOf 4 = .ok (.iload_n 1, 1) := by decide +kernel
theorem dX1_kindOf_5 : decode cX1_kindOf 5 = .ok (.invokevirtual 66, 3) := by decide +kernel
theorem dX1_kindOf_8 : decode cX1_kindOf 8 = .ok (.ireturn, 1) := by decide +kernel
theorem dX1_levelOfRule_0 : decode cX1_levelOfRule 0 = .ok (.iconst 0, 1) := by decide +kernel
theorem dX1_levelOfRule_1 : decode cX1_levelOfRule 1 = .ok (.istore_n 2, 1) := by decide +kernel
theorem dX1_levelOfRule_2 : decode cX1_levelOfRule 2 = .ok (.iconst 1, 1) := by decide +kernel
theorem dX1_levelOfRule_3 : decode cX1_levelOfRule 3 = .ok (.istore_n 3, 1) := by decide +kernel
theorem dX1_levelOfRule_4 : decode cX1_levelOfRule 4 = .ok (.iload_n 3, 1) := by decide +kernel
theorem dX1_levelOfRule_5 : decode cX1_levelOfRule 5 = .ok (.iconst 4, 1) := by decide +kernel
theorem dX1_levelOfRule_6 : decode cX1_levelOfRule 6 = .ok (.if_icmp .gt 32, 3) := by decide +kernel
theorem dX1_levelOfRule_9 : decode cX1_levelOfRule 9 = .ok (.aload_n 0, 1) := by decide +kernel
theorem dX1_levelOfRule_10 : decode cX1_levelOfRule 10 = .ok (.iload_n 1, 1) := by decide +kernel
theorem dX1_levelOfRule_11 : decode cX1_levelOfRule 11 = .ok (.iload_n 3, 1) := by decide +kernel
theorem dX1_levelOfRule_12 : decode cX1_levelOfRule 12 = .ok (.invokevirtual 71, 3) := by decide +kernel
theorem dX1_levelOfRule_15 : decode cX1_levelOfRule 15 = .ok (.invokestatic 74, 3) := by decide +kernel
theorem dX1_levelOfRule_18 : decode cX1_levelOfRule 18 = .ok (.ifCond .eq 14, 3) := by decide +kernel
theorem dX1_levelOfRule_21 : decode cX1_levelOfRule 21 = .ok (.aload_n 0, 1) := by decide +kernel
theorem dX1_levelOfRule_22 : decode cX1_levelOfRule 22 = .ok (.aload_n 0, 1) := by decide +kernel
theorem dX1_levelOfRule_23 : decode cX1_levelOfRule 23 = .ok (.iload_n 1, 1) := by decide +kernel
theorem dX1_levelOfRule_24 : decode cX1_levelOfRule 24 = .ok (.iload_n 3, 1) := by decide +kernel
theorem dX1_levelOfRule_25 : decode cX1_levelOfRule 25 = .ok (.invokevirtual 71, 3) := by decide +kernel
theorem dX1_levelOfRule_28 : decode cX1_levelOfRule 28 = .ok (.invokevirtual 78, 3) := by decide +kernel
theorem dX1_levelOfRule_31 : decode cX1_levelOfRule 31 = .ok (.istore_n 2, 1) := by decide +kernel
theorem dX1_levelOfRule_32 : decode cX1_levelOfRule 32 = .ok (.iinc 3 1, 3) := by decide +kernel
theorem dX1_levelOfRule_35 : decode cX1_levelOfRule 35 = .ok (.goto (-31), 3) := by decide +kernel
theorem dX1_levelOfRule_38 : decode cX1_levelOfRule 38 = .ok (.iload_n 2, 1) := by decide +kernel
theorem dX1_levelOfRule_39 : decode cX1_levelOfRule 39 = .ok (.ireturn, 1) := by decide +kernel
theorem dX1_firstOf_0 : decode cX1_firstOf 0 = .ok (.iload_n 1, 1) := by decide +kernel
theorem dX1_firstOf_1 : decode cX1_firstOf 1 = .ok (.invokestatic 74, 3) := by decide +kernel
theorem dX1_firstOf_4 : decode cX1_firstOf 4 = .ok (.ifCond .eq 9, 3) := by decide +kernel
theorem dX1_firstOf_7 : decode cX1_firstOf 7 = .ok (.iconst 1, 1) := by decide +kernel
theorem dX1_firstOf_8 : decode cX1_firstOf 8 = .ok (.iload_n 1, 1) := by decide +kernel
theorem dX1_firstOf_9 : decode cX1_firstOf 9 = .ok (.ishl, 1) := by decide +kernel
theorem dX1_firstOf_10 : decode cX1_firstOf 10 = .ok (.goto 11, 3) := by decide +kernel
theorem dX1_firstOf_13 : decode cX1_firstOf 13 = .ok (.aload_n 0, 1) := by decide +kernel
theorem dX1_firstOf_14 : decode cX1_firstOf 14 = .ok (.getfield 32, 3) := by decide +kernel
theorem dX1_firstOf_17 : decode cX1_firstOf 17 = .ok (.iload_n 1, 1) := by decide +kernel
theorem dX1_firstOf_18 : decode cX1_firstOf 18 = .ok (.invokevirtual 66, 3) := by decide +kernel
theorem dX1_firstOf_21 : decode cX1_firstOf 21 = .ok (.ireturn, 1) := by decide +kernel
theorem dX1_firstFrom_0 : decode cX1_firstFrom 0 = .ok (.iconst 1, 1) := by decide +kernel
theorem dX1_firstFrom_1 : decode cX1_firstFrom 1 = .ok (.istore_n 3, 1) := by decide +kernel
theorem dX1_firstFrom_2 : decode cX1_firstFrom 2 = .ok (.iload_n 2, 1) := by decide +kernel
theorem dX1_firstFrom_3 : decode cX1_firstFrom 3 = .ok (.istore 4, 2) := by decide +kernel
theorem dX1_firstFrom_5 : decode cX1_firstFrom 5 = .ok (.iload 4, 2) := by decide +kernel
theorem dX1_firstFrom_7 : decode cX1_firstFrom 7 = .ok (.iconst 4, 1) := by decide +kernel
theorem dX1_firstFrom_8 : decode cX1_firstFrom 8 = .ok (.if_icmp .gt 41, 3) := by decide +kernel
theorem dX1_firstFrom_11 : decode cX1_firstFrom 11 = .ok (.iload_n 3, 1) := by decide +kernel
theorem dX1_firstFrom_12 : decode cX1_firstFrom 12 = .ok (.iconst 1, 1) := by decide +kernel
theorem dX1_firstFrom_13 : decode cX1_firstFrom 13 = .ok (.iand, 1) := by decide +kernel
theorem dX1_firstFrom_14 : decode cX1_firstFrom 14 = .ok (.ifCond .eq 35, 3) := by decide +kernel
theorem dX1_firstFrom_17 : decode cX1_firstFrom 17 = .ok (.aload_n 0, 1) := by decide +kernel
theorem dX1_firstFrom_18 : decode cX1_firstFrom 18 = .ok (.iload_n 1, 1) := by decide +kernel
theorem dX1_firstFrom_19 : decode cX1_firstFrom 19 = .ok (.iload 4, 2) := by decide +kernel
theorem dX1_firstFrom_21 : decode cX1_firstFrom 21 = .ok (.invokevirtual 71, 3) := by decide +kernel
theorem dX1_firstFrom_24 : decode cX1_firstFrom 24 = .ok (.istore 5, 2) := by decide +kernel
theorem dX1_firstFrom_26 : decode cX1_firstFrom 26 = .ok (.iload 5, 2) := by decide +kernel
theorem dX1_firstFrom_28 : decode cX1_firstFrom 28 = .ok (.ifCond .eq 15, 3) := by decide +kernel
theorem dX1_firstFrom_31 : decode cX1_firstFrom 31 = .ok (.iload_n 3, 1) := by decide +kernel
theorem dX1_firstFrom_32 : decode cX1_firstFrom 32 = .ok (.bipush (-2), 2) := by decide +kernel
theorem dX1_firstFrom_34 : decode cX1_firstFrom 34 = .ok (.iand, 1) := by decide +kernel
theorem dX1_firstFrom_35 : decode cX1_firstFrom 35 = .ok (.aload_n 0, 1) := by decide +kernel
theorem dX1_firstFrom_36 : decode cX1_firstFrom 36 = .ok (.iload 5, 2) := by decide +kernel
theorem dX1_firstFrom_38 : decode cX1_firstFrom 38 = .ok (.invokevirtual 81, 3) := by decide +kernel
theorem dX1_firstFrom_41 : decode cX1_firstFrom 41 = .ok (.ior, 1) := by decide +kernel
theorem dX1_firstFrom_42 : decode cX1_firstFrom 42 = .ok (.istore_n 3, 1) := by decide +kernel
theorem dX1_firstFrom_43 : decode cX1_firstFrom 43 = .ok (.iinc 4 1, 3) := by decide +kernel
theorem dX1_firstFrom_46 : decode cX1_firstFrom 46 = .ok (.goto (-41), 3) := by decide +kernel
theorem dX1_firstFrom_49 : decode cX1_firstFrom 49 = .ok (.iload_n 3, 1) := by decide +kernel
theorem dX1_firstFrom_50 : decode cX1_firstFrom 50 = .ok (.ireturn, 1) := by decide +kernel
theorem dX1_updateFirsts_0 : decode cX1_updateFirsts 0 = .ok (.iconst 1, 1) := by decide +kernel
theorem dX1_updateFirsts_1 : decode cX1_updateFirsts 1 = .ok (.istore_n 1, 1) := by decide +kernel
theorem dX1_updateFirsts_2 : decode cX1_updateFirsts 2 = .ok (.iconst 0, 1) := by decide +kernel
theorem dX1_updateFirsts_3 : decode cX1_updateFirsts 3 = .ok (.istore_n 2, 1) := by decide +kernel
theorem dX1_updateFirsts_4 : decode cX1_updateFirsts 4 = .ok (.iload_n 2, 1) := by decide +kernel
theorem dX1_updateFirsts_5 : decode cX1_updateFirsts 5 = .ok (.ldc 84, 2) := by decide +kernel
theorem dX1_updateFirsts_7 : decode cX1_updateFirsts 7 = .ok (.if_icmp .ge 83, 3) := by decide +kernel
theorem dX1_updateFirsts_10 : decode cX1_updateFirsts 10 = .ok (.iload_n 1, 1) := by decide +kernel
theorem dX1_updateFirsts_11 : decode cX1_updateFirsts 11 = .ok (.ifCond .eq 79, 3) := by decide +kernel
theorem dX1_updateFirsts_14 : decode cX1_updateFirsts 14 = .ok (.iconst 0, 1) := by decide +kernel
theorem dX1_updateFirsts_15 : decode cX1_updateFirsts 15 = .ok (.istore_n 1, 1) := by decide +kernel
theorem dX1_updateFirsts_16 : decode cX1_updateFirsts 16 = .ok (.iconst 0, 1) := by decide +kernel
theorem dX1_updateFirsts_17 : decode cX1_updateFirsts 17 = .ok (.istore_n 3, 1) := by decide +kernel
theorem dX1_updateFirsts_18 : decode cX1_updateFirsts 18 = .ok (.iload_n 3, 1) := by decide +kernel
theorem dX1_updateFirsts_19 : decode cX1_updateFirsts 19 = .ok (.aload_n 0, 1) := by decide +kernel
theorem dX1_updateFirsts_20 : decode cX1_updateFirsts 20 = .ok (.getfield 44, 3) := by decide +kernel
theorem dX1_updateFirsts_23 : decode cX1_updateFirsts 23 = .ok (.if_icmp .ge 61, 3) := by decide +kernel
theorem dX1_updateFirsts_26 : decode cX1_updateFirsts 26 = .ok (.aload_n 0, 1) := by decide +kernel
theorem dX1_updateFirsts_27 : decode cX1_updateFirsts 27 = .ok (.iload_n 3, 1) := by decide +kernel
theorem dX1_updateFirsts_28 : decode cX1_updateFirsts 28 = .ok (.invokevirtual 85, 3) := by decide +kernel
theorem dX1_updateFirsts_31 : decode cX1_updateFirsts 31 = .ok (.istore 4, 2) := by decide +kernel
theorem dX1_updateFirsts_33 : decode cX1_updateFirsts 33 = .ok (.aload_n 0, 1) := by decide +kernel
theorem dX1_updateFirsts_34 : decode cX1_updateFirsts 34 = .ok (.getfield 32, 3) := by decide +kernel
theorem dX1_updateFirsts_37 : decode cX1_updateFirsts 37 = .ok (.iload 4, 2) := by decide +kernel
theorem dX1_updateFirsts_39 : decode cX1_updateFirsts 39 = .ok (.invokevirtual 66, 3) := by decide +kernel
theorem dX1_updateFirsts_42 : decode cX1_updateFirsts 42 = .ok (.aload_n 0, 1) := by decide +kernel
theorem dX1_updateFirsts_43 : decode cX1_updateFirsts 43 = .ok (.iload_n 3, 1) := by decide +kernel
theorem dX1_updateFirsts_44 : decode cX1_updateFirsts 44 = .ok (.iconst 1, 1) := by decide +kernel
theorem dX1_updateFirsts_45 : decode cX1_updateFirsts 45 = .ok (.invokevirtual 88, 3) := by decide +kernel
theorem dX1_updateFirsts_48 : decode cX1_updateFirsts 48 = .ok (.ior, 1) := by decide +kernel
theorem dX1_updateFirsts_49 : decode cX1_updateFirsts 49 = .ok (.istore 5, 2) := by decide +kernel
theorem dX1_updateFirsts_51 : decode cX1_updateFirsts 51 = .ok (.iload 5, 2) := by decide +kernel
theorem dX1_updateFirsts_53 : decode cX1_updateFirsts 53 = .ok (.aload_n 0, 1) := by decide +kernel
theorem dX1_updateFirsts_54 : decode cX1_updateFirsts 54 = .ok (.getfield 32, 3) := by decide +kernel
theorem dX1_updateFirsts_57 : decode cX1_updateFirsts 57 = .ok (.iload 4, 2) := by decide +kernel
theorem dX1_updateFirsts_59 : decode cX1_updateFirsts 59 = .ok (.invokevirtual 66, 3) := by decide +kernel
theorem dX1_updateFirsts_62 : decode cX1_updateFirsts 62 = .ok (.if_icmp .eq 16, 3) := by decide +kernel
theorem dX1_updateFirsts_65 : decode cX1_updateFirsts 65 = .ok (.aload_n 0, 1) := by decide +kernel
theorem dX1_updateFirsts_66 : decode cX1_updateFirsts 66 = .ok (.getfield 32, 3) := by decide +kernel
theorem dX1_updateFirsts_69 : decode cX1_updateFirsts 69 = .ok (.iload 4, 2) := by decide +kernel
theorem dX1_updateFirsts_71 : decode cX1_updateFirsts 71 = .ok (.iload 5, 2) := by decide +kernel
theorem dX1_updateFirsts_73 : decode cX1_updateFirsts 73 = .ok (.invokevirtual 69, 3) := by decide +kernel
theorem dX1_updateFirsts_76 : decode cX1_updateFirsts 76 = .ok (.iconst 1, 1) := by decide +kernel
theorem dX1_updateFirsts_77 : decode cX1_updateFirsts 77 = .ok (.istore_n 1, 1) := by decide +kernel
theorem dX1_updateFirsts_78 : decode cX1_updateFirsts 78 = .ok (.iinc 3 1, 3) := by decide +kernel
theorem dX1_updateFirsts_81 : decode cX1_updateFirsts 81 = .ok (.goto (-63), 3) := by decide +kernel
theorem dX1_updateFirsts_84 : decode cX1_updateFirsts 84 = .ok (.iinc 2 1, 3) := by decide +kernel
theorem dX1_updateFirsts_87 : decode cX1_updateFirsts 87 = .ok (.goto (-83), 3) := by decide +kernel
theorem dX1_updateFirsts_90 : decode cX1_updateFirsts 90 = .ok (.return_, 1) := by decide +kernel
theorem dX1_operationAt_0 : decode cX1_operationAt 0 = .ok (.aload_n 0, 1) := by decide +kernel
theorem dX1_operationAt_1 : decode cX1_operationAt 1 = .ok (.getfield 35, 3) := by decide +kernel
theorem dX1_operationAt_4 : decode cX1_operationAt 4 = .ok (.iload_n 1, 1) := by decide +kernel
theorem dX1_operationAt_5 : decode cX1_operationAt 5 = .ok (.iload_n 2, 1) := by decide +kernel
theorem dX1_operationAt_6 : decode cX1_operationAt 6 = .ok (.invokevirtual 62, 3) := by decide +kernel
theorem dX1_operationAt_9 : decode cX1_operationAt 9 = .ok (.iconst 1, 1) := by decide +kernel
theorem dX1_operationAt_10 : decode cX1_operationAt 10 = .ok (.isub, 1) := by decide +kernel
theorem dX1_operationAt_11 : decode cX1_operationAt 11 = .ok (.ireturn, 1) := by decide +kernel
theorem dX1_xAt_0 : decode cX1_xAt 0 = .ok (.aload_n 0, 1) := by decide +kernel
theorem dX1_xAt_1 : decode cX1_xAt 1 = .ok (.getfield 38, 3) := by decide +kernel
theorem dX1_xAt_4 : decode cX1_xAt 4 = .ok (.iload_n 1, 1) := by decide +kernel
theorem dX1_xAt_5 : decode cX1_xAt 5 = .ok (.iload_n 2, 1) := by decide +kernel
theorem dX1_xAt_6 : decode cX1_xAt 6 = .ok (.invokevirtual 62, 3) := by decide +kernel
theorem dX1_xAt_9 : decode cX1_xAt 9 = .ok (.ireturn, 1) := by decide +kernel
theorem dX1_yAt_0 : decode cX1_yAt 0 = .ok (.aload_n 0, 1) := by decide +kernel
theorem dX1_yAt_1 : decode cX1_yAt 1 = .ok (.getfield 41, 3) := by decide +kernel
theorem dX1_yAt_4 : decode cX1_yAt 4 = .ok (.iload_n 1, 1) := by decide +kernel
theorem dX1_yAt_5 : decode cX1_yAt 5 = .ok (.iload_n 2, 1) := by decide +kernel
theorem dX1_yAt_6 : decode cX1_yAt 6 = .ok (.invokevirtual 62, 3) := by decide +kernel
theorem dX1_yAt_9 : decode cX1_yAt 9 = .ok (.ireturn, 1) := by decide +kernel
theorem dX2_init_0 : decode cX2_init 0 = .ok (.aload_n 0, 1) := by decide +kernel
theorem dX2_init_1 : decode cX2_init 1 = .ok (.invokespecial 1, 3) := by decide +kernel
theorem dX2_init_4 : decode cX2_init 4 = .ok (.aload_n 0, 1) := by decide +kernel
theorem dX2_init_5 : decode cX2_init 5 = .ok (.iload_n 1, 1) := by decide +kernel
theorem dX2_init_6 : decode cX2_init 6 = .ok (.putfield 7, 3) := by decide +kernel
theorem dX2_init_9 : decode cX2_init 9 = .ok (.aload_n 0, 1) := by decide +kernel
theorem dX2_init_10 : decode cX2_init 10 = .ok (.iload_n 2, 1) := by decide +kernel
theorem dX2_init_11 : decode cX2_init 11 = .ok (.putfield 13, 3) := by decide +kernel
theorem dX2_init_14 : decode cX2_init 14 = .ok (.aload_n 0, 1) := by decide +kernel
theorem dX2_init_15 : decode cX2_init 15 = .ok (.iconst 0, 1) := by decide +kernel
theorem dX2_init_16 : decode cX2_init 16 = .ok (.iload_n 1, 1) := by decide +kernel
theorem dX2_init_17 : decode cX2_init 17 = .ok (.iload_n 2, 1) := by decide +kernel
theorem dX2_init_18 : decode cX2_init 18 = .ok (.imul, 1) := by decide +kernel
theorem dX2_init_19 : decode cX2_init 19 = .ok (.invokestatic 16, 3) := by decide +kernel
theorem dX2_init_22 : decode cX2_init 22 = .ok (.newarray .int, 2) := by decide +kernel
theorem dX2_init_24 : decode cX2_init 24 = .ok (.putfield 22, 3) := by decide +kernel
theorem dX2_init_27 : decode cX2_init 27 = .ok (.return_, 1) := by decide +kernel
theorem dX2_get_0 : decode cX2_get 0 = .ok (.aload_n 0, 1) := by decide +kernel
theorem dX2_get_1 : decode cX2_get 1 = .ok (.iload_n 1, 1) := by decide +kernel
theorem dX2_get_2 : decode cX2_get 2 = .ok (.iload_n 2, 1) := by decide +kernel
theorem dX2_get_3 : decode cX2_get 3 = .ok (.invokevirtual 26, 3) := by decide +kernel
theorem dX2_get_6 : decode cX2_get 6 = .ok (.istore_n 3, 1) := by decide +kernel
theorem dX2_get_7 : decode cX2_get 7 = .ok (.iload_n 3, 1) := by decide +kernel
theorem dX2_get_8 : decode cX2_get 8 = .ok (.ifCond .lt 21, 3) := by decide +kernel
theorem dX2_get_11 : decode cX2_get 11 = .ok (.iload_n 3, 1) := by decide +kernel
theorem dX2_get_12 : decode cX2_get 12 = .ok (.aload_n 0, 1) := by decide +kernel
theorem dX2_get_13 : decode cX2_get 13 = .ok (.getfield 22, 3) := by decide +kernel
theorem dX2_get_16 : decode cX2_get 16 = .ok (.arraylength, 1) := by decide +kernel
theorem dX2_get_17 : decode cX2_get 17 = .ok (.if_icmp .ge 12, 3) := by decide +kernel
theorem dX2_get_20 : decode cX2_get 20 = .ok (.aload_n 0, 1) := by decide +kernel
theorem dX2_get_21 : decode cX2_get 21 = .ok (.getfield 22, 3) := by decide +kernel
theorem dX2_get_24 : decode cX2_get 24 = .ok (.iload_n 3, 1) := by decide +kernel
theorem dX2_get_25 : decode cX2_get 25 = .ok (.iaload, 1) := by decide +kernel
theorem dX2_get_26 : decode cX2_get 26 = .ok (.goto 4, 3) := by decide +kernel
theorem dX2_get_29 : decode cX2_get 29 = .ok (.iconst 0, 1) := by decide +kernel
theorem dX2_get_30 : decode cX2_get 30 = .ok (.ireturn, 1) := by decide +kernel
theorem dX2_set_0 : decode cX2_set 0 = .ok (.aload_n 0, 1) := by decide +kernel
theorem dX2_set_1 : decode cX2_set 1 = .ok (.iload_n 1, 1) := by decide +kernel
theorem dX2_set_2 : decode cX2_set 2 = .ok (.iload_n 2, 1) := by decide +kernel
theorem dX2_set_3 : decode cX2_set 3 = .ok (.invokevirtual 26, 3) := by decide +kernel
theorem dX2_set_6 : decode cX2_set 6 = .ok (.istore 4, 2) := by decide +kernel
theorem dX2_set_8 : decode cX2_set 8 = .ok (.iload 4, 2) := by decide +kernel
theorem dX2_set_10 : decode cX2_set 10 = .ok (.ifCond .lt 21, 3) := by decide +kernel
theorem dX2_set_13 : decode cX2_set 13 = .ok (.iload 4, 2) := by decide +kernel
theorem dX2_set_15 : decode cX2_set 15 = .ok (.aload_n 0, 1) := by decide +kernel
theorem dX2_set_16 : decode cX2_set 16 = .ok (.getfield 22, 3) := by decide +kernel
theorem dX2_set_19 : decode cX2_set 19 = .ok (.arraylength, 1) := by decide +kernel
theorem dX2_set_20 : decode cX2_set 20 = .ok (.if_icmp .ge 11, 3) := by decide +kernel
theorem dX2_set_23 : decode cX2_set 23 = .ok (.aload_n 0, 1) := by decide +kernel
theorem dX2_set_24 : decode cX2_set 24 = .ok (.getfield 22, 3) := by decide +kernel
theorem dX2_set_27 : decode cX2_set 27 = .ok (.iload 4, 2) := by decide +kernel
theorem dX2_set_29 : decode cX2_set 29 = .ok (.iload_n 3, 1) := by decide +kernel
theorem dX2_set_30 : decode cX2_set 30 = .ok (.iastore, 1) := by decide +kernel
theorem dX2_set_31 : decode cX2_set 31 = .ok (.return_, 1) := by decide +kernel
theorem dX2_index_0 : decode cX2_index 0 = .ok (.iload_n 1, 1) := by decide +kernel
theorem dX2_index_1 : decode cX2_index 1 = .ok (.ifCond .lt 27, 3) := by decide +kernel
theorem dX2_index_4 : decode cX2_index 4 = .ok (.iload_n 1, 1) := by decide +kernel
theorem dX2_index_5 : decode cX2_index 5 = .ok (.aload_n 0, 1) := by decide +kernel
theorem dX2_index_6 : decode cX2_index 6 = .ok (.getfield 7, 3) := by decide +kernel
theorem dX2_index_9 : decode cX2_index 9 = .ok (.if_icmp .ge 19, 3) := by decide +kernel
theorem dX2_index_12 : decode cX2_index 12 = .ok (.iload_n 2, 1) := by decide +kernel
theorem dX2_index_13 : decode cX2_index 13 = .ok (.ifCond .lt 15, 3) := by decide +kernel
theorem dX2_index_16 : decode cX2_index 16 = .ok (.iload_n 2, 1) := by decide +kernel
theorem dX2_index_17 : decode cX2_index 17 = .ok (.aload_n 0, 1) := by decide +kernel
theorem dX2_index_18 : decode cX2_index 18 = .ok (.getfield 13, 3) := by decide +kernel
theorem dX2_index_21 : decode cX2_index 21 = .ok (.if_icmp .ge 7, 3) := by decide +kernel
theorem dX2_index_24 : decode cX2_index 24 = .ok (.iconst 1, 1) := by decide +kernel
theorem dX2_index_25 : decode cX2_index 25 = .ok (.goto 4, 3) := by decide +kernel
theorem dX2_index_28 : decode cX2_index 28 = .ok (.iconst 0, 1) := by decide +kernel
theorem dX2_index_29 : decode cX2_index 29 = .ok (.istore_n 3, 1) := by decide +kernel
theorem dX2_index_30 : decode cX2_index 30 = .ok (.iload_n 3, 1) := by decide +kernel
theorem dX2_index_31 : decode cX2_index 31 = .ok (.ifCond .eq 14, 3) := by decide +kernel
theorem dX2_index_34 : decode cX2_index 34 = .ok (.iload_n 1, 1) := by decide +kernel
theorem dX2_index_35 : decode cX2_index 35 = .ok (.aload_n 0, 1) := by decide +kernel
theorem dX2_index_36 : decode cX2_index 36 = .ok (.getfield 13, 3) := by decide +kernel
theorem dX2_index_39 : decode cX2_index 39 = .ok (.imul, 1) := by decide +kernel
theorem dX2_index_40 : decode cX2_index 40 = .ok (.iload_n 2, 1) := by decide +kernel
theorem dX2_index_41 : decode cX2_index 41 = .ok (.iadd, 1) := by decide +kernel
theorem dX2_index_42 : decode cX2_index 42 = .ok (.goto 4, 3) := by decide +kernel
theorem dX2_index_45 : decode cX2_index 45 = .ok (.iconst (-1), 1) := by decide +kernel
theorem dX2_index_46 : decode cX2_index 46 = .ok (.ireturn, 1) := by decide +kernel
theorem dX3_init_0 : decode cX3_init 0 = .ok (.aload_n 0, 1) := by decide +kernel
theorem dX3_init_1 : decode cX3_init 1 = .ok (.invokespecial 1, 3) := by decide +kernel
theorem dX3_init_4 : decode cX3_init 4 = .ok (.aload_n 0, 1) := by decide +kernel
theorem dX3_init_5 : decode cX3_init 5 = .ok (.iconst 0, 1) := by decide +kernel
theorem dX3_init_6 : decode cX3_init 6 = .ok (.iload_n 1, 1) := by decide +kernel
theorem dX3_init_7 : decode cX3_init 7 = .ok (.invokestatic 7, 3) := by decide +kernel
theorem dX3_init_10 : decode cX3_init 10 = .ok (.newarray .long, 2) := by decide +kernel
theorem dX3_init_12 : decode cX3_init 12 = .ok (.putfield 13, 3) := by decide +kernel
theorem dX3_init_15 : decode cX3_init 15 = .ok (.return_, 1) := by decide +kernel
theorem dX3_get_0 : decode cX3_get 0 = .ok (.iload_n 1, 1) := by decide +kernel
theorem dX3_get_1 : decode cX3_get 1 = .ok (.ifCond .lt 21, 3) := by decide +kernel
theorem dX3_get_4 : decode cX3_get 4 = .ok (.iload_n 1, 1) := by decide +kernel
theorem dX3_get_5 : decode cX3_get 5 = .ok (.aload_n 0, 1) := by decide +kernel
theorem dX3_get_6 : decode cX3_get 6 = .ok (.getfield 13, 3) := by decide +kernel
theorem dX3_get_9 : decode cX3_get 9 = .ok (.arraylength, 1) := by decide +kernel
theorem dX3_get_10 : decode cX3_get 10 = .ok (.if_icmp .ge 12, 3) := by decide +kernel
theorem dX3_get_13 : decode cX3_get 13 = .ok (.aload_n 0, 1) := by decide +kernel
theorem dX3_get_14 : decode cX3_get 14 = .ok (.getfield 13, 3) := by decide +kernel
theorem dX3_get_17 : decode cX3_get 17 = .ok (.iload_n 1, 1) := by decide +kernel
theorem dX3_get_18 : decode cX3_get 18 = .ok (.laload, 1) := by decide +kernel
theorem dX3_get_19 : decode cX3_get 19 = .ok (.goto 4, 3) := by decide +kernel
theorem dX3_get_22 : decode cX3_get 22 = .ok (.lconst 0, 1) := by decide +kernel
theorem dX3_get_23 : decode cX3_get 23 = .ok (.lreturn, 1) := by decide +kernel
theorem dX3_set_0 : decode cX3_set 0 = .ok (.iload_n 1, 1) := by decide +kernel
theorem dX3_set_1 : decode cX3_set 1 = .ok (.ifCond .lt 19, 3) := by decide +kernel
theorem dX3_set_4 : decode cX3_set 4 = .ok (.iload_n 1, 1) := by decide +kernel
theorem dX3_set_5 : decode cX3_set 5 = .ok (.aload_n 0, 1) := by decide +kernel
theorem dX3_set_6 : decode cX3_set 6 = .ok (.getfield 13, 3) := by decide +kernel
theorem dX3_set_9 : decode cX3_set 9 = .ok (.arraylength, 1) := by decide +kernel
theorem dX3_set_10 : decode cX3_set 10 = .ok (.if_icmp .ge 10, 3) := by decide +kernel
theorem dX3_set_13 : decode cX3_set 13 = .ok (.aload_n 0, 1) := by decide +kernel
theorem dX3_set_14 : decode cX3_set 14 = .ok (.getfield 13, 3) := by decide +kernel
theorem dX3_set_17 : decode cX3_set 17 = .ok (.iload_n 1, 1) := by decide +kernel
theorem dX3_set_18 : decode cX3_set 18 = .ok (.lload_n 2, 1) := by decide +kernel
theorem dX3_set_19 : decode cX3_set 19 = .ok (.lastore, 1) := by decide +kernel
theorem dX3_set_20 : decode cX3_set 20 = .ok (.return_, 1) := by decide +kernel
theorem dX3_wipe_0 : decode cX3_wipe 0 = .ok (.iconst 0, 1) := by decide +kernel
theorem dX3_wipe_1 : decode cX3_wipe 1 = .ok (.istore_n 1, 1) := by decide +kernel
theorem dX3_wipe_2 : decode cX3_wipe 2 = .ok (.iload_n 1, 1) := by decide +kernel
theorem dX3_wipe_3 : decode cX3_wipe 3 = .ok (.aload_n 0, 1) := by decide +kernel
theorem dX3_wipe_4 : decode cX3_wipe 4 = .ok (.getfield 13, 3) := by decide +kernel
theorem dX3_wipe_7 : decode cX3_wipe 7 = .ok (.arraylength, 1) := by decide +kernel
theorem dX3_wipe_8 : decode cX3_wipe 8 = .ok (.if_icmp .ge 16, 3) := by decide +kernel
theorem dX3_wipe_11 : decode cX3_wipe 11 = .ok (.aload_n 0, 1) := by decide +kernel
theorem dX3_wipe_12 : decode cX3_wipe 12 = .ok (.getfield 13, 3) := by decide +kernel
theorem dX3_wipe_15 : decode cX3_wipe 15 = .ok (.iload_n 1, 1) := by decide +kernel
theorem dX3_wipe_16 : decode cX3_wipe 16 = .ok (.lconst 0, 1) := by decide +kernel
theorem dX3_wipe_17 : decode cX3_wipe 17 = .ok (.lastore, 1) := by decide +kernel
theorem dX3_wipe_18 : decode cX3_wipe 18 = .ok (.iinc 1 1, 3) := by decide +kernel
theorem dX3_wipe_21 : decode cX3_wipe 21 = .ok (.goto (-19), 3) := by decide +kernel
theorem dX3_wipe_24 : decode cX3_wipe 24 = .ok (.return_, 1) := by decide +kernel
theorem dX4_init_0 : decode cX4_init 0 = .ok (.aload_n 0, 1) := by decide +kernel
theorem dX4_init_1 : decode cX4_init 1 = .ok (.invokespecial 3, 3) := by decide +kernel
theorem dX4_init_4 : decode cX4_init 4 = .ok (.aload_n 0, 1) := by decide +kernel
theorem dX4_init_5 : decode cX4_init 5 = .ok (.aload_n 1, 1) := by decide +kernel
theorem dX4_init_6 : decode cX4_init 6 = .ok (.putfield 9, 3) := by decide +kernel
theorem dX4_init_9 : decode cX4_init 9 = .ok (.aload_n 0, 1) := by decide +kernel
theorem dX4_init_10 : decode cX4_init 10 = .ok (.aload_n 2, 1) := by decide +kernel
theorem dX4_init_11 : decode cX4_init 11 = .ok (.putfield 15, 3) := by decide +kernel
theorem dX4_init_14 : decode cX4_init 14 = .ok (.aload_n 0, 1) := by decide +kernel
theorem dX4_init_15 : decode cX4_init 15 = .ok (.new 19, 3) := by decide +kernel
theorem dX4_init_18 : decode cX4_init 18 = .ok (.dup, 1) := by decide +kernel
theorem dX4_init_19 : decode cX4_init 19 = .ok (.bipush 40, 2) := by decide +kernel
theorem dX4_init_21 : decode cX4_init 21 = .ok (.invokespecial 21, 3) := by decide +kernel
theorem dX4_init_24 : decode cX4_init 24 = .ok (.putfield 24, 3) := by decide +kernel
theorem dX4_init_27 : decode cX4_init 27 = .ok (.aload_n 0, 1) := by decide +kernel
theorem dX4_init_28 : decode cX4_init 28 = .ok (.new 19, 3) := by decide +kernel
theorem dX4_init_31 : decode cX4_init 31 = .ok (.dup, 1) := by decide +kernel
theorem dX4_init_32 : decode cX4_init 32 = .ok (.bipush 40, 2) := by decide +kernel
theorem dX4_init_34 : decode cX4_init 34 = .ok (.invokespecial 21, 3) := by decide +kernel
theorem dX4_init_37 : decode cX4_init 37 = .ok (.putfield 28, 3) := by decide +kernel
theorem dX4_init_40 : decode cX4_init 40 = .ok (.aload_n 0, 1) := by decide +kernel
theorem dX4_init_41 : decode cX4_init 41 = .ok (.new 19, 3) := by decide +kernel
theorem dX4_init_44 : decode cX4_init 44 = .ok (.dup, 1) := by decide +kernel
theorem dX4_init_45 : decode cX4_init 45 = .ok (.sipush 151, 3) := by decide +kernel
theorem dX4_init_48 : decode cX4_init 48 = .ok (.invokespecial 21, 3) := by decide +kernel
theorem dX4_init_51 : decode cX4_init 51 = .ok (.putfield 31, 3) := by decide +kernel
theorem dX4_init_54 : decode cX4_init 54 = .ok (.aload_n 0, 1) := by decide +kernel
theorem dX4_init_55 : decode cX4_init 55 = .ok (.new 19, 3) := by decide +kernel
theorem dX4_init_58 : decode cX4_init 58 = .ok (.dup, 1) := by decide +kernel
theorem dX4_init_59 : decode cX4_init 59 = .ok (.sipush 151, 3) := by decide +kernel
theorem dX4_init_62 : decode cX4_init 62 = .ok (.invokespecial 21, 3) := by decide +kernel
theorem dX4_init_65 : decode cX4_init 65 = .ok (.putfield 34, 3) := by decide +kernel
theorem dX4_init_68 : decode cX4_init 68 = .ok (.aload_n 0, 1) := by decide +kernel
theorem dX4_init_69 : decode cX4_init 69 = .ok (.iconst 0, 1) := by decide +kernel
theorem dX4_init_70 : decode cX4_init 70 = .ok (.putfield 37, 3) := by decide +kernel
theorem dX4_init_73 : decode cX4_init 73 = .ok (.aload_n 0, 1) := by decide +kernel
theorem dX4_init_74 : decode cX4_init 74 = .ok (.iconst 0, 1) := by decide +kernel
theorem dX4_init_75 : decode cX4_init 75 = .ok (.putfield 41, 3) := by decide +kernel
theorem dX4_init_78 : decode cX4_init 78 = .ok (.return_, 1) := by decide +kernel
theorem dX4_size_0 : decode cX4_size 0 = .ok (.aload_n 0, 1) := by decide +kernel
theorem dX4_size_1 : decode cX4_size 1 = .ok (.getfield 37, 3) := by decide +kernel
theorem dX4_size_4 : decode cX4_size 4 = .ok (.ireturn, 1) := by decide +kernel
theorem dX4_addToken_0 : decode cX4_addToken 0 = .ok (.aload_n 0, 1) := by decide +kernel
theorem dX4_addToken_1 : decode cX4_addToken 1 = .ok (.getfield 24, 3) := by decide +kernel
theorem dX4_addToken_4 : decode cX4_addToken 4 = .ok (.aload_n 0, 1) := by decide +kernel
theorem dX4_addToken_5 : decode cX4_addToken 5 = .ok (.getfield 37, 3) := by decide +kernel
theorem dX4_addToken_8 : decode cX4_addToken 8 = .ok (.iload_n 1, 1) := by decide +kernel
theorem dX4_addToken_9 : decode cX4_addToken 9 = .ok (.invokevirtual 44, 3) := by decide +kernel
theorem dX4_addToken_12 : decode cX4_addToken 12 = .ok (.aload_n 0, 1) := by decide +kernel
theorem dX4_addToken_13 : decode cX4_addToken 13 = .ok (.getfield 28, 3) := by decide +kernel
theorem dX4_addToken_16 : decode cX4_addToken 16 = .ok (.aload_n 0, 1) := by decide +kernel
theorem dX4_addToken_17 : decode cX4_addToken 17 = .ok (.getfield 37, 3) := by decide +kernel
theorem dX4_addToken_20 : decode cX4_addToken 20 = .ok (.iload_n 2, 1) := by decide +kernel
theorem dX4_addToken_21 : decode cX4_addToken 21 = .ok (.invokevirtual 44, 3) := by decide +kernel
theorem dX4_addToken_24 : decode cX4_addToken 24 = .ok (.aload_n 0, 1) := by decide +kernel
theorem dX4_addToken_25 : decode cX4_addToken 25 = .ok (.dup, 1) := by decide +kernel
theorem dX4_addToken_26 : decode cX4_addToken 26 = .ok (.getfield 37, 3) := by decide +kernel
theorem dX4_addToken_29 : decode cX4_addToken 29 = .ok (.iconst 1, 1) := by decide +kernel
theorem dX4_addToken_30 : decode cX4_addToken 30 = .ok (.iadd, 1) := by decide +kernel
theorem dX4_addToken_31 : decode cX4_addToken 31 = .ok (.putfield 37, 3) := by decide +kernel
theorem dX4_addToken_34 : decode cX4_addToken 34 = .ok (.aload_n 0, 1) := by decide +kernel
theorem dX4_addToken_35 : decode cX4_addToken 35 = .ok (.getfield 37, 3) := by decide +kernel
theorem dX4_addToken_38 : decode cX4_addToken 38 = .ok (.ireturn, 1) := by decide +kernel
theorem dX4_dropTokens_0 : decode cX4_dropTokens 0 = .ok (.aload_n 0, 1) := by decide +kernel
theorem dX4_dropTokens_1 : decode cX4_dropTokens 1 = .ok (.iconst 0, 1) := by decide +kernel
theorem dX4_dropTokens_2 : decode cX4_dropTokens 2 = .ok (.putfield 37, 3) := by decide +kernel
theorem dX4_dropTokens_5 : decode cX4_dropTokens 5 = .ok (.return_, 1) := by decide +kernel
theorem dX4_run_0 : decode cX4_run 0 = .ok (.aload_n 1, 1) := by decide +kernel
theorem dX4_run_1 : decode cX4_run 1 = .ok (.invokevirtual 48, 3) := by decide +kernel
theorem dX4_run_4 : decode cX4_run 4 = .ok (.aload_n 0, 1) := by decide +kernel
theorem dX4_run_5 : decode cX4_run 5 = .ok (.iconst 0, 1) := by decide +kernel
theorem dX4_run_6 : decode cX4_run 6 = .ok (.putfield 41, 3) := by decide +kernel
theorem dX4_run_9 : decode cX4_run 9 = .ok (.aload_n 0, 1) := by decide +kernel
theorem dX4_run_10 : decode cX4_run 10 = .ok (.iconst 0, 1) := by decide +kernel
theorem dX4_run_11 : decode cX4_run 11 = .ok (.iconst (-1), 1) := by decide +kernel
theorem dX4_run_12 : decode cX4_run 12 = .ok (.invokevirtual 53, 3) := by decide +kernel
theorem dX4_run_15 : decode cX4_run 15 = .ok (.iconst 0, 1) := by decide +kernel
theorem dX4_run_16 : decode cX4_run 16 = .ok (.istore_n 2, 1) := by decide +kernel
theorem dX4_run_17 : decode cX4_run 17 = .ok (.iconst 0, 1) := by decide +kernel
theorem dX4_run_18 : decode cX4_run 18 = .ok (.istore_n 3, 1) := by decide +kernel
theorem dX4_run_19 : decode cX4_run 19 = .ok (.iload_n 3, 1) := by decide +kernel
theorem dX4_run_20 : decode cX4_run 20 = .ok (.sipush 150, 3) := by decide +kernel
theorem dX4_run_23 : decode cX4_run 23 = .ok (.if_icmp .gt 114, 3) := by decide +kernel
theorem dX4_run_26 : decode cX4_run 26 = .ok (.iload_n 2, 1) := by decide +kernel
theorem dX4_run_27 : decode cX4_run 27 = .ok (.aload_n 0, 1) := by decide +kernel
theorem dX4_run_28 : decode cX4_run 28 = .ok (.getfield 37, 3) := by decide +kernel
theorem dX4_run_31 : decode cX4_run 31 = .ok (.if_icmp .ge 14, 3) := by decide +kernel
theorem dX4_run_34 : decode cX4_run 34 = .ok (.aload_n 0, 1) := by decide +kernel
theorem dX4_run_35 : decode cX4_run 35 = .ok (.getfield 24, 3) := by decide +kernel
theorem dX4_run_38 : decode cX4_run 38 = .ok (.iload_n 2, 1) := by decide +kernel
theorem dX4_run_39 : decode cX4_run 39 = .ok (.invokevirtual 56, 3) := by decide +kernel
theorem dX4_run_42 : decode cX4_run 42 = .ok (.goto 4, 3) := by decide +kernel
theorem dX4_run_45 : decode cX4_run 45 = .ok (.iconst 0, 1) := by decide +kernel
theorem dX4_run_46 : decode cX4_run 46 = .ok (.istore 4, 2) := by decide +kernel
theorem dX4_run_48 : decode cX4_run 48 = .ok (.aload_n 0, 1) := by decide +kernel
theorem dX4_run_49 : decode cX4_run 49 = .ok (.getfield 15, 3) := by decide +kernel
theorem dX4_run_52 : decode cX4_run 52 = .ok (.aload_n 0, 1) := by decide +kernel
theorem dX4_run_53 : decode cX4_run 53 = .ok (.invokevirtual 60, 3) := by decide +kernel
theorem dX4_run_56 : decode cX4_run 56 = .ok (.iload 4, 2) := by decide +kernel
theorem dX4_run_58 : decode cX4_run 58 = .ok (.invokevirtual 64, 3) := by decide +kernel
theorem dX4_run_61 : decode cX4_run 61 = .ok (.istore 5, 2) := by decide +kernel
theorem dX4_run_63 : decode cX4_run 63 = .ok (.iload 5, 2) := by decide +kernel
theorem dX4_run_65 : decode cX4_run 65 = .ok (.sipush 1000, 3) := by decide +kernel
theorem dX4_run_68 : decode cX4_run 68 = .ok (.if_icmp .ne 5, 3) := by decide +kernel
theorem dX4_run_71 : decode cX4_run 71 = .ok (.iconst (-1), 1) := by decide +kernel
theorem dX4_run_72 : decode cX4_run 72 = .ok (.ireturn, 1) := by decide +kernel
theorem dX4_run_73 : decode cX4_run 73 = .ok (.iload 5, 2) := by decide +kernel
theorem dX4_run_75 : decode cX4_run 75 = .ok (.ifCond .ne 5, 3) := by decide +kernel
theorem dX4_run_78 : decode cX4_run 78 = .ok (.iload_n 2, 1) := by decide +kernel
theorem dX4_run_79 : decode cX4_run 79 = .ok (.ireturn, 1) := by decide +kernel
theorem dX4_run_80 : decode cX4_run 80 = .ok (.iload_n 3, 1) := by decide +kernel
theorem dX4_run_81 : decode cX4_run 81 = .ok (.sipush 150, 3) := by decide +kernel
theorem dX4_run_84 : decode cX4_run 84 = .ok (.if_icmp .ne 6, 3) := by decide +kernel
theorem dX4_run_87 : decode cX4_run 87 = .ok (.bipush (-2), 2) := by decide +kernel
theorem dX4_run_89 : decode cX4_run 89 = .ok (.ireturn, 1) := by decide +kernel
theorem dX4_run_90 : decode cX4_run 90 = .ok (.iload 5, 2) := by decide +kernel
theorem dX4_run_92 : decode cX4_run 92 = .ok (.ifCond .le 30, 3) := by decide +kernel
theorem dX4_run_95 : decode cX4_run 95 = .ok (.aload_n 0, 1) := by decide +kernel
theorem dX4_run_96 : decode cX4_run 96 = .ok (.iload 5, 2) := by decide +kernel
theorem dX4_run_98 : decode cX4_run 98 = .ok (.aload_n 1, 1) := by decide +kernel
theorem dX4_run_99 : decode cX4_run 99 = .ok (.iload 4, 2) := by decide +kernel
theorem dX4_run_101 : decode cX4_run 101 = .ok (.aload_n 0, 1) := by decide +kernel
theorem dX4_run_102 : decode cX4_run 102 = .ok (.getfield 28, 3) := by decide +kernel
theorem dX4_run_105 : decode cX4_run 105 = .ok (.iload_n 2, 1) := by decide +kernel
theorem dX4_run_106 : decode cX4_run 106 = .ok (.invokevirtual 56, 3) := by decide +kernel
theorem dX4_run_109 : decode cX4_run 109 = .ok (.iload_n 2, 1) := by decide +kernel
theorem dX4_run_110 : decode cX4_run 110 = .ok (.invokevirtual 70, 3) := by decide +kernel
theorem dX4_run_113 : decode cX4_run 113 = .ok (.invokevirtual 53, 3) := by decide +kernel
theorem dX4_run_116 : decode cX4_run 116 = .ok (.iinc 2 1, 3) := by decide +kernel
theorem dX4_run_119 : decode cX4_run 119 = .ok (.goto 12, 3) := by decide +kernel
theorem dX4_run_122 : decode cX4_run 122 = .ok (.aload_n 0, 1) := by decide +kernel
theorem dX4_run_123 : decode cX4_run 123 = .ok (.aload_n 1, 1) := by decide +kernel
theorem dX4_run_124 : decode cX4_run 124 = .ok (.iconst (-1), 1) := by decide +kernel
theorem dX4_run_125 : decode cX4_run 125 = .ok (.iload 5, 2) := by decide +kernel
theorem dX4_run_127 : decode cX4_run 127 = .ok (.isub, 1) := by decide +kernel
theorem dX4_run_128 : decode cX4_run 128 = .ok (.invokevirtual 74, 3) := by decide +kernel
theorem dX4_run_131 : decode cX4_run 131 = .ok (.iinc 3 1, 3) := by decide +kernel
theorem dX4_run_134 : decode cX4_run 134 = .ok (.goto (-115), 3) := by decide +kernel
theorem dX4_run_137 : decode cX4_run 137 = .ok (.bipush (-2), 2) := by decide +kernel
theorem dX4_run_139 : decode cX4_run 139 = .ok (.ireturn, 1) := by decide +kernel
theorem dX4_topState_0 : decode cX4_topState 0 = .ok (.aload_n 0, 1) := by decide +kernel
theorem dX4_topState_1 : decode cX4_topState 1 = .ok (.getfield 31, 3) := by decide +kernel
theorem dX4_topState_4 : decode cX4_topState 4 = .ok (.aload_n 0, 1) := by decide +kernel
theorem dX4_topState_5 : decode cX4_topState 5 = .ok (.getfield 41, 3) := by decide +kernel
theorem dX4_topState_8 : decode cX4_topState 8 = .ok (.iconst 1, 1) := by decide +kernel
theorem dX4_topState_9 : decode cX4_topState 9 = .ok (.isub, 1) := by decide +kernel
theorem dX4_topState_10 : decode cX4_topState 10 = .ok (.invokevirtual 56, 3) := by decide +kernel
theorem dX4_topState_13 : decode cX4_topState 13 = .ok (.ireturn, 1) := by decide +kernel
theorem dX4_push_0 : decode cX4_push 0 = .ok (.aload_n 0, 1) := by decide +kernel
theorem dX4_push_1 : decode cX4_push 1 = .ok (.getfield 31, 3) := by decide +kernel
theorem dX4_push_4 : decode cX4_push 4 = .ok (.aload_n 0, 1) := by decide +kernel
theorem dX4_push_5 : decode cX4_push 5 = .ok (.getfield 41, 3) := by decide +kernel
theorem dX4_push_8 : decode cX4_push 8 = .ok (.iload_n 1, 1) := by decide +kernel
theorem dX4_push_9 : decode cX4_push 9 = .ok (.invokevirtual 44, 3) := by decide +kernel
theorem dX4_push_12 : decode cX4_push 12 = .ok (.aload_n 0, 1) := by decide +kernel
theorem dX4_push_13 : decode cX4_push 13 = .ok (.getfield 34, 3) := by decide +kernel
theorem dX4_push_16 : decode cX4_push 16 = .ok (.aload_n 0, 1) := by decide +kernel
theorem dX4_push_17 : decode cX4_push 17 = .ok (.getfield 41, 3) := by decide +kernel
theorem dX4_push_20 : decode cX4_push 20 = .ok (.iload_n 2, 1) := by decide +kernel
theorem dX4_push_21 : decode cX4_push 21 = .ok (.invokevirtual 44, 3) := by decide +kernel
theorem dX4_push_24 : decode cX4_push 24 = .ok (.aload_n 0, 1) := by decide +kernel
theorem dX4_push_25 : decode cX4_push 25 = .ok (.dup, 1) := by decide +kernel
theorem dX4_push_26 : decode cX4_push 26 = .ok (.getfield 41, 3) := by decide +kernel
theorem dX4_push_29 : decode cX4_push 29 = .ok (.iconst 1, 1) := by decide +kernel
theorem dX4_push_30 : decode cX4_push 30 = .ok (.iadd, 1) := by decide +kernel
theorem dX4_push_31 : decode cX4_push 31 = .ok (.putfield 41, 3) := by decide +kernel
theorem dX4_push_34 : decode cX4_push 34 = .ok (.return_, 1) := by decide +kernel
theorem dX4_reduce_0 : decode cX4_reduce 0 = .ok (.aload_n 0, 1) := by decide +kernel
theorem dX4_reduce_1 : decode cX4_reduce 1 = .ok (.getfield 9, 3) := by decide +kernel
theorem dX4_reduce_4 : decode cX4_reduce 4 = .ok (.iload_n 2, 1) := by decide +kernel
theorem dX4_reduce_5 : decode cX4_reduce 5 = .ok (.invokevirtual 78, 3) := by decide +kernel
theorem dX4_reduce_8 : decode cX4_reduce 8 = .ok (.istore_n 3, 1) := by decide +kernel
theorem dX4_reduce_9 : decode cX4_reduce 9 = .ok (.aload_n 0, 1) := by decide +kernel
theorem dX4_reduce_10 : decode cX4_reduce 10 = .ok (.getfield 9, 3) := by decide +kernel
theorem dX4_reduce_13 : decode cX4_reduce 13 = .ok (.iload_n 2, 1) := by decide +kernel
theorem dX4_reduce_14 : decode cX4_reduce 14 = .ok (.invokevirtual 83, 3) := by decide +kernel
theorem dX4_reduce_17 : decode cX4_reduce 17 = .ok (.istore 4, 2) := by decide +kernel
theorem dX4_reduce_19 : decode cX4_reduce 19 = .ok (.aload_n 1, 1) := by decide +kernel
theorem dX4_reduce_20 : decode cX4_reduce 20 = .ok (.iload_n 3, 1) := by decide +kernel
theorem dX4_reduce_21 : decode cX4_reduce 21 = .ok (.iload_n 2, 1) := by decide +kernel
theorem dX4_reduce_22 : decode cX4_reduce 22 = .ok (.invokevirtual 86, 3) := by decide +kernel
theorem dX4_reduce_25 : decode cX4_reduce 25 = .ok (.istore 5, 2) := by decide +kernel
theorem dX4_reduce_27 : decode cX4_reduce 27 = .ok (.aload_n 0, 1) := by decide +kernel
theorem dX4_reduce_28 : decode cX4_reduce 28 = .ok (.dup, 1) := by decide +kernel
theorem dX4_reduce_29 : decode cX4_reduce 29 = .ok (.getfield 41, 3) := by decide +kernel
theorem dX4_reduce_32 : decode cX4_reduce 32 = .ok (.iload 4, 2) := by decide +kernel
theorem dX4_reduce_34 : decode cX4_reduce 34 = .ok (.isub, 1) := by decide +kernel
theorem dX4_reduce_35 : decode cX4_reduce 35 = .ok (.putfield 41, 3) := by decide +kernel
theorem dX4_reduce_38 : decode cX4_reduce 38 = .ok (.iconst 1, 1) := by decide +kernel
theorem dX4_reduce_39 : decode cX4_reduce 39 = .ok (.istore 6, 2) := by decide +kernel
theorem dX4_reduce_41 : decode cX4_reduce 41 = .ok (.iload 6, 2) := by decide +kernel
theorem dX4_reduce_43 : decode cX4_reduce 43 = .ok (.iload 4, 2) := by decide +kernel
theorem dX4_reduce_45 : decode cX4_reduce 45 = .ok (.if_icmp .gt 33, 3) := by decide +kernel
theorem dX4_reduce_48 : decode cX4_reduce 48 = .ok (.aload_n 1, 1) := by decide +kernel
theorem dX4_reduce_49 : decode cX4_reduce 49 = .ok (.iload 5, 2) := by decide +kernel
theorem dX4_reduce_51 : decode cX4_reduce 51 = .ok (.iload 6, 2) := by decide +kernel
theorem dX4_reduce_53 : decode cX4_reduce 53 = .ok (.aload_n 0, 1) := by decide +kernel
theorem dX4_reduce_54 : decode cX4_reduce 54 = .ok (.getfield 34, 3) := by decide +kernel
theorem dX4_reduce_57 : decode cX4_reduce 57 = .ok (.aload_n 0, 1) := by decide +kernel
theorem dX4_reduce_58 : decode cX4_reduce 58 = .ok (.getfield 41, 3) := by decide +kernel
theorem dX4_reduce_61 : decode cX4_reduce 61 = .ok (.iload 6, 2) := by decide +kernel
theorem dX4_reduce_63 : decode cX4_reduce 63 = .ok (.iadd, 1) := by decide +kernel
theorem dX4_reduce_64 : decode cX4_reduce 64 = .ok (.iconst 1, 1) := by decide +kernel
theorem dX4_reduce_65 : decode cX4_reduce 65 = .ok (.isub, 1) := by decide +kernel
theorem dX4_reduce_66 : decode cX4_reduce 66 = .ok (.invokevirtual 56, 3) := by decide +kernel
theorem dX4_reduce_69 : decode cX4_reduce 69 = .ok (.invokevirtual 89, 3) := by decide +kernel
theorem dX4_reduce_72 : decode cX4_reduce 72 = .ok (.iinc 6 1, 3) := by decide +kernel
theorem dX4_reduce_75 : decode cX4_reduce 75 = .ok (.goto (-34), 3) := by decide +kernel
theorem dX4_reduce_78 : decode cX4_reduce 78 = .ok (.aload_n 0, 1) := by decide +kernel
theorem dX4_reduce_79 : decode cX4_reduce 79 = .ok (.aload_n 0, 1) := by decide +kernel
theorem dX4_reduce_80 : decode cX4_reduce 80 = .ok (.getfield 15, 3) := by decide +kernel
theorem dX4_reduce_83 : decode cX4_reduce 83 = .ok (.aload_n 0, 1) := by decide +kernel
theorem dX4_reduce_84 : decode cX4_reduce 84 = .ok (.invokevirtual 60, 3) := by decide +kernel
theorem dX4_reduce_87 : decode cX4_reduce 87 = .ok (.iload_n 3, 1) := by decide +kernel
theorem dX4_reduce_88 : decode cX4_reduce 88 = .ok (.invokevirtual 93, 3) := by decide +kernel
theorem dX4_reduce_91 : decode cX4_reduce 91 = .ok (.iload 5, 2) := by decide +kernel
theorem dX4_reduce_93 : decode cX4_reduce 93 = .ok (.invokevirtual 53, 3) := by decide +kernel
theorem dX4_reduce_96 : decode cX4_reduce 96 = .ok (.return_, 1) := by decide +kernel
theorem dX5_init_0 : decode cX5_init 0 = .ok (.aload_n 0, 1) := by decide +kernel
theorem dX5_init_1 : decode cX5_init 1 = .ok (.invokespecial 3, 3) := by decide +kernel
theorem dX5_init_4 : decode cX5_init 4 = .ok (.aload_n 0, 1) := by decide +kernel
theorem dX5_init_5 : decode cX5_init 5 = .ok (.aload_n 1, 1) := by decide +kernel
theorem dX5_init_6 : decode cX5_init 6 = .ok (.putfield 9, 3) := by decide +kernel
theorem dX5_init_9 : decode cX5_init 9 = .ok (.aload_n 0, 1) := by decide +kernel
theorem dX5_init_10 : decode cX5_init 10 = .ok (.new 15, 3) := by decide +kernel
theorem dX5_init_13 : decode cX5_init 13 = .ok (.dup, 1) := by decide +kernel
theorem dX5_init_14 : decode cX5_init 14 = .ok (.bipush 14, 2) := by decide +kernel
theorem dX5_init_16 : decode cX5_init 16 = .ok (.invokespecial 17, 3) := by decide +kernel
theorem dX5_init_19 : decode cX5_init 19 = .ok (.putfield 20, 3) := by decide +kernel
theorem dX5_init_22 : decode cX5_init 22 = .ok (.aload_n 0, 1) := by decide +kernel
theorem dX5_init_23 : decode cX5_init 23 = .ok (.new 15, 3) := by decide +kernel
theorem dX5_init_26 : decode cX5_init 26 = .ok (.dup, 1) := by decide +kernel
theorem dX5_init_27 : decode cX5_init 27 = .ok (.bipush 15, 2) := by decide +kernel
theorem dX5_init_29 : decode cX5_init 29 = .ok (.invokespecial 17, 3) := by decide +kernel
theorem dX5_init_32 : decode cX5_init 32 = .ok (.putfield 24, 3) := by decide +kernel
theorem dX5_init_35 : decode cX5_init 35 = .ok (.aload_n 0, 1) := by decide +kernel
theorem dX5_init_36 : decode cX5_init 36 = .ok (.iconst 0, 1) := by decide +kernel
theorem dX5_init_37 : decode cX5_init 37 = .ok (.putfield 27, 3) := by decide +kernel
theorem dX5_init_40 : decode cX5_init 40 = .ok (.return_, 1) := by decide +kernel
theorem dX5_areFound_0 : decode cX5_areFound 0 = .ok (.aload_n 0, 1) := by decide +kernel
theorem dX5_areFound_1 : decode cX5_areFound 1 = .ok (.getfield 27, 3) := by decide +kernel
theorem dX5_areFound_4 : decode cX5_areFound 4 = .ok (.ireturn, 1) := by decide +kernel
theorem dX5_search_0 : decode cX5_search 0 = .ok (.aload_n 0, 1) := by decide +kernel
theorem dX5_search_1 : decode cX5_search 1 = .ok (.iconst 0, 1) := by decide +kernel
theorem dX5_search_2 : decode cX5_search 2 = .ok (.putfield 27, 3) := by decide +kernel
theorem dX5_search_5 : decode cX5_search 5 = .ok (.aload_n 0, 1) := by decide +kernel
theorem dX5_search_6 : decode cX5_search 6 = .ok (.getfield 20, 3) := by decide +kernel
theorem dX5_search_9 : decode cX5_search 9 = .ok (.invokevirtual 31, 3) := by decide +kernel
theorem dX5_search_12 : decode cX5_search 12 = .ok (.iconst 1, 1) := by decide +kernel
theorem dX5_search_13 : decode cX5_search 13 = .ok (.istore_n 1, 1) := by decide +kernel
theorem dX5_search_14 : decode cX5_search 14 = .ok (.iload_n 1, 1) := by decide +kernel
theorem dX5_search_15 : decode cX5_search 15 = .ok (.bipush 6, 2) := by decide +kernel
theorem dX5_search_17 : decode cX5_search 17 = .ok (.if_icmp .gt 18, 3) := by decide +kernel
theorem dX5_search_20 : decode cX5_search 20 = .ok (.aload_n 0, 1) := by decide +kernel
theorem dX5_search_21 : decode cX5_search 21 = .ok (.getfield 20, 3) := by decide +kernel
theorem dX5_search_24 : decode cX5_search 24 = .ok (.iload_n 1, 1) := by decide +kernel
theorem dX5_search_25 : decode cX5_search 25 = .ok (.iconst 4, 1) := by decide +kernel
theorem dX5_search_26 : decode cX5_search 26 = .ok (.invokevirtual 34, 3) := by decide +kernel
theorem dX5_search_29 : decode cX5_search 29 = .ok (.iinc 1 1, 3) := by decide +kernel
theorem dX5_search_32 : decode cX5_search 32 = .ok (.goto (-18), 3) := by decide +kernel
theorem dX5_search_35 : decode cX5_search 35 = .ok (.iconst 1, 1) := by decide +kernel
theorem dX5_search_36 : decode cX5_search 36 = .ok (.istore_n 1, 1) := by decide +kernel
theorem dX5_search_37 : decode cX5_search 37 = .ok (.iconst 0, 1) := by decide +kernel
theorem dX5_search_38 : decode cX5_search 38 = .ok (.istore_n 2, 1) := by decide +kernel
theorem dX5_search_39 : decode cX5_search 39 = .ok (.iload_n 2, 1) := by decide +kernel
theorem dX5_search_40 : decode cX5_search 40 = .ok (.ldc 38, 2) := by decide +kernel
theorem dX5_search_42 : decode cX5_search 42 = .ok (.if_icmp .ge 52, 3) := by decide +kernel
theorem dX5_search_45 : decode cX5_search 45 = .ok (.iload_n 1, 1) := by decide +kernel
theorem dX5_search_46 : decode cX5_search 46 = .ok (.ifCond .eq 48, 3) := by decide +kernel
theorem dX5_search_49 : decode cX5_search 49 = .ok (.iconst 0, 1) := by decide +kernel
theorem dX5_search_50 : decode cX5_search 50 = .ok (.istore_n 1, 1) := by decide +kernel
theorem dX5_search_51 : decode cX5_search 51 = .ok (.iconst 0, 1) := by decide +kernel
theorem dX5_search_52 : decode cX5_search 52 = .ok (.istore_n 3, 1) := by decide +kernel
theorem dX5_search_53 : decode cX5_search 53 = .ok (.iload_n 3, 1) := by decide +kernel
theorem dX5_search_54 : decode cX5_search 54 = .ok (.aload_n 0, 1) := by decide +kernel
theorem dX5_search_55 : decode cX5_search 55 = .ok (.getfield 9, 3) := by decide +kernel
theorem dX5_search_58 : decode cX5_search 58 = .ok (.invokevirtual 39, 3) := by decide +kernel
theorem dX5_search_61 : decode cX5_search 61 = .ok (.if_icmp .ge 27, 3) := by decide +kernel
theorem dX5_search_64 : decode cX5_search 64 = .ok (.aload_n 0, 1) := by decide +kernel
theorem dX5_search_65 : decode cX5_search 65 = .ok (.iload_n 3, 1) := by decide +kernel
theorem dX5_search_66 : decode cX5_search 66 = .ok (.invokevirtual 45, 3) := by decide +kernel
theorem dX5_search_69 : decode cX5_search 69 = .ok (.ifCond .eq 13, 3) := by decide +kernel
theorem dX5_search_72 : decode cX5_search 72 = .ok (.aload_n 0, 1) := by decide +kernel
theorem dX5_search_73 : decode cX5_search 73 = .ok (.iload_n 3, 1) := by decide +kernel
theorem dX5_search_74 : decode cX5_search 74 = .ok (.invokevirtual 49, 3) := by decide +kernel
theorem dX5_search_77 : decode cX5_search 77 = .ok (.ifCond .eq 5, 3) := by decide +kernel
theorem dX5_search_80 : decode cX5_search 80 = .ok (.iconst 1, 1) := by decide +kernel
theorem dX5_search_81 : decode cX5_search 81 = .ok (.istore_n 1, 1) := by decide +kernel
theorem dX5_search_82 : decode cX5_search 82 = .ok (.iinc 3 1, 3) := by decide +kernel
theorem dX5_search_85 : decode cX5_search 85 = .ok (.goto (-32), 3) := by decide +kernel
theorem dX5_search_88 : decode cX5_search 88 = .ok (.iinc 2 1, 3) := by decide +kernel
theorem dX5_search_91 : decode cX5_search 91 = .ok (.goto (-52), 3) := by decide +kernel
theorem dX5_search_94 : decode cX5_search 94 = .ok (.return_, 1) := by decide +kernel
theorem dX5_makesTrees_0 : decode cX5_makesTrees 0 = .ok (.iconst 1, 1) := by decide +kernel
theorem dX5_makesTrees_1 : decode cX5_makesTrees 1 = .ok (.istore_n 2, 1) := by decide +kernel
theorem dX5_makesTrees_2 : decode cX5_makesTrees 2 = .ok (.iload_n 2, 1) := by decide +kernel
theorem dX5_makesTrees_3 : decode cX5_makesTrees 3 = .ok (.aload_n 0, 1) := by decide +kernel
theorem dX5_makesTrees_4 : decode cX5_makesTrees 4 = .ok (.getfield 9, 3) := by decide +kernel
theorem dX5_makesTrees_7 : decode cX5_makesTrees 7 = .ok (.iload_n 1, 1) := by decide +kernel
theorem dX5_makesTrees_8 : decode cX5_makesTrees 8 = .ok (.invokevirtual 52, 3) := by decide +kernel
theorem dX5_makesTrees_11 : decode cX5_makesTrees 11 = .ok (.if_icmp .gt 30, 3) := by decide +kernel
theorem dX5_makesTrees_14 : decode cX5_makesTrees 14 = .ok (.aload_n 0, 1) := by decide +kernel
theorem dX5_makesTrees_15 : decode cX5_makesTrees 15 = .ok (.getfield 20, 3) := by decide +kernel
theorem dX5_makesTrees_18 : decode cX5_makesTrees 18 = .ok (.aload_n 0, 1) := by decide +kernel
theorem dX5_makesTrees_19 : decode cX5_makesTrees 19 = .ok (.getfield 9, 3) := by decide +kernel
theorem dX5_makesTrees_22 : decode cX5_makesTrees 22 = .ok (.iload_n 1, 1) := by decide +kernel
theorem dX5_makesTrees_23 : decode cX5_makesTrees 23 = .ok (.iload_n 2, 1) := by decide +kernel
theorem dX5_makesTrees_24 : decode cX5_makesTrees 24 = .ok (.invokevirtual 56, 3) := by decide +kernel
theorem dX5_makesTrees_27 : decode cX5_makesTrees 27 = .ok (.invokevirtual 60, 3) := by decide +kernel
theorem dX5_makesTrees_30 : decode cX5_makesTrees 30 = .ok (.ifCond .ne 5, 3) := by decide +kernel
theorem dX5_makesTrees_33 : decode cX5_makesTrees 33 = .ok (.iconst 0, 1) := by decide +kernel
theorem dX5_makesTrees_34 : decode cX5_makesTrees 34 = .ok (.ireturn, 1) := by decide +kernel
theorem dX5_makesTrees_35 : decode cX5_makesTrees 35 = .ok (.iinc 2 1, 3) := by decide +kernel
theorem dX5_makesTrees_38 : decode cX5_makesTrees 38 = .ok (.goto (-36), 3) := by decide +kernel
theorem dX5_makesTrees_41 : decode cX5_makesTrees 41 = .ok (.iconst 1, 1) := by decide +kernel
theorem dX5_makesTrees_42 : decode cX5_makesTrees 42 = .ok (.ireturn, 1) := by decide +kernel
theorem dX5_growBy_0 : decode cX5_growBy 0 = .ok (.aload_n 0, 1) := by decide +kernel
theorem dX5_growBy_1 : decode cX5_growBy 1 = .ok (.iload_n 1, 1) := by decide +kernel
theorem dX5_growBy_2 : decode cX5_growBy 2 = .ok (.invokevirtual 63, 3) := by decide +kernel
theorem dX5_growBy_5 : decode cX5_growBy 5 = .ok (.aload_n 0, 1) := by decide +kernel
theorem dX5_growBy_6 : decode cX5_growBy 6 = .ok (.iload_n 1, 1) := by decide +kernel
theorem dX5_growBy_7 : decode cX5_growBy 7 = .ok (.invokevirtual 66, 3) := by decide +kernel
theorem dX5_growBy_10 : decode cX5_growBy 10 = .ok (.iconst 0, 1) := by decide +kernel
theorem dX5_growBy_11 : decode cX5_growBy 11 = .ok (.istore_n 2, 1) := by decide +kernel
theorem dX5_growBy_12 : decode cX5_growBy 12 = .ok (.iload_n 2, 1) := by decide +kernel
theorem dX5_growBy_13 : decode cX5_growBy 13 = .ok (.bipush 15, 2) := by decide +kernel
theorem dX5_growBy_15 : decode cX5_growBy 15 = .ok (.if_icmp .ge 14, 3) := by decide +kernel
theorem dX5_growBy_18 : decode cX5_growBy 18 = .ok (.aload_n 0, 1) := by decide +kernel
theorem dX5_growBy_19 : decode cX5_growBy 19 = .ok (.iload_n 2, 1) := by decide +kernel
theorem dX5_growBy_20 : decode cX5_growBy 20 = .ok (.invokevirtual 69, 3) := by decide +kernel
theorem dX5_growBy_23 : decode cX5_growBy 23 = .ok (.iinc 2 1, 3) := by decide +kernel
theorem dX5_growBy_26 : decode cX5_growBy 26 = .ok (.goto (-14), 3) := by decide +kernel
theorem dX5_growBy_29 : decode cX5_growBy 29 = .ok (.iconst 0, 1) := by decide +kernel
theorem dX5_growBy_30 : decode cX5_growBy 30 = .ok (.istore_n 2, 1) := by decide +kernel
theorem dX5_growBy_31 : decode cX5_growBy 31 = .ok (.iload_n 2, 1) := by decide +kernel
theorem dX5_growBy_32 : decode cX5_growBy 32 = .ok (.bipush 15, 2) := by decide +kernel
theorem dX5_growBy_34 : decode cX5_growBy 34 = .ok (.if_icmp .ge 23, 3) := by decide +kernel
theorem dX5_growBy_37 : decode cX5_growBy 37 = .ok (.aload_n 0, 1) := by decide +kernel
theorem dX5_growBy_38 : decode cX5_growBy 38 = .ok (.iload_n 2, 1) := by decide +kernel
theorem dX5_growBy_39 : decode cX5_growBy 39 = .ok (.iload_n 2, 1) := by decide +kernel
theorem dX5_growBy_40 : decode cX5_growBy 40 = .ok (.invokevirtual 72, 3) := by decide +kernel
theorem dX5_growBy_43 : decode cX5_growBy 43 = .ok (.ifCond .eq 8, 3) := by decide +kernel
theorem dX5_growBy_46 : decode cX5_growBy 46 = .ok (.aload_n 0, 1) := by decide +kernel
theorem dX5_growBy_47 : decode cX5_growBy 47 = .ok (.iconst 1, 1) := by decide +kernel
theorem dX5_growBy_48 : decode cX5_growBy 48 = .ok (.putfield 27, 3) := by decide +kernel
theorem dX5_growBy_51 : decode cX5_growBy 51 = .ok (.iinc 2 1, 3) := by decide +kernel
theorem dX5_growBy_54 : decode cX5_growBy 54 = .ok (.goto (-23), 3) := by decide +kernel
theorem dX5_growBy_57 : decode cX5_growBy 57 = .ok (.aload_n 0, 1) := by decide +kernel
theorem dX5_growBy_58 : decode cX5_growBy 58 = .ok (.getfield 9, 3) := by decide +kernel
theorem dX5_growBy_61 : decode cX5_growBy 61 = .ok (.iload_n 1, 1) := by decide +kernel
theorem dX5_growBy_62 : decode cX5_growBy 62 = .ok (.invokevirtual 76, 3) := by decide +kernel
theorem dX5_growBy_65 : decode cX5_growBy 65 = .ok (.istore_n 2, 1) := by decide +kernel
theorem dX5_growBy_66 : decode cX5_growBy 66 = .ok (.aload_n 0, 1) := by decide +kernel
theorem dX5_growBy_67 : decode cX5_growBy 67 = .ok (.getfield 20, 3) := by decide +kernel
theorem dX5_growBy_70 : decode cX5_growBy 70 = .ok (.iload_n 2, 1) := by decide +kernel
theorem dX5_growBy_71 : decode cX5_growBy 71 = .ok (.invokevirtual 60, 3) := by decide +kernel
theorem dX5_growBy_74 : decode cX5_growBy 74 = .ok (.istore_n 3, 1) := by decide +kernel
theorem dX5_growBy_75 : decode cX5_growBy 75 = .ok (.iload_n 3, 1) := by decide +kernel
theorem dX5_growBy_76 : decode cX5_growBy 76 = .ok (.iconst 4, 1) := by decide +kernel
theorem dX5_growBy_77 : decode cX5_growBy 77 = .ok (.ior, 1) := by decide +kernel
theorem dX5_growBy_78 : decode cX5_growBy 78 = .ok (.aload_n 0, 1) := by decide +kernel
theorem dX5_growBy_79 : decode cX5_growBy 79 = .ok (.iconst 0, 1) := by decide +kernel
theorem dX5_growBy_80 : decode cX5_growBy 80 = .ok (.iconst 2, 1) := by decide +kernel
theorem dX5_growBy_81 : decode cX5_growBy 81 = .ok (.invokevirtual 72, 3) := by decide +kernel
theorem dX5_growBy_84 : decode cX5_growBy 84 = .ok (.ifCond .eq 7, 3) := by decide +kernel
theorem dX5_growBy_87 : decode cX5_growBy 87 = .ok (.iconst 1, 1) := by decide +kernel
theorem dX5_growBy_88 : decode cX5_growBy 88 = .ok (.goto 4, 3) := by decide +kernel
theorem dX5_growBy_91 : decode cX5_growBy 91 = .ok (.iconst 0, 1) := by decide +kernel
theorem dX5_growBy_92 : decode cX5_growBy 92 = .ok (.ior, 1) := by decide +kernel
theorem dX5_growBy_93 : decode cX5_growBy 93 = .ok (.aload_n 0, 1) := by decide +kernel
theorem dX5_growBy_94 : decode cX5_growBy 94 = .ok (.iconst 1, 1) := by decide +kernel
theorem dX5_growBy_95 : decode cX5_growBy 95 = .ok (.iconst 2, 1) := by decide +kernel
theorem dX5_growBy_96 : decode cX5_growBy 96 = .ok (.invokevirtual 72, 3) := by decide +kernel
theorem dX5_growBy_99 : decode cX5_growBy 99 = .ok (.ifCond .eq 7, 3) := by decide +kernel
theorem dX5_growBy_102 : decode cX5_growBy 102 = .ok (.iconst 2, 1) := by decide +kernel
theorem dX5_growBy_103 : decode cX5_growBy 103 = .ok (.goto 4, 3) := by decide +kernel
theorem dX5_growBy_106 : decode cX5_growBy 106 = .ok (.iconst 0, 1) := by decide +kernel
theorem dX5_growBy_107 : decode cX5_growBy 107 = .ok (.ior, 1) := by decide +kernel
theorem dX5_growBy_108 : decode cX5_growBy 108 = .ok (.istore 4, 2) := by decide +kernel
theorem dX5_growBy_110 : decode cX5_growBy 110 = .ok (.aload_n 0, 1) := by decide +kernel
theorem dX5_growBy_111 : decode cX5_growBy 111 = .ok (.getfield 20, 3) := by decide +kernel
theorem dX5_growBy_114 : decode cX5_growBy 114 = .ok (.iload_n 2, 1) := by decide +kernel
theorem dX5_growBy_115 : decode cX5_growBy 115 = .ok (.iload 4, 2) := by decide +kernel
theorem dX5_growBy_117 : decode cX5_growBy 117 = .ok (.invokevirtual 34, 3) := by decide +kernel
theorem dX5_growBy_120 : decode cX5_growBy 120 = .ok (.iload 4, 2) := by decide +kernel
theorem dX5_growBy_122 : decode cX5_growBy 122 = .ok (.iload_n 3, 1) := by decide +kernel
theorem dX5_growBy_123 : decode cX5_growBy 123 = .ok (.if_icmp .eq 7, 3) := by decide +kernel
theorem dX5_growBy_126 : decode cX5_growBy 126 = .ok (.iconst 1, 1) := by decide +kernel
theorem dX5_growBy_127 : decode cX5_growBy 127 = .ok (.goto 4, 3) := by decide +kernel
theorem dX5_growBy_130 : decode cX5_growBy 130 = .ok (.iconst 0, 1) := by decide +kernel
theorem dX5_growBy_131 : decode cX5_growBy 131 = .ok (.ireturn, 1) := by decide +kernel
theorem dX5_hangsOn_0 : decode cX5_hangsOn 0 = .ok (.aload_n 0, 1) := by decide +kernel
theorem dX5_hangsOn_1 : decode cX5_hangsOn 1 = .ok (.getfield 24, 3) := by decide +kernel
theorem dX5_hangsOn_4 : decode cX5_hangsOn 4 = .ok (.iload_n 1, 1) := by decide +kernel
theorem dX5_hangsOn_5 : decode cX5_hangsOn 5 = .ok (.invokevirtual 60, 3) := by decide +kernel
theorem dX5_hangsOn_8 : decode cX5_hangsOn 8 = .ok (.iload_n 2, 1) := by decide +kernel
theorem dX5_hangsOn_9 : decode cX5_hangsOn 9 = .ok (.ishr, 1) := by decide +kernel
theorem dX5_hangsOn_10 : decode cX5_hangsOn 10 = .ok (.iconst 1, 1) := by decide +kernel
theorem dX5_hangsOn_11 : decode cX5_hangsOn 11 = .ok (.iand, 1) := by decide +kernel
theorem dX5_hangsOn_12 : decode cX5_hangsOn 12 = .ok (.ifCond .eq 7, 3) := by decide +kernel
theorem dX5_hangsOn_15 : decode cX5_hangsOn 15 = .ok (.iconst 1, 1) := by decide +kernel
theorem dX5_hangsOn_16 : decode cX5_hangsOn 16 = .ok (.goto 4, 3) := by decide +kernel
theorem dX5_hangsOn_19 : decode cX5_hangsOn 19 = .ok (.iconst 0, 1) := by decide +kernel
theorem dX5_hangsOn_20 : decode cX5_hangsOn 20 = .ok (.ireturn, 1) := by decide +kernel
theorem dX5_readEquations_0 : decode cX5_readEquations 0 = .ok (.iconst 0, 1) := by decide +kernel
theorem dX5_readEquations_1 : decode cX5_readEquations 1 = .ok (.istore_n 2, 1) := by decide +kernel
theorem dX5_readEquations_2 : decode cX5_readEquations 2 = .ok (.iload_n 2, 1) := by decide +kernel
theorem dX5_readEquations_3 : decode cX5_readEquations 3 = .ok (.bipush 15, 2) := by decide +kernel
theorem dX5_readEquations_5 : decode cX5_readEquations 5 = .ok (.if_icmp .ge 76, 3) := by decide +kernel
theorem dX5_readEquations_8 : decode cX5_readEquations 8 = .ok (.aload_n 0, 1) := by decide +kernel
theorem dX5_readEquations_9 : decode cX5_readEquations 9 = .ok (.getfield 9, 3) := by decide +kernel
theorem dX5_readEquations_12 : decode cX5_readEquations 12 = .ok (.iload_n 1, 1) := by decide +kernel
theorem dX5_readEquations_13 : decode cX5_readEquations 13 = .ok (.iload_n 2, 1) := by decide +kernel
theorem dX5_readEquations_14 : decode cX5_readEquations 14 = .ok (.invokevirtual 79, 3) := by decide +kernel
theorem dX5_readEquations_17 : decode cX5_readEquations 17 = .ok (.istore_n 3, 1) := by decide +kernel
theorem dX5_readEquations_18 : decode cX5_readEquations 18 = .ok (.iload_n 3, 1) := by decide +kernel
theorem dX5_readEquations_19 : decode cX5_readEquations 19 = .ok (.iconst 1, 1) := by decide +kernel
theorem dX5_readEquations_20 : decode cX5_readEquations 20 = .ok (.if_icmp .lt 17, 3) := by decide +kernel
theorem dX5_readEquations_23 : decode cX5_readEquations 23 = .ok (.iconst 1, 1) := by decide +kernel
theorem dX5_readEquations_24 : decode cX5_readEquations 24 = .ok (.aload_n 0, 1) := by decide +kernel
theorem dX5_readEquations_25 : decode cX5_readEquations 25 = .ok (.getfield 9, 3) := by decide +kernel
theorem dX5_readEquations_28 : decode cX5_readEquations 28 = .ok (.iload_n 1, 1) := by decide +kernel
theorem dX5_readEquations_29 : decode cX5_readEquations 29 = .ok (.iload_n 2, 1) := by decide +kernel
theorem dX5_readEquations_30 : decode cX5_readEquations 30 = .ok (.invokevirtual 82, 3) := by decide +kernel
theorem dX5_readEquations_33 : decode cX5_readEquations 33 = .ok (.ishl, 1) := by decide +kernel
theorem dX5_readEquations_34 : decode cX5_readEquations 34 = .ok (.goto 4, 3) := by decide +kernel
theorem dX5_readEquations_37 : decode cX5_readEquations 37 = .ok (.iconst 0, 1) := by decide +kernel
theorem dX5_readEquations_38 : decode cX5_readEquations 38 = .ok (.istore 4, 2) := by decide +kernel
theorem dX5_readEquations_40 : decode cX5_readEquations 40 = .ok (.iload_n 3, 1) := by decide +kernel
theorem dX5_readEquations_41 : decode cX5_readEquations 41 = .ok (.iconst 2, 1) := by decide +kernel
theorem dX5_readEquations_42 : decode cX5_readEquations 42 = .ok (.if_icmp .lt 17, 3) := by decide +kernel
theorem dX5_readEquations_45 : decode cX5_readEquations 45 = .ok (.iconst 1, 1) := by decide +kernel
theorem dX5_readEquations_46 : decode cX5_readEquations 46 = .ok (.aload_n 0, 1) := by decide +kernel
theorem dX5_readEquations_47 : decode cX5_readEquations 47 = .ok (.getfield 9, 3) := by decide +kernel
theorem dX5_readEquations_50 : decode cX5_readEquations 50 = .ok (.iload_n 1, 1) := by decide +kernel
theorem dX5_readEquations_51 : decode cX5_readEquations 51 = .ok (.iload_n 2, 1) := by decide +kernel
theorem dX5_readEquations_52 : decode cX5_readEquations 52 = .ok (.invokevirtual 85, 3) := by decide +kernel
theorem dX5_readEquations_55 : decode cX5_readEquations 55 = .ok (.ishl, 1) := by decide +kernel
theorem dX5_readEquations_56 : decode cX5_readEquations 56 = .ok (.goto 4, 3) := by decide +kernel
theorem dX5_readEquations_59 : decode cX5_readEquations 59 = .ok (.iconst 0, 1) := by decide +kernel
theorem dX5_readEquations_60 : decode cX5_readEquations 60 = .ok (.istore 5, 2) := by decide +kernel
theorem dX5_readEquations_62 : decode cX5_readEquations 62 = .ok (.aload_n 0, 1) := by decide +kernel
theorem dX5_readEquations_63 : decode cX5_readEquations 63 = .ok (.getfield 24, 3) := by decide +kernel
theorem dX5_readEquations_66 : decode cX5_readEquations 66 = .ok (.iload_n 2, 1) := by decide +kernel
theorem dX5_readEquations_67 : decode cX5_readEquations 67 = .ok (.iload 4, 2) := by decide +kernel
theorem dX5_readEquations_69 : decode cX5_readEquations 69 = .ok (.iload 5, 2) := by decide +kernel
theorem dX5_readEquations_71 : decode cX5_readEquations 71 = .ok (.ior, 1) := by decide +kernel
theorem dX5_readEquations_72 : decode cX5_readEquations 72 = .ok (.invokevirtual 34, 3) := by decide +kernel
theorem dX5_readEquations_75 : decode cX5_readEquations 75 = .ok (.iinc 2 1, 3) := by decide +kernel
theorem dX5_readEquations_78 : decode cX5_readEquations 78 = .ok (.goto (-76), 3) := by decide +kernel
theorem dX5_readEquations_81 : decode cX5_readEquations 81 = .ok (.return_, 1) := by decide +kernel
theorem dX5_readChildren_0 : decode cX5_readChildren 0 = .ok (.iconst 1, 1) := by decide +kernel
theorem dX5_readChildren_1 : decode cX5_readChildren 1 = .ok (.istore_n 2, 1) := by decide +kernel
theorem dX5_readChildren_2 : decode cX5_readChildren 2 = .ok (.iload_n 2, 1) := by decide +kernel
theorem dX5_readChildren_3 : decode cX5_readChildren 3 = .ok (.aload_n 0, 1) := by decide +kernel
theorem dX5_readChildren_4 : decode cX5_readChildren 4 = .ok (.getfield 9, 3) := by decide +kernel
theorem dX5_readChildren_7 : decode cX5_readChildren 7 = .ok (.iload_n 1, 1) := by decide +kernel
theorem dX5_readChildren_8 : decode cX5_readChildren 8 = .ok (.invokevirtual 52, 3) := by decide +kernel
theorem dX5_readChildren_11 : decode cX5_readChildren 11 = .ok (.if_icmp .gt 83, 3) := by decide +kernel
theorem dX5_readChildren_14 : decode cX5_readChildren 14 = .ok (.aload_n 0, 1) := by decide +kernel
theorem dX5_readChildren_15 : decode cX5_readChildren 15 = .ok (.getfield 20, 3) := by decide +kernel
theorem dX5_readChildren_18 : decode cX5_readChildren 18 = .ok (.aload_n 0, 1) := by decide +kernel
theorem dX5_readChildren_19 : decode cX5_readChildren 19 = .ok (.getfield 9, 3) := by decide +kernel
theorem dX5_readChildren_22 : decode cX5_readChildren 22 = .ok (.iload_n 1, 1) := by decide +kernel
theorem dX5_readChildren_23 : decode cX5_readChildren 23 = .ok (.iload_n 2, 1) := by decide +kernel
theorem dX5_readChildren_24 : decode cX5_readChildren 24 = .ok (.invokevirtual 56, 3) := by decide +kernel
theorem dX5_readChildren_27 : decode cX5_readChildren 27 = .ok (.invokevirtual 60, 3) := by decide +kernel
theorem dX5_readChildren_30 : decode cX5_readChildren 30 = .ok (.istore_n 3, 1) := by decide +kernel
theorem dX5_readChildren_31 : decode cX5_readChildren 31 = .ok (.iload_n 2, 1) := by decide +kernel
theorem dX5_readChildren_32 : decode cX5_readChildren 32 = .ok (.iconst 3, 1) := by decide +kernel
theorem dX5_readChildren_33 : decode cX5_readChildren 33 = .ok (.imul, 1) := by decide +kernel
theorem dX5_readChildren_34 : decode cX5_readChildren 34 = .ok (.istore 4, 2) := by decide +kernel
theorem dX5_readChildren_36 : decode cX5_readChildren 36 = .ok (.iconst 1, 1) := by decide +kernel
theorem dX5_readChildren_37 : decode cX5_readChildren 37 = .ok (.iload 4, 2) := by decide +kernel
theorem dX5_readChildren_39 : decode cX5_readChildren 39 = .ok (.iconst 2, 1) := by decide +kernel
theorem dX5_readChildren_40 : decode cX5_readChildren 40 = .ok (.iadd, 1) := by decide +kernel
theorem dX5_readChildren_41 : decode cX5_readChildren 41 = .ok (.ishl, 1) := by decide +kernel
theorem dX5_readChildren_42 : decode cX5_readChildren 42 = .ok (.istore 5, 2) := by decide +kernel
theorem dX5_readChildren_44 : decode cX5_readChildren 44 = .ok (.aload_n 0, 1) := by decide +kernel
theorem dX5_readChildren_45 : decode cX5_readChildren 45 = .ok (.getfield 24, 3) := by decide +kernel
theorem dX5_readChildren_48 : decode cX5_readChildren 48 = .ok (.iload 4, 2) := by decide +kernel
theorem dX5_readChildren_50 : decode cX5_readChildren 50 = .ok (.iload_n 3, 1) := by decide +kernel
theorem dX5_readChildren_51 : decode cX5_readChildren 51 = .ok (.iconst 1, 1) := by decide +kernel
theorem dX5_readChildren_52 : decode cX5_readChildren 52 = .ok (.iand, 1) := by decide +kernel
theorem dX5_readChildren_53 : decode cX5_readChildren 53 = .ok (.ifCond .eq 8, 3) := by decide +kernel
theorem dX5_readChildren_56 : decode cX5_readChildren 56 = .ok (.iload 5, 2) := by decide +kernel
theorem dX5_readChildren_58 : decode cX5_readChildren 58 = .ok (.goto 4, 3) := by decide +kernel
theorem dX5_readChildren_61 : decode cX5_readChildren 61 = .ok (.iconst 0, 1) := by decide +kernel
theorem dX5_readChildren_62 : decode cX5_readChildren 62 = .ok (.invokevirtual 34, 3) := by decide +kernel
theorem dX5_readChildren_65 : decode cX5_readChildren 65 = .ok (.aload_n 0, 1) := by decide +kernel
theorem dX5_readChildren_66 : decode cX5_readChildren 66 = .ok (.getfield 24, 3) := by decide +kernel
theorem dX5_readChildren_69 : decode cX5_readChildren 69 = .ok (.iload 4, 2) := by decide +kernel
theorem dX5_readChildren_71 : decode cX5_readChildren 71 = .ok (.iconst 1, 1) := by decide +kernel
theorem dX5_readChildren_72 : decode cX5_readChildren 72 = .ok (.iadd, 1) := by decide +kernel
theorem dX5_readChildren_73 : decode cX5_readChildren 73 = .ok (.iload_n 3, 1) := by decide +kernel
theorem dX5_readChildren_74 : decode cX5_readChildren 74 = .ok (.iconst 2, 1) := by decide +kernel
theorem dX5_readChildren_75 : decode cX5_readChildren 75 = .ok (.iand, 1) := by decide +kernel
theorem dX5_readChildren_76 : decode cX5_readChildren 76 = .ok (.ifCond .eq 8, 3) := by decide +kernel
theorem dX5_readChildren_79 : decode cX5_readChildren 79 = .ok (.iload 5, 2) := by decide +kernel
theorem dX5_readChildren_81 : decode cX5_readChildren 81 = .ok (.goto 4, 3) := by decide +kernel
theorem dX5_readChildren_84 : decode cX5_readChildren 84 = .ok (.iconst 0, 1) := by decide +kernel
theorem dX5_readChildren_85 : decode cX5_readChildren 85 = .ok (.invokevirtual 34, 3) := by decide +kernel
theorem dX5_readChildren_88 : decode cX5_readChildren 88 = .ok (.iinc 2 1, 3) := by decide +kernel
theorem dX5_readChildren_91 : decode cX5_readChildren 91 = .ok (.goto (-89), 3) := by decide +kernel
theorem dX5_readChildren_94 : decode cX5_readChildren 94 = .ok (.return_, 1) := by decide +kernel
theorem dX5_passOn_0 : decode cX5_passOn 0 = .ok (.iconst 0, 1) := by decide +kernel
theorem dX5_passOn_1 : decode cX5_passOn 1 = .ok (.istore_n 2, 1) := by decide +kernel
theorem dX5_passOn_2 : decode cX5_passOn 2 = .ok (.iload_n 2, 1) := by decide +kernel
theorem dX5_passOn_3 : decode cX5_passOn 3 = .ok (.bipush 15, 2) := by decide +kernel
theorem dX5_passOn_5 : decode cX5_passOn 5 = .ok (.if_icmp .ge 43, 3) := by decide +kernel
theorem dX5_passOn_8 : decode cX5_passOn 8 = .ok (.aload_n 0, 1) := by decide +kernel
theorem dX5_passOn_9 : decode cX5_passOn 9 = .ok (.iload_n 2, 1) := by decide +kernel
theorem dX5_passOn_10 : decode cX5_passOn 10 = .ok (.iload_n 1, 1) := by decide +kernel
theorem dX5_passOn_11 : decode cX5_passOn 11 = .ok (.invokevirtual 72, 3) := by decide +kernel
theorem dX5_passOn_14 : decode cX5_passOn 14 = .ok (.ifCond .eq 28, 3) := by decide +kernel
theorem dX5_passOn_17 : decode cX5_passOn 17 = .ok (.aload_n 0, 1) := by decide +kernel
theorem dX5_passOn_18 : decode cX5_passOn 18 = .ok (.getfield 24, 3) := by decide +kernel
theorem dX5_passOn_21 : decode cX5_passOn 21 = .ok (.iload_n 2, 1) := by decide +kernel
theorem dX5_passOn_22 : decode cX5_passOn 22 = .ok (.aload_n 0, 1) := by decide +kernel
theorem dX5_passOn_23 : decode cX5_passOn 23 = .ok (.getfield 24, 3) := by decide +kernel
theorem dX5_passOn_26 : decode cX5_passOn 26 = .ok (.iload_n 2, 1) := by decide +kernel
theorem dX5_passOn_27 : decode cX5_passOn 27 = .ok (.invokevirtual 60, 3) := by decide +kernel
theorem dX5_passOn_30 : decode cX5_passOn 30 = .ok (.aload_n 0, 1) := by decide +kernel
theorem dX5_passOn_31 : decode cX5_passOn 31 = .ok (.getfield 24, 3) := by decide +kernel
theorem dX5_passOn_34 : decode cX5_passOn 34 = .ok (.iload_n 1, 1) := by decide +kernel
theorem dX5_passOn_35 : decode cX5_passOn 35 = .ok (.invokevirtual 60, 3) := by decide +kernel
theorem dX5_passOn_38 : decode cX5_passOn 38 = .ok (.ior, 1) := by decide +kernel
theorem dX5_passOn_39 : decode cX5_passOn 39 = .ok (.invokevirtual 34, 3) := by decide +kernel
theorem dX5_passOn_42 : decode cX5_passOn 42 = .ok (.iinc 2 1, 3) := by decide +kernel
theorem dX5_passOn_45 : decode cX5_passOn 45 = .ok (.goto (-43), 3) := by decide +kernel
theorem dX5_passOn_48 : decode cX5_passOn 48 = .ok (.return_, 1) := by decide +kernel
theorem dX6_init_0 : decode cX6_init 0 = .ok (.aload_n 0, 1) := by decide +kernel
theorem dX6_init_1 : decode cX6_init 1 = .ok (.invokespecial 1, 3) := by decide +kernel
theorem dX6_init_4 : decode cX6_init 4 = .ok (.aload_n 0, 1) := by decide +kernel
theorem dX6_init_5 : decode cX6_init 5 = .ok (.iconst 0, 1) := by decide +kernel
theorem dX6_init_6 : decode cX6_init 6 = .ok (.iload_n 1, 1) := by decide +kernel
theorem dX6_init_7 : decode cX6_init 7 = .ok (.invokestatic 7, 3) := by decide +kernel
theorem dX6_init_10 : decode cX6_init 10 = .ok (.newarray .int, 2) := by decide +kernel
theorem dX6_init_12 : decode cX6_init 12 = .ok (.putfield 13, 3) := by decide +kernel
theorem dX6_init_15 : decode cX6_init 15 = .ok (.return_, 1) := by decide +kernel
theorem dX6_get_0 : decode cX6_get 0 = .ok (.iload_n 1, 1) := by decide +kernel
theorem dX6_get_1 : decode cX6_get 1 = .ok (.ifCond .lt 21, 3) := by decide +kernel
theorem dX6_get_4 : decode cX6_get 4 = .ok (.iload_n 1, 1) := by decide +kernel
theorem dX6_get_5 : decode cX6_get 5 = .ok (.aload_n 0, 1) := by decide +kernel
theorem dX6_get_6 : decode cX6_get 6 = .ok (.getfield 13, 3) := by decide +kernel
theorem dX6_get_9 : decode cX6_get 9 = .ok (.arraylength, 1) := by decide +kernel
theorem dX6_get_10 : decode cX6_get 10 = .ok (.if_icmp .ge 12, 3) := by decide +kernel
theorem dX6_get_13 : decode cX6_get 13 = .ok (.aload_n 0, 1) := by decide +kernel
theorem dX6_get_14 : decode cX6_get 14 = .ok (.getfield 13, 3) := by decide +kernel
theorem dX6_get_17 : decode cX6_get 17 = .ok (.iload_n 1, 1) := by decide +kernel
theorem dX6_get_18 : decode cX6_get 18 = .ok (.iaload, 1) := by decide +kernel
theorem dX6_get_19 : decode cX6_get 19 = .ok (.goto 4, 3) := by decide +kernel
theorem dX6_get_22 : decode cX6_get 22 = .ok (.iconst 0, 1) := by decide +kernel
theorem dX6_get_23 : decode cX6_get 23 = .ok (.ireturn, 1) := by decide +kernel
theorem dX6_set_0 : decode cX6_set 0 = .ok (.iload_n 1, 1) := by decide +kernel
theorem dX6_set_1 : decode cX6_set 1 = .ok (.ifCond .lt 19, 3) := by decide +kernel
theorem dX6_set_4 : decode cX6_set 4 = .ok (.iload_n 1, 1) := by decide +kernel
theorem dX6_set_5 : decode cX6_set 5 = .ok (.aload_n 0, 1) := by decide +kernel
theorem dX6_set_6 : decode cX6_set 6 = .ok (.getfield 13, 3) := by decide +kernel
theorem dX6_set_9 : decode cX6_set 9 = .ok (.arraylength, 1) := by decide +kernel
theorem dX6_set_10 : decode cX6_set 10 = .ok (.if_icmp .ge 10, 3) := by decide +kernel
theorem dX6_set_13 : decode cX6_set 13 = .ok (.aload_n 0, 1) := by decide +kernel
theorem dX6_set_14 : decode cX6_set 14 = .ok (.getfield 13, 3) := by decide +kernel
theorem dX6_set_17 : decode cX6_set 17 = .ok (.iload_n 1, 1) := by decide +kernel
theorem dX6_set_18 : decode cX6_set 18 = .ok (.iload_n 2, 1) := by decide +kernel
theorem dX6_set_19 : decode cX6_set 19 = .ok (.iastore, 1) := by decide +kernel
theorem dX6_set_20 : decode cX6_set 20 = .ok (.return_, 1) := by decide +kernel
theorem dX6_wipe_0 : decode cX6_wipe 0 = .ok (.iconst 0, 1) := by decide +kernel
theorem dX6_wipe_1 : decode cX6_wipe 1 = .ok (.istore_n 1, 1) := by decide +kernel
theorem dX6_wipe_2 : decode cX6_wipe 2 = .ok (.iload_n 1, 1) := by decide +kernel
theorem dX6_wipe_3 : decode cX6_wipe 3 = .ok (.aload_n 0, 1) := by decide +kernel
theorem dX6_wipe_4 : decode cX6_wipe 4 = .ok (.getfield 13, 3) := by decide +kernel
theorem dX6_wipe_7 : decode cX6_wipe 7 = .ok (.arraylength, 1) := by decide +kernel
theorem dX6_wipe_8 : decode cX6_wipe 8 = .ok (.if_icmp .ge 16, 3) := by decide +kernel
theorem dX6_wipe_11 : decode cX6_wipe 11 = .ok (.aload_n 0, 1) := by decide +kernel
theorem dX6_wipe_12 : decode cX6_wipe 12 = .ok (.getfield 13, 3) := by decide +kernel
theorem dX6_wipe_15 : decode cX6_wipe 15 = .ok (.iload_n 1, 1) := by decide +kernel
theorem dX6_wipe_16 : decode cX6_wipe 16 = .ok (.iconst 0, 1) := by decide +kernel
theorem dX6_wipe_17 : decode cX6_wipe 17 = .ok (.iastore, 1) := by decide +kernel
theorem dX6_wipe_18 : decode cX6_wipe 18 = .ok (.iinc 1 1, 3) := by decide +kernel
theorem dX6_wipe_21 : decode cX6_wipe 21 = .ok (.goto (-19), 3) := by decide +kernel
theorem dX6_wipe_24 : decode cX6_wipe 24 = .ok (.return_, 1) := by decide +kernel
theorem dX7_init_0 : decode cX7_init 0 = .ok (.aload_n 0, 1) := by decide +kernel
theorem dX7_init_1 : decode cX7_init 1 = .ok (.invokespecial 3, 3) := by decide +kernel
theorem dX7_init_4 : decode cX7_init 4 = .ok (.aload_n 0, 1) := by decide +kernel
theorem dX7_init_5 : decode cX7_init 5 = .ok (.aload_n 1, 1) := by decide +kernel
theorem dX7_init_6 : decode cX7_init 6 = .ok (.putfield 9, 3) := by decide +kernel
theorem dX7_init_9 : decode cX7_init 9 = .ok (.aload_n 0, 1) := by decide +kernel
theorem dX7_init_10 : decode cX7_init 10 = .ok (.new 15, 3) := by decide +kernel
theorem dX7_init_13 : decode cX7_init 13 = .ok (.dup, 1) := by decide +kernel
theorem dX7_init_14 : decode cX7_init 14 = .ok (.bipush 50, 2) := by decide +kernel
theorem dX7_init_16 : decode cX7_init 16 = .ok (.invokespecial 17, 3) := by decide +kernel
theorem dX7_init_19 : decode cX7_init 19 = .ok (.putfield 20, 3) := by decide +kernel
theorem dX7_init_22 : decode cX7_init 22 = .ok (.aload_n 0, 1) := by decide +kernel
theorem dX7_init_23 : decode cX7_init 23 = .ok (.new 15, 3) := by decide +kernel
theorem dX7_init_26 : decode cX7_init 26 = .ok (.dup, 1) := by decide +kernel
theorem dX7_init_27 : decode cX7_init 27 = .ok (.bipush 14, 2) := by decide +kernel
theorem dX7_init_29 : decode cX7_init 29 = .ok (.invokespecial 17, 3) := by decide +kernel
theorem dX7_init_32 : decode cX7_init 32 = .ok (.putfield 24, 3) := by decide +kernel
theorem dX7_init_35 : decode cX7_init 35 = .ok (.aload_n 0, 1) := by decide +kernel
theorem dX7_init_36 : decode cX7_init 36 = .ok (.new 27, 3) := by decide +kernel
theorem dX7_init_39 : decode cX7_init 39 = .ok (.dup, 1) := by decide +kernel
theorem dX7_init_40 : decode cX7_init 40 = .ok (.bipush 50, 2) := by decide +kernel
theorem dX7_init_42 : decode cX7_init 42 = .ok (.bipush 75, 2) := by decide +kernel
theorem dX7_init_44 : decode cX7_init 44 = .ok (.invokespecial 29, 3) := by decide +kernel
theorem dX7_init_47 : decode cX7_init 47 = .ok (.putfield 32, 3) := by decide +kernel
theorem dX7_init_50 : decode cX7_init 50 = .ok (.aload_n 0, 1) := by decide +kernel
theorem dX7_init_51 : decode cX7_init 51 = .ok (.new 27, 3) := by decide +kernel
theorem dX7_init_54 : decode cX7_init 54 = .ok (.dup, 1) := by decide +kernel
theorem dX7_init_55 : decode cX7_init 55 = .ok (.bipush 50, 2) := by decide +kernel
theorem dX7_init_57 : decode cX7_init 57 = .ok (.bipush 14, 2) := by decide +kernel
theorem dX7_init_59 : decode cX7_init 59 = .ok (.invokespecial 29, 3) := by decide +kernel
theorem dX7_init_62 : decode cX7_init 62 = .ok (.putfield 36, 3) := by decide +kernel
theorem dX7_init_65 : decode cX7_init 65 = .ok (.aload_n 0, 1) := by decide +kernel
theorem dX7_init_66 : decode cX7_init 66 = .ok (.new 27, 3) := by decide +kernel
theorem dX7_init_69 : decode cX7_init 69 = .ok (.dup, 1) := by decide +kernel
theorem dX7_init_70 : decode cX7_init 70 = .ok (.bipush 50, 2) := by decide +kernel
theorem dX7_init_72 : decode cX7_init 72 = .ok (.bipush 7, 2) := by decide +kernel
theorem dX7_init_74 : decode cX7_init 74 = .ok (.invokespecial 29, 3) := by decide +kernel
theorem dX7_init_77 : decode cX7_init 77 = .ok (.putfield 39, 3) := by decide +kernel
theorem dX7_init_80 : decode cX7_init 80 = .ok (.aload_n 0, 1) := by decide +kernel
theorem dX7_init_81 : decode cX7_init 81 = .ok (.iconst 0, 1) := by decide +kernel
theorem dX7_init_82 : decode cX7_init 82 = .ok (.putfield 42, 3) := by decide +kernel
theorem dX7_init_85 : decode cX7_init 85 = .ok (.aload_n 0, 1) := by decide +kernel
theorem dX7_init_86 : decode cX7_init 86 = .ok (.iconst 0, 1) := by decide +kernel
theorem dX7_init_87 : decode cX7_init 87 = .ok (.putfield 46, 3) := by decide +kernel
theorem dX7_init_90 : decode cX7_init 90 = .ok (.return_, 1) := by decide +kernel
theorem dX7_size_0 : decode cX7_size 0 = .ok (.aload_n 0, 1) := by decide +kernel
theorem dX7_size_1 : decode cX7_size 1 = .ok (.getfield 42, 3) := by decide +kernel
theorem dX7_size_4 : decode cX7_size 4 = .ok (.ireturn, 1) := by decide +kernel
theorem dX7_conflicts_0 : decode cX7_conflicts 0 = .ok (.aload_n 0, 1) := by decide +kernel
theorem dX7_conflicts_1 : decode cX7_conflicts 1 = .ok (.getfield 46, 3) := by decide +kernel
theorem dX7_conflicts_4 : decode cX7_conflicts 4 = .ok (.ireturn, 1) := by decide +kernel
theorem dX7_target_0 : decode cX7_target 0 = .ok (.aload_n 0, 1) := by decide +kernel
theorem dX7_target_1 : decode cX7_target 1 = .ok (.getfield 36, 3) := by decide +kernel
theorem dX7_target_4 : decode cX7_target 4 = .ok (.iload_n 1, 1) := by decide +kernel
theorem dX7_target_5 : decode cX7_target 5 = .ok (.iload_n 2, 1) := by decide +kernel
theorem dX7_target_6 : decode cX7_target 6 = .ok (.invokevirtual 49, 3) := by decide +kernel
theorem dX7_target_9 : decode cX7_target 9 = .ok (.ireturn, 1) := by decide +kernel
theorem dX7_deedAt_0 : decode cX7_deedAt 0 = .ok (.aload_n 0, 1) := by decide +kernel
theorem dX7_deedAt_1 : decode cX7_deedAt 1 = .ok (.getfield 39, 3) := by decide +kernel
theorem dX7_deedAt_4 : decode cX7_deedAt 4 = .ok (.iload_n 1, 1) := by decide +kernel
theorem dX7_deedAt_5 : decode cX7_deedAt 5 = .ok (.iload_n 2, 1) := by decide +kernel
theorem dX7_deedAt_6 : decode cX7_deedAt 6 = .ok (.invokevirtual 49, 3) := by decide +kernel
theorem dX7_deedAt_9 : decode cX7_deedAt 9 = .ok (.ireturn, 1) := by decide +kernel
theorem dX7_lookaheadsAtEnd_0 : decode cX7_lookaheadsAtEnd 0 = .ok (.aload_n 0, 1) := by decide +kernel
theorem dX7_lookaheadsAtEnd_1 : decode cX7_lookaheadsAtEnd 1 = .ok (.getfield 32, 3) := by decide +kernel
theorem dX7_lookaheadsAtEnd_4 : decode cX7_lookaheadsAtEnd 4 = .ok (.iload_n 1, 1) := by decide +kernel
theorem dX7_lookaheadsAtEnd_5 : decode cX7_lookaheadsAtEnd 5 = .ok (.aload_n 0, 1) := by decide +kernel
theorem dX7_lookaheadsAtEnd_6 : decode cX7_lookaheadsAtEnd 6 = .ok (.iload_n 2, 1) := by decide +kernel
theorem dX7_lookaheadsAtEnd_7 : decode cX7_lookaheadsAtEnd 7 = .ok (.invokevirtual 53, 3) := by decide +kernel
theorem dX7_lookaheadsAtEnd_10 : decode cX7_lookaheadsAtEnd 10 = .ok (.invokevirtual 49, 3) := by decide +kernel
theorem dX7_lookaheadsAtEnd_13 : decode cX7_lookaheadsAtEnd 13 = .ok (.bipush 127, 2) := by decide +kernel
theorem dX7_lookaheadsAtEnd_15 : decode cX7_lookaheadsAtEnd 15 = .ok (.iand, 1) := by decide +kernel
theorem dX7_lookaheadsAtEnd_16 : decode cX7_lookaheadsAtEnd 16 = .ok (.ireturn, 1) := by decide +kernel
theorem dX7_endOf_0 : decode cX7_endOf 0 = .ok (.iload_n 1, 1) := by decide +kernel
theorem dX7_endOf_1 : decode cX7_endOf 1 = .ok (.iconst 5, 1) := by decide +kernel
theorem dX7_endOf_2 : decode cX7_endOf 2 = .ok (.imul, 1) := by decide +kernel
theorem dX7_endOf_3 : decode cX7_endOf 3 = .ok (.aload_n 0, 1) := by decide +kernel
theorem dX7_endOf_4 : decode cX7_endOf 4 = .ok (.getfield 9, 3) := by decide +kernel
theorem dX7_endOf_7 : decode cX7_endOf 7 = .ok (.iload_n 1, 1) := by decide +kernel
theorem dX7_endOf_8 : decode cX7_endOf 8 = .ok (.invokevirtual 57, 3) := by decide +kernel
theorem dX7_endOf_11 : decode cX7_endOf 11 = .ok (.iadd, 1) := by decide +kernel
theorem dX7_endOf_12 : decode cX7_endOf 12 = .ok (.ireturn, 1) := by decide +kernel
theorem dX7_symbolBehindDot_0 : decode cX7_symbolBehindDot 0 = .ok (.aload_n 0, 1) := by decide +kernel
theorem dX7_symbolBehindDot_1 : decode cX7_symbolBehindDot 1 = .ok (.getfield 9, 3) := by decide +kernel
theorem dX7_symbolBehindDot_4 : decode cX7_symbolBehindDot 4 = .ok (.iload_n 1, 1) := by decide +kernel
theorem dX7_symbolBehindDot_5 : decode cX7_symbolBehindDot 5 = .ok (.iconst 5, 1) := by decide +kernel
theorem dX7_symbolBehindDot_6 : decode cX7_symbolBehindDot 6 = .ok (.idiv, 1) := by decide +kernel
theorem dX7_symbolBehindDot_7 : decode cX7_symbolBehindDot 7 = .ok (.iload_n 1, 1) := by decide +kernel
theorem dX7_symbolBehindDot_8 : decode cX7_symbolBehindDot 8 = .ok (.iconst 5, 1) := by decide +kernel
theorem dX7_symbolBehindDot_9 : decode cX7_symbolBehindDot 9 = .ok (.irem, 1) := by decide +kernel
theorem dX7_symbolBehindDot_10 : decode cX7_symbolBehindDot 10 = .ok (.iconst 1, 1) := by decide +kernel
theorem dX7_symbolBehindDot_11 : decode cX7_symbolBehindDot 11 = .ok (.iadd, 1) := by decide +kernel
theorem dX7_symbolBehindDot_12 : decode cX7_symbolBehindDot 12 = .ok (.invokevirtual 62, 3) := by decide +kernel
theorem dX7_symbolBehindDot_15 : decode cX7_symbolBehindDot 15 = .ok (.ireturn, 1) := by decide +kernel
theorem dX7_kernelBit_0 : decode cX7_kernelBit 0 = .ok (.iload_n 0, 1) := by decide +kernel
theorem dX7_kernelBit_1 : decode cX7_kernelBit 1 = .ok (.iconst 5, 1) := by decide +kernel
theorem dX7_kernelBit_2 : decode cX7_kernelBit 2 = .ok (.irem, 1) := by decide +kernel
theorem dX7_kernelBit_3 : decode cX7_kernelBit 3 = .ok (.istore_n 1, 1) := by decide +kernel
theorem dX7_kernelBit_4 : decode cX7_kernelBit 4 = .ok (.iload_n 1, 1) := by decide +kernel
theorem dX7_kernelBit_5 : decode cX7_kernelBit 5 = .ok (.ifCond .ne 7, 3) := by decide +kernel
theorem dX7_kernelBit_8 : decode cX7_kernelBit 8 = .ok (.lconst 0, 1) := by decide +kernel
theorem dX7_kernelBit_9 : decode cX7_kernelBit 9 = .ok (.goto 14, 3) := by decide +kernel
theorem dX7_kernelBit_12 : decode cX7_kernelBit 12 = .ok (.lconst 1, 1) := by decide +kernel
theorem dX7_kernelBit_13 : decode cX7_kernelBit 13 = .ok (.iload_n 0, 1) := by decide +kernel
theorem dX7_kernelBit_14 : decode cX7_kernelBit 14 = .ok (.iconst 5, 1) := by decide +kernel
theorem dX7_kernelBit_15 : decode cX7_kernelBit 15 = .ok (.idiv, 1) := by decide +kernel
theorem dX7_kernelBit_16 : decode cX7_kernelBit 16 = .ok (.iconst 4, 1) := by decide +kernel
theorem dX7_kernelBit_17 : decode cX7_kernelBit 17 = .ok (.imul, 1) := by decide +kernel
theorem dX7_kernelBit_18 : decode cX7_kernelBit 18 = .ok (.iload_n 1, 1) := by decide +kernel
theorem dX7_kernelBit_19 : decode cX7_kernelBit 19 = .ok (.iadd, 1) := by decide +kernel
theorem dX7_kernelBit_20 : decode cX7_kernelBit 20 = .ok (.iconst 1, 1) := by decide +kernel
theorem dX7_kernelBit_21 : decode cX7_kernelBit 21 = .ok (.isub, 1) := by decide +kernel
theorem dX7_kernelBit_22 : decode cX7_kernelBit 22 = .ok (.lshl, 1) := by decide +kernel
theorem dX7_kernelBit_23 : decode cX7_kernelBit 23 = .ok (.lreturn, 1) := by decide +kernel
theorem dX7_findAll_0 : decode cX7_findAll 0 = .ok (.aload_n 0, 1) := by decide +kernel
theorem dX7_findAll_1 : decode cX7_findAll 1 = .ok (.iconst 0, 1) := by decide +kernel
theorem dX7_findAll_2 : decode cX7_findAll 2 = .ok (.putfield 42, 3) := by decide +kernel
theorem dX7_findAll_5 : decode cX7_findAll 5 = .ok (.aload_n 0, 1) := by decide +kernel
theorem dX7_findAll_6 : decode cX7_findAll 6 = .ok (.lconst 0, 1) := by decide +kernel
theorem dX7_findAll_7 : decode cX7_findAll 7 = .ok (.invokevirtual 65, 3) := by decide +kernel
theorem dX7_findAll_10 : decode cX7_findAll 10 = .ok (.iconst 0, 1) := by decide +kernel
theorem dX7_findAll_11 : decode cX7_findAll 11 = .ok (.istore_n 1, 1) := by decide +kernel
theorem dX7_findAll_12 : decode cX7_findAll 12 = .ok (.iload_n 1, 1) := by decide +kernel
theorem dX7_findAll_13 : decode cX7_findAll 13 = .ok (.aload_n 0, 1) := by decide +kernel
theorem dX7_findAll_14 : decode cX7_findAll 14 = .ok (.getfield 42, 3) := by decide +kernel
theorem dX7_findAll_17 : decode cX7_findAll 17 = .ok (.if_icmp .ge 85, 3) := by decide +kernel
theorem dX7_findAll_20 : decode cX7_findAll 20 = .ok (.iload_n 1, 1) := by decide +kernel
theorem dX7_findAll_21 : decode cX7_findAll 21 = .ok (.bipush 50, 2) := by decide +kernel
theorem dX7_findAll_23 : decode cX7_findAll 23 = .ok (.if_icmp .ge 79, 3) := by decide +kernel
theorem dX7_findAll_26 : decode cX7_findAll 26 = .ok (.aload_n 0, 1) := by decide +kernel
theorem dX7_findAll_27 : decode cX7_findAll 27 = .ok (.iload_n 1, 1) := by decide +kernel
theorem dX7_findAll_28 : decode cX7_findAll 28 = .ok (.invokevirtual 69, 3) := by decide +kernel
theorem dX7_findAll_31 : decode cX7_findAll 31 = .ok (.aload_n 0, 1) := by decide +kernel
theorem dX7_findAll_32 : decode cX7_findAll 32 = .ok (.iload_n 1, 1) := by decide +kernel
theorem dX7_findAll_33 : decode cX7_findAll 33 = .ok (.invokevirtual 72, 3) := by decide +kernel
theorem dX7_findAll_36 : decode cX7_findAll 36 = .ok (.iconst 1, 1) := by decide +kernel
theorem dX7_findAll_37 : decode cX7_findAll 37 = .ok (.istore_n 2, 1) := by decide +kernel
theorem dX7_findAll_38 : decode cX7_findAll 38 = .ok (.iload_n 2, 1) := by decide +kernel
theorem dX7_findAll_39 : decode cX7_findAll 39 = .ok (.bipush 14, 2) := by decide +kernel
theorem dX7_findAll_41 : decode cX7_findAll 41 = .ok (.if_icmp .ge 55, 3) := by decide +kernel
theorem dX7_findAll_44 : decode cX7_findAll 44 = .ok (.aload_n 0, 1) := by decide +kernel
theorem dX7_findAll_45 : decode cX7_findAll 45 = .ok (.getfield 24, 3) := by decide +kernel
theorem dX7_findAll_48 : decode cX7_findAll 48 = .ok (.iload_n 2, 1) := by decide +kernel
theorem dX7_findAll_49 : decode cX7_findAll 49 = .ok (.invokevirtual 75, 3) := by decide +kernel
theorem dX7_findAll_52 : decode cX7_findAll 52 = .ok (.lstore_n 3, 1) := by decide +kernel
theorem dX7_findAll_53 : decode cX7_findAll 53 = .ok (.lload_n 3, 1) := by decide +kernel
theorem dX7_findAll_54 : decode cX7_findAll 54 = .ok (.lconst 0, 1) := by decide +kernel
theorem dX7_findAll_55 : decode cX7_findAll 55 = .ok (.lcmp, 1) := by decide +kernel
theorem dX7_findAll_56 : decode cX7_findAll 56 = .ok (.ifCond .ne 7, 3) := by decide +kernel
theorem dX7_findAll_59 : decode cX7_findAll 59 = .ok (.iconst 0, 1) := by decide +kernel
theorem dX7_findAll_60 : decode cX7_findAll 60 = .ok (.goto 8, 3) := by decide +kernel
theorem dX7_findAll_63 : decode cX7_findAll 63 = .ok (.aload_n 0, 1) := by decide +kernel
theorem dX7_findAll_64 : decode cX7_findAll 64 = .ok (.lload_n 3, 1) := by decide +kernel
theorem dX7_findAll_65 : decode cX7_findAll 65 = .ok (.invokevirtual 78, 3) := by decide +kernel
theorem dX7_findAll_68 : decode cX7_findAll 68 = .ok (.istore 5, 2) := by decide +kernel
theorem dX7_findAll_70 : decode cX7_findAll 70 = .ok (.iload 5, 2) := by decide +kernel
theorem dX7_findAll_72 : decode cX7_findAll 72 = .ok (.bipush 50, 2) := by decide +kernel
theorem dX7_findAll_74 : decode cX7_findAll 74 = .ok (.if_icmp .lt 5, 3) := by decide +kernel
theorem dX7_findAll_77 : decode cX7_findAll 77 = .ok (.iconst 0, 1) := by decide +kernel
theorem dX7_findAll_78 : decode cX7_findAll 78 = .ok (.ireturn, 1) := by decide +kernel
theorem dX7_findAll_79 : decode cX7_findAll 79 = .ok (.aload_n 0, 1) := by decide +kernel
theorem dX7_findAll_80 : decode cX7_findAll 80 = .ok (.getfield 36, 3) := by decide +kernel
theorem dX7_findAll_83 : decode cX7_findAll 83 = .ok (.iload_n 1, 1) := by decide +kernel
theorem dX7_findAll_84 : decode cX7_findAll 84 = .ok (.iload_n 2, 1) := by decide +kernel
theorem dX7_findAll_85 : decode cX7_findAll 85 = .ok (.iload 5, 2) := by decide +kernel
theorem dX7_findAll_87 : decode cX7_findAll 87 = .ok (.invokevirtual 82, 3) := by decide +kernel
theorem dX7_findAll_90 : decode cX7_findAll 90 = .ok (.iinc 2 1, 3) := by decide +kernel
theorem dX7_findAll_93 : decode cX7_findAll 93 = .ok (.goto (-55), 3) := by decide +kernel
theorem dX7_findAll_96 : decode cX7_findAll 96 = .ok (.iinc 1 1, 3) := by decide +kernel
theorem dX7_findAll_99 : decode cX7_findAll 99 = .ok (.goto (-87), 3) := by decide +kernel
theorem dX7_findAll_102 : decode cX7_findAll 102 = .ok (.iconst 1, 1) := by decide +kernel
theorem dX7_findAll_103 : decode cX7_findAll 103 = .ok (.ireturn, 1) := by decide +kernel
theorem dX7_gatherNextKernels_0 : decode cX7_gatherNextKernels 0 = .ok (.aload_n 0, 1) := by decide +kernel
theorem dX7_gatherNextKernels_1 : decode cX7_gatherNextKernels 1 = .ok (.getfield 24, 3) := by decide +kernel
theorem dX7_gatherNextKernels_4 : decode cX7_gatherNextKernels 4 = .ok (.invokevirtual 86, 3) := by decide +kernel
theorem dX7_gatherNextKernels_7 : decode cX7_gatherNextKernels 7 = .ok (.iconst 0, 1) := by decide +kernel
theorem dX7_gatherNextKernels_8 : decode cX7_gatherNextKernels 8 = .ok (.istore_n 2, 1) := by decide +kernel
theorem dX7_gatherNextKernels_9 : decode cX7_gatherNextKernels 9 = .ok (.iload_n 2, 1) := by decide +kernel
theorem dX7_gatherNextKernels_10 : decode cX7_gatherNextKernels 10 = .ok (.bipush 75, 2) := by decide +kernel
theorem dX7_gatherNextKernels_12 : decode cX7_gatherNextKernels 12 = .ok (.if_icmp .ge 54, 3) := by decide +kernel
theorem dX7_gatherNextKernels_15 : decode cX7_gatherNextKernels 15 = .ok (.aload_n 0, 1) := by decide +kernel
theorem dX7_gatherNextKernels_16 : decode cX7_gatherNextKernels 16 = .ok (.getfield 32, 3) := by decide +kernel
theorem dX7_gatherNextKernels_19 : decode cX7_gatherNextKernels 19 = .ok (.iload_n 1, 1) := by decide +kernel
theorem dX7_gatherNextKernels_20 : decode cX7_gatherNextKernels 20 = .ok (.iload_n 2, 1) := by decide +kernel
theorem dX7_gatherNextKernels_21 : decode cX7_gatherNextKernels 21 = .ok (.invokevirtual 49, 3) := by decide +kernel
theorem dX7_gatherNextKernels_24 : decode cX7_gatherNextKernels 24 = .ok (.ifCond .eq 36, 3) := by decide +kernel
theorem dX7_gatherNextKernels_27 : decode cX7_gatherNextKernels 27 = .ok (.aload_n 0, 1) := by decide +kernel
theorem dX7_gatherNextKernels_28 : decode cX7_gatherNextKernels 28 = .ok (.iload_n 2, 1) := by decide +kernel
theorem dX7_gatherNextKernels_29 : decode cX7_gatherNextKernels 29 = .ok (.invokevirtual 89, 3) := by decide +kernel
theorem dX7_gatherNextKernels_32 : decode cX7_gatherNextKernels 32 = .ok (.istore_n 3, 1) := by decide +kernel
theorem dX7_gatherNextKernels_33 : decode cX7_gatherNextKernels 33 = .ok (.iload_n 3, 1) := by decide +kernel
theorem dX7_gatherNextKernels_34 : decode cX7_gatherNextKernels 34 = .ok (.ifCond .eq 26, 3) := by decide +kernel
theorem dX7_gatherNextKernels_37 : decode cX7_gatherNextKernels 37 = .ok (.aload_n 0, 1) := by decide +kernel
theorem dX7_gatherNextKernels_38 : decode cX7_gatherNextKernels 38 = .ok (.getfield 24, 3) := by decide +kernel
theorem dX7_gatherNextKernels_41 : decode cX7_gatherNextKernels 41 = .ok (.iload_n 3, 1) := by decide +kernel
theorem dX7_gatherNextKernels_42 : decode cX7_gatherNextKernels 42 = .ok (.aload_n 0, 1) := by decide +kernel
theorem dX7_gatherNextKernels_43 : decode cX7_gatherNextKernels 43 = .ok (.getfield 24, 3) := by decide +kernel
theorem dX7_gatherNextKernels_46 : decode cX7_gatherNextKernels 46 = .ok (.iload_n 3, 1) := by decide +kernel
theorem dX7_gatherNextKernels_47 : decode cX7_gatherNextKernels 47 = .ok (.invokevirtual 75, 3) := by decide +kernel
theorem dX7_gatherNextKernels_50 : decode cX7_gatherNextKernels 50 = .ok (.iload_n 2, 1) := by decide +kernel
theorem dX7_gatherNextKernels_51 : decode cX7_gatherNextKernels 51 = .ok (.iconst 1, 1) := by decide +kernel
theorem dX7_gatherNextKernels_52 : decode cX7_gatherNextKernels 52 = .ok (.iadd, 1) := by decide +kernel
theorem dX7_gatherNextKernels_53 : decode cX7_gatherNextKernels 53 = .ok (.invokestatic 92, 3) := by decide +kernel
theorem dX7_gatherNextKernels_56 : decode cX7_gatherNextKernels 56 = .ok (.lor, 1) := by decide +kernel
theorem dX7_gatherNextKernels_57 : decode cX7_gatherNextKernels 57 = .ok (.invokevirtual 95, 3) := by decide +kernel
theorem dX7_gatherNextKernels_60 : decode cX7_gatherNextKernels 60 = .ok (.iinc 2 1, 3) := by decide +kernel
theorem dX7_gatherNextKernels_63 : decode cX7_gatherNextKernels 63 = .ok (.goto (-54), 3) := by decide +kernel
theorem dX7_gatherNextKernels_66 : decode cX7_gatherNextKernels 66 = .ok (.return_, 1) := by decide +kernel
theorem dX7_stateWith_0 : decode cX7_stateWith 0 = .ok (.iconst 1, 1) := by decide +kernel
theorem dX7_stateWith_1 : decode cX7_stateWith 1 = .ok (.istore_n 3, 1) := by decide +kernel
theorem dX7_stateWith_2 : decode cX7_stateWith 2 = .ok (.iload_n 3, 1) := by decide +kernel
theorem dX7_stateWith_3 : decode cX7_stateWith 3 = .ok (.aload_n 0, 1) := by decide +kernel
theorem dX7_stateWith_4 : decode cX7_stateWith 4 = .ok (.getfield 42, 3) := by decide +kernel
theorem dX7_stateWith_7 : decode cX7_stateWith 7 = .ok (.if_icmp .ge 24, 3) := by decide +kernel
theorem dX7_stateWith_10 : decode cX7_stateWith 10 = .ok (.aload_n 0, 1) := by decide +kernel
theorem dX7_stateWith_11 : decode cX7_stateWith 11 = .ok (.getfield 20, 3) := by decide +kernel
theorem dX7_stateWith_14 : decode cX7_stateWith 14 = .ok (.iload_n 3, 1) := by decide +kernel
theorem dX7_stateWith_15 : decode cX7_stateWith 15 = .ok (.invokevirtual 75, 3) := by decide +kernel
theorem dX7_stateWith_18 : decode cX7_stateWith 18 = .ok (.lload_n 1, 1) := by decide +kernel
theorem dX7_stateWith_19 : decode cX7_stateWith 19 = .ok (.lcmp, 1) := by decide +kernel
theorem dX7_stateWith_20 : decode cX7_stateWith 20 = .ok (.ifCond .ne 5, 3) := by decide +kernel
theorem dX7_stateWith_23 : decode cX7_stateWith 23 = .ok (.iload_n 3, 1) := by decide +kernel
theorem dX7_stateWith_24 : decode cX7_stateWith 24 = .ok (.ireturn, 1) := by decide +kernel
theorem dX7_stateWith_25 : decode cX7_stateWith 25 = .ok (.iinc 3 1, 3) := by decide +kernel
theorem dX7_stateWith_28 : decode cX7_stateWith 28 = .ok (.goto (-26), 3) := by decide +kernel
theorem dX7_stateWith_31 : decode cX7_stateWith 31 = .ok (.aload_n 0, 1) := by decide +kernel
theorem dX7_stateWith_32 : decode cX7_stateWith 32 = .ok (.getfield 42, 3) := by decide +kernel
theorem dX7_stateWith_35 : decode cX7_stateWith 35 = .ok (.istore_n 3, 1) := by decide +kernel
theorem dX7_stateWith_36 : decode cX7_stateWith 36 = .ok (.iload_n 3, 1) := by decide +kernel
theorem dX7_stateWith_37 : decode cX7_stateWith 37 = .ok (.bipush 50, 2) := by decide +kernel
theorem dX7_stateWith_39 : decode cX7_stateWith 39 = .ok (.if_icmp .ge 8, 3) := by decide +kernel
theorem dX7_stateWith_42 : decode cX7_stateWith 42 = .ok (.aload_n 0, 1) := by decide +kernel
theorem dX7_stateWith_43 : decode cX7_stateWith 43 = .ok (.lload_n 1, 1) := by decide +kernel
theorem dX7_stateWith_44 : decode cX7_stateWith 44 = .ok (.invokevirtual 65, 3) := by decide +kernel
theorem dX7_stateWith_47 : decode cX7_stateWith 47 = .ok (.iload_n 3, 1) := by decide +kernel
theorem dX7_stateWith_48 : decode cX7_stateWith 48 = .ok (.ireturn, 1) := by decide +kernel
theorem dX7_enter_0 : decode cX7_enter 0 = .ok (.aload_n 0, 1) := by decide +kernel
theorem dX7_enter_1 : decode cX7_enter 1 = .ok (.getfield 42, 3) := by decide +kernel
theorem dX7_enter_4 : decode cX7_enter 4 = .ok (.istore_n 3, 1) := by decide +kernel
theorem dX7_enter_5 : decode cX7_enter 5 = .ok (.aload_n 0, 1) := by decide +kernel
theorem dX7_enter_6 : decode cX7_enter 6 = .ok (.getfield 20, 3) := by decide +kernel
theorem dX7_enter_9 : decode cX7_enter 9 = .ok (.iload_n 3, 1) := by decide +kernel
theorem dX7_enter_10 : decode cX7_enter 10 = .ok (.lload_n 1, 1) := by decide +kernel
theorem dX7_enter_11 : decode cX7_enter 11 = .ok (.invokevirtual 95, 3) := by decide +kernel
theorem dX7_enter_14 : decode cX7_enter 14 = .ok (.iconst 0, 1) := by decide +kernel
theorem dX7_enter_15 : decode cX7_enter 15 = .ok (.istore 4, 2) := by decide +kernel
theorem dX7_enter_17 : decode cX7_enter 17 = .ok (.iload 4, 2) := by decide +kernel
theorem dX7_enter_19 : decode cX7_enter 19 = .ok (.bipush 75, 2) := by decide +kernel
theorem dX7_enter_21 : decode cX7_enter 21 = .ok (.if_icmp .ge 38, 3) := by decide +kernel
theorem dX7_enter_24 : decode cX7_enter 24 = .ok (.aload_n 0, 1) := by decide +kernel
theorem dX7_enter_25 : decode cX7_enter 25 = .ok (.getfield 32, 3) := by decide +kernel
theorem dX7_enter_28 : decode cX7_enter 28 = .ok (.iload_n 3, 1) := by decide +kernel
theorem dX7_enter_29 : decode cX7_enter 29 = .ok (.iload 4, 2) := by decide +kernel
theorem dX7_enter_31 : decode cX7_enter 31 = .ok (.lload_n 1, 1) := by decide +kernel
theorem dX7_enter_32 : decode cX7_enter 32 = .ok (.iload 4, 2) := by decide +kernel
theorem dX7_enter_34 : decode cX7_enter 34 = .ok (.invokestatic 92, 3) := by decide +kernel
theorem dX7_enter_37 : decode cX7_enter 37 = .ok (.land, 1) := by decide +kernel
theorem dX7_enter_38 : decode cX7_enter 38 = .ok (.lconst 0, 1) := by decide +kernel
theorem dX7_enter_39 : decode cX7_enter 39 = .ok (.lcmp, 1) := by decide +kernel
theorem dX7_enter_40 : decode cX7_enter 40 = .ok (.ifCond .eq 9, 3) := by decide +kernel
theorem dX7_enter_43 : decode cX7_enter 43 = .ok (.sipush 128, 3) := by decide +kernel
theorem dX7_enter_46 : decode cX7_enter 46 = .ok (.goto 4, 3) := by decide +kernel
theorem dX7_enter_49 : decode cX7_enter 49 = .ok (.iconst 0, 1) := by decide +kernel
theorem dX7_enter_50 : decode cX7_enter 50 = .ok (.invokevirtual 82, 3) := by decide +kernel
theorem dX7_enter_53 : decode cX7_enter 53 = .ok (.iinc 4 1, 3) := by decide +kernel
theorem dX7_enter_56 : decode cX7_enter 56 = .ok (.goto (-39), 3) := by decide +kernel
theorem dX7_enter_59 : decode cX7_enter 59 = .ok (.iload_n 3, 1) := by decide +kernel
theorem dX7_enter_60 : decode cX7_enter 60 = .ok (.ifCond .ne 16, 3) := by decide +kernel
theorem dX7_enter_63 : decode cX7_enter 63 = .ok (.aload_n 0, 1) := by decide +kernel
theorem dX7_enter_64 : decode cX7_enter 64 = .ok (.getfield 32, 3) := by decide +kernel
theorem dX7_enter_67 : decode cX7_enter 67 = .ok (.iload_n 3, 1) := by decide +kernel
theorem dX7_enter_68 : decode cX7_enter 68 = .ok (.bipush 70, 2) := by decide +kernel
theorem dX7_enter_70 : decode cX7_enter 70 = .ok (.sipush 128, 3) := by decide +kernel
theorem dX7_enter_73 : decode cX7_enter 73 = .ok (.invokevirtual 82, 3) := by decide +kernel
theorem dX7_enter_76 : decode cX7_enter 76 = .ok (.aload_n 0, 1) := by decide +kernel
theorem dX7_enter_77 : decode cX7_enter 77 = .ok (.dup, 1) := by decide +kernel
theorem dX7_enter_78 : decode cX7_enter 78 = .ok (.getfield 42, 3) := by decide +kernel
theorem dX7_enter_81 : decode cX7_enter 81 = .ok (.iconst 1, 1) := by decide +kernel
theorem dX7_enter_82 : decode cX7_enter 82 = .ok (.iadd, 1) := by decide +kernel
theorem dX7_enter_83 : decode cX7_enter 83 = .ok (.putfield 42, 3) := by decide +kernel
theorem dX7_enter_86 : decode cX7_enter 86 = .ok (.return_, 1) := by decide +kernel
theorem dX7_close_0 : decode cX7_close 0 = .ok (.iconst 1, 1) := by decide +kernel
theorem dX7_close_1 : decode cX7_close 1 = .ok (.istore_n 2, 1) := by decide +kernel
theorem dX7_close_2 : decode cX7_close 2 = .ok (.iconst 0, 1) := by decide +kernel
theorem dX7_close_3 : decode cX7_close 3 = .ok (.istore_n 3, 1) := by decide +kernel
theorem dX7_close_4 : decode cX7_close 4 = .ok (.iload_n 3, 1) := by decide +kernel
theorem dX7_close_5 : decode cX7_close 5 = .ok (.ldc 98, 2) := by decide +kernel
theorem dX7_close_7 : decode cX7_close 7 = .ok (.if_icmp .ge 75, 3) := by decide +kernel
theorem dX7_close_10 : decode cX7_close 10 = .ok (.iload_n 2, 1) := by decide +kernel
theorem dX7_close_11 : decode cX7_close 11 = .ok (.ifCond .eq 71, 3) := by decide +kernel
theorem dX7_close_14 : decode cX7_close 14 = .ok (.iconst 0, 1) := by decide +kernel
theorem dX7_close_15 : decode cX7_close 15 = .ok (.istore_n 2, 1) := by decide +kernel
theorem dX7_close_16 : decode cX7_close 16 = .ok (.iconst 0, 1) := by decide +kernel
theorem dX7_close_17 : decode cX7_close 17 = .ok (.istore 4, 2) := by decide +kernel
theorem dX7_close_19 : decode cX7_close 19 = .ok (.iload 4, 2) := by decide +kernel
theorem dX7_close_21 : decode cX7_close 21 = .ok (.bipush 75, 2) := by decide +kernel
theorem dX7_close_23 : decode cX7_close 23 = .ok (.if_icmp .ge 53, 3) := by decide +kernel
theorem dX7_close_26 : decode cX7_close 26 = .ok (.aload_n 0, 1) := by decide +kernel
theorem dX7_close_27 : decode cX7_close 27 = .ok (.getfield 32, 3) := by decide +kernel
theorem dX7_close_30 : decode cX7_close 30 = .ok (.iload_n 1, 1) := by decide +kernel
theorem dX7_close_31 : decode cX7_close 31 = .ok (.iload 4, 2) := by decide +kernel
theorem dX7_close_33 : decode cX7_close 33 = .ok (.invokevirtual 49, 3) := by decide +kernel
theorem dX7_close_36 : decode cX7_close 36 = .ok (.ifCond .eq 7, 3) := by decide +kernel
theorem dX7_close_39 : decode cX7_close 39 = .ok (.iconst 1, 1) := by decide +kernel
theorem dX7_close_40 : decode cX7_close 40 = .ok (.goto 4, 3) := by decide +kernel
theorem dX7_close_43 : decode cX7_close 43 = .ok (.iconst 0, 1) := by decide +kernel
theorem dX7_close_44 : decode cX7_close 44 = .ok (.istore 5, 2) := by decide +kernel
theorem dX7_close_46 : decode cX7_close 46 = .ok (.iload 5, 2) := by decide +kernel
theorem dX7_close_48 : decode cX7_close 48 = .ok (.ifCond .eq 22, 3) := by decide +kernel
theorem dX7_close_51 : decode cX7_close 51 = .ok (.aload_n 0, 1) := by decide +kernel
theorem dX7_close_52 : decode cX7_close 52 = .ok (.aload_n 0, 1) := by decide +kernel
theorem dX7_close_53 : decode cX7_close 53 = .ok (.iload 4, 2) := by decide +kernel
theorem dX7_close_55 : decode cX7_close 55 = .ok (.invokevirtual 89, 3) := by decide +kernel
theorem dX7_close_58 : decode cX7_close 58 = .ok (.iload_n 1, 1) := by decide +kernel
theorem dX7_close_59 : decode cX7_close 59 = .ok (.sipush 128, 3) := by decide +kernel
theorem dX7_close_62 : decode cX7_close 62 = .ok (.invokevirtual 99, 3) := by decide +kernel
theorem dX7_close_65 : decode cX7_close 65 = .ok (.ifCond .eq 5, 3) := by decide +kernel
theorem dX7_close_68 : decode cX7_close 68 = .ok (.iconst 1, 1) := by decide +kernel
theorem dX7_close_69 : decode cX7_close 69 = .ok (.istore_n 2, 1) := by decide +kernel
theorem dX7_close_70 : decode cX7_close 70 = .ok (.iinc 4 1, 3) := by decide +kernel
theorem dX7_close_73 : decode cX7_close 73 = .ok (.goto (-54), 3) := by decide +kernel
theorem dX7_close_76 : decode cX7_close 76 = .ok (.iinc 3 1, 3) := by decide +kernel
theorem dX7_close_79 : decode cX7_close 79 = .ok (.goto (-75), 3) := by decide +kernel
theorem dX7_close_82 : decode cX7_close 82 = .ok (.return_, 1) := by decide +kernel
theorem dX7_giveToRulesOf_0 : decode cX7_giveToRulesOf 0 = .ok (.iconst 0, 1) := by decide +kernel
theorem dX7_giveToRulesOf_1 : decode cX7_giveToRulesOf 1 = .ok (.istore 4, 2) := by decide +kernel
theorem dX7_giveToRulesOf_3 : decode cX7_giveToRulesOf 3 = .ok (.iconst 0, 1) := by decide +kernel
theorem dX7_giveToRulesOf_4 : decode cX7_giveToRulesOf 4 = .ok (.istore 5, 2) := by decide +kernel
theorem dX7_giveToRulesOf_6 : decode cX7_giveToRulesOf 6 = .ok (.iload 5, 2) := by decide +kernel
theorem dX7_giveToRulesOf_8 : decode cX7_giveToRulesOf 8 = .ok (.aload_n 0, 1) := by decide +kernel
theorem dX7_giveToRulesOf_9 : decode cX7_giveToRulesOf 9 = .ok (.getfield 9, 3) := by decide +kernel
theorem dX7_giveToRulesOf_12 : decode cX7_giveToRulesOf 12 = .ok (.invokevirtual 103, 3) := by decide +kernel
theorem dX7_giveToRulesOf_15 : decode cX7_giveToRulesOf 15 = .ok (.if_icmp .ge 38, 3) := by decide +kernel
theorem dX7_giveToRulesOf_18 : decode cX7_giveToRulesOf 18 = .ok (.aload_n 0, 1) := by decide +kernel
theorem dX7_giveToRulesOf_19 : decode cX7_giveToRulesOf 19 = .ok (.getfield 9, 3) := by decide +kernel
theorem dX7_giveToRulesOf_22 : decode cX7_giveToRulesOf 22 = .ok (.iload 5, 2) := by decide +kernel
theorem dX7_giveToRulesOf_24 : decode cX7_giveToRulesOf 24 = .ok (.invokevirtual 106, 3) := by decide +kernel
theorem dX7_giveToRulesOf_27 : decode cX7_giveToRulesOf 27 = .ok (.iload_n 1, 1) := by decide +kernel
theorem dX7_giveToRulesOf_28 : decode cX7_giveToRulesOf 28 = .ok (.if_icmp .ne 19, 3) := by decide +kernel
theorem dX7_giveToRulesOf_31 : decode cX7_giveToRulesOf 31 = .ok (.aload_n 0, 1) := by decide +kernel
theorem dX7_giveToRulesOf_32 : decode cX7_giveToRulesOf 32 = .ok (.iload_n 2, 1) := by decide +kernel
theorem dX7_giveToRulesOf_33 : decode cX7_giveToRulesOf 33 = .ok (.iload 5, 2) := by decide +kernel
theorem dX7_giveToRulesOf_35 : decode cX7_giveToRulesOf 35 = .ok (.iconst 5, 1) := by decide +kernel
theorem dX7_giveToRulesOf_36 : decode cX7_giveToRulesOf 36 = .ok (.imul, 1) := by decide +kernel
theorem dX7_giveToRulesOf_37 : decode cX7_giveToRulesOf 37 = .ok (.iload_n 3, 1) := by decide +kernel
theorem dX7_giveToRulesOf_38 : decode cX7_giveToRulesOf 38 = .ok (.invokevirtual 109, 3) := by decide +kernel
theorem dX7_giveToRulesOf_41 : decode cX7_giveToRulesOf 41 = .ok (.ifCond .eq 6, 3) := by decide +kernel
theorem dX7_giveToRulesOf_44 : decode cX7_giveToRulesOf 44 = .ok (.iconst 1, 1) := by decide +kernel
theorem dX7_giveToRulesOf_45 : decode cX7_giveToRulesOf 45 = .ok (.istore 4, 2) := by decide +kernel
theorem dX7_giveToRulesOf_47 : decode cX7_giveToRulesOf 47 = .ok (.iinc 5 1, 3) := by decide +kernel
theorem dX7_giveToRulesOf_50 : decode cX7_giveToRulesOf 50 = .ok (.goto (-44), 3) := by decide +kernel
theorem dX7_giveToRulesOf_53 : decode cX7_giveToRulesOf 53 = .ok (.iload 4, 2) := by decide +kernel
theorem dX7_giveToRulesOf_55 : decode cX7_giveToRulesOf 55 = .ok (.ireturn, 1) := by decide +kernel
theorem dX7_give_0 : decode cX7_give 0 = .ok (.aload_n 0, 1) := by decide +kernel
theorem dX7_give_1 : decode cX7_give 1 = .ok (.getfield 32, 3) := by decide +kernel
theorem dX7_give_4 : decode cX7_give 4 = .ok (.iload_n 1, 1) := by decide +kernel
theorem dX7_give_5 : decode cX7_give 5 = .ok (.iload_n 2, 1) := by decide +kernel
theorem dX7_give_6 : decode cX7_give 6 = .ok (.invokevirtual 49, 3) := by decide +kernel
theorem dX7_give_9 : decode cX7_give 9 = .ok (.istore 4, 2) := by decide +kernel
theorem dX7_give_11 : decode cX7_give 11 = .ok (.aload_n 0, 1) := by decide +kernel
theorem dX7_give_12 : decode cX7_give 12 = .ok (.getfield 32, 3) := by decide +kernel
theorem dX7_give_15 : decode cX7_give 15 = .ok (.iload_n 1, 1) := by decide +kernel
theorem dX7_give_16 : decode cX7_give 16 = .ok (.iload_n 2, 1) := by decide +kernel
theorem dX7_give_17 : decode cX7_give 17 = .ok (.iload 4, 2) := by decide +kernel
theorem dX7_give_19 : decode cX7_give 19 = .ok (.iload_n 3, 1) := by decide +kernel
theorem dX7_give_20 : decode cX7_give 20 = .ok (.ior, 1) := by decide +kernel
theorem dX7_give_21 : decode cX7_give 21 = .ok (.invokevirtual 82, 3) := by decide +kernel
theorem dX7_give_24 : decode cX7_give 24 = .ok (.iload 4, 2) := by decide +kernel
theorem dX7_give_26 : decode cX7_give 26 = .ok (.iload_n 3, 1) := by decide +kernel
theorem dX7_give_27 : decode cX7_give 27 = .ok (.ior, 1) := by decide +kernel
theorem dX7_give_28 : decode cX7_give 28 = .ok (.iload 4, 2) := by decide +kernel
theorem dX7_give_30 : decode cX7_give 30 = .ok (.if_icmp .eq 7, 3) := by decide +kernel
theorem dX7_give_33 : decode cX7_give 33 = .ok (.iconst 1, 1) := by decide +kernel
theorem dX7_give_34 : decode cX7_give 34 = .ok (.goto 4, 3) := by decide +kernel
theorem dX7_give_37 : decode cX7_give 37 = .ok (.iconst 0, 1) := by decide +kernel
theorem dX7_give_38 : decode cX7_give 38 = .ok (.ireturn, 1) := by decide +kernel
theorem dX7_spreadLookaheads_0 : decode cX7_spreadLookaheads 0 = .ok (.aload_n 0, 1) := by decide +kernel
theorem dX7_spreadLookaheads_1 : decode cX7_spreadLookaheads 1 = .ok (.iconst 0, 1) := by decide +kernel
theorem dX7_spreadLookaheads_2 : decode cX7_spreadLookaheads 2 = .ok (.bipush 70, 2) := by decide +kernel
theorem dX7_spreadLookaheads_4 : decode cX7_spreadLookaheads 4 = .ok (.iconst 1, 1) := by decide +kernel
theorem dX7_spreadLookaheads_5 : decode cX7_spreadLookaheads 5 = .ok (.invokevirtual 109, 3) := by decide +kernel
theorem dX7_spreadLookaheads_8 : decode cX7_spreadLookaheads 8 = .ok (.pop, 1) := by decide +kernel
theorem dX7_spreadLookaheads_9 : decode cX7_spreadLookaheads 9 = .ok (.iconst 1, 1) := by decide +kernel
theorem dX7_spreadLookaheads_10 : decode cX7_spreadLookaheads 10 = .ok (.istore_n 1, 1) := by decide +kernel
theorem dX7_spreadLookaheads_11 : decode cX7_spreadLookaheads 11 = .ok (.iconst 0, 1) := by decide +kernel
theorem dX7_spreadLookaheads_12 : decode cX7_spreadLookaheads 12 = .ok (.istore_n 2, 1) := by decide +kernel
theorem dX7_spreadLookaheads_13 : decode cX7_spreadLookaheads 13 = .ok (.iload_n 2, 1) := by decide +kernel
theorem dX7_spreadLookaheads_14 : decode cX7_spreadLookaheads 14 = .ok (.ldc 98, 2) := by decide +kernel
theorem dX7_spreadLookaheads_16 : decode cX7_spreadLookaheads 16 = .ok (.if_icmp .ge 72, 3) := by decide +kernel
theorem dX7_spreadLookaheads_19 : decode cX7_spreadLookaheads 19 = .ok (.iload_n 1, 1) := by decide +kernel
theorem dX7_spreadLookaheads_20 : decode cX7_spreadLookaheads 20 = .ok (.ifCond .eq 68, 3) := by decide +kernel
theorem dX7_spreadLookaheads_23 : decode cX7_spreadLookaheads 23 = .ok (.iconst 0, 1) := by decide +kernel
theorem dX7_spreadLookaheads_24 : decode cX7_spreadLookaheads 24 = .ok (.istore_n 1, 1) := by decide +kernel
theorem dX7_spreadLookaheads_25 : decode cX7_spreadLookaheads 25 = .ok (.iconst 0, 1) := by decide +kernel
theorem dX7_spreadLookaheads_26 : decode cX7_spreadLookaheads 26 = .ok (.istore_n 3, 1) := by decide +kernel
theorem dX7_spreadLookaheads_27 : decode cX7_spreadLookaheads 27 = .ok (.iload_n 3, 1) := by decide +kernel
theorem dX7_spreadLookaheads_28 : decode cX7_spreadLookaheads 28 = .ok (.aload_n 0, 1) := by decide +kernel
theorem dX7_spreadLookaheads_29 : decode cX7_spreadLookaheads 29 = .ok (.getfield 42, 3) := by decide +kernel
theorem dX7_spreadLookaheads_32 : decode cX7_spreadLookaheads 32 = .ok (.if_icmp .ge 50, 3) := by decide +kernel
theorem dX7_spreadLookaheads_35 : decode cX7_spreadLookaheads 35 = .ok (.iconst 0, 1) := by decide +kernel
theorem dX7_spreadLookaheads_36 : decode cX7_spreadLookaheads 36 = .ok (.istore 4, 2) := by decide +kernel
theorem dX7_spreadLookaheads_38 : decode cX7_spreadLookaheads 38 = .ok (.iload 4, 2) := by decide +kernel
theorem dX7_spreadLookaheads_40 : decode cX7_spreadLookaheads 40 = .ok (.bipush 75, 2) := by decide +kernel
theorem dX7_spreadLookaheads_42 : decode cX7_spreadLookaheads 42 = .ok (.if_icmp .ge 34, 3) := by decide +kernel
theorem dX7_spreadLookaheads_45 : decode cX7_spreadLookaheads 45 = .ok (.aload_n 0, 1) := by decide +kernel
theorem dX7_spreadLookaheads_46 : decode cX7_spreadLookaheads 46 = .ok (.getfield 32, 3) := by decide +kernel
theorem dX7_spreadLookaheads_49 : decode cX7_spreadLookaheads 49 = .ok (.iload_n 3, 1) := by decide +kernel
theorem dX7_spreadLookaheads_50 : decode cX7_spreadLookaheads 50 = .ok (.iload 4, 2) := by decide +kernel
theorem dX7_spreadLookaheads_52 : decode cX7_spreadLookaheads 52 = .ok (.invokevirtual 49, 3) := by decide +kernel
theorem dX7_spreadLookaheads_55 : decode cX7_spreadLookaheads 55 = .ok (.ifCond .eq 15, 3) := by decide +kernel
theorem dX7_spreadLookaheads_58 : decode cX7_spreadLookaheads 58 = .ok (.aload_n 0, 1) := by decide +kernel
theorem dX7_spreadLookaheads_59 : decode cX7_spreadLookaheads 59 = .ok (.iload_n 3, 1) := by decide +kernel
theorem dX7_spreadLookaheads_60 : decode cX7_spreadLookaheads 60 = .ok (.iload 4, 2) := by decide +kernel
theorem dX7_spreadLookaheads_62 : decode cX7_spreadLookaheads 62 = .ok (.invokevirtual 112, 3) := by decide +kernel
theorem dX7_spreadLookaheads_65 : decode cX7_spreadLookaheads 65 = .ok (.ifCond .eq 5, 3) := by decide +kernel
theorem dX7_spreadLookaheads_68 : decode cX7_spreadLookaheads 68 = .ok (.iconst 1, 1) := by decide +kernel
theorem dX7_spreadLookaheads_69 : decode cX7_spreadLookaheads 69 = .ok (.istore_n 1, 1) := by decide +kernel
theorem dX7_spreadLookaheads_70 : decode cX7_spreadLookaheads 70 = .ok (.iinc 4 1, 3) := by decide +kernel
theorem dX7_spreadLookaheads_73 : decode cX7_spreadLookaheads 73 = .ok (.goto (-35), 3) := by decide +kernel
theorem dX7_spreadLookaheads_76 : decode cX7_spreadLookaheads 76 = .ok (.iinc 3 1, 3) := by decide +kernel
theorem dX7_spreadLookaheads_79 : decode cX7_spreadLookaheads 79 = .ok (.goto (-52), 3) := by decide +kernel
theorem dX7_spreadLookaheads_82 : decode cX7_spreadLookaheads 82 = .ok (.iinc 2 1, 3) := by decide +kernel
theorem dX7_spreadLookaheads_85 : decode cX7_spreadLookaheads 85 = .ok (.goto (-72), 3) := by decide +kernel
theorem dX7_spreadLookaheads_88 : decode cX7_spreadLookaheads 88 = .ok (.return_, 1) := by decide +kernel
theorem dX7_spreadFrom_0 : decode cX7_spreadFrom 0 = .ok (.aload_n 0, 1) := by decide +kernel
theorem dX7_spreadFrom_1 : decode cX7_spreadFrom 1 = .ok (.iload_n 2, 1) := by decide +kernel
theorem dX7_spreadFrom_2 : decode cX7_spreadFrom 2 = .ok (.invokevirtual 89, 3) := by decide +kernel
theorem dX7_spreadFrom_5 : decode cX7_spreadFrom 5 = .ok (.istore_n 3, 1) := by decide +kernel
theorem dX7_spreadFrom_6 : decode cX7_spreadFrom 6 = .ok (.iload_n 3, 1) := by decide +kernel
theorem dX7_spreadFrom_7 : decode cX7_spreadFrom 7 = .ok (.ifCond .ne 5, 3) := by decide +kernel
theorem dX7_spreadFrom_10 : decode cX7_spreadFrom 10 = .ok (.iconst 0, 1) := by decide +kernel
theorem dX7_spreadFrom_11 : decode cX7_spreadFrom 11 = .ok (.ireturn, 1) := by decide +kernel
theorem dX7_spreadFrom_12 : decode cX7_spreadFrom 12 = .ok (.aload_n 0, 1) := by decide +kernel
theorem dX7_spreadFrom_13 : decode cX7_spreadFrom 13 = .ok (.getfield 32, 3) := by decide +kernel
theorem dX7_spreadFrom_16 : decode cX7_spreadFrom 16 = .ok (.iload_n 1, 1) := by decide +kernel
theorem dX7_spreadFrom_17 : decode cX7_spreadFrom 17 = .ok (.iload_n 2, 1) := by decide +kernel
theorem dX7_spreadFrom_18 : decode cX7_spreadFrom 18 = .ok (.invokevirtual 49, 3) := by decide +kernel
theorem dX7_spreadFrom_21 : decode cX7_spreadFrom 21 = .ok (.bipush 127, 2) := by decide +kernel
theorem dX7_spreadFrom_23 : decode cX7_spreadFrom 23 = .ok (.iand, 1) := by decide +kernel
theorem dX7_spreadFrom_24 : decode cX7_spreadFrom 24 = .ok (.istore 4, 2) := by decide +kernel
theorem dX7_spreadFrom_26 : decode cX7_spreadFrom 26 = .ok (.aload_n 0, 1) := by decide +kernel
theorem dX7_spreadFrom_27 : decode cX7_spreadFrom 27 = .ok (.aload_n 0, 1) := by decide +kernel
theorem dX7_spreadFrom_28 : decode cX7_spreadFrom 28 = .ok (.iload_n 1, 1) := by decide +kernel
theorem dX7_spreadFrom_29 : decode cX7_spreadFrom 29 = .ok (.iload_n 3, 1) := by decide +kernel
theorem dX7_spreadFrom_30 : decode cX7_spreadFrom 30 = .ok (.invokevirtual 116, 3) := by decide +kernel
theorem dX7_spreadFrom_33 : decode cX7_spreadFrom 33 = .ok (.iload_n 2, 1) := by decide +kernel
theorem dX7_spreadFrom_34 : decode cX7_spreadFrom 34 = .ok (.iconst 1, 1) := by decide +kernel
theorem dX7_spreadFrom_35 : decode cX7_spreadFrom 35 = .ok (.iadd, 1) := by decide +kernel
theorem dX7_spreadFrom_36 : decode cX7_spreadFrom 36 = .ok (.iload 4, 2) := by decide +kernel
theorem dX7_spreadFrom_38 : decode cX7_spreadFrom 38 = .ok (.invokevirtual 109, 3) := by decide +kernel
theorem dX7_spreadFrom_41 : decode cX7_spreadFrom 41 = .ok (.istore 5, 2) := by decide +kernel
theorem dX7_spreadFrom_43 : decode cX7_spreadFrom 43 = .ok (.iload_n 3, 1) := by decide +kernel
theorem dX7_spreadFrom_44 : decode cX7_spreadFrom 44 = .ok (.invokestatic 119, 3) := by decide +kernel
theorem dX7_spreadFrom_47 : decode cX7_spreadFrom 47 = .ok (.ifCond .eq 56, 3) := by decide +kernel
theorem dX7_spreadFrom_50 : decode cX7_spreadFrom 50 = .ok (.aload_n 0, 1) := by decide +kernel
theorem dX7_spreadFrom_51 : decode cX7_spreadFrom 51 = .ok (.getfield 9, 3) := by decide +kernel
theorem dX7_spreadFrom_54 : decode cX7_spreadFrom 54 = .ok (.iload_n 2, 1) := by decide +kernel
theorem dX7_spreadFrom_55 : decode cX7_spreadFrom 55 = .ok (.iconst 5, 1) := by decide +kernel
theorem dX7_spreadFrom_56 : decode cX7_spreadFrom 56 = .ok (.idiv, 1) := by decide +kernel
theorem dX7_spreadFrom_57 : decode cX7_spreadFrom 57 = .ok (.iload_n 2, 1) := by decide +kernel
theorem dX7_spreadFrom_58 : decode cX7_spreadFrom 58 = .ok (.iconst 5, 1) := by decide +kernel
theorem dX7_spreadFrom_59 : decode cX7_spreadFrom 59 = .ok (.irem, 1) := by decide +kernel
theorem dX7_spreadFrom_60 : decode cX7_spreadFrom 60 = .ok (.iconst 2, 1) := by decide +kernel
theorem dX7_spreadFrom_61 : decode cX7_spreadFrom 61 = .ok (.iadd, 1) := by decide +kernel
theorem dX7_spreadFrom_62 : decode cX7_spreadFrom 62 = .ok (.invokevirtual 123, 3) := by decide +kernel
theorem dX7_spreadFrom_65 : decode cX7_spreadFrom 65 = .ok (.istore 6, 2) := by decide +kernel
theorem dX7_spreadFrom_67 : decode cX7_spreadFrom 67 = .ok (.iload 6, 2) := by decide +kernel
theorem dX7_spreadFrom_69 : decode cX7_spreadFrom 69 = .ok (.iconst 1, 1) := by decide +kernel
theorem dX7_spreadFrom_70 : decode cX7_spreadFrom 70 = .ok (.iand, 1) := by decide +kernel
theorem dX7_spreadFrom_71 : decode cX7_spreadFrom 71 = .ok (.ifCond .eq 14, 3) := by decide +kernel
theorem dX7_spreadFrom_74 : decode cX7_spreadFrom 74 = .ok (.iload 6, 2) := by decide +kernel
theorem dX7_spreadFrom_76 : decode cX7_spreadFrom 76 = .ok (.bipush (-2), 2) := by decide +kernel
theorem dX7_spreadFrom_78 : decode cX7_spreadFrom 78 = .ok (.iand, 1) := by decide +kernel
theorem dX7_spreadFrom_79 : decode cX7_spreadFrom 79 = .ok (.iload 4, 2) := by decide +kernel
theorem dX7_spreadFrom_81 : decode cX7_spreadFrom 81 = .ok (.ior, 1) := by decide +kernel
theorem dX7_spreadFrom_82 : decode cX7_spreadFrom 82 = .ok (.goto 5, 3) := by decide +kernel
theorem dX7_spreadFrom_85 : decode cX7_spreadFrom 85 = .ok (.iload 6, 2) := by decide +kernel
theorem dX7_spreadFrom_87 : decode cX7_spreadFrom 87 = .ok (.istore 7, 2) := by decide +kernel
theorem dX7_spreadFrom_89 : decode cX7_spreadFrom 89 = .ok (.aload_n 0, 1) := by decide +kernel
theorem dX7_spreadFrom_90 : decode cX7_spreadFrom 90 = .ok (.iload_n 3, 1) := by decide +kernel
theorem dX7_spreadFrom_91 : decode cX7_spreadFrom 91 = .ok (.iload_n 1, 1) := by decide +kernel
theorem dX7_spreadFrom_92 : decode cX7_spreadFrom 92 = .ok (.iload 7, 2) := by decide +kernel
theorem dX7_spreadFrom_94 : decode cX7_spreadFrom 94 = .ok (.invokevirtual 99, 3) := by decide +kernel
theorem dX7_spreadFrom_97 : decode cX7_spreadFrom 97 = .ok (.ifCond .eq 6, 3) := by decide +kernel
theorem dX7_spreadFrom_100 : decode cX7_spreadFrom 100 = .ok (.iconst 1, 1) := by decide +kernel
theorem dX7_spreadFrom_101 : decode cX7_spreadFrom 101 = .ok (.istore 5, 2) := by decide +kernel
theorem dX7_spreadFrom_103 : decode cX7_spreadFrom 103 = .ok (.iload 5, 2) := by decide +kernel
theorem dX7_spreadFrom_105 : decode cX7_spreadFrom 105 = .ok (.ireturn, 1) := by decide +kernel
theorem dX7_decideAll_0 : decode cX7_decideAll 0 = .ok (.aload_n 0, 1) := by decide +kernel
theorem dX7_decideAll_1 : decode cX7_decideAll 1 = .ok (.iconst 0, 1) := by decide +kernel
theorem dX7_decideAll_2 : decode cX7_decideAll 2 = .ok (.putfield 46, 3) := by decide +kernel
theorem dX7_decideAll_5 : decode cX7_decideAll 5 = .ok (.iconst 0, 1) := by decide +kernel
theorem dX7_decideAll_6 : decode cX7_decideAll 6 = .ok (.istore_n 1, 1) := by decide +kernel
theorem dX7_decideAll_7 : decode cX7_decideAll 7 = .ok (.iload_n 1, 1) := by decide +kernel
theorem dX7_decideAll_8 : decode cX7_decideAll 8 = .ok (.aload_n 0, 1) := by decide +kernel
theorem dX7_decideAll_9 : decode cX7_decideAll 9 = .ok (.getfield 42, 3) := by decide +kernel
theorem dX7_decideAll_12 : decode cX7_decideAll 12 = .ok (.if_icmp .ge 57, 3) := by decide +kernel
theorem dX7_decideAll_15 : decode cX7_decideAll 15 = .ok (.iconst 0, 1) := by decide +kernel
theorem dX7_decideAll_16 : decode cX7_decideAll 16 = .ok (.istore_n 2, 1) := by decide +kernel
theorem dX7_decideAll_17 : decode cX7_decideAll 17 = .ok (.iload_n 2, 1) := by decide +kernel
theorem dX7_decideAll_18 : decode cX7_decideAll 18 = .ok (.bipush 6, 2) := by decide +kernel
theorem dX7_decideAll_20 : decode cX7_decideAll 20 = .ok (.if_icmp .gt 43, 3) := by decide +kernel
theorem dX7_decideAll_23 : decode cX7_decideAll 23 = .ok (.aload_n 0, 1) := by decide +kernel
theorem dX7_decideAll_24 : decode cX7_decideAll 24 = .ok (.iload_n 1, 1) := by decide +kernel
theorem dX7_decideAll_25 : decode cX7_decideAll 25 = .ok (.iload_n 2, 1) := by decide +kernel
theorem dX7_decideAll_26 : decode cX7_decideAll 26 = .ok (.invokevirtual 126, 3) := by decide +kernel
theorem dX7_decideAll_29 : decode cX7_decideAll 29 = .ok (.istore_n 3, 1) := by decide +kernel
theorem dX7_decideAll_30 : decode cX7_decideAll 30 = .ok (.aload_n 0, 1) := by decide +kernel
theorem dX7_decideAll_31 : decode cX7_decideAll 31 = .ok (.getfield 39, 3) := by decide +kernel
theorem dX7_decideAll_34 : decode cX7_decideAll 34 = .ok (.iload_n 1, 1) := by decide +kernel
theorem dX7_decideAll_35 : decode cX7_decideAll 35 = .ok (.iload_n 2, 1) := by decide +kernel
theorem dX7_decideAll_36 : decode cX7_decideAll 36 = .ok (.iload_n 3, 1) := by decide +kernel
theorem dX7_decideAll_37 : decode cX7_decideAll 37 = .ok (.invokevirtual 82, 3) := by decide +kernel
theorem dX7_decideAll_40 : decode cX7_decideAll 40 = .ok (.iload_n 3, 1) := by decide +kernel
theorem dX7_decideAll_41 : decode cX7_decideAll 41 = .ok (.sipush 1001, 3) := by decide +kernel
theorem dX7_decideAll_44 : decode cX7_decideAll 44 = .ok (.if_icmp .ne 13, 3) := by decide +kernel
theorem dX7_decideAll_47 : decode cX7_decideAll 47 = .ok (.aload_n 0, 1) := by decide +kernel
theorem dX7_decideAll_48 : decode cX7_decideAll 48 = .ok (.dup, 1) := by decide +kernel
theorem dX7_decideAll_49 : decode cX7_decideAll 49 = .ok (.getfield 46, 3) := by decide +kernel
theorem dX7_decideAll_52 : decode cX7_decideAll 52 = .ok (.iconst 1, 1) := by decide +kernel
theorem dX7_decideAll_53 : decode cX7_decideAll 53 = .ok (.iadd, 1) := by decide +kernel
theorem dX7_decideAll_54 : decode cX7_decideAll 54 = .ok (.putfield 46, 3) := by decide +kernel
theorem dX7_decideAll_57 : decode cX7_decideAll 57 = .ok (.iinc 2 1, 3) := by decide +kernel
theorem dX7_decideAll_60 : decode cX7_decideAll 60 = .ok (.goto (-43), 3) := by decide +kernel
theorem dX7_decideAll_63 : decode cX7_decideAll 63 = .ok (.iinc 1 1, 3) := by decide +kernel
theorem dX7_decideAll_66 : decode cX7_decideAll 66 = .ok (.goto (-59), 3) := by decide +kernel
theorem dX7_decideAll_69 : decode cX7_decideAll 69 = .ok (.return_, 1) := by decide +kernel
theorem dX7_decide_0 : decode cX7_decide 0 = .ok (.aload_n 0, 1) := by decide +kernel
theorem dX7_decide_1 : decode cX7_decide 1 = .ok (.iload_n 1, 1) := by decide +kernel
theorem dX7_decide_2 : decode cX7_decide 2 = .ok (.iload_n 2, 1) := by decide +kernel
theorem dX7_decide_3 : decode cX7_decide 3 = .ok (.invokevirtual 116, 3) := by decide +kernel
theorem dX7_decide_6 : decode cX7_decide 6 = .ok (.istore_n 3, 1) := by decide +kernel
theorem dX7_decide_7 : decode cX7_decide 7 = .ok (.iconst 0, 1) := by decide +kernel
theorem dX7_decide_8 : decode cX7_decide 8 = .ok (.istore 4, 2) := by decide +kernel
theorem dX7_decide_10 : decode cX7_decide 10 = .ok (.iconst 0, 1) := by decide +kernel
theorem dX7_decide_11 : decode cX7_decide 11 = .ok (.istore 5, 2) := by decide +kernel
theorem dX7_decide_13 : decode cX7_decide 13 = .ok (.iconst 0, 1) := by decide +kernel
theorem dX7_decide_14 : decode cX7_decide 14 = .ok (.istore 6, 2) := by decide +kernel
theorem dX7_decide_16 : decode cX7_decide 16 = .ok (.iload 6, 2) := by decide +kernel
theorem dX7_decide_18 : decode cX7_decide 18 = .ok (.bipush 14, 2) := by decide +kernel
theorem dX7_decide_20 : decode cX7_decide 20 = .ok (.if_icmp .gt 30, 3) := by decide +kernel
theorem dX7_decide_23 : decode cX7_decide 23 = .ok (.aload_n 0, 1) := by decide +kernel
theorem dX7_decide_24 : decode cX7_decide 24 = .ok (.iload_n 1, 1) := by decide +kernel
theorem dX7_decide_25 : decode cX7_decide 25 = .ok (.iload 6, 2) := by decide +kernel
theorem dX7_decide_27 : decode cX7_decide 27 = .ok (.invokevirtual 129, 3) := by decide +kernel
theorem dX7_decide_30 : decode cX7_decide 30 = .ok (.iload_n 2, 1) := by decide +kernel
theorem dX7_decide_31 : decode cX7_decide 31 = .ok (.ishr, 1) := by decide +kernel
theorem dX7_decide_32 : decode cX7_decide 32 = .ok (.iconst 1, 1) := by decide +kernel
theorem dX7_decide_33 : decode cX7_decide 33 = .ok (.iand, 1) := by decide +kernel
theorem dX7_decide_34 : decode cX7_decide 34 = .ok (.ifCond .eq 10, 3) := by decide +kernel
theorem dX7_decide_37 : decode cX7_decide 37 = .ok (.iinc 4 1, 3) := by decide +kernel
theorem dX7_decide_40 : decode cX7_decide 40 = .ok (.iload 6, 2) := by decide +kernel
theorem dX7_decide_42 : decode cX7_decide 42 = .ok (.istore 5, 2) := by decide +kernel
theorem dX7_decide_44 : decode cX7_decide 44 = .ok (.iinc 6 1, 3) := by decide +kernel
theorem dX7_decide_47 : decode cX7_decide 47 = .ok (.goto (-31), 3) := by decide +kernel
theorem dX7_decide_50 : decode cX7_decide 50 = .ok (.iload 4, 2) := by decide +kernel
theorem dX7_decide_52 : decode cX7_decide 52 = .ok (.ifCond .ne 13, 3) := by decide +kernel
theorem dX7_decide_55 : decode cX7_decide 55 = .ok (.iload_n 3, 1) := by decide +kernel
theorem dX7_decide_56 : decode cX7_decide 56 = .ok (.ifCond .ne 7, 3) := by decide +kernel
theorem dX7_decide_59 : decode cX7_decide 59 = .ok (.iconst 0, 1) := by decide +kernel
theorem dX7_decide_60 : decode cX7_decide 60 = .ok (.goto 4, 3) := by decide +kernel
theorem dX7_decide_63 : decode cX7_decide 63 = .ok (.iload_n 3, 1) := by decide +kernel
theorem dX7_decide_64 : decode cX7_decide 64 = .ok (.ireturn, 1) := by decide +kernel
theorem dX7_decide_65 : decode cX7_decide 65 = .ok (.iload 4, 2) := by decide +kernel
theorem dX7_decide_67 : decode cX7_decide 67 = .ok (.iconst 1, 1) := by decide +kernel
theorem dX7_decide_68 : decode cX7_decide 68 = .ok (.if_icmp .le 7, 3) := by decide +kernel
theorem dX7_decide_71 : decode cX7_decide 71 = .ok (.sipush 1001, 3) := by decide +kernel
theorem dX7_decide_74 : decode cX7_decide 74 = .ok (.ireturn, 1) := by decide +kernel
theorem dX7_decide_75 : decode cX7_decide 75 = .ok (.iload 5, 2) := by decide +kernel
theorem dX7_decide_77 : decode cX7_decide 77 = .ok (.bipush 14, 2) := by decide +kernel
theorem dX7_decide_79 : decode cX7_decide 79 = .ok (.if_icmp .ne 9, 3) := by decide +kernel
theorem dX7_decide_82 : decode cX7_decide 82 = .ok (.sipush 1000, 3) := by decide +kernel
theorem dX7_decide_85 : decode cX7_decide 85 = .ok (.goto 7, 3) := by decide +kernel
theorem dX7_decide_88 : decode cX7_decide 88 = .ok (.iconst (-1), 1) := by decide +kernel
theorem dX7_decide_89 : decode cX7_decide 89 = .ok (.iload 5, 2) := by decide +kernel
theorem dX7_decide_91 : decode cX7_decide 91 = .ok (.isub, 1) := by decide +kernel
theorem dX7_decide_92 : decode cX7_decide 92 = .ok (.istore 6, 2) := by decide +kernel
theorem dX7_decide_94 : decode cX7_decide 94 = .ok (.iload_n 3, 1) := by decide +kernel
theorem dX7_decide_95 : decode cX7_decide 95 = .ok (.ifCond .ne 8, 3) := by decide +kernel
theorem dX7_decide_98 : decode cX7_decide 98 = .ok (.iload 6, 2) := by decide +kernel
theorem dX7_decide_100 : decode cX7_decide 100 = .ok (.goto 13, 3) := by decide +kernel
theorem dX7_decide_103 : decode cX7_decide 103 = .ok (.aload_n 0, 1) := by decide +kernel
theorem dX7_decide_104 : decode cX7_decide 104 = .ok (.iload 5, 2) := by decide +kernel
theorem dX7_decide_106 : decode cX7_decide 106 = .ok (.iload_n 2, 1) := by decide +kernel
theorem dX7_decide_107 : decode cX7_decide 107 = .ok (.iload_n 3, 1) := by decide +kernel
theorem dX7_decide_108 : decode cX7_decide 108 = .ok (.iload 6, 2) := by decide +kernel
theorem dX7_decide_110 : decode cX7_decide 110 = .ok (.invokevirtual 132, 3) := by decide +kernel
theorem dX7_decide_113 : decode cX7_decide 113 = .ok (.ireturn, 1) := by decide +kernel
theorem dX7_weigh_0 : decode cX7_weigh 0 = .ok (.aload_n 0, 1) := by decide +kernel
theorem dX7_weigh_1 : decode cX7_weigh 1 = .ok (.getfield 9, 3) := by decide +kernel
theorem dX7_weigh_4 : decode cX7_weigh 4 = .ok (.iload_n 1, 1) := by decide +kernel
theorem dX7_weigh_5 : decode cX7_weigh 5 = .ok (.invokevirtual 136, 3) := by decide +kernel
theorem dX7_weigh_8 : decode cX7_weigh 8 = .ok (.istore 5, 2) := by decide +kernel
theorem dX7_weigh_10 : decode cX7_weigh 10 = .ok (.aload_n 0, 1) := by decide +kernel
theorem dX7_weigh_11 : decode cX7_weigh 11 = .ok (.getfield 9, 3) := by decide +kernel
theorem dX7_weigh_14 : decode cX7_weigh 14 = .ok (.iload_n 2, 1) := by decide +kernel
theorem dX7_weigh_15 : decode cX7_weigh 15 = .ok (.invokevirtual 139, 3) := by decide +kernel
theorem dX7_weigh_18 : decode cX7_weigh 18 = .ok (.istore 6, 2) := by decide +kernel
theorem dX7_weigh_20 : decode cX7_weigh 20 = .ok (.iload 5, 2) := by decide +kernel
theorem dX7_weigh_22 : decode cX7_weigh 22 = .ok (.ifCond .eq 8, 3) := by decide +kernel
theorem dX7_weigh_25 : decode cX7_weigh 25 = .ok (.iload 6, 2) := by decide +kernel
theorem dX7_weigh_27 : decode cX7_weigh 27 = .ok (.ifCond .ne 7, 3) := by decide +kernel
theorem dX7_weigh_30 : decode cX7_weigh 30 = .ok (.sipush 1001, 3) := by decide +kernel
theorem dX7_weigh_33 : decode cX7_weigh 33 = .ok (.ireturn, 1) := by decide +kernel
theorem dX7_weigh_34 : decode cX7_weigh 34 = .ok (.iload 5, 2) := by decide +kernel
theorem dX7_weigh_36 : decode cX7_weigh 36 = .ok (.iload 6, 2) := by decide +kernel
theorem dX7_weigh_38 : decode cX7_weigh 38 = .ok (.if_icmp .eq 17, 3) := by decide +kernel
theorem dX7_weigh_41 : decode cX7_weigh 41 = .ok (.iload 5, 2) := by decide +kernel
theorem dX7_weigh_43 : decode cX7_weigh 43 = .ok (.iload 6, 2) := by decide +kernel
theorem dX7_weigh_45 : decode cX7_weigh 45 = .ok (.if_icmp .le 8, 3) := by decide +kernel
theorem dX7_weigh_48 : decode cX7_weigh 48 = .ok (.iload 4, 2) := by decide +kernel
theorem dX7_weigh_50 : decode cX7_weigh 50 = .ok (.goto 4, 3) := by decide +kernel
theorem dX7_weigh_53 : decode cX7_weigh 53 = .ok (.iload_n 3, 1) := by decide +kernel
theorem dX7_weigh_54 : decode cX7_weigh 54 = .ok (.ireturn, 1) := by decide +kernel
theorem dX7_weigh_55 : decode cX7_weigh 55 = .ok (.aload_n 0, 1) := by decide +kernel
theorem dX7_weigh_56 : decode cX7_weigh 56 = .ok (.getfield 9, 3) := by decide +kernel
theorem dX7_weigh_59 : decode cX7_weigh 59 = .ok (.iload_n 2, 1) := by decide +kernel
theorem dX7_weigh_60 : decode cX7_weigh 60 = .ok (.invokevirtual 142, 3) := by decide +kernel
theorem dX7_weigh_63 : decode cX7_weigh 63 = .ok (.ifCond .ne 6, 3) := by decide +kernel
theorem dX7_weigh_66 : decode cX7_weigh 66 = .ok (.iload 4, 2) := by decide +kernel
theorem dX7_weigh_68 : decode cX7_weigh 68 = .ok (.ireturn, 1) := by decide +kernel
theorem dX7_weigh_69 : decode cX7_weigh 69 = .ok (.aload_n 0, 1) := by decide +kernel
theorem dX7_weigh_70 : decode cX7_weigh 70 = .ok (.getfield 9, 3) := by decide +kernel
theorem dX7_weigh_73 : decode cX7_weigh 73 = .ok (.iload_n 2, 1) := by decide +kernel
theorem dX7_weigh_74 : decode cX7_weigh 74 = .ok (.invokevirtual 142, 3) := by decide +kernel
theorem dX7_weigh_77 : decode cX7_weigh 77 = .ok (.iconst 1, 1) := by decide +kernel
theorem dX7_weigh_78 : decode cX7_weigh 78 = .ok (.if_icmp .ne 7, 3) := by decide +kernel
theorem dX7_weigh_81 : decode cX7_weigh 81 = .ok (.iload_n 3, 1) := by decide +kernel
theorem dX7_weigh_82 : decode cX7_weigh 82 = .ok (.goto 4, 3) := by decide +kernel
theorem dX7_weigh_85 : decode cX7_weigh 85 = .ok (.iconst 0, 1) := by decide +kernel
theorem dX7_weigh_86 : decode cX7_weigh 86 = .ok (.ireturn, 1) := by decide +kernel
theorem dX8_init_0 : decode cX8_init 0 = .ok (.aload_n 0, 1) := by decide +kernel
theorem dX8_init_1 : decode cX8_init 1 = .ok (.invokespecial 3, 3) := by decide +kernel
theorem dX8_init_4 : decode cX8_init 4 = .ok (.aload_n 0, 1) := by decide +kernel
theorem dX8_init_5 : decode cX8_init 5 = .ok (.new 9, 3) := by decide +kernel
theorem dX8_init_8 : decode cX8_init 8 = .ok (.dup, 1) := by decide +kernel
theorem dX8_init_9 : decode cX8_init 9 = .ok (.sipush 150, 3) := by decide +kernel
theorem dX8_init_12 : decode cX8_init 12 = .ok (.bipush 8, 2) := by decide +kernel
theorem dX8_init_14 : decode cX8_init 14 = .ok (.invokespecial 11, 3) := by decide +kernel
theorem dX8_init_17 : decode cX8_init 17 = .ok (.putfield 14, 3) := by decide +kernel
theorem dX8_init_20 : decode cX8_init 20 = .ok (.aload_n 0, 1) := by decide +kernel
theorem dX8_init_21 : decode cX8_init 21 = .ok (.new 20, 3) := by decide +kernel
theorem dX8_init_24 : decode cX8_init 24 = .ok (.dup, 1) := by decide +kernel
theorem dX8_init_25 : decode cX8_init 25 = .ok (.sipush 450, 3) := by decide +kernel
theorem dX8_init_28 : decode cX8_init 28 = .ok (.invokespecial 22, 3) := by decide +kernel
theorem dX8_init_31 : decode cX8_init 31 = .ok (.putfield 25, 3) := by decide +kernel
theorem dX8_init_34 : decode cX8_init 34 = .ok (.aload_n 0, 1) := by decide +kernel
theorem dX8_init_35 : decode cX8_init 35 = .ok (.iconst 0, 1) := by decide +kernel
theorem dX8_init_36 : decode cX8_init 36 = .ok (.putfield 29, 3) := by decide +kernel
theorem dX8_init_39 : decode cX8_init 39 = .ok (.return_, 1) := by decide +kernel
theorem dX8_begin_0 : decode cX8_begin 0 = .ok (.aload_n 0, 1) := by decide +kernel
theorem dX8_begin_1 : decode cX8_begin 1 = .ok (.iconst 0, 1) := by decide +kernel
theorem dX8_begin_2 : decode cX8_begin 2 = .ok (.putfield 29, 3) := by decide +kernel
theorem dX8_begin_5 : decode cX8_begin 5 = .ok (.return_, 1) := by decide +kernel
theorem dX8_size_0 : decode cX8_size 0 = .ok (.aload_n 0, 1) := by decide +kernel
theorem dX8_size_1 : decode cX8_size 1 = .ok (.getfield 29, 3) := by decide +kernel
theorem dX8_size_4 : decode cX8_size 4 = .ok (.ireturn, 1) := by decide +kernel
theorem dX8_hasNode_0 : decode cX8_hasNode 0 = .ok (.iload_n 1, 1) := by decide +kernel
theorem dX8_hasNode_1 : decode cX8_hasNode 1 = .ok (.ifCond .lt 15, 3) := by decide +kernel
theorem dX8_hasNode_4 : decode cX8_hasNode 4 = .ok (.iload_n 1, 1) := by decide +kernel
theorem dX8_hasNode_5 : decode cX8_hasNode 5 = .ok (.aload_n 0, 1) := by decide +kernel
theorem dX8_hasNode_6 : decode cX8_hasNode 6 = .ok (.getfield 29, 3) := by decide +kernel
theorem dX8_hasNode_9 : decode cX8_hasNode 9 = .ok (.if_icmp .ge 7, 3) := by decide +kernel
theorem dX8_hasNode_12 : decode cX8_hasNode 12 = .ok (.iconst 1, 1) := by decide +kernel
theorem dX8_hasNode_13 : decode cX8_hasNode 13 = .ok (.goto 4, 3) := by decide +kernel
theorem dX8_hasNode_16 : decode cX8_hasNode 16 = .ok (.iconst 0, 1) := by decide +kernel
theorem dX8_hasNode_17 : decode cX8_hasNode 17 = .ok (.ireturn, 1) := by decide +kernel
theorem dX8_fact_0 : decode cX8_fact 0 = .ok (.aload_n 0, 1) := by decide +kernel
theorem dX8_fact_1 : decode cX8_fact 1 = .ok (.getfield 14, 3) := by decide +kernel
theorem dX8_fact_4 : decode cX8_fact 4 = .ok (.iload_n 1, 1) := by decide +kernel
theorem dX8_fact_5 : decode cX8_fact 5 = .ok (.iload_n 2, 1) := by decide +kernel
theorem dX8_fact_6 : decode cX8_fact 6 = .ok (.invokevirtual 33, 3) := by decide +kernel
theorem dX8_fact_9 : decode cX8_fact 9 = .ok (.ireturn, 1) := by decide +kernel
theorem dX8_isToken_0 : decode cX8_isToken 0 = .ok (.aload_n 0, 1) := by decide +kernel
theorem dX8_isToken_1 : decode cX8_isToken 1 = .ok (.iload_n 1, 1) := by decide +kernel
theorem dX8_isToken_2 : decode cX8_isToken 2 = .ok (.iconst 1, 1) := by decide +kernel
theorem dX8_isToken_3 : decode cX8_isToken 3 = .ok (.invokevirtual 37, 3) := by decide +kernel
theorem dX8_isToken_6 : decode cX8_isToken 6 = .ok (.ifCond .ge 7, 3) := by decide +kernel
theorem dX8_isToken_9 : decode cX8_isToken 9 = .ok (.iconst 1, 1) := by decide +kernel
theorem dX8_isToken_10 : decode cX8_isToken 10 = .ok (.goto 4, 3) := by decide +kernel
theorem dX8_isToken_13 : decode cX8_isToken 13 = .ok (.iconst 0, 1) := by decide +kernel
theorem dX8_isToken_14 : decode cX8_isToken 14 = .ok (.ireturn, 1) := by decide +kernel
theorem dX8_child_0 : decode cX8_child 0 = .ok (.aload_n 0, 1) := by decide +kernel
theorem dX8_child_1 : decode cX8_child 1 = .ok (.getfield 14, 3) := by decide +kernel
theorem dX8_child_4 : decode cX8_child 4 = .ok (.iload_n 1, 1) := by decide +kernel
theorem dX8_child_5 : decode cX8_child 5 = .ok (.iconst 4, 1) := by decide +kernel
theorem dX8_child_6 : decode cX8_child 6 = .ok (.iload_n 2, 1) := by decide +kernel
theorem dX8_child_7 : decode cX8_child 7 = .ok (.iadd, 1) := by decide +kernel
theorem dX8_child_8 : decode cX8_child 8 = .ok (.iconst 1, 1) := by decide +kernel
theorem dX8_child_9 : decode cX8_child 9 = .ok (.isub, 1) := by decide +kernel
theorem dX8_child_10 : decode cX8_child 10 = .ok (.invokevirtual 33, 3) := by decide +kernel
theorem dX8_child_13 : decode cX8_child 13 = .ok (.ireturn, 1) := by decide +kernel
theorem dX8_value_0 : decode cX8_value 0 = .ok (.aload_n 0, 1) := by decide +kernel
theorem dX8_value_1 : decode cX8_value 1 = .ok (.getfield 25, 3) := by decide +kernel
theorem dX8_value_4 : decode cX8_value 4 = .ok (.iload_n 1, 1) := by decide +kernel
theorem dX8_value_5 : decode cX8_value 5 = .ok (.invokevirtual 40, 3) := by decide +kernel
theorem dX8_value_8 : decode cX8_value 8 = .ok (.lreturn, 1) := by decide +kernel
theorem dX8_setValue_0 : decode cX8_setValue 0 = .ok (.aload_n 0, 1) := by decide +kernel
theorem dX8_setValue_1 : decode cX8_setValue 1 = .ok (.getfield 25, 3) := by decide +kernel
theorem dX8_setValue_4 : decode cX8_setValue 4 = .ok (.iload_n 1, 1) := by decide +kernel
theorem dX8_setValue_5 : decode cX8_setValue 5 = .ok (.lload_n 2, 1) := by decide +kernel
theorem dX8_setValue_6 : decode cX8_setValue 6 = .ok (.invokevirtual 43, 3) := by decide +kernel
theorem dX8_setValue_9 : decode cX8_setValue 9 = .ok (.return_, 1) := by decide +kernel
theorem dX8_addTokenNode_0 : decode cX8_addTokenNode 0 = .ok (.aload_n 0, 1) := by decide +kernel
theorem dX8_addTokenNode_1 : decode cX8_addTokenNode 1 = .ok (.iload_n 1, 1) := by decide +kernel
theorem dX8_addTokenNode_2 : decode cX8_addTokenNode 2 = .ok (.iconst (-1), 1) := by decide +kernel
theorem dX8_addTokenNode_3 : decode cX8_addTokenNode 3 = .ok (.invokevirtual 47, 3) := by decide +kernel
theorem dX8_addTokenNode_6 : decode cX8_addTokenNode 6 = .ok (.istore 4, 2) := by decide +kernel
theorem dX8_addTokenNode_8 : decode cX8_addTokenNode 8 = .ok (.aload_n 0, 1) := by decide +kernel
theorem dX8_addTokenNode_9 : decode cX8_addTokenNode 9 = .ok (.iload 4, 2) := by decide +kernel
theorem dX8_addTokenNode_11 : decode cX8_addTokenNode 11 = .ok (.iconst 3, 1) := by decide +kernel
theorem dX8_addTokenNode_12 : decode cX8_addTokenNode 12 = .ok (.imul, 1) := by decide +kernel
theorem dX8_addTokenNode_13 : decode cX8_addTokenNode 13 = .ok (.iload_n 2, 1) := by decide +kernel
theorem dX8_addTokenNode_14 : decode cX8_addTokenNode 14 = .ok (.i2l, 1) := by decide +kernel
theorem dX8_addTokenNode_15 : decode cX8_addTokenNode 15 = .ok (.invokevirtual 50, 3) := by decide +kernel
theorem dX8_addTokenNode_18 : decode cX8_addTokenNode 18 = .ok (.aload_n 0, 1) := by decide +kernel
theorem dX8_addTokenNode_19 : decode cX8_addTokenNode 19 = .ok (.iload 4, 2) := by decide +kernel
theorem dX8_addTokenNode_21 : decode cX8_addTokenNode 21 = .ok (.iconst 3, 1) := by decide +kernel
theorem dX8_addTokenNode_22 : decode cX8_addTokenNode 22 = .ok (.imul, 1) := by decide +kernel
theorem dX8_addTokenNode_23 : decode cX8_addTokenNode 23 = .ok (.iconst 1, 1) := by decide +kernel
theorem dX8_addTokenNode_24 : decode cX8_addTokenNode 24 = .ok (.iadd, 1) := by decide +kernel
theorem dX8_addTokenNode_25 : decode cX8_addTokenNode 25 = .ok (.iload_n 3, 1) := by decide +kernel
theorem dX8_addTokenNode_26 : decode cX8_addTokenNode 26 = .ok (.i2l, 1) := by decide +kernel
theorem dX8_addTokenNode_27 : decode cX8_addTokenNode 27 = .ok (.invokevirtual 50, 3) := by decide +kernel
theorem dX8_addTokenNode_30 : decode cX8_addTokenNode 30 = .ok (.aload_n 0, 1) := by decide +kernel
theorem dX8_addTokenNode_31 : decode cX8_addTokenNode 31 = .ok (.iload 4, 2) := by decide +kernel
theorem dX8_addTokenNode_33 : decode cX8_addTokenNode 33 = .ok (.iconst 3, 1) := by decide +kernel
theorem dX8_addTokenNode_34 : decode cX8_addTokenNode 34 = .ok (.imul, 1) := by decide +kernel
theorem dX8_addTokenNode_35 : decode cX8_addTokenNode 35 = .ok (.iconst 2, 1) := by decide +kernel
theorem dX8_addTokenNode_36 : decode cX8_addTokenNode 36 = .ok (.iadd, 1) := by decide +kernel
theorem dX8_addTokenNode_37 : decode cX8_addTokenNode 37 = .ok (.lconst 0, 1) := by decide +kernel
theorem dX8_addTokenNode_38 : decode cX8_addTokenNode 38 = .ok (.invokevirtual 50, 3) := by decide +kernel
theorem dX8_addTokenNode_41 : decode cX8_addTokenNode 41 = .ok (.iload 4, 2) := by decide +kernel
theorem dX8_addTokenNode_43 : decode cX8_addTokenNode 43 = .ok (.ireturn, 1) := by decide +kernel
theorem dX8_addRuleNode_0 : decode cX8_addRuleNode 0 = .ok (.aload_n 0, 1) := by decide +kernel
theorem dX8_addRuleNode_1 : decode cX8_addRuleNode 1 = .ok (.getfield 29, 3) := by decide +kernel
theorem dX8_addRuleNode_4 : decode cX8_addRuleNode 4 = .ok (.istore_n 3, 1) := by decide +kernel
theorem dX8_addRuleNode_5 : decode cX8_addRuleNode 5 = .ok (.aload_n 0, 1) := by decide +kernel
theorem dX8_addRuleNode_6 : decode cX8_addRuleNode 6 = .ok (.getfield 14, 3) := by decide +kernel
theorem dX8_addRuleNode_9 : decode cX8_addRuleNode 9 = .ok (.iload_n 3, 1) := by decide +kernel
theorem dX8_addRuleNode_10 : decode cX8_addRuleNode 10 = .ok (.iconst 0, 1) := by decide +kernel
theorem dX8_addRuleNode_11 : decode cX8_addRuleNode 11 = .ok (.iload_n 1, 1) := by decide +kernel
theorem dX8_addRuleNode_12 : decode cX8_addRuleNode 12 = .ok (.invokevirtual 53, 3) := by decide +kernel
theorem dX8_addRuleNode_15 : decode cX8_addRuleNode 15 = .ok (.aload_n 0, 1) := by decide +kernel
theorem dX8_addRuleNode_16 : decode cX8_addRuleNode 16 = .ok (.getfield 14, 3) := by decide +kernel
theorem dX8_addRuleNode_19 : decode cX8_addRuleNode 19 = .ok (.iload_n 3, 1) := by decide +kernel
theorem dX8_addRuleNode_20 : decode cX8_addRuleNode 20 = .ok (.iconst 1, 1) := by decide +kernel
theorem dX8_addRuleNode_21 : decode cX8_addRuleNode 21 = .ok (.iload_n 2, 1) := by decide +kernel
theorem dX8_addRuleNode_22 : decode cX8_addRuleNode 22 = .ok (.invokevirtual 53, 3) := by decide +kernel
theorem dX8_addRuleNode_25 : decode cX8_addRuleNode 25 = .ok (.aload_n 0, 1) := by decide +kernel
theorem dX8_addRuleNode_26 : decode cX8_addRuleNode 26 = .ok (.getfield 14, 3) := by decide +kernel
theorem dX8_addRuleNode_29 : decode cX8_addRuleNode 29 = .ok (.iload_n 3, 1) := by decide +kernel
theorem dX8_addRuleNode_30 : decode cX8_addRuleNode 30 = .ok (.iconst 2, 1) := by decide +kernel
theorem dX8_addRuleNode_31 : decode cX8_addRuleNode 31 = .ok (.iconst (-1), 1) := by decide +kernel
theorem dX8_addRuleNode_32 : decode cX8_addRuleNode 32 = .ok (.invokevirtual 53, 3) := by decide +kernel
theorem dX8_addRuleNode_35 : decode cX8_addRuleNode 35 = .ok (.aload_n 0, 1) := by decide +kernel
theorem dX8_addRuleNode_36 : decode cX8_addRuleNode 36 = .ok (.getfield 14, 3) := by decide +kernel
theorem dX8_addRuleNode_39 : decode cX8_addRuleNode 39 = .ok (.iload_n 3, 1) := by decide +kernel
theorem dX8_addRuleNode_40 : decode cX8_addRuleNode 40 = .ok (.iconst 3, 1) := by decide +kernel
theorem dX8_addRuleNode_41 : decode cX8_addRuleNode 41 = .ok (.iconst 0, 1) := by decide +kernel
theorem dX8_addRuleNode_42 : decode cX8_addRuleNode 42 = .ok (.invokevirtual 53, 3) := by decide +kernel
theorem dX8_addRuleNode_45 : decode cX8_addRuleNode 45 = .ok (.aload_n 0, 1) := by decide +kernel
theorem dX8_addRuleNode_46 : decode cX8_addRuleNode 46 = .ok (.dup, 1) := by decide +kernel
theorem dX8_addRuleNode_47 : decode cX8_addRuleNode 47 = .ok (.getfield 29, 3) := by decide +kernel
theorem dX8_addRuleNode_50 : decode cX8_addRuleNode 50 = .ok (.iconst 1, 1) := by decide +kernel
theorem dX8_addRuleNode_51 : decode cX8_addRuleNode 51 = .ok (.iadd, 1) := by decide +kernel
theorem dX8_addRuleNode_52 : decode cX8_addRuleNode 52 = .ok (.putfield 29, 3) := by decide +kernel
theorem dX8_addRuleNode_55 : decode cX8_addRuleNode 55 = .ok (.iload_n 3, 1) := by decide +kernel
theorem dX8_addRuleNode_56 : decode cX8_addRuleNode 56 = .ok (.ireturn, 1) := by decide +kernel
theorem dX8_setChild_0 : decode cX8_setChild 0 = .ok (.aload_n 0, 1) := by decide +kernel
theorem dX8_setChild_1 : decode cX8_setChild 1 = .ok (.getfield 14, 3) := by decide +kernel
theorem dX8_setChild_4 : decode cX8_setChild 4 = .ok (.iload_n 1, 1) := by decide +kernel
theorem dX8_setChild_5 : decode cX8_setChild 5 = .ok (.iconst 4, 1) := by decide +kernel
theorem dX8_setChild_6 : decode cX8_setChild 6 = .ok (.iload_n 2, 1) := by decide +kernel
theorem dX8_setChild_7 : decode cX8_setChild 7 = .ok (.iadd, 1) := by decide +kernel
theorem dX8_setChild_8 : decode cX8_setChild 8 = .ok (.iconst 1, 1) := by decide +kernel
theorem dX8_setChild_9 : decode cX8_setChild 9 = .ok (.isub, 1) := by decide +kernel
theorem dX8_setChild_10 : decode cX8_setChild 10 = .ok (.iload_n 3, 1) := by decide +kernel
theorem dX8_setChild_11 : decode cX8_setChild 11 = .ok (.invokevirtual 53, 3) := by decide +kernel
theorem dX8_setChild_14 : decode cX8_setChild 14 = .ok (.aload_n 0, 1) := by decide +kernel
theorem dX8_setChild_15 : decode cX8_setChild 15 = .ok (.getfield 14, 3) := by decide +kernel
theorem dX8_setChild_18 : decode cX8_setChild 18 = .ok (.iload_n 3, 1) := by decide +kernel
theorem dX8_setChild_19 : decode cX8_setChild 19 = .ok (.iconst 2, 1) := by decide +kernel
theorem dX8_setChild_20 : decode cX8_setChild 20 = .ok (.iload_n 1, 1) := by decide +kernel
theorem dX8_setChild_21 : decode cX8_setChild 21 = .ok (.invokevirtual 53, 3) := by decide +kernel
theorem dX8_setChild_24 : decode cX8_setChild 24 = .ok (.aload_n 0, 1) := by decide +kernel
theorem dX8_setChild_25 : decode cX8_setChild 25 = .ok (.getfield 14, 3) := by decide +kernel
theorem dX8_setChild_28 : decode cX8_setChild 28 = .ok (.iload_n 3, 1) := by decide +kernel
theorem dX8_setChild_29 : decode cX8_setChild 29 = .ok (.iconst 3, 1) := by decide +kernel
theorem dX8_setChild_30 : decode cX8_setChild 30 = .ok (.iload_n 2, 1) := by decide +kernel
theorem dX8_setChild_31 : decode cX8_setChild 31 = .ok (.invokevirtual 53, 3) := by decide +kernel
theorem dX8_setChild_34 : decode cX8_setChild 34 = .ok (.return_, 1) := by decide +kernel
theorem dX9_init_0 : decode cX9_init 0 = .ok (.aload_n 0, 1) := by decide +kernel
theorem dX9_init_1 : decode cX9_init 1 = .ok (.invokespecial 3, 3) := by decide +kernel
theorem dX9_init_4 : decode cX9_init 4 = .ok (.aload_n 0, 1) := by decide +kernel
theorem dX9_init_5 : decode cX9_init 5 = .ok (.new 9, 3) := by decide +kernel
theorem dX9_init_8 : decode cX9_init 8 = .ok (.dup, 1) := by decide +kernel
theorem dX9_init_9 : decode cX9_init 9 = .ok (.invokespecial 11, 3) := by decide +kernel
theorem dX9_init_12 : decode cX9_init 12 = .ok (.putfield 12, 3) := by decide +kernel
theorem dX9_init_15 : decode cX9_init 15 = .ok (.aload_n 0, 1) := by decide +kernel
theorem dX9_init_16 : decode cX9_init 16 = .ok (.new 16, 3) := by decide +kernel
theorem dX9_init_19 : decode cX9_init 19 = .ok (.dup, 1) := by decide +kernel
theorem dX9_init_20 : decode cX9_init 20 = .ok (.aload_n 0, 1) := by decide +kernel
theorem dX9_init_21 : decode cX9_init 21 = .ok (.getfield 12, 3) := by decide +kernel
theorem dX9_init_24 : decode cX9_init 24 = .ok (.invokespecial 18, 3) := by decide +kernel
theorem dX9_init_27 : decode cX9_init 27 = .ok (.putfield 21, 3) := by decide +kernel
theorem dX9_init_30 : decode cX9_init 30 = .ok (.aload_n 0, 1) := by decide +kernel
theorem dX9_init_31 : decode cX9_init 31 = .ok (.new 25, 3) := by decide +kernel
theorem dX9_init_34 : decode cX9_init 34 = .ok (.dup, 1) := by decide +kernel
theorem dX9_init_35 : decode cX9_init 35 = .ok (.aload_n 0, 1) := by decide +kernel
theorem dX9_init_36 : decode cX9_init 36 = .ok (.getfield 12, 3) := by decide +kernel
theorem dX9_init_39 : decode cX9_init 39 = .ok (.invokespecial 27, 3) := by decide +kernel
theorem dX9_init_42 : decode cX9_init 42 = .ok (.putfield 28, 3) := by decide +kernel
theorem dX9_init_45 : decode cX9_init 45 = .ok (.aload_n 0, 1) := by decide +kernel
theorem dX9_init_46 : decode cX9_init 46 = .ok (.new 32, 3) := by decide +kernel
theorem dX9_init_49 : decode cX9_init 49 = .ok (.dup, 1) := by decide +kernel
theorem dX9_init_50 : decode cX9_init 50 = .ok (.aload_n 0, 1) := by decide +kernel
theorem dX9_init_51 : decode cX9_init 51 = .ok (.getfield 12, 3) := by decide +kernel
theorem dX9_init_54 : decode cX9_init 54 = .ok (.aload_n 0, 1) := by decide +kernel
theorem dX9_init_55 : decode cX9_init 55 = .ok (.getfield 21, 3) := by decide +kernel
theorem dX9_init_58 : decode cX9_init 58 = .ok (.invokespecial 34, 3) := by decide +kernel
theorem dX9_init_61 : decode cX9_init 61 = .ok (.putfield 37, 3) := by decide +kernel
theorem dX9_init_64 : decode cX9_init 64 = .ok (.aload_n 0, 1) := by decide +kernel
theorem dX9_init_65 : decode cX9_init 65 = .ok (.new 41, 3) := by decide +kernel
theorem dX9_init_68 : decode cX9_init 68 = .ok (.dup, 1) := by decide +kernel
theorem dX9_init_69 : decode cX9_init 69 = .ok (.aload_n 0, 1) := by decide +kernel
theorem dX9_init_70 : decode cX9_init 70 = .ok (.getfield 12, 3) := by decide +kernel
theorem dX9_init_73 : decode cX9_init 73 = .ok (.invokespecial 43, 3) := by decide +kernel
theorem dX9_init_76 : decode cX9_init 76 = .ok (.putfield 44, 3) := by decide +kernel
theorem dX9_init_79 : decode cX9_init 79 = .ok (.aload_n 0, 1) := by decide +kernel
theorem dX9_init_80 : decode cX9_init 80 = .ok (.new 48, 3) := by decide +kernel
theorem dX9_init_83 : decode cX9_init 83 = .ok (.dup, 1) := by decide +kernel
theorem dX9_init_84 : decode cX9_init 84 = .ok (.invokespecial 50, 3) := by decide +kernel
theorem dX9_init_87 : decode cX9_init 87 = .ok (.putfield 51, 3) := by decide +kernel
theorem dX9_init_90 : decode cX9_init 90 = .ok (.aload_n 0, 1) := by decide +kernel
theorem dX9_init_91 : decode cX9_init 91 = .ok (.new 48, 3) := by decide +kernel
theorem dX9_init_94 : decode cX9_init 94 = .ok (.dup, 1) := by decide +kernel
theorem dX9_init_95 : decode cX9_init 95 = .ok (.invokespecial 50, 3) := by decide +kernel
theorem dX9_init_98 : decode cX9_init 98 = .ok (.putfield 55, 3) := by decide +kernel
theorem dX9_init_101 : decode cX9_init 101 = .ok (.aload_n 0, 1) := by decide +kernel
theorem dX9_init_102 : decode cX9_init 102 = .ok (.iconst 0, 1) := by decide +kernel
theorem dX9_init_103 : decode cX9_init 103 = .ok (.putfield 58, 3) := by decide +kernel
theorem dX9_init_106 : decode cX9_init 106 = .ok (.aload_n 0, 1) := by decide +kernel
theorem dX9_init_107 : decode cX9_init 107 = .ok (.iconst (-1), 1) := by decide +kernel
theorem dX9_init_108 : decode cX9_init 108 = .ok (.putfield 62, 3) := by decide +kernel
theorem dX9_init_111 : decode cX9_init 111 = .ok (.return_, 1) := by decide +kernel
theorem dX9_rule_0 : decode cX9_rule 0 = .ok (.iload_n 1, 1) := by decide +kernel
theorem dX9_rule_1 : decode cX9_rule 1 = .ok (.invokestatic 66, 3) := by decide +kernel
theorem dX9_rule_4 : decode cX9_rule 4 = .ok (.ifCond .ne 13, 3) := by decide +kernel
theorem dX9_rule_7 : decode cX9_rule 7 = .ok (.new 70, 3) := by decide +kernel
theorem dX9_rule_10 : decode cX9_rule 10 = .ok (.dup, 1) := by decide +kernel
theorem dX9_rule_11 : decode cX9_rule 11 = .ok (.ldc 72, 2) := by decide +kernel
theorem dX9_rule_13 : decode cX9_rule 13 = .ok (.invokespecial 74, 3) := by decide +kernel
theorem dX9_rule_16 : decode cX9_rule 16 = .ok (.athrow, 1) := by decide +kernel
theorem dX9_rule_17 : decode cX9_rule 17 = .ok (.iload_n 2, 1) := by decide +kernel
theorem dX9_rule_18 : decode cX9_rule 18 = .ok (.ifCond .eq 10, 3) := by decide +kernel
theorem dX9_rule_21 : decode cX9_rule 21 = .ok (.iload_n 2, 1) := by decide +kernel
theorem dX9_rule_22 : decode cX9_rule 22 = .ok (.invokestatic 77, 3) := by decide +kernel
theorem dX9_rule_25 : decode cX9_rule 25 = .ok (.ifCond .eq 34, 3) := by decide +kernel
theorem dX9_rule_28 : decode cX9_rule 28 = .ok (.iload_n 2, 1) := by decide +kernel
theorem dX9_rule_29 : decode cX9_rule 29 = .ok (.iload_n 3, 1) := by decide +kernel
theorem dX9_rule_30 : decode cX9_rule 30 = .ok (.invokestatic 80, 3) := by decide +kernel
theorem dX9_rule_33 : decode cX9_rule 33 = .ok (.ifCond .eq 26, 3) := by decide +kernel
theorem dX9_rule_36 : decode cX9_rule 36 = .ok (.iload_n 3, 1) := by decide +kernel
theorem dX9_rule_37 : decode cX9_rule 37 = .ok (.iload 4, 2) := by decide +kernel
theorem dX9_rule_39 : decode cX9_rule 39 = .ok (.invokestatic 80, 3) := by decide +kernel
theorem dX9_rule_42 : decode cX9_rule 42 = .ok (.ifCond .eq 17, 3) := by decide +kernel
theorem dX9_rule_45 : decode cX9_rule 45 = .ok (.iload 4, 2) := by decide +kernel
theorem dX9_rule_47 : decode cX9_rule 47 = .ok (.iload 5, 2) := by decide +kernel
theorem dX9_rule_49 : decode cX9_rule 49 = .ok (.invokestatic 80, 3) := by decide +kernel
theorem dX9_rule_52 : decode cX9_rule 52 = .ok (.ifCond .eq 7, 3) := by decide +kernel
theorem dX9_rule_55 : decode cX9_rule 55 = .ok (.iconst 1, 1) := by decide +kernel
theorem dX9_rule_56 : decode cX9_rule 56 = .ok (.goto 4, 3) := by decide +kernel
theorem dX9_rule_59 : decode cX9_rule 59 = .ok (.iconst 0, 1) := by decide +kernel
theorem dX9_rule_60 : decode cX9_rule 60 = .ok (.istore 6, 2) := by decide +kernel
theorem dX9_rule_62 : decode cX9_rule 62 = .ok (.iload 6, 2) := by decide +kernel
theorem dX9_rule_64 : decode cX9_rule 64 = .ok (.ifCond .ne 13, 3) := by decide +kernel
theorem dX9_rule_67 : decode cX9_rule 67 = .ok (.new 70, 3) := by decide +kernel
theorem dX9_rule_70 : decode cX9_rule 70 = .ok (.dup, 1) := by decide +kernel
theorem dX9_rule_71 : decode cX9_rule 71 = .ok (.ldc 84, 2) := by decide +kernel
theorem dX9_rule_73 : decode cX9_rule 73 = .ok (.invokespecial 74, 3) := by decide +kernel
theorem dX9_rule_76 : decode cX9_rule 76 = .ok (.athrow, 1) := by decide +kernel
theorem dX9_rule_77 : decode cX9_rule 77 = .ok (.aload_n 0, 1) := by decide +kernel
theorem dX9_rule_78 : decode cX9_rule 78 = .ok (.getfield 12, 3) := by decide +kernel
theorem dX9_rule_81 : decode cX9_rule 81 = .ok (.invokevirtual 86, 3) := by decide +kernel
theorem dX9_rule_84 : decode cX9_rule 84 = .ok (.bipush 14, 2) := by decide +kernel
theorem dX9_rule_86 : decode cX9_rule 86 = .ok (.if_icmp .lt 13, 3) := by decide +kernel
theorem dX9_rule_89 : decode cX9_rule 89 = .ok (.new 90, 3) := by decide +kernel
theorem dX9_rule_92 : decode cX9_rule 92 = .ok (.dup, 1) := by decide +kernel
theorem dX9_rule_93 : decode cX9_rule 93 = .ok (.ldc 92, 2) := by decide +kernel
theorem dX9_rule_95 : decode cX9_rule 95 = .ok (.invokespecial 94, 3) := by decide +kernel
theorem dX9_rule_98 : decode cX9_rule 98 = .ok (.athrow, 1) := by decide +kernel
theorem dX9_rule_99 : decode cX9_rule 99 = .ok (.aload_n 0, 1) := by decide +kernel
theorem dX9_rule_100 : decode cX9_rule 100 = .ok (.iconst 0, 1) := by decide +kernel
theorem dX9_rule_101 : decode cX9_rule 101 = .ok (.putfield 58, 3) := by decide +kernel
theorem dX9_rule_104 : decode cX9_rule 104 = .ok (.aload_n 0, 1) := by decide +kernel
theorem dX9_rule_105 : decode cX9_rule 105 = .ok (.getfield 12, 3) := by decide +kernel
theorem dX9_rule_108 : decode cX9_rule 108 = .ok (.iload_n 1, 1) := by decide +kernel
theorem dX9_rule_109 : decode cX9_rule 109 = .ok (.iload_n 2, 1) := by decide +kernel
theorem dX9_rule_110 : decode cX9_rule 110 = .ok (.iload_n 3, 1) := by decide +kernel
theorem dX9_rule_111 : decode cX9_rule 111 = .ok (.iload 4, 2) := by decide +kernel
theorem dX9_rule_113 : decode cX9_rule 113 = .ok (.iload 5, 2) := by decide +kernel
theorem dX9_rule_115 : decode cX9_rule 115 = .ok (.invokevirtual 95, 3) := by decide +kernel
theorem dX9_rule_118 : decode cX9_rule 118 = .ok (.ireturn, 1) := by decide +kernel
theorem dX9_build_0 : decode cX9_build 0 = .ok (.aload_n 0, 1) := by decide +kernel
theorem dX9_build_1 : decode cX9_build 1 = .ok (.iconst 0, 1) := by decide +kernel
theorem dX9_build_2 : decode cX9_build 2 = .ok (.putfield 58, 3) := by decide +kernel
theorem dX9_build_5 : decode cX9_build 5 = .ok (.aload_n 0, 1) := by decide +kernel
theorem dX9_build_6 : decode cX9_build 6 = .ok (.getfield 12, 3) := by decide +kernel
theorem dX9_build_9 : decode cX9_build 9 = .ok (.invokevirtual 86, 3) := by decide +kernel
theorem dX9_build_12 : decode cX9_build 12 = .ok (.ifCond .ne 13, 3) := by decide +kernel
theorem dX9_build_15 : decode cX9_build 15 = .ok (.new 90, 3) := by decide +kernel
theorem dX9_build_18 : decode cX9_build 18 = .ok (.dup, 1) := by decide +kernel
theorem dX9_build_19 : decode cX9_build 19 = .ok (.ldc 143, 2) := by decide +kernel
theorem dX9_build_21 : decode cX9_build 21 = .ok (.invokespecial 94, 3) := by decide +kernel
theorem dX9_build_24 : decode cX9_build 24 = .ok (.athrow, 1) := by decide +kernel
theorem dX9_build_25 : decode cX9_build 25 = .ok (.aload_n 0, 1) := by decide +kernel
theorem dX9_build_26 : decode cX9_build 26 = .ok (.getfield 21, 3) := by decide +kernel
theorem dX9_build_29 : decode cX9_build 29 = .ok (.invokevirtual 145, 3) := by decide +kernel
theorem dX9_build_32 : decode cX9_build 32 = .ok (.ifCond .ne 13, 3) := by decide +kernel
theorem dX9_build_35 : decode cX9_build 35 = .ok (.new 149, 3) := by decide +kernel
theorem dX9_build_38 : decode cX9_build 38 = .ok (.dup, 1) := by decide +kernel
theorem dX9_build_39 : decode cX9_build 39 = .ok (.ldc 151, 2) := by decide +kernel
theorem dX9_build_41 : decode cX9_build 41 = .ok (.invokespecial 153, 3) := by decide +kernel
theorem dX9_build_44 : decode cX9_build 44 = .ok (.athrow, 1) := by decide +kernel
theorem dX9_build_45 : decode cX9_build 45 = .ok (.aload_n 0, 1) := by decide +kernel
theorem dX9_build_46 : decode cX9_build 46 = .ok (.getfield 21, 3) := by decide +kernel
theorem dX9_build_49 : decode cX9_build 49 = .ok (.invokevirtual 154, 3) := by decide +kernel
theorem dX9_build_52 : decode cX9_build 52 = .ok (.aload_n 0, 1) := by decide +kernel
theorem dX9_build_53 : decode cX9_build 53 = .ok (.getfield 21, 3) := by decide +kernel
theorem dX9_build_56 : decode cX9_build 56 = .ok (.invokevirtual 157, 3) := by decide +kernel
theorem dX9_build_59 : decode cX9_build 59 = .ok (.aload_n 0, 1) := by decide +kernel
theorem dX9_build_60 : decode cX9_build 60 = .ok (.getfield 28, 3) := by decide +kernel
theorem dX9_build_63 : decode cX9_build 63 = .ok (.invokevirtual 160, 3) := by decide +kernel
theorem dX9_build_66 : decode cX9_build 66 = .ok (.aload_n 0, 1) := by decide +kernel
theorem dX9_build_67 : decode cX9_build 67 = .ok (.iconst 1, 1) := by decide +kernel
theorem dX9_build_68 : decode cX9_build 68 = .ok (.putfield 58, 3) := by decide +kernel
theorem dX9_build_71 : decode cX9_build 71 = .ok (.aload_n 0, 1) := by decide +kernel
theorem dX9_build_72 : decode cX9_build 72 = .ok (.getfield 21, 3) := by decide +kernel
theorem dX9_build_75 : decode cX9_build 75 = .ok (.invokevirtual 163, 3) := by decide +kernel
theorem dX9_build_78 : decode cX9_build 78 = .ok (.ireturn, 1) := by decide +kernel
theorem dX9_token_0 : decode cX9_token 0 = .ok (.iload_n 1, 1) := by decide +kernel
theorem dX9_token_1 : decode cX9_token 1 = .ok (.invokestatic 99, 3) := by decide +kernel
theorem dX9_token_4 : decode cX9_token 4 = .ok (.ifCond .ne 13, 3) := by decide +kernel
theorem dX9_token_7 : decode cX9_token 7 = .ok (.new 70, 3) := by decide +kernel
theorem dX9_token_10 : decode cX9_token 10 = .ok (.dup, 1) := by decide +kernel
theorem dX9_token_11 : decode cX9_token 11 = .ok (.ldc 102, 2) := by decide +kernel
theorem dX9_token_13 : decode cX9_token 13 = .ok (.invokespecial 74, 3) := by decide +kernel
theorem dX9_token_16 : decode cX9_token 16 = .ok (.athrow, 1) := by decide +kernel
theorem dX9_token_17 : decode cX9_token 17 = .ok (.aload_n 0, 1) := by decide +kernel
theorem dX9_token_18 : decode cX9_token 18 = .ok (.getfield 37, 3) := by decide +kernel
theorem dX9_token_21 : decode cX9_token 21 = .ok (.invokevirtual 194, 3) := by decide +kernel
theorem dX9_token_24 : decode cX9_token 24 = .ok (.bipush 40, 2) := by decide +kernel
theorem dX9_token_26 : decode cX9_token 26 = .ok (.if_icmp .lt 13, 3) := by decide +kernel
theorem dX9_token_29 : decode cX9_token 29 = .ok (.new 90, 3) := by decide +kernel
theorem dX9_token_32 : decode cX9_token 32 = .ok (.dup, 1) := by decide +kernel
theorem dX9_token_33 : decode cX9_token 33 = .ok (.ldc 195, 2) := by decide +kernel
theorem dX9_token_35 : decode cX9_token 35 = .ok (.invokespecial 94, 3) := by decide +kernel
theorem dX9_token_38 : decode cX9_token 38 = .ok (.athrow, 1) := by decide +kernel
theorem dX9_token_39 : decode cX9_token 39 = .ok (.aload_n 0, 1) := by decide +kernel
theorem dX9_token_40 : decode cX9_token 40 = .ok (.getfield 37, 3) := by decide +kernel
theorem dX9_token_43 : decode cX9_token 43 = .ok (.iload_n 1, 1) := by decide +kernel
theorem dX9_token_44 : decode cX9_token 44 = .ok (.iload_n 2, 1) := by decide +kernel
theorem dX9_token_45 : decode cX9_token 45 = .ok (.invokevirtual 197, 3) := by decide +kernel
theorem dX9_token_48 : decode cX9_token 48 = .ok (.ireturn, 1) := by decide +kernel
theorem dX9_parse_0 : decode cX9_parse 0 = .ok (.aload_n 0, 1) := by decide +kernel
theorem dX9_parse_1 : decode cX9_parse 1 = .ok (.getfield 58, 3) := by decide +kernel
theorem dX9_parse_4 : decode cX9_parse 4 = .ok (.ifCond .ne 13, 3) := by decide +kernel
theorem dX9_parse_7 : decode cX9_parse 7 = .ok (.new 90, 3) := by decide +kernel
theorem dX9_parse_10 : decode cX9_parse 10 = .ok (.dup, 1) := by decide +kernel
theorem dX9_parse_11 : decode cX9_parse 11 = .ok (.ldc 169, 2) := by decide +kernel
theorem dX9_parse_13 : decode cX9_parse 13 = .ok (.invokespecial 94, 3) := by decide +kernel
theorem dX9_parse_16 : decode cX9_parse 16 = .ok (.athrow, 1) := by decide +kernel
theorem dX9_parse_17 : decode cX9_parse 17 = .ok (.aload_n 0, 1) := by decide +kernel
theorem dX9_parse_18 : decode cX9_parse 18 = .ok (.getfield 21, 3) := by decide +kernel
theorem dX9_parse_21 : decode cX9_parse 21 = .ok (.invokevirtual 200, 3) := by decide +kernel
theorem dX9_parse_24 : decode cX9_parse 24 = .ok (.ifCond .le 13, 3) := by decide +kernel
theorem dX9_parse_27 : decode cX9_parse 27 = .ok (.new 90, 3) := by decide +kernel
theorem dX9_parse_30 : decode cX9_parse 30 = .ok (.dup, 1) := by decide +kernel
theorem dX9_parse_31 : decode cX9_parse 31 = .ok (.ldc 203, 2) := by decide +kernel
theorem dX9_parse_33 : decode cX9_parse 33 = .ok (.invokespecial 94, 3) := by decide +kernel
theorem dX9_parse_36 : decode cX9_parse 36 = .ok (.athrow, 1) := by decide +kernel
theorem dX9_parse_37 : decode cX9_parse 37 = .ok (.aload_n 0, 1) := by decide +kernel
theorem dX9_parse_38 : decode cX9_parse 38 = .ok (.getfield 28, 3) := by decide +kernel
theorem dX9_parse_41 : decode cX9_parse 41 = .ok (.invokevirtual 205, 3) := by decide +kernel
theorem dX9_parse_44 : decode cX9_parse 44 = .ok (.ifCond .eq 13, 3) := by decide +kernel
theorem dX9_parse_47 : decode cX9_parse 47 = .ok (.new 90, 3) := by decide +kernel
theorem dX9_parse_50 : decode cX9_parse 50 = .ok (.dup, 1) := by decide +kernel
theorem dX9_parse_51 : decode cX9_parse 51 = .ok (.ldc 208, 2) := by decide +kernel
theorem dX9_parse_53 : decode cX9_parse 53 = .ok (.invokespecial 94, 3) := by decide +kernel
theorem dX9_parse_56 : decode cX9_parse 56 = .ok (.athrow, 1) := by decide +kernel
theorem dX9_parse_57 : decode cX9_parse 57 = .ok (.aload_n 0, 1) := by decide +kernel
theorem dX9_parse_58 : decode cX9_parse 58 = .ok (.getfield 37, 3) := by decide +kernel
theorem dX9_parse_61 : decode cX9_parse 61 = .ok (.aload_n 0, 1) := by decide +kernel
theorem dX9_parse_62 : decode cX9_parse 62 = .ok (.getfield 55, 3) := by decide +kernel
theorem dX9_parse_65 : decode cX9_parse 65 = .ok (.invokevirtual 210, 3) := by decide +kernel
theorem dX9_parse_68 : decode cX9_parse 68 = .ok (.istore_n 1, 1) := by decide +kernel
theorem dX9_parse_69 : decode cX9_parse 69 = .ok (.aload_n 0, 1) := by decide +kernel
theorem dX9_parse_70 : decode cX9_parse 70 = .ok (.getfield 37, 3) := by decide +kernel
theorem dX9_parse_73 : decode cX9_parse 73 = .ok (.invokevirtual 214, 3) := by decide +kernel
theorem dX9_parse_76 : decode cX9_parse 76 = .ok (.aload_n 0, 1) := by decide +kernel
theorem dX9_parse_77 : decode cX9_parse 77 = .ok (.iload_n 1, 1) := by decide +kernel
theorem dX9_parse_78 : decode cX9_parse 78 = .ok (.ifCond .lt 7, 3) := by decide +kernel
theorem dX9_parse_81 : decode cX9_parse 81 = .ok (.iload_n 1, 1) := by decide +kernel
theorem dX9_parse_82 : decode cX9_parse 82 = .ok (.goto 4, 3) := by decide +kernel
theorem dX9_parse_85 : decode cX9_parse 85 = .ok (.iconst (-1), 1) := by decide +kernel
theorem dX9_parse_86 : decode cX9_parse 86 = .ok (.putfield 62, 3) := by decide +kernel
theorem dX9_parse_89 : decode cX9_parse 89 = .ok (.iload_n 1, 1) := by decide +kernel
theorem dX9_parse_90 : decode cX9_parse 90 = .ok (.bipush (-2), 2) := by decide +kernel
theorem dX9_parse_92 : decode cX9_parse 92 = .ok (.if_icmp .ne 13, 3) := by decide +kernel
theorem dX9_parse_95 : decode cX9_parse 95 = .ok (.new 149, 3) := by decide +kernel
theorem dX9_parse_98 : decode cX9_parse 98 = .ok (.dup, 1) := by decide +kernel
theorem dX9_parse_99 : decode cX9_parse 99 = .ok (.ldc 217, 2) := by decide +kernel
theorem dX9_parse_101 : decode cX9_parse 101 = .ok (.invokespecial 153, 3) := by decide +kernel
theorem dX9_parse_104 : decode cX9_parse 104 = .ok (.athrow, 1) := by decide +kernel
theorem dX9_parse_105 : decode cX9_parse 105 = .ok (.iload_n 1, 1) := by decide +kernel
theorem dX9_parse_106 : decode cX9_parse 106 = .ok (.iconst (-1), 1) := by decide +kernel
theorem dX9_parse_107 : decode cX9_parse 107 = .ok (.if_icmp .eq 13, 3) := by decide +kernel
theorem dX9_parse_110 : decode cX9_parse 110 = .ok (.new 70, 3) := by decide +kernel
theorem dX9_parse_113 : decode cX9_parse 113 = .ok (.dup, 1) := by decide +kernel
theorem dX9_parse_114 : decode cX9_parse 114 = .ok (.ldc 219, 2) := by decide +kernel
theorem dX9_parse_116 : decode cX9_parse 116 = .ok (.invokespecial 74, 3) := by decide +kernel
theorem dX9_parse_119 : decode cX9_parse 119 = .ok (.athrow, 1) := by decide +kernel
theorem dX9_parse_120 : decode cX9_parse 120 = .ok (.aload_n 0, 1) := by decide +kernel
theorem dX9_parse_121 : decode cX9_parse 121 = .ok (.getfield 44, 3) := by decide +kernel
theorem dX9_parse_124 : decode cX9_parse 124 = .ok (.aload_n 0, 1) := by decide +kernel
theorem dX9_parse_125 : decode cX9_parse 125 = .ok (.getfield 55, 3) := by decide +kernel
theorem dX9_parse_128 : decode cX9_parse 128 = .ok (.invokevirtual 221, 3) := by decide +kernel
theorem dX9_parse_131 : decode cX9_parse 131 = .ok (.aload_n 0, 1) := by decide +kernel
theorem dX9_parse_132 : decode cX9_parse 132 = .ok (.getfield 51, 3) := by decide +kernel
theorem dX9_parse_135 : decode cX9_parse 135 = .ok (.astore_n 2, 1) := by decide +kernel
theorem dX9_parse_136 : decode cX9_parse 136 = .ok (.aload_n 0, 1) := by decide +kernel
theorem dX9_parse_137 : decode cX9_parse 137 = .ok (.aload_n 0, 1) := by decide +kernel
theorem dX9_parse_138 : decode cX9_parse 138 = .ok (.getfield 55, 3) := by decide +kernel
theorem dX9_parse_141 : decode cX9_parse 141 = .ok (.putfield 51, 3) := by decide +kernel
theorem dX9_parse_144 : decode cX9_parse 144 = .ok (.aload_n 0, 1) := by decide +kernel
theorem dX9_parse_145 : decode cX9_parse 145 = .ok (.aload_n 2, 1) := by decide +kernel
theorem dX9_parse_146 : decode cX9_parse 146 = .ok (.putfield 55, 3) := by decide +kernel
theorem dX9_parse_149 : decode cX9_parse 149 = .ok (.aload_n 0, 1) := by decide +kernel
theorem dX9_parse_150 : decode cX9_parse 150 = .ok (.getfield 51, 3) := by decide +kernel
theorem dX9_parse_153 : decode cX9_parse 153 = .ok (.invokevirtual 225, 3) := by decide +kernel
theorem dX9_parse_156 : decode cX9_parse 156 = .ok (.ireturn, 1) := by decide +kernel
theorem dX9_fault_0 : decode cX9_fault 0 = .ok (.aload_n 0, 1) := by decide +kernel
theorem dX9_fault_1 : decode cX9_fault 1 = .ok (.getfield 62, 3) := by decide +kernel
theorem dX9_fault_4 : decode cX9_fault 4 = .ok (.ireturn, 1) := by decide +kernel
theorem dX9_node_0 : decode cX9_node 0 = .ok (.aload_n 0, 1) := by decide +kernel
theorem dX9_node_1 : decode cX9_node 1 = .ok (.getfield 51, 3) := by decide +kernel
theorem dX9_node_4 : decode cX9_node 4 = .ok (.iload_n 1, 1) := by decide +kernel
theorem dX9_node_5 : decode cX9_node 5 = .ok (.invokevirtual 226, 3) := by decide +kernel
theorem dX9_node_8 : decode cX9_node 8 = .ok (.ifCond .ne 13, 3) := by decide +kernel
theorem dX9_node_11 : decode cX9_node 11 = .ok (.new 119, 3) := by decide +kernel
theorem dX9_node_14 : decode cX9_node 14 = .ok (.dup, 1) := by decide +kernel
theorem dX9_node_15 : decode cX9_node 15 = .ok (.ldc 229, 2) := by decide +kernel
theorem dX9_node_17 : decode cX9_node 17 = .ok (.invokespecial 123, 3) := by decide +kernel
theorem dX9_node_20 : decode cX9_node 20 = .ok (.athrow, 1) := by decide +kernel
theorem dX9_node_21 : decode cX9_node 21 = .ok (.iload_n 2, 1) := by decide +kernel
theorem dX9_node_22 : decode cX9_node 22 = .ok (.ifCond .lt 8, 3) := by decide +kernel
theorem dX9_node_25 : decode cX9_node 25 = .ok (.iload_n 2, 1) := by decide +kernel
theorem dX9_node_26 : decode cX9_node 26 = .ok (.iconst 3, 1) := by decide +kernel
theorem dX9_node_27 : decode cX9_node 27 = .ok (.if_icmp .le 13, 3) := by decide +kernel
theorem dX9_node_30 : decode cX9_node 30 = .ok (.new 70, 3) := by decide +kernel
theorem dX9_node_33 : decode cX9_node 33 = .ok (.dup, 1) := by decide +kernel
theorem dX9_node_34 : decode cX9_node 34 = .ok (.ldc 231, 2) := by decide +kernel
theorem dX9_node_36 : decode cX9_node 36 = .ok (.invokespecial 74, 3) := by decide +kernel
theorem dX9_node_39 : decode cX9_node 39 = .ok (.athrow, 1) := by decide +kernel
theorem dX9_node_40 : decode cX9_node 40 = .ok (.aload_n 0, 1) := by decide +kernel
theorem dX9_node_41 : decode cX9_node 41 = .ok (.getfield 51, 3) := by decide +kernel
theorem dX9_node_44 : decode cX9_node 44 = .ok (.iload_n 1, 1) := by decide +kernel
theorem dX9_node_45 : decode cX9_node 45 = .ok (.iload_n 2, 1) := by decide +kernel
theorem dX9_node_46 : decode cX9_node 46 = .ok (.invokevirtual 233, 3) := by decide +kernel
theorem dX9_node_49 : decode cX9_node 49 = .ok (.ireturn, 1) := by decide +kernel
theorem dX9_count_0 : decode cX9_count 0 = .ok (.iload_n 1, 1) := by decide +kernel
theorem dX9_count_1 : decode cX9_count 1 = .ok (.tableswitch 136 0 6 #[43, 51, 59, 78, 97, 120, 128], 43) := by decide +kernel
theorem dX9_count_44 : decode cX9_count 44 = .ok (.aload_n 0, 1) := by decide +kernel
theorem dX9_count_45 : decode cX9_count 45 = .ok (.getfield 12, 3) := by decide +kernel
theorem dX9_count_48 : decode cX9_count 48 = .ok (.invokevirtual 86, 3) := by decide +kernel
theorem dX9_count_51 : decode cX9_count 51 = .ok (.ireturn, 1) := by decide +kernel
theorem dX9_count_52 : decode cX9_count 52 = .ok (.aload_n 0, 1) := by decide +kernel
theorem dX9_count_53 : decode cX9_count 53 = .ok (.getfield 12, 3) := by decide +kernel
theorem dX9_count_56 : decode cX9_count 56 = .ok (.invokevirtual 245, 3) := by decide +kernel
theorem dX9_count_59 : decode cX9_count 59 = .ok (.ireturn, 1) := by decide +kernel
theorem dX9_count_60 : decode cX9_count 60 = .ok (.aload_n 0, 1) := by decide +kernel
theorem dX9_count_61 : decode cX9_count 61 = .ok (.getfield 58, 3) := by decide +kernel
theorem dX9_count_64 : decode cX9_count 64 = .ok (.ifCond .eq 13, 3) := by decide +kernel
theorem dX9_count_67 : decode cX9_count 67 = .ok (.aload_n 0, 1) := by decide +kernel
theorem dX9_count_68 : decode cX9_count 68 = .ok (.getfield 21, 3) := by decide +kernel
theorem dX9_count_71 : decode cX9_count 71 = .ok (.invokevirtual 163, 3) := by decide +kernel
theorem dX9_count_74 : decode cX9_count 74 = .ok (.goto 4, 3) := by decide +kernel
theorem dX9_count_77 : decode cX9_count 77 = .ok (.iconst 0, 1) := by decide +kernel
theorem dX9_count_78 : decode cX9_count 78 = .ok (.ireturn, 1) := by decide +kernel
theorem dX9_count_79 : decode cX9_count 79 = .ok (.aload_n 0, 1) := by decide +kernel
theorem dX9_count_80 : decode cX9_count 80 = .ok (.getfield 58, 3) := by decide +kernel
theorem dX9_count_83 : decode cX9_count 83 = .ok (.ifCond .eq 13, 3) := by decide +kernel
theorem dX9_count_86 : decode cX9_count 86 = .ok (.aload_n 0, 1) := by decide +kernel
theorem dX9_count_87 : decode cX9_count 87 = .ok (.getfield 21, 3) := by decide +kernel
theorem dX9_count_90 : decode cX9_count 90 = .ok (.invokevirtual 200, 3) := by decide +kernel
theorem dX9_count_93 : decode cX9_count 93 = .ok (.goto 4, 3) := by decide +kernel
theorem dX9_count_96 : decode cX9_count 96 = .ok (.iconst 0, 1) := by decide +kernel
theorem dX9_count_97 : decode cX9_count 97 = .ok (.ireturn, 1) := by decide +kernel
theorem dX9_count_98 : decode cX9_count 98 = .ok (.aload_n 0, 1) := by decide +kernel
theorem dX9_count_99 : decode cX9_count 99 = .ok (.getfield 58, 3) := by decide +kernel
theorem dX9_count_102 : decode cX9_count 102 = .ok (.ifCond .eq 17, 3) := by decide +kernel
theorem dX9_count_105 : decode cX9_count 105 = .ok (.aload_n 0, 1) := by decide +kernel
theorem dX9_count_106 : decode cX9_count 106 = .ok (.getfield 28, 3) := by decide +kernel
theorem dX9_count_109 : decode cX9_count 109 = .ok (.invokevirtual 205, 3) := by decide +kernel
theorem dX9_count_112 : decode cX9_count 112 = .ok (.ifCond .eq 7, 3) := by decide +kernel
theorem dX9_count_115 : decode cX9_count 115 = .ok (.iconst 1, 1) := by decide +kernel
theorem dX9_count_116 : decode cX9_count 116 = .ok (.goto 4, 3) := by decide +kernel
theorem dX9_count_119 : decode cX9_count 119 = .ok (.iconst 0, 1) := by decide +kernel
theorem dX9_count_120 : decode cX9_count 120 = .ok (.ireturn, 1) := by decide +kernel
theorem dX9_count_121 : decode cX9_count 121 = .ok (.aload_n 0, 1) := by decide +kernel
theorem dX9_count_122 : decode cX9_count 122 = .ok (.getfield 51, 3) := by decide +kernel
theorem dX9_count_125 : decode cX9_count 125 = .ok (.invokevirtual 225, 3) := by decide +kernel
theorem dX9_count_128 : decode cX9_count 128 = .ok (.ireturn, 1) := by decide +kernel
theorem dX9_count_129 : decode cX9_count 129 = .ok (.aload_n 0, 1) := by decide +kernel
theorem dX9_count_130 : decode cX9_count 130 = .ok (.getfield 37, 3) := by decide +kernel
theorem dX9_count_133 : decode cX9_count 133 = .ok (.invokevirtual 194, 3) := by decide +kernel
theorem dX9_count_136 : decode cX9_count 136 = .ok (.ireturn, 1) := by decide +kernel
theorem dX9_count_137 : decode cX9_count 137 = .ok (.new 70, 3) := by decide +kernel
theorem dX9_count_140 : decode cX9_count 140 = .ok (.dup, 1) := by decide +kernel
theorem dX9_count_141 : decode cX9_count 141 = .ok (.ldc 248, 2) := by decide +kernel
theorem dX9_count_143 : decode cX9_count 143 = .ok (.invokespecial 74, 3) := by decide +kernel
theorem dX9_count_146 : decode cX9_count 146 = .ok (.athrow, 1) := by decide +kernel
theorem dX9_isTerminal_0 : decode cX9_isTerminal 0 = .ok (.iload_n 0, 1) := by decide +kernel
theorem dX9_isTerminal_1 : decode cX9_isTerminal 1 = .ok (.iconst 1, 1) := by decide +kernel
theorem dX9_isTerminal_2 : decode cX9_isTerminal 2 = .ok (.if_icmp .lt 13, 3) := by decide +kernel
theorem dX9_isTerminal_5 : decode cX9_isTerminal 5 = .ok (.iload_n 0, 1) := by decide +kernel
theorem dX9_isTerminal_6 : decode cX9_isTerminal 6 = .ok (.bipush 6, 2) := by decide +kernel
theorem dX9_isTerminal_8 : decode cX9_isTerminal 8 = .ok (.if_icmp .gt 7, 3) := by decide +kernel
theorem dX9_isTerminal_11 : decode cX9_isTerminal 11 = .ok (.iconst 1, 1) := by decide +kernel
theorem dX9_isTerminal_12 : decode cX9_isTerminal 12 = .ok (.goto 4, 3) := by decide +kernel
theorem dX9_isTerminal_15 : decode cX9_isTerminal 15 = .ok (.iconst 0, 1) := by decide +kernel
theorem dX9_isTerminal_16 : decode cX9_isTerminal 16 = .ok (.ireturn, 1) := by decide +kernel
theorem dX9_isNonterminal_0 : decode cX9_isNonterminal 0 = .ok (.iload_n 0, 1) := by decide +kernel
theorem dX9_isNonterminal_1 : decode cX9_isNonterminal 1 = .ok (.bipush 8, 2) := by decide +kernel
theorem dX9_isNonterminal_3 : decode cX9_isNonterminal 3 = .ok (.if_icmp .lt 13, 3) := by decide +kernel
theorem dX9_isNonterminal_6 : decode cX9_isNonterminal 6 = .ok (.iload_n 0, 1) := by decide +kernel
theorem dX9_isNonterminal_7 : decode cX9_isNonterminal 7 = .ok (.bipush 13, 2) := by decide +kernel
theorem dX9_isNonterminal_9 : decode cX9_isNonterminal 9 = .ok (.if_icmp .gt 7, 3) := by decide +kernel
theorem dX9_isNonterminal_12 : decode cX9_isNonterminal 12 = .ok (.iconst 1, 1) := by decide +kernel
theorem dX9_isNonterminal_13 : decode cX9_isNonterminal 13 = .ok (.goto 4, 3) := by decide +kernel
theorem dX9_isNonterminal_16 : decode cX9_isNonterminal 16 = .ok (.iconst 0, 1) := by decide +kernel
theorem dX9_isNonterminal_17 : decode cX9_isNonterminal 17 = .ok (.ireturn, 1) := by decide +kernel
theorem dX9_isSymbol_0 : decode cX9_isSymbol 0 = .ok (.iload_n 0, 1) := by decide +kernel
theorem dX9_isSymbol_1 : decode cX9_isSymbol 1 = .ok (.invokestatic 99, 3) := by decide +kernel
theorem dX9_isSymbol_4 : decode cX9_isSymbol 4 = .ok (.ifCond .ne 10, 3) := by decide +kernel
theorem dX9_isSymbol_7 : decode cX9_isSymbol 7 = .ok (.iload_n 0, 1) := by decide +kernel
theorem dX9_isSymbol_8 : decode cX9_isSymbol 8 = .ok (.invokestatic 66, 3) := by decide +kernel
theorem dX9_isSymbol_11 : decode cX9_isSymbol 11 = .ok (.ifCond .eq 7, 3) := by decide +kernel
theorem dX9_isSymbol_14 : decode cX9_isSymbol 14 = .ok (.iconst 1, 1) := by decide +kernel
theorem dX9_isSymbol_15 : decode cX9_isSymbol 15 = .ok (.goto 4, 3) := by decide +kernel
theorem dX9_isSymbol_18 : decode cX9_isSymbol 18 = .ok (.iconst 0, 1) := by decide +kernel
theorem dX9_isSymbol_19 : decode cX9_isSymbol 19 = .ok (.ireturn, 1) := by decide +kernel
theorem dX9_mayFollow_0 : decode cX9_mayFollow 0 = .ok (.iload_n 1, 1) := by decide +kernel
theorem dX9_mayFollow_1 : decode cX9_mayFollow 1 = .ok (.ifCond .eq 14, 3) := by decide +kernel
theorem dX9_mayFollow_4 : decode cX9_mayFollow 4 = .ok (.iload_n 0, 1) := by decide +kernel
theorem dX9_mayFollow_5 : decode cX9_mayFollow 5 = .ok (.ifCond .eq 14, 3) := by decide +kernel
theorem dX9_mayFollow_8 : decode cX9_mayFollow 8 = .ok (.iload_n 1, 1) := by decide +kernel
theorem dX9_mayFollow_9 : decode cX9_mayFollow 9 = .ok (.invokestatic 77, 3) := by decide +kernel
theorem dX9_mayFollow_12 : decode cX9_mayFollow 12 = .ok (.ifCond .eq 7, 3) := by decide +kernel
theorem dX9_mayFollow_15 : decode cX9_mayFollow 15 = .ok (.iconst 1, 1) := by decide +kernel
theorem dX9_mayFollow_16 : decode cX9_mayFollow 16 = .ok (.goto 4, 3) := by decide +kernel
theorem dX9_mayFollow_19 : decode cX9_mayFollow 19 = .ok (.iconst 0, 1) := by decide +kernel
theorem dX9_mayFollow_20 : decode cX9_mayFollow 20 = .ok (.ireturn, 1) := by decide +kernel
theorem dL_rule_0 : decode cL_rule 0 = .ok (.aload_n 0, 1) := by decide +kernel
theorem dL_rule_1 : decode cL_rule 1 = .ok (.iload_n 1, 1) := by decide +kernel
theorem dL_rule_2 : decode cL_rule 2 = .ok (.iload_n 2, 1) := by decide +kernel
theorem dL_rule_3 : decode cL_rule 3 = .ok (.iload_n 3, 1) := by decide +kernel
theorem dL_rule_4 : decode cL_rule 4 = .ok (.iload 4, 2) := by decide +kernel
theorem dL_rule_6 : decode cL_rule 6 = .ok (.iload 5, 2) := by decide +kernel
theorem dL_rule_8 : decode cL_rule 8 = .ok (.invokevirtual 7, 3) := by decide +kernel
theorem dL_rule_11 : decode cL_rule 11 = .ok (.ireturn, 1) := by decide +kernel
theorem dL_rule_12 : decode cL_rule 12 = .ok (.astore 6, 2) := by decide +kernel
theorem dL_rule_14 : decode cL_rule 14 = .ok (.bipush (-101), 2) := by decide +kernel
theorem dL_rule_16 : decode cL_rule 16 = .ok (.ireturn, 1) := by decide +kernel
theorem dL_rule_17 : decode cL_rule 17 = .ok (.astore 6, 2) := by decide +kernel
theorem dL_rule_19 : decode cL_rule 19 = .ok (.bipush (-102), 2) := by decide +kernel
theorem dL_rule_21 : decode cL_rule 21 = .ok (.ireturn, 1) := by decide +kernel
theorem dL_build_0 : decode cL_build 0 = .ok (.aload_n 0, 1) := by decide +kernel
theorem dL_build_1 : decode cL_build 1 = .ok (.invokevirtual 17, 3) := by decide +kernel
theorem dL_build_4 : decode cL_build 4 = .ok (.ireturn, 1) := by decide +kernel
theorem dL_build_5 : decode cL_build 5 = .ok (.astore_n 1, 1) := by decide +kernel
theorem dL_build_6 : decode cL_build 6 = .ok (.bipush (-101), 2) := by decide +kernel
theorem dL_build_8 : decode cL_build 8 = .ok (.ireturn, 1) := by decide +kernel
theorem dL_build_9 : decode cL_build 9 = .ok (.astore_n 1, 1) := by decide +kernel
theorem dL_build_10 : decode cL_build 10 = .ok (.bipush (-102), 2) := by decide +kernel
theorem dL_build_12 : decode cL_build 12 = .ok (.ireturn, 1) := by decide +kernel
theorem dL_token_0 : decode cL_token 0 = .ok (.aload_n 0, 1) := by decide +kernel
theorem dL_token_1 : decode cL_token 1 = .ok (.iload_n 1, 1) := by decide +kernel
theorem dL_token_2 : decode cL_token 2 = .ok (.iload_n 2, 1) := by decide +kernel
theorem dL_token_3 : decode cL_token 3 = .ok (.invokevirtual 23, 3) := by decide +kernel
theorem dL_token_6 : decode cL_token 6 = .ok (.ireturn, 1) := by decide +kernel
theorem dL_token_7 : decode cL_token 7 = .ok (.astore_n 3, 1) := by decide +kernel
theorem dL_token_8 : decode cL_token 8 = .ok (.bipush (-101), 2) := by decide +kernel
theorem dL_token_10 : decode cL_token 10 = .ok (.ireturn, 1) := by decide +kernel
theorem dL_token_11 : decode cL_token 11 = .ok (.astore_n 3, 1) := by decide +kernel
theorem dL_token_12 : decode cL_token 12 = .ok (.bipush (-102), 2) := by decide +kernel
theorem dL_token_14 : decode cL_token 14 = .ok (.ireturn, 1) := by decide +kernel
theorem dL_parse_0 : decode cL_parse 0 = .ok (.aload_n 0, 1) := by decide +kernel
theorem dL_parse_1 : decode cL_parse 1 = .ok (.invokevirtual 27, 3) := by decide +kernel
theorem dL_parse_4 : decode cL_parse 4 = .ok (.ireturn, 1) := by decide +kernel
theorem dL_parse_5 : decode cL_parse 5 = .ok (.astore_n 1, 1) := by decide +kernel
theorem dL_parse_6 : decode cL_parse 6 = .ok (.bipush (-101), 2) := by decide +kernel
theorem dL_parse_8 : decode cL_parse 8 = .ok (.ireturn, 1) := by decide +kernel
theorem dL_parse_9 : decode cL_parse 9 = .ok (.astore_n 1, 1) := by decide +kernel
theorem dL_parse_10 : decode cL_parse 10 = .ok (.bipush (-102), 2) := by decide +kernel
theorem dL_parse_12 : decode cL_parse 12 = .ok (.ireturn, 1) := by decide +kernel
theorem dL_parse_13 : decode cL_parse 13 = .ok (.astore_n 1, 1) := by decide +kernel
theorem dL_parse_14 : decode cL_parse 14 = .ok (.bipush (-103), 2) := by decide +kernel
theorem dL_parse_16 : decode cL_parse 16 = .ok (.ireturn, 1) := by decide +kernel
theorem dL_node_0 : decode cL_node 0 = .ok (.aload_n 0, 1) := by decide +kernel
theorem dL_node_1 : decode cL_node 1 = .ok (.iload_n 1, 1) := by decide +kernel
theorem dL_node_2 : decode cL_node 2 = .ok (.iload_n 2, 1) := by decide +kernel
theorem dL_node_3 : decode cL_node 3 = .ok (.invokevirtual 30, 3) := by decide +kernel
theorem dL_node_6 : decode cL_node 6 = .ok (.ireturn, 1) := by decide +kernel
theorem dL_node_7 : decode cL_node 7 = .ok (.astore_n 3, 1) := by decide +kernel
theorem dL_node_8 : decode cL_node 8 = .ok (.bipush (-101), 2) := by decide +kernel
theorem dL_node_10 : decode cL_node 10 = .ok (.ireturn, 1) := by decide +kernel
theorem dL_node_11 : decode cL_node 11 = .ok (.astore_n 3, 1) := by decide +kernel
theorem dL_node_12 : decode cL_node 12 = .ok (.bipush (-102), 2) := by decide +kernel
theorem dL_node_14 : decode cL_node 14 = .ok (.ireturn, 1) := by decide +kernel
theorem dL_count_0 : decode cL_count 0 = .ok (.aload_n 0, 1) := by decide +kernel
theorem dL_count_1 : decode cL_count 1 = .ok (.iload_n 1, 1) := by decide +kernel
theorem dL_count_2 : decode cL_count 2 = .ok (.invokevirtual 35, 3) := by decide +kernel
theorem dL_count_5 : decode cL_count 5 = .ok (.ireturn, 1) := by decide +kernel
theorem dL_count_6 : decode cL_count 6 = .ok (.astore_n 2, 1) := by decide +kernel
theorem dL_count_7 : decode cL_count 7 = .ok (.bipush (-101), 2) := by decide +kernel
theorem dL_count_9 : decode cL_count 9 = .ok (.ireturn, 1) := by decide +kernel
theorem dL_cell_0 : decode cL_cell 0 = .ok (.iload_n 1, 1) := by decide +kernel
theorem dL_cell_1 : decode cL_cell 1 = .ok (.aload_n 0, 1) := by decide +kernel
theorem dL_cell_2 : decode cL_cell 2 = .ok (.arraylength, 1) := by decide +kernel
theorem dL_cell_3 : decode cL_cell 3 = .ok (.if_icmp .ge 9, 3) := by decide +kernel
theorem dL_cell_6 : decode cL_cell 6 = .ok (.aload_n 0, 1) := by decide +kernel
theorem dL_cell_7 : decode cL_cell 7 = .ok (.iload_n 1, 1) := by decide +kernel
theorem dL_cell_8 : decode cL_cell 8 = .ok (.iaload, 1) := by decide +kernel
theorem dL_cell_9 : decode cL_cell 9 = .ok (.goto 4, 3) := by decide +kernel
theorem dL_cell_12 : decode cL_cell 12 = .ok (.iconst 0, 1) := by decide +kernel
theorem dL_cell_13 : decode cL_cell 13 = .ok (.ireturn, 1) := by decide +kernel
theorem dL_symbol_0 : decode cL_symbol 0 = .ok (.iload_n 0, 1) := by decide +kernel
theorem dL_symbol_1 : decode cL_symbol 1 = .ok (.bipush 7, 2) := by decide +kernel
theorem dL_symbol_3 : decode cL_symbol 3 = .ok (.iand, 1) := by decide +kernel
theorem dL_symbol_4 : decode cL_symbol 4 = .ok (.iconst 4, 1) := by decide +kernel
theorem dL_symbol_5 : decode cL_symbol 5 = .ok (.if_icmp .ge 10, 3) := by decide +kernel
theorem dL_symbol_8 : decode cL_symbol 8 = .ok (.iload_n 0, 1) := by decide +kernel
theorem dL_symbol_9 : decode cL_symbol 9 = .ok (.bipush 7, 2) := by decide +kernel
theorem dL_symbol_11 : decode cL_symbol 11 = .ok (.iand, 1) := by decide +kernel
theorem dL_symbol_12 : decode cL_symbol 12 = .ok (.goto 43, 3) := by decide +kernel
theorem dL_symbol_15 : decode cL_symbol 15 = .ok (.iload_n 0, 1) := by decide +kernel
theorem dL_symbol_16 : decode cL_symbol 16 = .ok (.bipush 7, 2) := by decide +kernel
theorem dL_symbol_18 : decode cL_symbol 18 = .ok (.iand, 1) := by decide +kernel
theorem dL_symbol_19 : decode cL_symbol 19 = .ok (.iconst 4, 1) := by decide +kernel
theorem dL_symbol_20 : decode cL_symbol 20 = .ok (.if_icmp .ne 8, 3) := by decide +kernel
theorem dL_symbol_23 : decode cL_symbol 23 = .ok (.bipush 8, 2) := by decide +kernel
theorem dL_symbol_25 : decode cL_symbol 25 = .ok (.goto 30, 3) := by decide +kernel
theorem dL_symbol_28 : decode cL_symbol 28 = .ok (.iload_n 0, 1) := by decide +kernel
theorem dL_symbol_29 : decode cL_symbol 29 = .ok (.bipush 7, 2) := by decide +kernel
theorem dL_symbol_31 : decode cL_symbol 31 = .ok (.iand, 1) := by decide +kernel
theorem dL_symbol_32 : decode cL_symbol 32 = .ok (.iconst 5, 1) := by decide +kernel
theorem dL_symbol_33 : decode cL_symbol 33 = .ok (.if_icmp .ne 8, 3) := by decide +kernel
theorem dL_symbol_36 : decode cL_symbol 36 = .ok (.bipush 9, 2) := by decide +kernel
theorem dL_symbol_38 : decode cL_symbol 38 = .ok (.goto 17, 3) := by decide +kernel
theorem dL_symbol_41 : decode cL_symbol 41 = .ok (.iload_n 0, 1) := by decide +kernel
theorem dL_symbol_42 : decode cL_symbol 42 = .ok (.bipush 7, 2) := by decide +kernel
theorem dL_symbol_44 : decode cL_symbol 44 = .ok (.iand, 1) := by decide +kernel
theorem dL_symbol_45 : decode cL_symbol 45 = .ok (.bipush 6, 2) := by decide +kernel
theorem dL_symbol_47 : decode cL_symbol 47 = .ok (.if_icmp .ne 7, 3) := by decide +kernel
theorem dL_symbol_50 : decode cL_symbol 50 = .ok (.iconst 4, 1) := by decide +kernel
theorem dL_symbol_51 : decode cL_symbol 51 = .ok (.goto 4, 3) := by decide +kernel
theorem dL_symbol_54 : decode cL_symbol 54 = .ok (.iconst 0, 1) := by decide +kernel
theorem dL_symbol_55 : decode cL_symbol 55 = .ok (.ireturn, 1) := by decide +kernel
theorem dL_part_0 : decode cL_part 0 = .ok (.iload_n 2, 1) := by decide +kernel
theorem dL_part_1 : decode cL_part 1 = .ok (.ifCond .ne 27, 3) := by decide +kernel
theorem dL_part_4 : decode cL_part 4 = .ok (.iload_n 1, 1) := by decide +kernel
theorem dL_part_5 : decode cL_part 5 = .ok (.ifCond .ne 8, 3) := by decide +kernel
theorem dL_part_8 : decode cL_part 8 = .ok (.bipush 8, 2) := by decide +kernel
theorem dL_part_10 : decode cL_part 10 = .ok (.goto 17, 3) := by decide +kernel
theorem dL_part_13 : decode cL_part 13 = .ok (.bipush 8, 2) := by decide +kernel
theorem dL_part_15 : decode cL_part 15 = .ok (.aload_n 0, 1) := by decide +kernel
theorem dL_part_16 : decode cL_part 16 = .ok (.iconst 1, 1) := by decide +kernel
theorem dL_part_17 : decode cL_part 17 = .ok (.iconst 5, 1) := by decide +kernel
theorem dL_part_18 : decode cL_part 18 = .ok (.iload_n 1, 1) := by decide +kernel
theorem dL_part_19 : decode cL_part 19 = .ok (.imul, 1) := by decide +kernel
theorem dL_part_20 : decode cL_part 20 = .ok (.iadd, 1) := by decide +kernel
theorem dL_part_21 : decode cL_part 21 = .ok (.invokestatic 39, 3) := by decide +kernel
theorem dL_part_24 : decode cL_part 24 = .ok (.iconst 1, 1) := by decide +kernel
theorem dL_part_25 : decode cL_part 25 = .ok (.iand, 1) := by decide +kernel
theorem dL_part_26 : decode cL_part 26 = .ok (.iadd, 1) := by decide +kernel
theorem dL_part_27 : decode cL_part 27 = .ok (.ireturn, 1) := by decide +kernel
theorem dL_part_28 : decode cL_part 28 = .ok (.aload_n 0, 1) := by decide +kernel
theorem dL_part_29 : decode cL_part 29 = .ok (.iconst 1, 1) := by decide +kernel
theorem dL_part_30 : decode cL_part 30 = .ok (.iconst 5, 1) := by decide +kernel
theorem dL_part_31 : decode cL_part 31 = .ok (.iload_n 1, 1) := by decide +kernel
theorem dL_part_32 : decode cL_part 32 = .ok (.imul, 1) := by decide +kernel
theorem dL_part_33 : decode cL_part 33 = .ok (.iadd, 1) := by decide +kernel
theorem dL_part_34 : decode cL_part 34 = .ok (.iload_n 2, 1) := by decide +kernel
theorem dL_part_35 : decode cL_part 35 = .ok (.iadd, 1) := by decide +kernel
theorem dL_part_36 : decode cL_part 36 = .ok (.invokestatic 39, 3) := by decide +kernel
theorem dL_part_39 : decode cL_part 39 = .ok (.invokestatic 45, 3) := by decide +kernel
theorem dL_part_42 : decode cL_part 42 = .ok (.istore_n 3, 1) := by decide +kernel
theorem dL_part_43 : decode cL_part 43 = .ok (.iconst 1, 1) := by decide +kernel
theorem dL_part_44 : decode cL_part 44 = .ok (.istore 4, 2) := by decide +kernel
theorem dL_part_46 : decode cL_part 46 = .ok (.iload 4, 2) := by decide +kernel
theorem dL_part_48 : decode cL_part 48 = .ok (.iload_n 2, 1) := by decide +kernel
theorem dL_part_49 : decode cL_part 49 = .ok (.if_icmp .ge 29, 3) := by decide +kernel
theorem dL_part_52 : decode cL_part 52 = .ok (.aload_n 0, 1) := by decide +kernel
theorem dL_part_53 : decode cL_part 53 = .ok (.iconst 1, 1) := by decide +kernel
theorem dL_part_54 : decode cL_part 54 = .ok (.iconst 5, 1) := by decide +kernel
theorem dL_part_55 : decode cL_part 55 = .ok (.iload_n 1, 1) := by decide +kernel
theorem dL_part_56 : decode cL_part 56 = .ok (.imul, 1) := by decide +kernel
theorem dL_part_57 : decode cL_part 57 = .ok (.iadd, 1) := by decide +kernel
theorem dL_part_58 : decode cL_part 58 = .ok (.iload 4, 2) := by decide +kernel
theorem dL_part_60 : decode cL_part 60 = .ok (.iadd, 1) := by decide +kernel
theorem dL_part_61 : decode cL_part 61 = .ok (.invokestatic 39, 3) := by decide +kernel
theorem dL_part_64 : decode cL_part 64 = .ok (.invokestatic 45, 3) := by decide +kernel
theorem dL_part_67 : decode cL_part 67 = .ok (.ifCond .ne 5, 3) := by decide +kernel
theorem dL_part_70 : decode cL_part 70 = .ok (.iconst 0, 1) := by decide +kernel
theorem dL_part_71 : decode cL_part 71 = .ok (.istore_n 3, 1) := by decide +kernel
theorem dL_part_72 : decode cL_part 72 = .ok (.iinc 4 1, 3) := by decide +kernel
theorem dL_part_75 : decode cL_part 75 = .ok (.goto (-29), 3) := by decide +kernel
theorem dL_part_78 : decode cL_part 78 = .ok (.iload_n 3, 1) := by decide +kernel
theorem dL_part_79 : decode cL_part 79 = .ok (.ireturn, 1) := by decide +kernel
theorem dL_sums_0 : decode cL_sums 0 = .ok (.aload_n 0, 1) := by decide +kernel
theorem dL_sums_1 : decode cL_sums 1 = .ok (.bipush 8, 2) := by decide +kernel
theorem dL_sums_3 : decode cL_sums 3 = .ok (.bipush 8, 2) := by decide +kernel
theorem dL_sums_5 : decode cL_sums 5 = .ok (.iload_n 1, 1) := by decide +kernel
theorem dL_sums_6 : decode cL_sums 6 = .ok (.bipush 9, 2) := by decide +kernel
theorem dL_sums_8 : decode cL_sums 8 = .ok (.iconst 0, 1) := by decide +kernel
theorem dL_sums_9 : decode cL_sums 9 = .ok (.invokestatic 48, 3) := by decide +kernel
theorem dL_sums_12 : decode cL_sums 12 = .ok (.ifCond .ne 49, 3) := by decide +kernel
theorem dL_sums_15 : decode cL_sums 15 = .ok (.aload_n 0, 1) := by decide +kernel
theorem dL_sums_16 : decode cL_sums 16 = .ok (.bipush 8, 2) := by decide +kernel
theorem dL_sums_18 : decode cL_sums 18 = .ok (.bipush 9, 2) := by decide +kernel
theorem dL_sums_20 : decode cL_sums 20 = .ok (.iconst 0, 1) := by decide +kernel
theorem dL_sums_21 : decode cL_sums 21 = .ok (.iconst 0, 1) := by decide +kernel
theorem dL_sums_22 : decode cL_sums 22 = .ok (.iconst 0, 1) := by decide +kernel
theorem dL_sums_23 : decode cL_sums 23 = .ok (.invokestatic 48, 3) := by decide +kernel
theorem dL_sums_26 : decode cL_sums 26 = .ok (.iconst 1, 1) := by decide +kernel
theorem dL_sums_27 : decode cL_sums 27 = .ok (.if_icmp .ne 34, 3) := by decide +kernel
theorem dL_sums_30 : decode cL_sums 30 = .ok (.aload_n 0, 1) := by decide +kernel
theorem dL_sums_31 : decode cL_sums 31 = .ok (.bipush 9, 2) := by decide +kernel
theorem dL_sums_33 : decode cL_sums 33 = .ok (.bipush 9, 2) := by decide +kernel
theorem dL_sums_35 : decode cL_sums 35 = .ok (.iload_n 2, 1) := by decide +kernel
theorem dL_sums_36 : decode cL_sums 36 = .ok (.bipush 10, 2) := by decide +kernel
theorem dL_sums_38 : decode cL_sums 38 = .ok (.iconst 0, 1) := by decide +kernel
theorem dL_sums_39 : decode cL_sums 39 = .ok (.invokestatic 48, 3) := by decide +kernel
theorem dL_sums_42 : decode cL_sums 42 = .ok (.iconst 2, 1) := by decide +kernel
theorem dL_sums_43 : decode cL_sums 43 = .ok (.if_icmp .ne 18, 3) := by decide +kernel
theorem dL_sums_46 : decode cL_sums 46 = .ok (.aload_n 0, 1) := by decide +kernel
theorem dL_sums_47 : decode cL_sums 47 = .ok (.bipush 9, 2) := by decide +kernel
theorem dL_sums_49 : decode cL_sums 49 = .ok (.bipush 10, 2) := by decide +kernel
theorem dL_sums_51 : decode cL_sums 51 = .ok (.iconst 0, 1) := by decide +kernel
theorem dL_sums_52 : decode cL_sums 52 = .ok (.iconst 0, 1) := by decide +kernel
theorem dL_sums_53 : decode cL_sums 53 = .ok (.iconst 0, 1) := by decide +kernel
theorem dL_sums_54 : decode cL_sums 54 = .ok (.invokestatic 48, 3) := by decide +kernel
theorem dL_sums_57 : decode cL_sums 57 = .ok (.iconst 3, 1) := by decide +kernel
theorem dL_sums_58 : decode cL_sums 58 = .ok (.if_icmp .eq 5, 3) := by decide +kernel
theorem dL_sums_61 : decode cL_sums 61 = .ok (.iconst 0, 1) := by decide +kernel
theorem dL_sums_62 : decode cL_sums 62 = .ok (.ireturn, 1) := by decide +kernel
theorem dL_sums_63 : decode cL_sums 63 = .ok (.aload_n 0, 1) := by decide +kernel
theorem dL_sums_64 : decode cL_sums 64 = .ok (.bipush 10, 2) := by decide +kernel
theorem dL_sums_66 : decode cL_sums 66 = .ok (.iload 4, 2) := by decide +kernel
theorem dL_sums_68 : decode cL_sums 68 = .ok (.bipush 8, 2) := by decide +kernel
theorem dL_sums_70 : decode cL_sums 70 = .ok (.iload 5, 2) := by decide +kernel
theorem dL_sums_72 : decode cL_sums 72 = .ok (.iconst 0, 1) := by decide +kernel
theorem dL_sums_73 : decode cL_sums 73 = .ok (.invokestatic 48, 3) := by decide +kernel
theorem dL_sums_76 : decode cL_sums 76 = .ok (.iconst 4, 1) := by decide +kernel
theorem dL_sums_77 : decode cL_sums 77 = .ok (.if_icmp .ne 21, 3) := by decide +kernel
theorem dL_sums_80 : decode cL_sums 80 = .ok (.aload_n 0, 1) := by decide +kernel
theorem dL_sums_81 : decode cL_sums 81 = .ok (.bipush 10, 2) := by decide +kernel
theorem dL_sums_83 : decode cL_sums 83 = .ok (.iload_n 3, 1) := by decide +kernel
theorem dL_sums_84 : decode cL_sums 84 = .ok (.iconst 0, 1) := by decide +kernel
theorem dL_sums_85 : decode cL_sums 85 = .ok (.iconst 0, 1) := by decide +kernel
theorem dL_sums_86 : decode cL_sums 86 = .ok (.iconst 0, 1) := by decide +kernel
theorem dL_sums_87 : decode cL_sums 87 = .ok (.invokestatic 48, 3) := by decide +kernel
theorem dL_sums_90 : decode cL_sums 90 = .ok (.iconst 5, 1) := by decide +kernel
theorem dL_sums_91 : decode cL_sums 91 = .ok (.if_icmp .ne 7, 3) := by decide +kernel
theorem dL_sums_94 : decode cL_sums 94 = .ok (.iconst 1, 1) := by decide +kernel
theorem dL_sums_95 : decode cL_sums 95 = .ok (.goto 4, 3) := by decide +kernel
theorem dL_sums_98 : decode cL_sums 98 = .ok (.iconst 0, 1) := by decide +kernel
theorem dL_sums_99 : decode cL_sums 99 = .ok (.ireturn, 1) := by decide +kernel
theorem dL_choose_0 : decode cL_choose 0 = .ok (.iconst 0, 1) := by decide +kernel
theorem dL_choose_1 : decode cL_choose 1 = .ok (.istore 5, 2) := by decide +kernel
theorem dL_choose_3 : decode cL_choose 3 = .ok (.iconst 0, 1) := by decide +kernel
theorem dL_choose_4 : decode cL_choose 4 = .ok (.istore 6, 2) := by decide +kernel
theorem dL_choose_6 : decode cL_choose 6 = .ok (.iload 6, 2) := by decide +kernel
theorem dL_choose_8 : decode cL_choose 8 = .ok (.iload_n 1, 1) := by decide +kernel
theorem dL_choose_9 : decode cL_choose 9 = .ok (.if_icmp .ge 20, 3) := by decide +kernel
theorem dL_choose_12 : decode cL_choose 12 = .ok (.aload_n 0, 1) := by decide +kernel
theorem dL_choose_13 : decode cL_choose 13 = .ok (.iload 6, 2) := by decide +kernel
theorem dL_choose_15 : decode cL_choose 15 = .ok (.iaload, 1) := by decide +kernel
theorem dL_choose_16 : decode cL_choose 16 = .ok (.iload_n 2, 1) := by decide +kernel
theorem dL_choose_17 : decode cL_choose 17 = .ok (.if_icmp .ne 6, 3) := by decide +kernel
theorem dL_choose_20 : decode cL_choose 20 = .ok (.iinc 5 1, 3) := by decide +kernel
theorem dL_choose_23 : decode cL_choose 23 = .ok (.iinc 6 1, 3) := by decide +kernel
theorem dL_choose_26 : decode cL_choose 26 = .ok (.goto (-20), 3) := by decide +kernel
theorem dL_choose_29 : decode cL_choose 29 = .ok (.iload 5, 2) := by decide +kernel
theorem dL_choose_31 : decode cL_choose 31 = .ok (.ifCond .ne 5, 3) := by decide +kernel
theorem dL_choose_34 : decode cL_choose 34 = .ok (.iconst (-1), 1) := by decide +kernel
theorem dL_choose_35 : decode cL_choose 35 = .ok (.ireturn, 1) := by decide +kernel
theorem dL_choose_36 : decode cL_choose 36 = .ok (.iload 4, 2) := by decide +kernel
theorem dL_choose_38 : decode cL_choose 38 = .ok (.ifCond .eq 10, 3) := by decide +kernel
theorem dL_choose_41 : decode cL_choose 41 = .ok (.iload 5, 2) := by decide +kernel
theorem dL_choose_43 : decode cL_choose 43 = .ok (.iconst 1, 1) := by decide +kernel
theorem dL_choose_44 : decode cL_choose 44 = .ok (.isub, 1) := by decide +kernel
theorem dL_choose_45 : decode cL_choose 45 = .ok (.goto 11, 3) := by decide +kernel
theorem dL_choose_48 : decode cL_choose 48 = .ok (.iload_n 3, 1) := by decide +kernel
theorem dL_choose_49 : decode cL_choose 49 = .ok (.sipush 1023, 3) := by decide +kernel
theorem dL_choose_52 : decode cL_choose 52 = .ok (.iand, 1) := by decide +kernel
theorem dL_choose_53 : decode cL_choose 53 = .ok (.iload 5, 2) := by decide +kernel
theorem dL_choose_55 : decode cL_choose 55 = .ok (.irem, 1) := by decide +kernel
theorem dL_choose_56 : decode cL_choose 56 = .ok (.istore 6, 2) := by decide +kernel
theorem dL_choose_58 : decode cL_choose 58 = .ok (.iconst (-1), 1) := by decide +kernel
theorem dL_choose_59 : decode cL_choose 59 = .ok (.istore 7, 2) := by decide +kernel
theorem dL_choose_61 : decode cL_choose 61 = .ok (.iconst 0, 1) := by decide +kernel
theorem dL_choose_62 : decode cL_choose 62 = .ok (.istore 8, 2) := by decide +kernel
theorem dL_choose_64 : decode cL_choose 64 = .ok (.iload 8, 2) := by decide +kernel
theorem dL_choose_66 : decode cL_choose 66 = .ok (.iload_n 1, 1) := by decide +kernel
theorem dL_choose_67 : decode cL_choose 67 = .ok (.if_icmp .ge 29, 3) := by decide +kernel
theorem dL_choose_70 : decode cL_choose 70 = .ok (.iload 6, 2) := by decide +kernel
theorem dL_choose_72 : decode cL_choose 72 = .ok (.ifCond .lt 24, 3) := by decide +kernel
theorem dL_choose_75 : decode cL_choose 75 = .ok (.aload_n 0, 1) := by decide +kernel
theorem dL_choose_76 : decode cL_choose 76 = .ok (.iload 8, 2) := by decide +kernel
theorem dL_choose_78 : decode cL_choose 78 = .ok (.iaload, 1) := by decide +kernel
theorem dL_choose_79 : decode cL_choose 79 = .ok (.iload_n 2, 1) := by decide +kernel
theorem dL_choose_80 : decode cL_choose 80 = .ok (.if_icmp .ne 10, 3) := by decide +kernel
theorem dL_choose_83 : decode cL_choose 83 = .ok (.iload 8, 2) := by decide +kernel
theorem dL_choose_85 : decode cL_choose 85 = .ok (.istore 7, 2) := by decide +kernel
theorem dL_choose_87 : decode cL_choose 87 = .ok (.iinc 6 (-1), 3) := by decide +kernel
theorem dL_choose_90 : decode cL_choose 90 = .ok (.iinc 8 1, 3) := by decide +kernel
theorem dL_choose_93 : decode cL_choose 93 = .ok (.goto (-29), 3) := by decide +kernel
theorem dL_choose_96 : decode cL_choose 96 = .ok (.iload 7, 2) := by decide +kernel
theorem dL_choose_98 : decode cL_choose 98 = .ok (.ireturn, 1) := by decide +kernel
theorem dL_law_0 : decode cL_law 0 = .ok (.new 8, 3) := by decide +kernel
theorem dL_law_3 : decode cL_law 3 = .ok (.dup, 1) := by decide +kernel
theorem dL_law_4 : decode cL_law 4 = .ok (.invokespecial 51, 3) := by decide +kernel
theorem dL_law_7 : decode cL_law 7 = .ok (.astore_n 1, 1) := by decide +kernel
theorem dL_law_8 : decode cL_law 8 = .ok (.aload_n 0, 1) := by decide +kernel
theorem dL_law_9 : decode cL_law 9 = .ok (.iconst 0, 1) := by decide +kernel
theorem dL_law_10 : decode cL_law 10 = .ok (.invokestatic 39, 3) := by decide +kernel
theorem dL_law_13 : decode cL_law 13 = .ok (.iconst 4, 1) := by decide +kernel
theorem dL_law_14 : decode cL_law 14 = .ok (.iand, 1) := by decide +kernel
theorem dL_law_15 : decode cL_law 15 = .ok (.iconst 4, 1) := by decide +kernel
theorem dL_law_16 : decode cL_law 16 = .ok (.if_icmp .ne 7, 3) := by decide +kernel
theorem dL_law_19 : decode cL_law 19 = .ok (.iconst 1, 1) := by decide +kernel
theorem dL_law_20 : decode cL_law 20 = .ok (.goto 4, 3) := by decide +kernel
theorem dL_law_23 : decode cL_law 23 = .ok (.iconst 0, 1) := by decide +kernel
theorem dL_law_24 : decode cL_law 24 = .ok (.istore_n 2, 1) := by decide +kernel
theorem dL_law_25 : decode cL_law 25 = .ok (.iload_n 2, 1) := by decide +kernel
theorem dL_law_26 : decode cL_law 26 = .ok (.ifCond .eq 8, 3) := by decide +kernel
theorem dL_law_29 : decode cL_law 29 = .ok (.bipush 6, 2) := by decide +kernel
theorem dL_law_31 : decode cL_law 31 = .ok (.goto 12, 3) := by decide +kernel
theorem dL_law_34 : decode cL_law 34 = .ok (.iconst 1, 1) := by decide +kernel
theorem dL_law_35 : decode cL_law 35 = .ok (.aload_n 0, 1) := by decide +kernel
theorem dL_law_36 : decode cL_law 36 = .ok (.iconst 0, 1) := by decide +kernel
theorem dL_law_37 : decode cL_law 37 = .ok (.invokestatic 39, 3) := by decide +kernel
theorem dL_law_40 : decode cL_law 40 = .ok (.iconst 3, 1) := by decide +kernel
theorem dL_law_41 : decode cL_law 41 = .ok (.iand, 1) := by decide +kernel
theorem dL_law_42 : decode cL_law 42 = .ok (.iadd, 1) := by decide +kernel
theorem dL_law_43 : decode cL_law 43 = .ok (.istore_n 3, 1) := by decide +kernel
theorem dL_law_44 : decode cL_law 44 = .ok (.bipush 6, 2) := by decide +kernel
theorem dL_law_46 : decode cL_law 46 = .ok (.newarray .int, 2) := by decide +kernel
theorem dL_law_48 : decode cL_law 48 = .ok (.astore 4, 2) := by decide +kernel
theorem dL_law_50 : decode cL_law 50 = .ok (.bipush 24, 2) := by decide +kernel
theorem dL_law_52 : decode cL_law 52 = .ok (.newarray .int, 2) := by decide +kernel
theorem dL_law_54 : decode cL_law 54 = .ok (.astore 5, 2) := by decide +kernel
theorem dL_law_56 : decode cL_law 56 = .ok (.iload_n 2, 1) := by decide +kernel
theorem dL_law_57 : decode cL_law 57 = .ok (.ifCond .eq 17, 3) := by decide +kernel
theorem dL_law_60 : decode cL_law 60 = .ok (.aload_n 1, 1) := by decide +kernel
theorem dL_law_61 : decode cL_law 61 = .ok (.iconst 1, 1) := by decide +kernel
theorem dL_law_62 : decode cL_law 62 = .ok (.iconst 2, 1) := by decide +kernel
theorem dL_law_63 : decode cL_law 63 = .ok (.iconst 3, 1) := by decide +kernel
theorem dL_law_64 : decode cL_law 64 = .ok (.iconst 4, 1) := by decide +kernel
theorem dL_law_65 : decode cL_law 65 = .ok (.iconst 5, 1) := by decide +kernel
theorem dL_law_66 : decode cL_law 66 = .ok (.invokestatic 52, 3) := by decide +kernel
theorem dL_law_69 : decode cL_law 69 = .ok (.ifCond .ne 5, 3) := by decide +kernel
theorem dL_law_72 : decode cL_law 72 = .ok (.iconst 0, 1) := by decide +kernel
theorem dL_law_73 : decode cL_law 73 = .ok (.ireturn, 1) := by decide +kernel
theorem dL_law_74 : decode cL_law 74 = .ok (.iconst 0, 1) := by decide +kernel
theorem dL_law_75 : decode cL_law 75 = .ok (.istore 6, 2) := by decide +kernel
theorem dL_law_77 : decode cL_law 77 = .ok (.iload 6, 2) := by decide +kernel
theorem dL_law_79 : decode cL_law 79 = .ok (.iload_n 3, 1) := by decide +kernel
theorem dL_law_80 : decode cL_law 80 = .ok (.if_icmp .ge 106, 3) := by decide +kernel
theorem dL_law_83 : decode cL_law 83 = .ok (.iload_n 2, 1) := by decide +kernel
theorem dL_law_84 : decode cL_law 84 = .ok (.ifCond .ne 102, 3) := by decide +kernel
theorem dL_law_87 : decode cL_law 87 = .ok (.aload_n 1, 1) := by decide +kernel
theorem dL_law_88 : decode cL_law 88 = .ok (.aload_n 0, 1) := by decide +kernel
theorem dL_law_89 : decode cL_law 89 = .ok (.iload 6, 2) := by decide +kernel
theorem dL_law_91 : decode cL_law 91 = .ok (.iconst 0, 1) := by decide +kernel
theorem dL_law_92 : decode cL_law 92 = .ok (.invokestatic 56, 3) := by decide +kernel
theorem dL_law_95 : decode cL_law 95 = .ok (.aload_n 0, 1) := by decide +kernel
theorem dL_law_96 : decode cL_law 96 = .ok (.iload 6, 2) := by decide +kernel
theorem dL_law_98 : decode cL_law 98 = .ok (.iconst 1, 1) := by decide +kernel
theorem dL_law_99 : decode cL_law 99 = .ok (.invokestatic 56, 3) := by decide +kernel
theorem dL_law_102 : decode cL_law 102 = .ok (.aload_n 0, 1) := by decide +kernel
theorem dL_law_103 : decode cL_law 103 = .ok (.iload 6, 2) := by decide +kernel
theorem dL_law_105 : decode cL_law 105 = .ok (.iconst 2, 1) := by decide +kernel
theorem dL_law_106 : decode cL_law 106 = .ok (.invokestatic 56, 3) := by decide +kernel
theorem dL_law_109 : decode cL_law 109 = .ok (.aload_n 0, 1) := by decide +kernel
theorem dL_law_110 : decode cL_law 110 = .ok (.iload 6, 2) := by decide +kernel
theorem dL_law_112 : decode cL_law 112 = .ok (.iconst 3, 1) := by decide +kernel
theorem dL_law_113 : decode cL_law 113 = .ok (.invokestatic 56, 3) := by decide +kernel
theorem dL_law_116 : decode cL_law 116 = .ok (.aload_n 0, 1) := by decide +kernel
theorem dL_law_117 : decode cL_law 117 = .ok (.iload 6, 2) := by decide +kernel
theorem dL_law_119 : decode cL_law 119 = .ok (.iconst 4, 1) := by decide +kernel
theorem dL_law_120 : decode cL_law 120 = .ok (.invokestatic 56, 3) := by decide +kernel
theorem dL_law_123 : decode cL_law 123 = .ok (.invokestatic 48, 3) := by decide +kernel
theorem dL_law_126 : decode cL_law 126 = .ok (.iload 6, 2) := by decide +kernel
theorem dL_law_128 : decode cL_law 128 = .ok (.if_icmp .eq 5, 3) := by decide +kernel
theorem dL_law_131 : decode cL_law 131 = .ok (.iconst 0, 1) := by decide +kernel
theorem dL_law_132 : decode cL_law 132 = .ok (.ireturn, 1) := by decide +kernel
theorem dL_law_133 : decode cL_law 133 = .ok (.aload 4, 2) := by decide +kernel
theorem dL_law_135 : decode cL_law 135 = .ok (.iload 6, 2) := by decide +kernel
theorem dL_law_137 : decode cL_law 137 = .ok (.aload_n 0, 1) := by decide +kernel
theorem dL_law_138 : decode cL_law 138 = .ok (.iload 6, 2) := by decide +kernel
theorem dL_law_140 : decode cL_law 140 = .ok (.iconst 0, 1) := by decide +kernel
theorem dL_law_141 : decode cL_law 141 = .ok (.invokestatic 56, 3) := by decide +kernel
theorem dL_law_144 : decode cL_law 144 = .ok (.iastore, 1) := by decide +kernel
theorem dL_law_145 : decode cL_law 145 = .ok (.iconst 0, 1) := by decide +kernel
theorem dL_law_146 : decode cL_law 146 = .ok (.istore 7, 2) := by decide +kernel
theorem dL_law_148 : decode cL_law 148 = .ok (.iload 7, 2) := by decide +kernel
theorem dL_law_150 : decode cL_law 150 = .ok (.iconst 4, 1) := by decide +kernel
theorem dL_law_151 : decode cL_law 151 = .ok (.if_icmp .ge 29, 3) := by decide +kernel
theorem dL_law_154 : decode cL_law 154 = .ok (.aload 5, 2) := by decide +kernel
theorem dL_law_156 : decode cL_law 156 = .ok (.iconst 4, 1) := by decide +kernel
theorem dL_law_157 : decode cL_law 157 = .ok (.iload 6, 2) := by decide +kernel
theorem dL_law_159 : decode cL_law 159 = .ok (.imul, 1) := by decide +kernel
theorem dL_law_160 : decode cL_law 160 = .ok (.iload 7, 2) := by decide +kernel
theorem dL_law_162 : decode cL_law 162 = .ok (.iadd, 1) := by decide +kernel
theorem dL_law_163 : decode cL_law 163 = .ok (.aload_n 0, 1) := by decide +kernel
theorem dL_law_164 : decode cL_law 164 = .ok (.iload 6, 2) := by decide +kernel
theorem dL_law_166 : decode cL_law 166 = .ok (.iload 7, 2) := by decide +kernel
theorem dL_law_168 : decode cL_law 168 = .ok (.iconst 1, 1) := by decide +kernel
theorem dL_law_169 : decode cL_law 169 = .ok (.iadd, 1) := by decide +kernel
theorem dL_law_170 : decode cL_law 170 = .ok (.invokestatic 56, 3) := by decide +kernel
theorem dL_law_173 : decode cL_law 173 = .ok (.iastore, 1) := by decide +kernel
theorem dL_law_174 : decode cL_law 174 = .ok (.iinc 7 1, 3) := by decide +kernel
theorem dL_law_177 : decode cL_law 177 = .ok (.goto (-29), 3) := by decide +kernel
theorem dL_law_180 : decode cL_law 180 = .ok (.iinc 6 1, 3) := by decide +kernel
theorem dL_law_183 : decode cL_law 183 = .ok (.goto (-106), 3) := by decide +kernel
theorem dL_law_186 : decode cL_law 186 = .ok (.iload_n 2, 1) := by decide +kernel
theorem dL_law_187 : decode cL_law 187 = .ok (.ifCond .eq 140, 3) := by decide +kernel
theorem dL_law_190 : decode cL_law 190 = .ok (.iconst 0, 1) := by decide +kernel
theorem dL_law_191 : decode cL_law 191 = .ok (.istore 6, 2) := by decide +kernel
theorem dL_law_193 : decode cL_law 193 = .ok (.iload 6, 2) := by decide +kernel
theorem dL_law_195 : decode cL_law 195 = .ok (.bipush 6, 2) := by decide +kernel
theorem dL_law_197 : decode cL_law 197 = .ok (.if_icmp .ge 21, 3) := by decide +kernel
theorem dL_law_200 : decode cL_law 200 = .ok (.aload 4, 2) := by decide +kernel
theorem dL_law_202 : decode cL_law 202 = .ok (.iload 6, 2) := by decide +kernel
theorem dL_law_204 : decode cL_law 204 = .ok (.bipush 8, 2) := by decide +kernel
theorem dL_law_206 : decode cL_law 206 = .ok (.iload 6, 2) := by decide +kernel
theorem dL_law_208 : decode cL_law 208 = .ok (.iconst 2, 1) := by decide +kernel
theorem dL_law_209 : decode cL_law 209 = .ok (.idiv, 1) := by decide +kernel
theorem dL_law_210 : decode cL_law 210 = .ok (.iadd, 1) := by decide +kernel
theorem dL_law_211 : decode cL_law 211 = .ok (.iastore, 1) := by decide +kernel
theorem dL_law_212 : decode cL_law 212 = .ok (.iinc 6 1, 3) := by decide +kernel
theorem dL_law_215 : decode cL_law 215 = .ok (.goto (-22), 3) := by decide +kernel
theorem dL_law_218 : decode cL_law 218 = .ok (.iconst 0, 1) := by decide +kernel
theorem dL_law_219 : decode cL_law 219 = .ok (.istore 6, 2) := by decide +kernel
theorem dL_law_221 : decode cL_law 221 = .ok (.iload 6, 2) := by decide +kernel
theorem dL_law_223 : decode cL_law 223 = .ok (.bipush 6, 2) := by decide +kernel
theorem dL_law_225 : decode cL_law 225 = .ok (.if_icmp .ge 65, 3) := by decide +kernel
theorem dL_law_228 : decode cL_law 228 = .ok (.aload 5, 2) := by decide +kernel
theorem dL_law_230 : decode cL_law 230 = .ok (.iconst 4, 1) := by decide +kernel
theorem dL_law_231 : decode cL_law 231 = .ok (.iload 6, 2) := by decide +kernel
theorem dL_law_233 : decode cL_law 233 = .ok (.imul, 1) := by decide +kernel
theorem dL_law_234 : decode cL_law 234 = .ok (.iload 6, 2) := by decide +kernel
theorem dL_law_236 : decode cL_law 236 = .ok (.ifCond .ne 8, 3) := by decide +kernel
theorem dL_law_239 : decode cL_law 239 = .ok (.bipush 8, 2) := by decide +kernel
theorem dL_law_241 : decode cL_law 241 = .ok (.goto 42, 3) := by decide +kernel
theorem dL_law_244 : decode cL_law 244 = .ok (.iload 6, 2) := by decide +kernel
theorem dL_law_246 : decode cL_law 246 = .ok (.iconst 1, 1) := by decide +kernel
theorem dL_law_247 : decode cL_law 247 = .ok (.if_icmp .eq 9, 3) := by decide +kernel
theorem dL_law_250 : decode cL_law 250 = .ok (.iload 6, 2) := by decide +kernel
theorem dL_law_252 : decode cL_law 252 = .ok (.iconst 2, 1) := by decide +kernel
theorem dL_law_253 : decode cL_law 253 = .ok (.if_icmp .ne 8, 3) := by decide +kernel
theorem dL_law_256 : decode cL_law 256 = .ok (.bipush 9, 2) := by decide +kernel
theorem dL_law_258 : decode cL_law 258 = .ok (.goto 25, 3) := by decide +kernel
theorem dL_law_261 : decode cL_law 261 = .ok (.iload 6, 2) := by decide +kernel
theorem dL_law_263 : decode cL_law 263 = .ok (.iconst 3, 1) := by decide +kernel
theorem dL_law_264 : decode cL_law 264 = .ok (.if_icmp .ne 8, 3) := by decide +kernel
theorem dL_law_267 : decode cL_law 267 = .ok (.bipush 10, 2) := by decide +kernel
theorem dL_law_269 : decode cL_law 269 = .ok (.goto 14, 3) := by decide +kernel
theorem dL_law_272 : decode cL_law 272 = .ok (.iload 6, 2) := by decide +kernel
theorem dL_law_274 : decode cL_law 274 = .ok (.iconst 4, 1) := by decide +kernel
theorem dL_law_275 : decode cL_law 275 = .ok (.if_icmp .ne 7, 3) := by decide +kernel
theorem dL_law_278 : decode cL_law 278 = .ok (.iconst 4, 1) := by decide +kernel
theorem dL_law_279 : decode cL_law 279 = .ok (.goto 4, 3) := by decide +kernel
theorem dL_law_282 : decode cL_law 282 = .ok (.iconst 3, 1) := by decide +kernel
theorem dL_law_283 : decode cL_law 283 = .ok (.iastore, 1) := by decide +kernel
theorem dL_law_284 : decode cL_law 284 = .ok (.iinc 6 1, 3) := by decide +kernel
theorem dL_law_287 : decode cL_law 287 = .ok (.goto (-66), 3) := by decide +kernel
theorem dL_law_290 : decode cL_law 290 = .ok (.aload 5, 2) := by decide +kernel
theorem dL_law_292 : decode cL_law 292 = .ok (.iconst 1, 1) := by decide +kernel
theorem dL_law_293 : decode cL_law 293 = .ok (.iconst 1, 1) := by decide +kernel
theorem dL_law_294 : decode cL_law 294 = .ok (.iastore, 1) := by decide +kernel
theorem dL_law_295 : decode cL_law 295 = .ok (.aload 5, 2) := by decide +kernel
theorem dL_law_297 : decode cL_law 297 = .ok (.iconst 2, 1) := by decide +kernel
theorem dL_law_298 : decode cL_law 298 = .ok (.bipush 9, 2) := by decide +kernel
theorem dL_law_300 : decode cL_law 300 = .ok (.iastore, 1) := by decide +kernel
theorem dL_law_301 : decode cL_law 301 = .ok (.aload 5, 2) := by decide +kernel
theorem dL_law_303 : decode cL_law 303 = .ok (.bipush 9, 2) := by decide +kernel
theorem dL_law_305 : decode cL_law 305 = .ok (.iconst 2, 1) := by decide +kernel
theorem dL_law_306 : decode cL_law 306 = .ok (.iastore, 1) := by decide +kernel
theorem dL_law_307 : decode cL_law 307 = .ok (.aload 5, 2) := by decide +kernel
theorem dL_law_309 : decode cL_law 309 = .ok (.bipush 10, 2) := by decide +kernel
theorem dL_law_311 : decode cL_law 311 = .ok (.bipush 10, 2) := by decide +kernel
theorem dL_law_313 : decode cL_law 313 = .ok (.iastore, 1) := by decide +kernel
theorem dL_law_314 : decode cL_law 314 = .ok (.aload 5, 2) := by decide +kernel
theorem dL_law_316 : decode cL_law 316 = .ok (.bipush 17, 2) := by decide +kernel
theorem dL_law_318 : decode cL_law 318 = .ok (.bipush 8, 2) := by decide +kernel
theorem dL_law_320 : decode cL_law 320 = .ok (.iastore, 1) := by decide +kernel
theorem dL_law_321 : decode cL_law 321 = .ok (.aload 5, 2) := by decide +kernel
theorem dL_law_323 : decode cL_law 323 = .ok (.bipush 18, 2) := by decide +kernel
theorem dL_law_325 : decode cL_law 325 = .ok (.iconst 5, 1) := by decide +kernel
theorem dL_law_326 : decode cL_law 326 = .ok (.iastore, 1) := by decide +kernel
theorem dL_law_327 : decode cL_law 327 = .ok (.aload_n 1, 1) := by decide +kernel
theorem dL_law_328 : decode cL_law 328 = .ok (.invokestatic 60, 3) := by decide +kernel
theorem dL_law_331 : decode cL_law 331 = .ok (.iconst 1, 1) := by decide +kernel
theorem dL_law_332 : decode cL_law 332 = .ok (.if_icmp .lt 19, 3) := by decide +kernel
theorem dL_law_335 : decode cL_law 335 = .ok (.aload_n 1, 1) := by decide +kernel
theorem dL_law_336 : decode cL_law 336 = .ok (.iconst 3, 1) := by decide +kernel
theorem dL_law_337 : decode cL_law 337 = .ok (.invokestatic 63, 3) := by decide +kernel
theorem dL_law_340 : decode cL_law 340 = .ok (.ifCond .ne 11, 3) := by decide +kernel
theorem dL_law_343 : decode cL_law 343 = .ok (.aload_n 1, 1) := by decide +kernel
theorem dL_law_344 : decode cL_law 344 = .ok (.iconst 4, 1) := by decide +kernel
theorem dL_law_345 : decode cL_law 345 = .ok (.invokestatic 63, 3) := by decide +kernel
theorem dL_law_348 : decode cL_law 348 = .ok (.ifCond .eq 17, 3) := by decide +kernel
theorem dL_law_351 : decode cL_law 351 = .ok (.aload_n 1, 1) := by decide +kernel
theorem dL_law_352 : decode cL_law 352 = .ok (.iconst 4, 1) := by decide +kernel
theorem dL_law_353 : decode cL_law 353 = .ok (.invokestatic 63, 3) := by decide +kernel
theorem dL_law_356 : decode cL_law 356 = .ok (.ifCond .ne 7, 3) := by decide +kernel
theorem dL_law_359 : decode cL_law 359 = .ok (.iconst 1, 1) := by decide +kernel
theorem dL_law_360 : decode cL_law 360 = .ok (.goto 4, 3) := by decide +kernel
theorem dL_law_363 : decode cL_law 363 = .ok (.iconst 0, 1) := by decide +kernel
theorem dL_law_364 : decode cL_law 364 = .ok (.ireturn, 1) := by decide +kernel
theorem dL_law_365 : decode cL_law 365 = .ok (.bipush 64, 2) := by decide +kernel
theorem dL_law_367 : decode cL_law 367 = .ok (.newarray .int, 2) := by decide +kernel
theorem dL_law_369 : decode cL_law 369 = .ok (.astore 6, 2) := by decide +kernel
theorem dL_law_371 : decode cL_law 371 = .ok (.bipush 64, 2) := by decide +kernel
theorem dL_law_373 : decode cL_law 373 = .ok (.newarray .int, 2) := by decide +kernel
theorem dL_law_375 : decode cL_law 375 = .ok (.astore 7, 2) := by decide +kernel
theorem dL_law_377 : decode cL_law 377 = .ok (.iconst 1, 1) := by decide +kernel
theorem dL_law_378 : decode cL_law 378 = .ok (.istore 8, 2) := by decide +kernel
theorem dL_law_380 : decode cL_law 380 = .ok (.iconst 0, 1) := by decide +kernel
theorem dL_law_381 : decode cL_law 381 = .ok (.istore 9, 2) := by decide +kernel
theorem dL_law_383 : decode cL_law 383 = .ok (.iconst 0, 1) := by decide +kernel
theorem dL_law_384 : decode cL_law 384 = .ok (.istore 10, 2) := by decide +kernel
theorem dL_law_386 : decode cL_law 386 = .ok (.aload 6, 2) := by decide +kernel
theorem dL_law_388 : decode cL_law 388 = .ok (.iconst 0, 1) := by decide +kernel
theorem dL_law_389 : decode cL_law 389 = .ok (.bipush 8, 2) := by decide +kernel
theorem dL_law_391 : decode cL_law 391 = .ok (.iastore, 1) := by decide +kernel
theorem dL_law_392 : decode cL_law 392 = .ok (.iconst 0, 1) := by decide +kernel
theorem dL_law_393 : decode cL_law 393 = .ok (.istore 11, 2) := by decide +kernel
theorem dL_law_395 : decode cL_law 395 = .ok (.iload 8, 2) := by decide +kernel
theorem dL_law_397 : decode cL_law 397 = .ok (.ifCond .le 211, 3) := by decide +kernel
theorem dL_law_400 : decode cL_law 400 = .ok (.iload 11, 2) := by decide +kernel
theorem dL_law_402 : decode cL_law 402 = .ok (.sipush 200, 3) := by decide +kernel
theorem dL_law_405 : decode cL_law 405 = .ok (.if_icmp .gt 24, 3) := by decide +kernel
theorem dL_law_408 : decode cL_law 408 = .ok (.iload 8, 2) := by decide +kernel
theorem dL_law_410 : decode cL_law 410 = .ok (.bipush 58, 2) := by decide +kernel
theorem dL_law_412 : decode cL_law 412 = .ok (.if_icmp .gt 17, 3) := by decide +kernel
theorem dL_law_415 : decode cL_law 415 = .ok (.iload 9, 2) := by decide +kernel
theorem dL_law_417 : decode cL_law 417 = .ok (.bipush 60, 2) := by decide +kernel
theorem dL_law_419 : decode cL_law 419 = .ok (.if_icmp .gt 10, 3) := by decide +kernel
theorem dL_law_422 : decode cL_law 422 = .ok (.iload 10, 2) := by decide +kernel
theorem dL_law_424 : decode cL_law 424 = .ok (.bipush 39, 2) := by decide +kernel
theorem dL_law_426 : decode cL_law 426 = .ok (.if_icmp .le 5, 3) := by decide +kernel
theorem dL_law_429 : decode cL_law 429 = .ok (.iconst 1, 1) := by decide +kernel
theorem dL_law_430 : decode cL_law 430 = .ok (.ireturn, 1) := by decide +kernel
theorem dL_law_431 : decode cL_law 431 = .ok (.iinc 8 (-1), 3) := by decide +kernel
theorem dL_law_434 : decode cL_law 434 = .ok (.aload 6, 2) := by decide +kernel
theorem dL_law_436 : decode cL_law 436 = .ok (.iload 8, 2) := by decide +kernel
theorem dL_law_438 : decode cL_law 438 = .ok (.iaload, 1) := by decide +kernel
theorem dL_law_439 : decode cL_law 439 = .ok (.istore 12, 2) := by decide +kernel
theorem dL_law_441 : decode cL_law 441 = .ok (.iload 12, 2) := by decide +kernel
theorem dL_law_443 : decode cL_law 443 = .ok (.bipush 20, 2) := by decide +kernel
theorem dL_law_445 : decode cL_law 445 = .ok (.if_icmp .ge 10, 3) := by decide +kernel
theorem dL_law_448 : decode cL_law 448 = .ok (.iload 12, 2) := by decide +kernel
theorem dL_law_450 : decode cL_law 450 = .ok (.bipush 8, 2) := by decide +kernel
theorem dL_law_452 : decode cL_law 452 = .ok (.if_icmp .ge 54, 3) := by decide +kernel
theorem dL_law_455 : decode cL_law 455 = .ok (.aload 7, 2) := by decide +kernel
theorem dL_law_457 : decode cL_law 457 = .ok (.iload 9, 2) := by decide +kernel
theorem dL_law_459 : decode cL_law 459 = .ok (.iload 12, 2) := by decide +kernel
theorem dL_law_461 : decode cL_law 461 = .ok (.bipush 20, 2) := by decide +kernel
theorem dL_law_463 : decode cL_law 463 = .ok (.if_icmp .lt 11, 3) := by decide +kernel
theorem dL_law_466 : decode cL_law 466 = .ok (.iload 12, 2) := by decide +kernel
theorem dL_law_468 : decode cL_law 468 = .ok (.bipush 20, 2) := by decide +kernel
theorem dL_law_470 : decode cL_law 470 = .ok (.isub, 1) := by decide +kernel
theorem dL_law_471 : decode cL_law 471 = .ok (.goto 6, 3) := by decide +kernel
theorem dL_law_474 : decode cL_law 474 = .ok (.iload 12, 2) := by decide +kernel
theorem dL_law_476 : decode cL_law 476 = .ok (.ineg, 1) := by decide +kernel
theorem dL_law_477 : decode cL_law 477 = .ok (.iastore, 1) := by decide +kernel
theorem dL_law_478 : decode cL_law 478 = .ok (.iinc 9 1, 3) := by decide +kernel
theorem dL_law_481 : decode cL_law 481 = .ok (.iload 12, 2) := by decide +kernel
theorem dL_law_483 : decode cL_law 483 = .ok (.bipush 8, 2) := by decide +kernel
theorem dL_law_485 : decode cL_law 485 = .ok (.if_icmp .ge 117, 3) := by decide +kernel
theorem dL_law_488 : decode cL_law 488 = .ok (.aload_n 1, 1) := by decide +kernel
theorem dL_law_489 : decode cL_law 489 = .ok (.iload 12, 2) := by decide +kernel
theorem dL_law_491 : decode cL_law 491 = .ok (.iload 11, 2) := by decide +kernel
theorem dL_law_493 : decode cL_law 493 = .ok (.invokestatic 66, 3) := by decide +kernel
theorem dL_law_496 : decode cL_law 496 = .ok (.iinc 10 1, 3) := by decide +kernel
theorem dL_law_499 : decode cL_law 499 = .ok (.iload 10, 2) := by decide +kernel
theorem dL_law_501 : decode cL_law 501 = .ok (.if_icmp .eq 101, 3) := by decide +kernel
theorem dL_law_504 : decode cL_law 504 = .ok (.iconst 0, 1) := by decide +kernel
theorem dL_law_505 : decode cL_law 505 = .ok (.ireturn, 1) := by decide +kernel
theorem dL_law_506 : decode cL_law 506 = .ok (.aload 4, 2) := by decide +kernel
theorem dL_law_508 : decode cL_law 508 = .ok (.iload_n 3, 1) := by decide +kernel
theorem dL_law_509 : decode cL_law 509 = .ok (.iload 12, 2) := by decide +kernel
theorem dL_law_511 : decode cL_law 511 = .ok (.aload_n 0, 1) := by decide +kernel
theorem dL_law_512 : decode cL_law 512 = .ok (.bipush 21, 2) := by decide +kernel
theorem dL_law_514 : decode cL_law 514 = .ok (.iload 11, 2) := by decide +kernel
theorem dL_law_516 : decode cL_law 516 = .ok (.iadd, 1) := by decide +kernel
theorem dL_law_517 : decode cL_law 517 = .ok (.invokestatic 39, 3) := by decide +kernel
theorem dL_law_520 : decode cL_law 520 = .ok (.iload 11, 2) := by decide +kernel
theorem dL_law_522 : decode cL_law 522 = .ok (.bipush 25, 2) := by decide +kernel
theorem dL_law_524 : decode cL_law 524 = .ok (.if_icmp .le 7, 3) := by decide +kernel
theorem dL_law_527 : decode cL_law 527 = .ok (.iconst 1, 1) := by decide +kernel
theorem dL_law_528 : decode cL_law 528 = .ok (.goto 4, 3) := by decide +kernel
theorem dL_law_531 : decode cL_law 531 = .ok (.iconst 0, 1) := by decide +kernel
theorem dL_law_532 : decode cL_law 532 = .ok (.invokestatic 69, 3) := by decide +kernel
theorem dL_law_535 : decode cL_law 535 = .ok (.istore 13, 2) := by decide +kernel
theorem dL_law_537 : decode cL_law 537 = .ok (.iload 13, 2) := by decide +kernel
theorem dL_law_539 : decode cL_law 539 = .ok (.ifCond .ge 5, 3) := by decide +kernel
theorem dL_law_542 : decode cL_law 542 = .ok (.iconst 1, 1) := by decide +kernel
theorem dL_law_543 : decode cL_law 543 = .ok (.ireturn, 1) := by decide +kernel
theorem dL_law_544 : decode cL_law 544 = .ok (.aload 6, 2) := by decide +kernel
theorem dL_law_546 : decode cL_law 546 = .ok (.iload 8, 2) := by decide +kernel
theorem dL_law_548 : decode cL_law 548 = .ok (.bipush 20, 2) := by decide +kernel
theorem dL_law_550 : decode cL_law 550 = .ok (.iload 13, 2) := by decide +kernel
theorem dL_law_552 : decode cL_law 552 = .ok (.iadd, 1) := by decide +kernel
theorem dL_law_553 : decode cL_law 553 = .ok (.iastore, 1) := by decide +kernel
theorem dL_law_554 : decode cL_law 554 = .ok (.iinc 8 1, 3) := by decide +kernel
theorem dL_law_557 : decode cL_law 557 = .ok (.iconst 3, 1) := by decide +kernel
theorem dL_law_558 : decode cL_law 558 = .ok (.istore 14, 2) := by decide +kernel
theorem dL_law_560 : decode cL_law 560 = .ok (.iload 14, 2) := by decide +kernel
theorem dL_law_562 : decode cL_law 562 = .ok (.ifCond .lt 40, 3) := by decide +kernel
theorem dL_law_565 : decode cL_law 565 = .ok (.aload 5, 2) := by decide +kernel
theorem dL_law_567 : decode cL_law 567 = .ok (.iconst 4, 1) := by decide +kernel
theorem dL_law_568 : decode cL_law 568 = .ok (.iload 13, 2) := by decide +kernel
theorem dL_law_570 : decode cL_law 570 = .ok (.imul, 1) := by decide +kernel
theorem dL_law_571 : decode cL_law 571 = .ok (.iload 14, 2) := by decide +kernel
theorem dL_law_573 : decode cL_law 573 = .ok (.iadd, 1) := by decide +kernel
theorem dL_law_574 : decode cL_law 574 = .ok (.iaload, 1) := by decide +kernel
theorem dL_law_575 : decode cL_law 575 = .ok (.ifCond .le 21, 3) := by decide +kernel
theorem dL_law_578 : decode cL_law 578 = .ok (.aload 6, 2) := by decide +kernel
theorem dL_law_580 : decode cL_law 580 = .ok (.iload 8, 2) := by decide +kernel
theorem dL_law_582 : decode cL_law 582 = .ok (.aload 5, 2) := by decide +kernel
theorem dL_law_584 : decode cL_law 584 = .ok (.iconst 4, 1) := by decide +kernel
theorem dL_law_585 : decode cL_law 585 = .ok (.iload 13, 2) := by decide +kernel
theorem dL_law_587 : decode cL_law 587 = .ok (.imul, 1) := by decide +kernel
theorem dL_law_588 : decode cL_law 588 = .ok (.iload 14, 2) := by decide +kernel
theorem dL_law_590 : decode cL_law 590 = .ok (.iadd, 1) := by decide +kernel
theorem dL_law_591 : decode cL_law 591 = .ok (.iaload, 1) := by decide +kernel
theorem dL_law_592 : decode cL_law 592 = .ok (.iastore, 1) := by decide +kernel
theorem dL_law_593 : decode cL_law 593 = .ok (.iinc 8 1, 3) := by decide +kernel
theorem dL_law_596 : decode cL_law 596 = .ok (.iinc 14 (-1), 3) := by decide +kernel
theorem dL_law_599 : decode cL_law 599 = .ok (.goto (-39), 3) := by decide +kernel
theorem dL_law_602 : decode cL_law 602 = .ok (.iinc 11 1, 3) := by decide +kernel
theorem dL_law_605 : decode cL_law 605 = .ok (.goto (-210), 3) := by decide +kernel
theorem dL_law_608 : decode cL_law 608 = .ok (.aload_n 1, 1) := by decide +kernel
theorem dL_law_609 : decode cL_law 609 = .ok (.invokestatic 73, 3) := by decide +kernel
theorem dL_law_612 : decode cL_law 612 = .ok (.iload 9, 2) := by decide +kernel
theorem dL_law_614 : decode cL_law 614 = .ok (.if_icmp .ne 30, 3) := by decide +kernel
theorem dL_law_617 : decode cL_law 617 = .ok (.aload_n 1, 1) := by decide +kernel
theorem dL_law_618 : decode cL_law 618 = .ok (.invokevirtual 75, 3) := by decide +kernel
theorem dL_law_621 : decode cL_law 621 = .ok (.iconst (-1), 1) := by decide +kernel
theorem dL_law_622 : decode cL_law 622 = .ok (.if_icmp .ne 22, 3) := by decide +kernel
theorem dL_law_625 : decode cL_law 625 = .ok (.aload_n 1, 1) := by decide +kernel
theorem dL_law_626 : decode cL_law 626 = .ok (.iconst 5, 1) := by decide +kernel
theorem dL_law_627 : decode cL_law 627 = .ok (.invokestatic 63, 3) := by decide +kernel
theorem dL_law_630 : decode cL_law 630 = .ok (.iload 9, 2) := by decide +kernel
theorem dL_law_632 : decode cL_law 632 = .ok (.if_icmp .ne 12, 3) := by decide +kernel
theorem dL_law_635 : decode cL_law 635 = .ok (.aload_n 1, 1) := by decide +kernel
theorem dL_law_636 : decode cL_law 636 = .ok (.bipush 6, 2) := by decide +kernel
theorem dL_law_638 : decode cL_law 638 = .ok (.invokestatic 63, 3) := by decide +kernel
theorem dL_law_641 : decode cL_law 641 = .ok (.ifCond .eq 5, 3) := by decide +kernel
theorem dL_law_644 : decode cL_law 644 = .ok (.iconst 0, 1) := by decide +kernel
theorem dL_law_645 : decode cL_law 645 = .ok (.ireturn, 1) := by decide +kernel
theorem dL_law_646 : decode cL_law 646 = .ok (.iconst 0, 1) := by decide +kernel
theorem dL_law_647 : decode cL_law 647 = .ok (.istore 11, 2) := by decide +kernel
theorem dL_law_649 : decode cL_law 649 = .ok (.iload 11, 2) := by decide +kernel
theorem dL_law_651 : decode cL_law 651 = .ok (.iload 9, 2) := by decide +kernel
theorem dL_law_653 : decode cL_law 653 = .ok (.if_icmp .ge 82, 3) := by decide +kernel
theorem dL_law_656 : decode cL_law 656 = .ok (.aload 7, 2) := by decide +kernel
theorem dL_law_658 : decode cL_law 658 = .ok (.iload 11, 2) := by decide +kernel
theorem dL_law_660 : decode cL_law 660 = .ok (.iaload, 1) := by decide +kernel
theorem dL_law_661 : decode cL_law 661 = .ok (.ifCond .ge 33, 3) := by decide +kernel
theorem dL_law_664 : decode cL_law 664 = .ok (.aload_n 1, 1) := by decide +kernel
theorem dL_law_665 : decode cL_law 665 = .ok (.iload 11, 2) := by decide +kernel
theorem dL_law_667 : decode cL_law 667 = .ok (.iconst 0, 1) := by decide +kernel
theorem dL_law_668 : decode cL_law 668 = .ok (.invokestatic 78, 3) := by decide +kernel
theorem dL_law_671 : decode cL_law 671 = .ok (.aload 7, 2) := by decide +kernel
theorem dL_law_673 : decode cL_law 673 = .ok (.iload 11, 2) := by decide +kernel
theorem dL_law_675 : decode cL_law 675 = .ok (.iaload, 1) := by decide +kernel
theorem dL_law_676 : decode cL_law 676 = .ok (.ineg, 1) := by decide +kernel
theorem dL_law_677 : decode cL_law 677 = .ok (.if_icmp .ne 50, 3) := by decide +kernel
theorem dL_law_680 : decode cL_law 680 = .ok (.aload_n 1, 1) := by decide +kernel
theorem dL_law_681 : decode cL_law 681 = .ok (.iload 11, 2) := by decide +kernel
theorem dL_law_683 : decode cL_law 683 = .ok (.iconst 1, 1) := by decide +kernel
theorem dL_law_684 : decode cL_law 684 = .ok (.invokestatic 78, 3) := by decide +kernel
theorem dL_law_687 : decode cL_law 687 = .ok (.iconst (-1), 1) := by decide +kernel
theorem dL_law_688 : decode cL_law 688 = .ok (.if_icmp .eq 41, 3) := by decide +kernel
theorem dL_law_691 : decode cL_law 691 = .ok (.goto 36, 3) := by decide +kernel
theorem dL_law_694 : decode cL_law 694 = .ok (.aload_n 1, 1) := by decide +kernel
theorem dL_law_695 : decode cL_law 695 = .ok (.iload 11, 2) := by decide +kernel
theorem dL_law_697 : decode cL_law 697 = .ok (.iconst 1, 1) := by decide +kernel
theorem dL_law_698 : decode cL_law 698 = .ok (.invokestatic 78, 3) := by decide +kernel
theorem dL_law_701 : decode cL_law 701 = .ok (.aload 7, 2) := by decide +kernel
theorem dL_law_703 : decode cL_law 703 = .ok (.iload 11, 2) := by decide +kernel
theorem dL_law_705 : decode cL_law 705 = .ok (.iaload, 1) := by decide +kernel
theorem dL_law_706 : decode cL_law 706 = .ok (.if_icmp .ne 21, 3) := by decide +kernel
theorem dL_law_709 : decode cL_law 709 = .ok (.aload_n 1, 1) := by decide +kernel
theorem dL_law_710 : decode cL_law 710 = .ok (.iload 11, 2) := by decide +kernel
theorem dL_law_712 : decode cL_law 712 = .ok (.iconst 0, 1) := by decide +kernel
theorem dL_law_713 : decode cL_law 713 = .ok (.invokestatic 78, 3) := by decide +kernel
theorem dL_law_716 : decode cL_law 716 = .ok (.aload 4, 2) := by decide +kernel
theorem dL_law_718 : decode cL_law 718 = .ok (.aload 7, 2) := by decide +kernel
theorem dL_law_720 : decode cL_law 720 = .ok (.iload 11, 2) := by decide +kernel
theorem dL_law_722 : decode cL_law 722 = .ok (.iaload, 1) := by decide +kernel
theorem dL_law_723 : decode cL_law 723 = .ok (.iaload, 1) := by decide +kernel
theorem dL_law_724 : decode cL_law 724 = .ok (.if_icmp .eq 5, 3) := by decide +kernel
theorem dL_law_727 : decode cL_law 727 = .ok (.iconst 0, 1) := by decide +kernel
theorem dL_law_728 : decode cL_law 728 = .ok (.ireturn, 1) := by decide +kernel
theorem dL_law_729 : decode cL_law 729 = .ok (.iinc 11 1, 3) := by decide +kernel
theorem dL_law_732 : decode cL_law 732 = .ok (.goto (-83), 3) := by decide +kernel
theorem dL_law_735 : decode cL_law 735 = .ok (.aload_n 1, 1) := by decide +kernel
theorem dL_law_736 : decode cL_law 736 = .ok (.iload 9, 2) := by decide +kernel
theorem dL_law_738 : decode cL_law 738 = .ok (.iconst 1, 1) := by decide +kernel
theorem dL_law_739 : decode cL_law 739 = .ok (.isub, 1) := by decide +kernel
theorem dL_law_740 : decode cL_law 740 = .ok (.iconst 2, 1) := by decide +kernel
theorem dL_law_741 : decode cL_law 741 = .ok (.invokestatic 78, 3) := by decide +kernel
theorem dL_law_744 : decode cL_law 744 = .ok (.iconst (-1), 1) := by decide +kernel
theorem dL_law_745 : decode cL_law 745 = .ok (.if_icmp .ne 19, 3) := by decide +kernel
theorem dL_law_748 : decode cL_law 748 = .ok (.aload_n 1, 1) := by decide +kernel
theorem dL_law_749 : decode cL_law 749 = .ok (.iload 9, 2) := by decide +kernel
theorem dL_law_751 : decode cL_law 751 = .ok (.iconst 0, 1) := by decide +kernel
theorem dL_law_752 : decode cL_law 752 = .ok (.invokestatic 78, 3) := by decide +kernel
theorem dL_law_755 : decode cL_law 755 = .ok (.bipush (-101), 2) := by decide +kernel
theorem dL_law_757 : decode cL_law 757 = .ok (.if_icmp .ne 7, 3) := by decide +kernel
theorem dL_law_760 : decode cL_law 760 = .ok (.iconst 1, 1) := by decide +kernel
theorem dL_law_761 : decode cL_law 761 = .ok (.goto 4, 3) := by decide +kernel
theorem dL_law_764 : decode cL_law 764 = .ok (.iconst 0, 1) := by decide +kernel
theorem dL_law_765 : decode cL_law 765 = .ok (.ireturn, 1) := by decide +kernel
