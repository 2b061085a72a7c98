/-! ===== decode rows (printed by program: NAMES.whole) ===== -/
theorem dX0_init_0 : decode cX0_init 0 = .ok (.aload_n 0, 1) := by decide +kernel
theorem dX0_init_1 : decode cX0_init 1 = .ok (.invokespecial 3, 3) := by decide +kernel
theorem dX0_init_4 : decode cX0_init 4 = .ok (.aload_n 0, 1) := by decide +kernel
theorem dX0_init_5 : decode cX0_init 5 = .ok (.aload_n 1, 1) := by decide +kernel
theorem dX0_init_6 : decode cX0_init 6 = .ok (.putfield 9, 3) := by decide +kernel
theorem dX0_init_9 : decode cX0_init 9 = .ok (.aload_n 0, 1) := by decide +kernel
theorem dX0_init_10 : decode cX0_init 10 = .ok (.new 15, 3) := by decide +kernel
theorem dX0_init_13 : decode cX0_init 13 = .ok (.dup, 1) := by decide +kernel
theorem dX0_init_14 : decode cX0_init 14 = .ok (.sipush 450, 3) := by decide +kernel
theorem dX0_init_17 : decode cX0_init 17 = .ok (.invokespecial 17, 3) := by decide +kernel
theorem dX0_init_20 : decode cX0_init 20 = .ok (.putfield 20, 3) := by decide +kernel
theorem dX0_init_23 : decode cX0_init 23 = .ok (.aload_n 0, 1) := by decide +kernel
theorem dX0_init_24 : decode cX0_init 24 = .ok (.new 15, 3) := by decide +kernel
theorem dX0_init_27 : decode cX0_init 27 = .ok (.dup, 1) := by decide +kernel
theorem dX0_init_28 : decode cX0_init 28 = .ok (.sipush 450, 3) := by decide +kernel
theorem dX0_init_31 : decode cX0_init 31 = .ok (.invokespecial 17, 3) := by decide +kernel
theorem dX0_init_34 : decode cX0_init 34 = .ok (.putfield 24, 3) := by decide +kernel
theorem dX0_init_37 : decode cX0_init 37 = .ok (.return_, 1) := by decide +kernel
theorem dX0_evaluate_0 : decode cX0_evaluate 0 = .ok (.aload_n 1, 1) := by decide +kernel
theorem dX0_evaluate_1 : decode cX0_evaluate 1 = .ok (.invokevirtual 27, 3) := by decide +kernel
theorem dX0_evaluate_4 : decode cX0_evaluate 4 = .ok (.iconst 3, 1) := by decide +kernel
theorem dX0_evaluate_5 : decode cX0_evaluate 5 = .ok (.imul, 1) := by decide +kernel
theorem dX0_evaluate_6 : decode cX0_evaluate 6 = .ok (.istore_n 2, 1) := by decide +kernel
theorem dX0_evaluate_7 : decode cX0_evaluate 7 = .ok (.iconst 0, 1) := by decide +kernel
theorem dX0_evaluate_8 : decode cX0_evaluate 8 = .ok (.istore_n 3, 1) := by decide +kernel
theorem dX0_evaluate_9 : decode cX0_evaluate 9 = .ok (.iload_n 3, 1) := by decide +kernel
theorem dX0_evaluate_10 : decode cX0_evaluate 10 = .ok (.iload_n 2, 1) := by decide +kernel
theorem dX0_evaluate_11 : decode cX0_evaluate 11 = .ok (.if_icmp .ge 32, 3) := by decide +kernel
theorem dX0_evaluate_14 : decode cX0_evaluate 14 = .ok (.aload_n 0, 1) := by decide +kernel
theorem dX0_evaluate_15 : decode cX0_evaluate 15 = .ok (.getfield 20, 3) := by decide +kernel
theorem dX0_evaluate_18 : decode cX0_evaluate 18 = .ok (.iload_n 3, 1) := by decide +kernel
theorem dX0_evaluate_19 : decode cX0_evaluate 19 = .ok (.aload_n 1, 1) := by decide +kernel
theorem dX0_evaluate_20 : decode cX0_evaluate 20 = .ok (.iload_n 3, 1) := by decide +kernel
theorem dX0_evaluate_21 : decode cX0_evaluate 21 = .ok (.iconst 3, 1) := by decide +kernel
theorem dX0_evaluate_22 : decode cX0_evaluate 22 = .ok (.idiv, 1) := by decide +kernel
theorem dX0_evaluate_23 : decode cX0_evaluate 23 = .ok (.invokevirtual 33, 3) := by decide +kernel
theorem dX0_evaluate_26 : decode cX0_evaluate 26 = .ok (.ifCond .eq 7, 3) := by decide +kernel
theorem dX0_evaluate_29 : decode cX0_evaluate 29 = .ok (.iconst 1, 1) := by decide +kernel
theorem dX0_evaluate_30 : decode cX0_evaluate 30 = .ok (.goto 4, 3) := by decide +kernel
theorem dX0_evaluate_33 : decode cX0_evaluate 33 = .ok (.iconst 0, 1) := by decide +kernel
theorem dX0_evaluate_34 : decode cX0_evaluate 34 = .ok (.invokevirtual 37, 3) := by decide +kernel
theorem dX0_evaluate_37 : decode cX0_evaluate 37 = .ok (.iinc 3 1, 3) := by decide +kernel
theorem dX0_evaluate_40 : decode cX0_evaluate 40 = .ok (.goto (-31), 3) := by decide +kernel
theorem dX0_evaluate_43 : decode cX0_evaluate 43 = .ok (.iconst 0, 1) := by decide +kernel
theorem dX0_evaluate_44 : decode cX0_evaluate 44 = .ok (.istore_n 3, 1) := by decide +kernel
theorem dX0_evaluate_45 : decode cX0_evaluate 45 = .ok (.iload_n 3, 1) := by decide +kernel
theorem dX0_evaluate_46 : decode cX0_evaluate 46 = .ok (.iload_n 2, 1) := by decide +kernel
theorem dX0_evaluate_47 : decode cX0_evaluate 47 = .ok (.if_icmp .ge 26, 3) := by decide +kernel
theorem dX0_evaluate_50 : decode cX0_evaluate 50 = .ok (.aload_n 0, 1) := by decide +kernel
theorem dX0_evaluate_51 : decode cX0_evaluate 51 = .ok (.getfield 20, 3) := by decide +kernel
theorem dX0_evaluate_54 : decode cX0_evaluate 54 = .ok (.iload_n 3, 1) := by decide +kernel
theorem dX0_evaluate_55 : decode cX0_evaluate 55 = .ok (.invokevirtual 41, 3) := by decide +kernel
theorem dX0_evaluate_58 : decode cX0_evaluate 58 = .ok (.ifCond .ne 9, 3) := by decide +kernel
theorem dX0_evaluate_61 : decode cX0_evaluate 61 = .ok (.aload_n 0, 1) := by decide +kernel
theorem dX0_evaluate_62 : decode cX0_evaluate 62 = .ok (.aload_n 1, 1) := by decide +kernel
theorem dX0_evaluate_63 : decode cX0_evaluate 63 = .ok (.iload_n 3, 1) := by decide +kernel
theorem dX0_evaluate_64 : decode cX0_evaluate 64 = .ok (.invokevirtual 45, 3) := by decide +kernel
theorem dX0_evaluate_67 : decode cX0_evaluate 67 = .ok (.iinc 3 1, 3) := by decide +kernel
theorem dX0_evaluate_70 : decode cX0_evaluate 70 = .ok (.goto (-25), 3) := by decide +kernel
theorem dX0_evaluate_73 : decode cX0_evaluate 73 = .ok (.return_, 1) := by decide +kernel
theorem dX0_settle_0 : decode cX0_settle 0 = .ok (.aload_n 0, 1) := by decide +kernel
theorem dX0_settle_1 : decode cX0_settle 1 = .ok (.getfield 24, 3) := by decide +kernel
theorem dX0_settle_4 : decode cX0_settle 4 = .ok (.iconst 0, 1) := by decide +kernel
theorem dX0_settle_5 : decode cX0_settle 5 = .ok (.iload_n 2, 1) := by decide +kernel
theorem dX0_settle_6 : decode cX0_settle 6 = .ok (.invokevirtual 37, 3) := by decide +kernel
theorem dX0_settle_9 : decode cX0_settle 9 = .ok (.iconst 1, 1) := by decide +kernel
theorem dX0_settle_10 : decode cX0_settle 10 = .ok (.istore_n 3, 1) := by decide +kernel
theorem dX0_settle_11 : decode cX0_settle 11 = .ok (.iconst 0, 1) := by decide +kernel
theorem dX0_settle_12 : decode cX0_settle 12 = .ok (.istore 4, 2) := by decide +kernel
theorem dX0_settle_14 : decode cX0_settle 14 = .ok (.iload 4, 2) := by decide +kernel
theorem dX0_settle_16 : decode cX0_settle 16 = .ok (.ldc 49, 2) := by decide +kernel
theorem dX0_settle_18 : decode cX0_settle 18 = .ok (.if_icmp .ge 81, 3) := by decide +kernel
theorem dX0_settle_21 : decode cX0_settle 21 = .ok (.iload_n 3, 1) := by decide +kernel
theorem dX0_settle_22 : decode cX0_settle 22 = .ok (.ifCond .le 77, 3) := by decide +kernel
theorem dX0_settle_25 : decode cX0_settle 25 = .ok (.aload_n 0, 1) := by decide +kernel
theorem dX0_settle_26 : decode cX0_settle 26 = .ok (.getfield 24, 3) := by decide +kernel
theorem dX0_settle_29 : decode cX0_settle 29 = .ok (.iload_n 3, 1) := by decide +kernel
theorem dX0_settle_30 : decode cX0_settle 30 = .ok (.iconst 1, 1) := by decide +kernel
theorem dX0_settle_31 : decode cX0_settle 31 = .ok (.isub, 1) := by decide +kernel
theorem dX0_settle_32 : decode cX0_settle 32 = .ok (.invokevirtual 41, 3) := by decide +kernel
theorem dX0_settle_35 : decode cX0_settle 35 = .ok (.istore 5, 2) := by decide +kernel
theorem dX0_settle_37 : decode cX0_settle 37 = .ok (.aload_n 0, 1) := by decide +kernel
theorem dX0_settle_38 : decode cX0_settle 38 = .ok (.aload_n 1, 1) := by decide +kernel
theorem dX0_settle_39 : decode cX0_settle 39 = .ok (.iload 5, 2) := by decide +kernel
theorem dX0_settle_41 : decode cX0_settle 41 = .ok (.invokevirtual 50, 3) := by decide +kernel
theorem dX0_settle_44 : decode cX0_settle 44 = .ok (.istore 6, 2) := by decide +kernel
theorem dX0_settle_46 : decode cX0_settle 46 = .ok (.iload 6, 2) := by decide +kernel
theorem dX0_settle_48 : decode cX0_settle 48 = .ok (.ifCond .lt 19, 3) := by decide +kernel
theorem dX0_settle_51 : decode cX0_settle 51 = .ok (.aload_n 0, 1) := by decide +kernel
theorem dX0_settle_52 : decode cX0_settle 52 = .ok (.getfield 24, 3) := by decide +kernel
theorem dX0_settle_55 : decode cX0_settle 55 = .ok (.iload_n 3, 1) := by decide +kernel
theorem dX0_settle_56 : decode cX0_settle 56 = .ok (.iload 6, 2) := by decide +kernel
theorem dX0_settle_58 : decode cX0_settle 58 = .ok (.invokevirtual 37, 3) := by decide +kernel
theorem dX0_settle_61 : decode cX0_settle 61 = .ok (.iinc 3 1, 3) := by decide +kernel
theorem dX0_settle_64 : decode cX0_settle 64 = .ok (.goto 29, 3) := by decide +kernel
theorem dX0_settle_67 : decode cX0_settle 67 = .ok (.aload_n 1, 1) := by decide +kernel
theorem dX0_settle_68 : decode cX0_settle 68 = .ok (.iload 5, 2) := by decide +kernel
theorem dX0_settle_70 : decode cX0_settle 70 = .ok (.aload_n 0, 1) := by decide +kernel
theorem dX0_settle_71 : decode cX0_settle 71 = .ok (.aload_n 1, 1) := by decide +kernel
theorem dX0_settle_72 : decode cX0_settle 72 = .ok (.iload 5, 2) := by decide +kernel
theorem dX0_settle_74 : decode cX0_settle 74 = .ok (.invokevirtual 54, 3) := by decide +kernel
theorem dX0_settle_77 : decode cX0_settle 77 = .ok (.invokevirtual 58, 3) := by decide +kernel
theorem dX0_settle_80 : decode cX0_settle 80 = .ok (.aload_n 0, 1) := by decide +kernel
theorem dX0_settle_81 : decode cX0_settle 81 = .ok (.getfield 20, 3) := by decide +kernel
theorem dX0_settle_84 : decode cX0_settle 84 = .ok (.iload 5, 2) := by decide +kernel
theorem dX0_settle_86 : decode cX0_settle 86 = .ok (.iconst 1, 1) := by decide +kernel
theorem dX0_settle_87 : decode cX0_settle 87 = .ok (.invokevirtual 37, 3) := by decide +kernel
theorem dX0_settle_90 : decode cX0_settle 90 = .ok (.iinc 3 (-1), 3) := by decide +kernel
theorem dX0_settle_93 : decode cX0_settle 93 = .ok (.iinc 4 1, 3) := by decide +kernel
theorem dX0_settle_96 : decode cX0_settle 96 = .ok (.goto (-82), 3) := by decide +kernel
theorem dX0_settle_99 : decode cX0_settle 99 = .ok (.return_, 1) := by decide +kernel
theorem dX0_contextOf_0 : decode cX0_contextOf 0 = .ok (.iload_n 1, 1) := by decide +kernel
theorem dX0_contextOf_1 : decode cX0_contextOf 1 = .ok (.iconst 3, 1) := by decide +kernel
theorem dX0_contextOf_2 : decode cX0_contextOf 2 = .ok (.idiv, 1) := by decide +kernel
theorem dX0_contextOf_3 : decode cX0_contextOf 3 = .ok (.istore_n 2, 1) := by decide +kernel
theorem dX0_contextOf_4 : decode cX0_contextOf 4 = .ok (.iload_n 1, 1) := by decide +kernel
theorem dX0_contextOf_5 : decode cX0_contextOf 5 = .ok (.iconst 3, 1) := by decide +kernel
theorem dX0_contextOf_6 : decode cX0_contextOf 6 = .ok (.irem, 1) := by decide +kernel
theorem dX0_contextOf_7 : decode cX0_contextOf 7 = .ok (.iconst 2, 1) := by decide +kernel
theorem dX0_contextOf_8 : decode cX0_contextOf 8 = .ok (.if_icmp .ne 12, 3) := by decide +kernel
theorem dX0_contextOf_11 : decode cX0_contextOf 11 = .ok (.aload_n 0, 1) := by decide +kernel
theorem dX0_contextOf_12 : decode cX0_contextOf 12 = .ok (.iload_n 2, 1) := by decide +kernel
theorem dX0_contextOf_13 : decode cX0_contextOf 13 = .ok (.iconst 2, 1) := by decide +kernel
theorem dX0_contextOf_14 : decode cX0_contextOf 14 = .ok (.invokevirtual 62, 3) := by decide +kernel
theorem dX0_contextOf_17 : decode cX0_contextOf 17 = .ok (.goto 4, 3) := by decide +kernel
theorem dX0_contextOf_20 : decode cX0_contextOf 20 = .ok (.iload_n 2, 1) := by decide +kernel
theorem dX0_contextOf_21 : decode cX0_contextOf 21 = .ok (.ireturn, 1) := by decide +kernel
theorem dX0_placeOf_0 : decode cX0_placeOf 0 = .ok (.iload_n 1, 1) := by decide +kernel
theorem dX0_placeOf_1 : decode cX0_placeOf 1 = .ok (.iconst 3, 1) := by decide +kernel
theorem dX0_placeOf_2 : decode cX0_placeOf 2 = .ok (.irem, 1) := by decide +kernel
theorem dX0_placeOf_3 : decode cX0_placeOf 3 = .ok (.istore_n 2, 1) := by decide +kernel
theorem dX0_placeOf_4 : decode cX0_placeOf 4 = .ok (.iload_n 2, 1) := by decide +kernel
theorem dX0_placeOf_5 : decode cX0_placeOf 5 = .ok (.iconst 2, 1) := by decide +kernel
theorem dX0_placeOf_6 : decode cX0_placeOf 6 = .ok (.if_icmp .ne 14, 3) := by decide +kernel
theorem dX0_placeOf_9 : decode cX0_placeOf 9 = .ok (.aload_n 0, 1) := by decide +kernel
theorem dX0_placeOf_10 : decode cX0_placeOf 10 = .ok (.iload_n 1, 1) := by decide +kernel
theorem dX0_placeOf_11 : decode cX0_placeOf 11 = .ok (.iconst 3, 1) := by decide +kernel
theorem dX0_placeOf_12 : decode cX0_placeOf 12 = .ok (.idiv, 1) := by decide +kernel
theorem dX0_placeOf_13 : decode cX0_placeOf 13 = .ok (.iconst 3, 1) := by decide +kernel
theorem dX0_placeOf_14 : decode cX0_placeOf 14 = .ok (.invokevirtual 62, 3) := by decide +kernel
theorem dX0_placeOf_17 : decode cX0_placeOf 17 = .ok (.goto 4, 3) := by decide +kernel
theorem dX0_placeOf_20 : decode cX0_placeOf 20 = .ok (.iconst 0, 1) := by decide +kernel
theorem dX0_placeOf_21 : decode cX0_placeOf 21 = .ok (.istore_n 3, 1) := by decide +kernel
theorem dX0_placeOf_22 : decode cX0_placeOf 22 = .ok (.iload_n 3, 1) := by decide +kernel
theorem dX0_placeOf_23 : decode cX0_placeOf 23 = .ok (.iconst 3, 1) := by decide +kernel
theorem dX0_placeOf_24 : decode cX0_placeOf 24 = .ok (.imul, 1) := by decide +kernel
theorem dX0_placeOf_25 : decode cX0_placeOf 25 = .ok (.iload_n 2, 1) := by decide +kernel
theorem dX0_placeOf_26 : decode cX0_placeOf 26 = .ok (.iadd, 1) := by decide +kernel
theorem dX0_placeOf_27 : decode cX0_placeOf 27 = .ok (.ireturn, 1) := by decide +kernel
theorem dX0_ruleOf_0 : decode cX0_ruleOf 0 = .ok (.iload_n 1, 1) := by decide +kernel
theorem dX0_ruleOf_1 : decode cX0_ruleOf 1 = .ok (.ifCond .ge 7, 3) := by decide +kernel
theorem dX0_ruleOf_4 : decode cX0_ruleOf 4 = .ok (.iconst (-1), 1) := by decide +kernel
theorem dX0_ruleOf_5 : decode cX0_ruleOf 5 = .ok (.goto 9, 3) := by decide +kernel
theorem dX0_ruleOf_8 : decode cX0_ruleOf 8 = .ok (.aload_n 0, 1) := by decide +kernel
theorem dX0_ruleOf_9 : decode cX0_ruleOf 9 = .ok (.iload_n 1, 1) := by decide +kernel
theorem dX0_ruleOf_10 : decode cX0_ruleOf 10 = .ok (.iconst 1, 1) := by decide +kernel
theorem dX0_ruleOf_11 : decode cX0_ruleOf 11 = .ok (.invokevirtual 62, 3) := by decide +kernel
theorem dX0_ruleOf_14 : decode cX0_ruleOf 14 = .ok (.ireturn, 1) := by decide +kernel
theorem dX0_slotOf_0 : decode cX0_slotOf 0 = .ok (.iload_n 2, 1) := by decide +kernel
theorem dX0_slotOf_1 : decode cX0_slotOf 1 = .ok (.iconst 3, 1) := by decide +kernel
theorem dX0_slotOf_2 : decode cX0_slotOf 2 = .ok (.idiv, 1) := by decide +kernel
theorem dX0_slotOf_3 : decode cX0_slotOf 3 = .ok (.istore_n 3, 1) := by decide +kernel
theorem dX0_slotOf_4 : decode cX0_slotOf 4 = .ok (.iload_n 3, 1) := by decide +kernel
theorem dX0_slotOf_5 : decode cX0_slotOf 5 = .ok (.ifCond .ne 7, 3) := by decide +kernel
theorem dX0_slotOf_8 : decode cX0_slotOf 8 = .ok (.iload_n 1, 1) := by decide +kernel
theorem dX0_slotOf_9 : decode cX0_slotOf 9 = .ok (.goto 9, 3) := by decide +kernel
theorem dX0_slotOf_12 : decode cX0_slotOf 12 = .ok (.aload_n 0, 1) := by decide +kernel
theorem dX0_slotOf_13 : decode cX0_slotOf 13 = .ok (.iload_n 1, 1) := by decide +kernel
theorem dX0_slotOf_14 : decode cX0_slotOf 14 = .ok (.iload_n 3, 1) := by decide +kernel
theorem dX0_slotOf_15 : decode cX0_slotOf 15 = .ok (.invokevirtual 66, 3) := by decide +kernel
theorem dX0_slotOf_18 : decode cX0_slotOf 18 = .ok (.istore 4, 2) := by decide +kernel
theorem dX0_slotOf_20 : decode cX0_slotOf 20 = .ok (.iload 4, 2) := by decide +kernel
theorem dX0_slotOf_22 : decode cX0_slotOf 22 = .ok (.iconst 3, 1) := by decide +kernel
theorem dX0_slotOf_23 : decode cX0_slotOf 23 = .ok (.imul, 1) := by decide +kernel
theorem dX0_slotOf_24 : decode cX0_slotOf 24 = .ok (.iload_n 2, 1) := by decide +kernel
theorem dX0_slotOf_25 : decode cX0_slotOf 25 = .ok (.iconst 3, 1) := by decide +kernel
theorem dX0_slotOf_26 : decode cX0_slotOf 26 = .ok (.irem, 1) := by decide +kernel
theorem dX0_slotOf_27 : decode cX0_slotOf 27 = .ok (.iadd, 1) := by decide +kernel
theorem dX0_slotOf_28 : decode cX0_slotOf 28 = .ok (.ireturn, 1) := by decide +kernel
theorem dX0_missingFor_0 : decode cX0_missingFor 0 = .ok (.aload_n 1, 1) := by decide +kernel
theorem dX0_missingFor_1 : decode cX0_missingFor 1 = .ok (.iload_n 2, 1) := by decide +kernel
theorem dX0_missingFor_2 : decode cX0_missingFor 2 = .ok (.invokestatic 69, 3) := by decide +kernel
theorem dX0_missingFor_5 : decode cX0_missingFor 5 = .ok (.istore_n 3, 1) := by decide +kernel
theorem dX0_missingFor_6 : decode cX0_missingFor 6 = .ok (.aload_n 1, 1) := by decide +kernel
theorem dX0_missingFor_7 : decode cX0_missingFor 7 = .ok (.iload_n 3, 1) := by decide +kernel
theorem dX0_missingFor_8 : decode cX0_missingFor 8 = .ok (.invokestatic 72, 3) := by decide +kernel
theorem dX0_missingFor_11 : decode cX0_missingFor 11 = .ok (.istore 4, 2) := by decide +kernel
theorem dX0_missingFor_13 : decode cX0_missingFor 13 = .ok (.aload_n 1, 1) := by decide +kernel
theorem dX0_missingFor_14 : decode cX0_missingFor 14 = .ok (.iload_n 2, 1) := by decide +kernel
theorem dX0_missingFor_15 : decode cX0_missingFor 15 = .ok (.invokestatic 75, 3) := by decide +kernel
theorem dX0_missingFor_18 : decode cX0_missingFor 18 = .ok (.istore 5, 2) := by decide +kernel
theorem dX0_missingFor_20 : decode cX0_missingFor 20 = .ok (.aload_n 0, 1) := by decide +kernel
theorem dX0_missingFor_21 : decode cX0_missingFor 21 = .ok (.getfield 9, 3) := by decide +kernel
theorem dX0_missingFor_24 : decode cX0_missingFor 24 = .ok (.iload 4, 2) := by decide +kernel
theorem dX0_missingFor_26 : decode cX0_missingFor 26 = .ok (.iload 5, 2) := by decide +kernel
theorem dX0_missingFor_28 : decode cX0_missingFor 28 = .ok (.invokevirtual 78, 3) := by decide +kernel
theorem dX0_missingFor_31 : decode cX0_missingFor 31 = .ok (.istore 6, 2) := by decide +kernel
theorem dX0_missingFor_33 : decode cX0_missingFor 33 = .ok (.iload 6, 2) := by decide +kernel
theorem dX0_missingFor_35 : decode cX0_missingFor 35 = .ok (.iconst 1, 1) := by decide +kernel
theorem dX0_missingFor_36 : decode cX0_missingFor 36 = .ok (.if_icmp .lt 36, 3) := by decide +kernel
theorem dX0_missingFor_39 : decode cX0_missingFor 39 = .ok (.aload_n 1, 1) := by decide +kernel
theorem dX0_missingFor_40 : decode cX0_missingFor 40 = .ok (.iload_n 3, 1) := by decide +kernel
theorem dX0_missingFor_41 : decode cX0_missingFor 41 = .ok (.aload_n 0, 1) := by decide +kernel
theorem dX0_missingFor_42 : decode cX0_missingFor 42 = .ok (.getfield 9, 3) := by decide +kernel
theorem dX0_missingFor_45 : decode cX0_missingFor 45 = .ok (.iload 4, 2) := by decide +kernel
theorem dX0_missingFor_47 : decode cX0_missingFor 47 = .ok (.iload 5, 2) := by decide +kernel
theorem dX0_missingFor_49 : decode cX0_missingFor 49 = .ok (.invokevirtual 83, 3) := by decide +kernel
theorem dX0_missingFor_52 : decode cX0_missingFor 52 = .ok (.invokestatic 86, 3) := by decide +kernel
theorem dX0_missingFor_55 : decode cX0_missingFor 55 = .ok (.istore 7, 2) := by decide +kernel
theorem dX0_missingFor_57 : decode cX0_missingFor 57 = .ok (.aload_n 0, 1) := by decide +kernel
theorem dX0_missingFor_58 : decode cX0_missingFor 58 = .ok (.getfield 20, 3) := by decide +kernel
theorem dX0_missingFor_61 : decode cX0_missingFor 61 = .ok (.iload 7, 2) := by decide +kernel
theorem dX0_missingFor_63 : decode cX0_missingFor 63 = .ok (.invokevirtual 41, 3) := by decide +kernel
theorem dX0_missingFor_66 : decode cX0_missingFor 66 = .ok (.ifCond .ne 6, 3) := by decide +kernel
theorem dX0_missingFor_69 : decode cX0_missingFor 69 = .ok (.iload 7, 2) := by decide +kernel
theorem dX0_missingFor_71 : decode cX0_missingFor 71 = .ok (.ireturn, 1) := by decide +kernel
theorem dX0_missingFor_72 : decode cX0_missingFor 72 = .ok (.iload 6, 2) := by decide +kernel
theorem dX0_missingFor_74 : decode cX0_missingFor 74 = .ok (.iconst 2, 1) := by decide +kernel
theorem dX0_missingFor_75 : decode cX0_missingFor 75 = .ok (.if_icmp .lt 36, 3) := by decide +kernel
theorem dX0_missingFor_78 : decode cX0_missingFor 78 = .ok (.aload_n 1, 1) := by decide +kernel
theorem dX0_missingFor_79 : decode cX0_missingFor 79 = .ok (.iload_n 3, 1) := by decide +kernel
theorem dX0_missingFor_80 : decode cX0_missingFor 80 = .ok (.aload_n 0, 1) := by decide +kernel
theorem dX0_missingFor_81 : decode cX0_missingFor 81 = .ok (.getfield 9, 3) := by decide +kernel
theorem dX0_missingFor_84 : decode cX0_missingFor 84 = .ok (.iload 4, 2) := by decide +kernel
theorem dX0_missingFor_86 : decode cX0_missingFor 86 = .ok (.iload 5, 2) := by decide +kernel
theorem dX0_missingFor_88 : decode cX0_missingFor 88 = .ok (.invokevirtual 90, 3) := by decide +kernel
theorem dX0_missingFor_91 : decode cX0_missingFor 91 = .ok (.invokestatic 86, 3) := by decide +kernel
theorem dX0_missingFor_94 : decode cX0_missingFor 94 = .ok (.istore 7, 2) := by decide +kernel
theorem dX0_missingFor_96 : decode cX0_missingFor 96 = .ok (.aload_n 0, 1) := by decide +kernel
theorem dX0_missingFor_97 : decode cX0_missingFor 97 = .ok (.getfield 20, 3) := by decide +kernel
theorem dX0_missingFor_100 : decode cX0_missingFor 100 = .ok (.iload 7, 2) := by decide +kernel
theorem dX0_missingFor_102 : decode cX0_missingFor 102 = .ok (.invokevirtual 41, 3) := by decide +kernel
theorem dX0_missingFor_105 : decode cX0_missingFor 105 = .ok (.ifCond .ne 6, 3) := by decide +kernel
theorem dX0_missingFor_108 : decode cX0_missingFor 108 = .ok (.iload 7, 2) := by decide +kernel
theorem dX0_missingFor_110 : decode cX0_missingFor 110 = .ok (.ireturn, 1) := by decide +kernel
theorem dX0_missingFor_111 : decode cX0_missingFor 111 = .ok (.iconst (-1), 1) := by decide +kernel
theorem dX0_missingFor_112 : decode cX0_missingFor 112 = .ok (.ireturn, 1) := by decide +kernel
theorem dX0_workOut_0 : decode cX0_workOut 0 = .ok (.aload_n 1, 1) := by decide +kernel
theorem dX0_workOut_1 : decode cX0_workOut 1 = .ok (.iload_n 2, 1) := by decide +kernel
theorem dX0_workOut_2 : decode cX0_workOut 2 = .ok (.invokestatic 69, 3) := by decide +kernel
theorem dX0_workOut_5 : decode cX0_workOut 5 = .ok (.istore_n 3, 1) := by decide +kernel
theorem dX0_workOut_6 : decode cX0_workOut 6 = .ok (.aload_n 1, 1) := by decide +kernel
theorem dX0_workOut_7 : decode cX0_workOut 7 = .ok (.iload_n 3, 1) := by decide +kernel
theorem dX0_workOut_8 : decode cX0_workOut 8 = .ok (.invokestatic 72, 3) := by decide +kernel
theorem dX0_workOut_11 : decode cX0_workOut 11 = .ok (.istore 4, 2) := by decide +kernel
theorem dX0_workOut_13 : decode cX0_workOut 13 = .ok (.aload_n 1, 1) := by decide +kernel
theorem dX0_workOut_14 : decode cX0_workOut 14 = .ok (.iload_n 2, 1) := by decide +kernel
theorem dX0_workOut_15 : decode cX0_workOut 15 = .ok (.invokestatic 75, 3) := by decide +kernel
theorem dX0_workOut_18 : decode cX0_workOut 18 = .ok (.istore 5, 2) := by decide +kernel
theorem dX0_workOut_20 : decode cX0_workOut 20 = .ok (.aload_n 0, 1) := by decide +kernel
theorem dX0_workOut_21 : decode cX0_workOut 21 = .ok (.getfield 9, 3) := by decide +kernel
theorem dX0_workOut_24 : decode cX0_workOut 24 = .ok (.iload 4, 2) := by decide +kernel
theorem dX0_workOut_26 : decode cX0_workOut 26 = .ok (.iload 5, 2) := by decide +kernel
theorem dX0_workOut_28 : decode cX0_workOut 28 = .ok (.invokevirtual 78, 3) := by decide +kernel
theorem dX0_workOut_31 : decode cX0_workOut 31 = .ok (.istore 6, 2) := by decide +kernel
theorem dX0_workOut_33 : decode cX0_workOut 33 = .ok (.iload 6, 2) := by decide +kernel
theorem dX0_workOut_35 : decode cX0_workOut 35 = .ok (.ifCond .ge 5, 3) := by decide +kernel
theorem dX0_workOut_38 : decode cX0_workOut 38 = .ok (.lconst 0, 1) := by decide +kernel
theorem dX0_workOut_39 : decode cX0_workOut 39 = .ok (.lreturn, 1) := by decide +kernel
theorem dX0_workOut_40 : decode cX0_workOut 40 = .ok (.iload 6, 2) := by decide +kernel
theorem dX0_workOut_42 : decode cX0_workOut 42 = .ok (.ifCond .ne 16, 3) := by decide +kernel
theorem dX0_workOut_45 : decode cX0_workOut 45 = .ok (.aload_n 0, 1) := by decide +kernel
theorem dX0_workOut_46 : decode cX0_workOut 46 = .ok (.getfield 9, 3) := by decide +kernel
theorem dX0_workOut_49 : decode cX0_workOut 49 = .ok (.iload 4, 2) := by decide +kernel
theorem dX0_workOut_51 : decode cX0_workOut 51 = .ok (.iload 5, 2) := by decide +kernel
theorem dX0_workOut_53 : decode cX0_workOut 53 = .ok (.invokevirtual 83, 3) := by decide +kernel
theorem dX0_workOut_56 : decode cX0_workOut 56 = .ok (.i2l, 1) := by decide +kernel
theorem dX0_workOut_57 : decode cX0_workOut 57 = .ok (.lreturn, 1) := by decide +kernel
theorem dX0_workOut_58 : decode cX0_workOut 58 = .ok (.aload_n 1, 1) := by decide +kernel
theorem dX0_workOut_59 : decode cX0_workOut 59 = .ok (.aload_n 1, 1) := by decide +kernel
theorem dX0_workOut_60 : decode cX0_workOut 60 = .ok (.iload_n 3, 1) := by decide +kernel
theorem dX0_workOut_61 : decode cX0_workOut 61 = .ok (.aload_n 0, 1) := by decide +kernel
theorem dX0_workOut_62 : decode cX0_workOut 62 = .ok (.getfield 9, 3) := by decide +kernel
theorem dX0_workOut_65 : decode cX0_workOut 65 = .ok (.iload 4, 2) := by decide +kernel
theorem dX0_workOut_67 : decode cX0_workOut 67 = .ok (.iload 5, 2) := by decide +kernel
theorem dX0_workOut_69 : decode cX0_workOut 69 = .ok (.invokevirtual 83, 3) := by decide +kernel
theorem dX0_workOut_72 : decode cX0_workOut 72 = .ok (.invokestatic 86, 3) := by decide +kernel
theorem dX0_workOut_75 : decode cX0_workOut 75 = .ok (.invokevirtual 93, 3) := by decide +kernel
theorem dX0_workOut_78 : decode cX0_workOut 78 = .ok (.lstore 7, 2) := by decide +kernel
theorem dX0_workOut_80 : decode cX0_workOut 80 = .ok (.aload_n 1, 1) := by decide +kernel
theorem dX0_workOut_81 : decode cX0_workOut 81 = .ok (.aload_n 1, 1) := by decide +kernel
theorem dX0_workOut_82 : decode cX0_workOut 82 = .ok (.iload_n 3, 1) := by decide +kernel
theorem dX0_workOut_83 : decode cX0_workOut 83 = .ok (.aload_n 0, 1) := by decide +kernel
theorem dX0_workOut_84 : decode cX0_workOut 84 = .ok (.getfield 9, 3) := by decide +kernel
theorem dX0_workOut_87 : decode cX0_workOut 87 = .ok (.iload 4, 2) := by decide +kernel
theorem dX0_workOut_89 : decode cX0_workOut 89 = .ok (.iload 5, 2) := by decide +kernel
theorem dX0_workOut_91 : decode cX0_workOut 91 = .ok (.invokevirtual 90, 3) := by decide +kernel
theorem dX0_workOut_94 : decode cX0_workOut 94 = .ok (.invokestatic 86, 3) := by decide +kernel
theorem dX0_workOut_97 : decode cX0_workOut 97 = .ok (.invokevirtual 93, 3) := by decide +kernel
theorem dX0_workOut_100 : decode cX0_workOut 100 = .ok (.lstore 9, 2) := by decide +kernel
theorem dX0_workOut_102 : decode cX0_workOut 102 = .ok (.iload 6, 2) := by decide +kernel
theorem dX0_workOut_104 : decode cX0_workOut 104 = .ok (.lload 7, 2) := by decide +kernel
theorem dX0_workOut_106 : decode cX0_workOut 106 = .ok (.lload 9, 2) := by decide +kernel
theorem dX0_workOut_108 : decode cX0_workOut 108 = .ok (.invokestatic 97, 3) := by decide +kernel
theorem dX0_workOut_111 : decode cX0_workOut 111 = .ok (.lreturn, 1) := by decide +kernel
theorem dX0_operate_0 : decode cX0_operate 0 = .ok (.iload_n 0, 1) := by decide +kernel
theorem dX0_operate_1 : decode cX0_operate 1 = .ok (.tableswitch 71 1 6 #[39, 41, 45, 49, 53, 65], 39) := by decide +kernel
theorem dX0_operate_40 : decode cX0_operate 40 = .ok (.lload_n 1, 1) := by decide +kernel
theorem dX0_operate_41 : decode cX0_operate 41 = .ok (.lreturn, 1) := by decide +kernel
theorem dX0_operate_42 : decode cX0_operate 42 = .ok (.lload_n 1, 1) := by decide +kernel
theorem dX0_operate_43 : decode cX0_operate 43 = .ok (.lload_n 3, 1) := by decide +kernel
theorem dX0_operate_44 : decode cX0_operate 44 = .ok (.ladd, 1) := by decide +kernel
theorem dX0_operate_45 : decode cX0_operate 45 = .ok (.lreturn, 1) := by decide +kernel
theorem dX0_operate_46 : decode cX0_operate 46 = .ok (.lload_n 1, 1) := by decide +kernel
theorem dX0_operate_47 : decode cX0_operate 47 = .ok (.lload_n 3, 1) := by decide +kernel
theorem dX0_operate_48 : decode cX0_operate 48 = .ok (.lsub, 1) := by decide +kernel
theorem dX0_operate_49 : decode cX0_operate 49 = .ok (.lreturn, 1) := by decide +kernel
theorem dX0_operate_50 : decode cX0_operate 50 = .ok (.lload_n 1, 1) := by decide +kernel
theorem dX0_operate_51 : decode cX0_operate 51 = .ok (.lload_n 3, 1) := by decide +kernel
theorem dX0_operate_52 : decode cX0_operate 52 = .ok (.lmul, 1) := by decide +kernel
theorem dX0_operate_53 : decode cX0_operate 53 = .ok (.lreturn, 1) := by decide +kernel
theorem dX0_operate_54 : decode cX0_operate 54 = .ok (.lload_n 1, 1) := by decide +kernel
theorem dX0_operate_55 : decode cX0_operate 55 = .ok (.lload_n 3, 1) := by decide +kernel
theorem dX0_operate_56 : decode cX0_operate 56 = .ok (.lcmp, 1) := by decide +kernel
theorem dX0_operate_57 : decode cX0_operate 57 = .ok (.ifCond .ge 7, 3) := by decide +kernel
theorem dX0_operate_60 : decode cX0_operate 60 = .ok (.lconst 1, 1) := by decide +kernel
theorem dX0_operate_61 : decode cX0_operate 61 = .ok (.goto 4, 3) := by decide +kernel
theorem dX0_operate_64 : decode cX0_operate 64 = .ok (.lconst 0, 1) := by decide +kernel
theorem dX0_operate_65 : decode cX0_operate 65 = .ok (.lreturn, 1) := by decide +kernel
theorem dX0_operate_66 : decode cX0_operate 66 = .ok (.lload_n 1, 1) := by decide +kernel
theorem dX0_operate_67 : decode cX0_operate 67 = .ok (.lload_n 3, 1) := by decide +kernel
theorem dX0_operate_68 : decode cX0_operate 68 = .ok (.invokestatic 101, 3) := by decide +kernel
theorem dX0_operate_71 : decode cX0_operate 71 = .ok (.lreturn, 1) := by decide +kernel
theorem dX0_operate_72 : decode cX0_operate 72 = .ok (.lload_n 3, 1) := by decide +kernel
theorem dX0_operate_73 : decode cX0_operate 73 = .ok (.lconst 0, 1) := by decide +kernel
theorem dX0_operate_74 : decode cX0_operate 74 = .ok (.lcmp, 1) := by decide +kernel
theorem dX0_operate_75 : decode cX0_operate 75 = .ok (.ifCond .eq 7, 3) := by decide +kernel
theorem dX0_operate_78 : decode cX0_operate 78 = .ok (.lload_n 1, 1) := by decide +kernel
theorem dX0_operate_79 : decode cX0_operate 79 = .ok (.goto 4, 3) := by decide +kernel
theorem dX0_operate_82 : decode cX0_operate 82 = .ok (.lconst 0, 1) := by decide +kernel
theorem dX0_operate_83 : decode cX0_operate 83 = .ok (.lreturn, 1) := by decide +kernel
theorem dX1_init_0 : decode cX1_init 0 = .ok (.aload_n 0, 1) := by decide +kernel
theorem dX1_init_1 : decode cX1_init 1 = .ok (.invokespecial 3, 3) := by decide +kernel
theorem dX1_init_4 : decode cX1_init 4 = .ok (.aload_n 0, 1) := by decide +kernel
theorem dX1_init_5 : decode cX1_init 5 = .ok (.new 9, 3) := by decide +kernel
theorem dX1_init_8 : decode cX1_init 8 = .ok (.dup, 1) := by decide +kernel
theorem dX1_init_9 : decode cX1_init 9 = .ok (.bipush 15, 2) := by decide +kernel
theorem dX1_init_11 : decode cX1_init 11 = .ok (.iconst 5, 1) := by decide +kernel
theorem dX1_init_12 : decode cX1_init 12 = .ok (.invokespecial 11, 3) := by decide +kernel
theorem dX1_init_15 : decode cX1_init 15 = .ok (.putfield 14, 3) := by decide +kernel
theorem dX1_init_18 : decode cX1_init 18 = .ok (.aload_n 0, 1) := by decide +kernel
theorem dX1_init_19 : decode cX1_init 19 = .ok (.new 20, 3) := by decide +kernel
theorem dX1_init_22 : decode cX1_init 22 = .ok (.dup, 1) := by decide +kernel
theorem dX1_init_23 : decode cX1_init 23 = .ok (.bipush 7, 2) := by decide +kernel
theorem dX1_init_25 : decode cX1_init 25 = .ok (.invokespecial 22, 3) := by decide +kernel
theorem dX1_init_28 : decode cX1_init 28 = .ok (.putfield 25, 3) := by decide +kernel
theorem dX1_init_31 : decode cX1_init 31 = .ok (.aload_n 0, 1) := by decide +kernel
theorem dX1_init_32 : decode cX1_init 32 = .ok (.new 20, 3) := by decide +kernel
theorem dX1_init_35 : decode cX1_init 35 = .ok (.dup, 1) := by decide +kernel
theorem dX1_init_36 : decode cX1_init 36 = .ok (.bipush 7, 2) := by decide +kernel
theorem dX1_init_38 : decode cX1_init 38 = .ok (.invokespecial 22, 3) := by decide +kernel
theorem dX1_init_41 : decode cX1_init 41 = .ok (.putfield 29, 3) := by decide +kernel
theorem dX1_init_44 : decode cX1_init 44 = .ok (.aload_n 0, 1) := by decide +kernel
theorem dX1_init_45 : decode cX1_init 45 = .ok (.new 20, 3) := by decide +kernel
theorem dX1_init_48 : decode cX1_init 48 = .ok (.dup, 1) := by decide +kernel
theorem dX1_init_49 : decode cX1_init 49 = .ok (.bipush 14, 2) := by decide +kernel
theorem dX1_init_51 : decode cX1_init 51 = .ok (.invokespecial 22, 3) := by decide +kernel
theorem dX1_init_54 : decode cX1_init 54 = .ok (.putfield 32, 3) := by decide +kernel
theorem dX1_init_57 : decode cX1_init 57 = .ok (.aload_n 0, 1) := by decide +kernel
theorem dX1_init_58 : decode cX1_init 58 = .ok (.new 9, 3) := by decide +kernel
theorem dX1_init_61 : decode cX1_init 61 = .ok (.dup, 1) := by decide +kernel
theorem dX1_init_62 : decode cX1_init 62 = .ok (.bipush 14, 2) := by decide +kernel
theorem dX1_init_64 : decode cX1_init 64 = .ok (.bipush 15, 2) := by decide +kernel
theorem dX1_init_66 : decode cX1_init 66 = .ok (.invokespecial 11, 3) := by decide +kernel
theorem dX1_init_69 : decode cX1_init 69 = .ok (.putfield 35, 3) := by decide +kernel
theorem dX1_init_72 : decode cX1_init 72 = .ok (.aload_n 0, 1) := by decide +kernel
theorem dX1_init_73 : decode cX1_init 73 = .ok (.new 9, 3) := by decide +kernel
theorem dX1_init_76 : decode cX1_init 76 = .ok (.dup, 1) := by decide +kernel
theorem dX1_init_77 : decode cX1_init 77 = .ok (.bipush 14, 2) := by decide +kernel
theorem dX1_init_79 : decode cX1_init 79 = .ok (.bipush 15, 2) := by decide +kernel
theorem dX1_init_81 : decode cX1_init 81 = .ok (.invokespecial 11, 3) := by decide +kernel
theorem dX1_init_84 : decode cX1_init 84 = .ok (.putfield 38, 3) := by decide +kernel
theorem dX1_init_87 : decode cX1_init 87 = .ok (.aload_n 0, 1) := by decide +kernel
theorem dX1_init_88 : decode cX1_init 88 = .ok (.new 9, 3) := by decide +kernel
theorem dX1_init_91 : decode cX1_init 91 = .ok (.dup, 1) := by decide +kernel
theorem dX1_init_92 : decode cX1_init 92 = .ok (.bipush 14, 2) := by decide +kernel
theorem dX1_init_94 : decode cX1_init 94 = .ok (.bipush 15, 2) := by decide +kernel
theorem dX1_init_96 : decode cX1_init 96 = .ok (.invokespecial 11, 3) := by decide +kernel
theorem dX1_init_99 : decode cX1_init 99 = .ok (.putfield 41, 3) := by decide +kernel
theorem dX1_init_102 : decode cX1_init 102 = .ok (.aload_n 0, 1) := by decide +kernel
theorem dX1_init_103 : decode cX1_init 103 = .ok (.iconst 0, 1) := by decide +kernel
theorem dX1_init_104 : decode cX1_init 104 = .ok (.putfield 44, 3) := by decide +kernel
theorem dX1_init_107 : decode cX1_init 107 = .ok (.aload_n 0, 1) := by decide +kernel
theorem dX1_init_108 : decode cX1_init 108 = .ok (.iconst 0, 1) := by decide +kernel
theorem dX1_init_109 : decode cX1_init 109 = .ok (.putfield 48, 3) := by decide +kernel
theorem dX1_init_112 : decode cX1_init 112 = .ok (.return_, 1) := by decide +kernel
theorem dX1_wipe_0 : decode cX1_wipe 0 = .ok (.aload_n 0, 1) := by decide +kernel
theorem dX1_wipe_1 : decode cX1_wipe 1 = .ok (.getfield 14, 3) := by decide +kernel
theorem dX1_wipe_4 : decode cX1_wipe 4 = .ok (.invokevirtual 51, 3) := by decide +kernel
theorem dX1_wipe_7 : decode cX1_wipe 7 = .ok (.aload_n 0, 1) := by decide +kernel
theorem dX1_wipe_8 : decode cX1_wipe 8 = .ok (.getfield 25, 3) := by decide +kernel
theorem dX1_wipe_11 : decode cX1_wipe 11 = .ok (.invokevirtual 54, 3) := by decide +kernel
theorem dX1_wipe_14 : decode cX1_wipe 14 = .ok (.aload_n 0, 1) := by decide +kernel
theorem dX1_wipe_15 : decode cX1_wipe 15 = .ok (.getfield 29, 3) := by decide +kernel
theorem dX1_wipe_18 : decode cX1_wipe 18 = .ok (.invokevirtual 54, 3) := by decide +kernel
theorem dX1_wipe_21 : decode cX1_wipe 21 = .ok (.aload_n 0, 1) := by decide +kernel
theorem dX1_wipe_22 : decode cX1_wipe 22 = .ok (.getfield 32, 3) := by decide +kernel
theorem dX1_wipe_25 : decode cX1_wipe 25 = .ok (.invokevirtual 54, 3) := by decide +kernel
theorem dX1_wipe_28 : decode cX1_wipe 28 = .ok (.aload_n 0, 1) := by decide +kernel
theorem dX1_wipe_29 : decode cX1_wipe 29 = .ok (.getfield 35, 3) := by decide +kernel
theorem dX1_wipe_32 : decode cX1_wipe 32 = .ok (.invokevirtual 51, 3) := by decide +kernel
theorem dX1_wipe_35 : decode cX1_wipe 35 = .ok (.aload_n 0, 1) := by decide +kernel
theorem dX1_wipe_36 : decode cX1_wipe 36 = .ok (.iconst 0, 1) := by decide +kernel
theorem dX1_wipe_37 : decode cX1_wipe 37 = .ok (.putfield 44, 3) := by decide +kernel
theorem dX1_wipe_40 : decode cX1_wipe 40 = .ok (.aload_n 0, 1) := by decide +kernel
theorem dX1_wipe_41 : decode cX1_wipe 41 = .ok (.iconst 0, 1) := by decide +kernel
theorem dX1_wipe_42 : decode cX1_wipe 42 = .ok (.putfield 48, 3) := by decide +kernel
theorem dX1_wipe_45 : decode cX1_wipe 45 = .ok (.return_, 1) := by decide +kernel
theorem dX1_size_0 : decode cX1_size 0 = .ok (.aload_n 0, 1) := by decide +kernel
theorem dX1_size_1 : decode cX1_size 1 = .ok (.getfield 44, 3) := by decide +kernel
theorem dX1_size_4 : decode cX1_size 4 = .ok (.ireturn, 1) := by decide +kernel
theorem dX1_equations_0 : decode cX1_equations 0 = .ok (.aload_n 0, 1) := by decide +kernel
theorem dX1_equations_1 : decode cX1_equations 1 = .ok (.getfield 48, 3) := by decide +kernel
theorem dX1_equations_4 : decode cX1_equations 4 = .ok (.ireturn, 1) := by decide +kernel
theorem dX1_hasRule_0 : decode cX1_hasRule 0 = .ok (.iload_n 1, 1) := by decide +kernel
theorem dX1_hasRule_1 : decode cX1_hasRule 1 = .ok (.ifCond .lt 15, 3) := by decide +kernel
theorem dX1_hasRule_4 : decode cX1_hasRule 4 = .ok (.iload_n 1, 1) := by decide +kernel
theorem dX1_hasRule_5 : decode cX1_hasRule 5 = .ok (.aload_n 0, 1) := by decide +kernel
theorem dX1_hasRule_6 : decode cX1_hasRule 6 = .ok (.getfield 44, 3) := by decide +kernel
theorem dX1_hasRule_9 : decode cX1_hasRule 9 = .ok (.if_icmp .ge 7, 3) := by decide +kernel
theorem dX1_hasRule_12 : decode cX1_hasRule 12 = .ok (.iconst 1, 1) := by decide +kernel
theorem dX1_hasRule_13 : decode cX1_hasRule 13 = .ok (.goto 4, 3) := by decide +kernel
theorem dX1_hasRule_16 : decode cX1_hasRule 16 = .ok (.iconst 0, 1) := by decide +kernel
theorem dX1_hasRule_17 : decode cX1_hasRule 17 = .ok (.ireturn, 1) := by decide +kernel
theorem dX1_addRule_0 : decode cX1_addRule 0 = .ok (.aload_n 0, 1) := by decide +kernel
theorem dX1_addRule_1 : decode cX1_addRule 1 = .ok (.getfield 44, 3) := by decide +kernel
theorem dX1_addRule_4 : decode cX1_addRule 4 = .ok (.istore 6, 2) := by decide +kernel
theorem dX1_addRule_6 : decode cX1_addRule 6 = .ok (.aload_n 0, 1) := by decide +kernel
theorem dX1_addRule_7 : decode cX1_addRule 7 = .ok (.getfield 14, 3) := by decide +kernel
theorem dX1_addRule_10 : decode cX1_addRule 10 = .ok (.iload 6, 2) := by decide +kernel
theorem dX1_addRule_12 : decode cX1_addRule 12 = .ok (.iconst 0, 1) := by decide +kernel
theorem dX1_addRule_13 : decode cX1_addRule 13 = .ok (.iload_n 1, 1) := by decide +kernel
theorem dX1_addRule_14 : decode cX1_addRule 14 = .ok (.invokevirtual 55, 3) := by decide +kernel
theorem dX1_addRule_17 : decode cX1_addRule 17 = .ok (.aload_n 0, 1) := by decide +kernel
theorem dX1_addRule_18 : decode cX1_addRule 18 = .ok (.getfield 14, 3) := by decide +kernel
theorem dX1_addRule_21 : decode cX1_addRule 21 = .ok (.iload 6, 2) := by decide +kernel
theorem dX1_addRule_23 : decode cX1_addRule 23 = .ok (.iconst 1, 1) := by decide +kernel
theorem dX1_addRule_24 : decode cX1_addRule 24 = .ok (.iload_n 2, 1) := by decide +kernel
theorem dX1_addRule_25 : decode cX1_addRule 25 = .ok (.invokevirtual 55, 3) := by decide +kernel
theorem dX1_addRule_28 : decode cX1_addRule 28 = .ok (.aload_n 0, 1) := by decide +kernel
theorem dX1_addRule_29 : decode cX1_addRule 29 = .ok (.getfield 14, 3) := by decide +kernel
theorem dX1_addRule_32 : decode cX1_addRule 32 = .ok (.iload 6, 2) := by decide +kernel
theorem dX1_addRule_34 : decode cX1_addRule 34 = .ok (.iconst 2, 1) := by decide +kernel
theorem dX1_addRule_35 : decode cX1_addRule 35 = .ok (.iload_n 3, 1) := by decide +kernel
theorem dX1_addRule_36 : decode cX1_addRule 36 = .ok (.invokevirtual 55, 3) := by decide +kernel
theorem dX1_addRule_39 : decode cX1_addRule 39 = .ok (.aload_n 0, 1) := by decide +kernel
theorem dX1_addRule_40 : decode cX1_addRule 40 = .ok (.getfield 14, 3) := by decide +kernel
theorem dX1_addRule_43 : decode cX1_addRule 43 = .ok (.iload 6, 2) := by decide +kernel
theorem dX1_addRule_45 : decode cX1_addRule 45 = .ok (.iconst 3, 1) := by decide +kernel
theorem dX1_addRule_46 : decode cX1_addRule 46 = .ok (.iload 4, 2) := by decide +kernel
theorem dX1_addRule_48 : decode cX1_addRule 48 = .ok (.invokevirtual 55, 3) := by decide +kernel
theorem dX1_addRule_51 : decode cX1_addRule 51 = .ok (.aload_n 0, 1) := by decide +kernel
theorem dX1_addRule_52 : decode cX1_addRule 52 = .ok (.getfield 14, 3) := by decide +kernel
theorem dX1_addRule_55 : decode cX1_addRule 55 = .ok (.iload 6, 2) := by decide +kernel
theorem dX1_addRule_57 : decode cX1_addRule 57 = .ok (.iconst 4, 1) := by decide +kernel
theorem dX1_addRule_58 : decode cX1_addRule 58 = .ok (.iload 5, 2) := by decide +kernel
theorem dX1_addRule_60 : decode cX1_addRule 60 = .ok (.invokevirtual 55, 3) := by decide +kernel
theorem dX1_addRule_63 : decode cX1_addRule 63 = .ok (.iload 6, 2) := by decide +kernel
theorem dX1_addRule_65 : decode cX1_addRule 65 = .ok (.ifCond .ne 14, 3) := by decide +kernel
theorem dX1_addRule_68 : decode cX1_addRule 68 = .ok (.aload_n 0, 1) := by decide +kernel
theorem dX1_addRule_69 : decode cX1_addRule 69 = .ok (.getfield 14, 3) := by decide +kernel
theorem dX1_addRule_72 : decode cX1_addRule 72 = .ok (.bipush 14, 2) := by decide +kernel
theorem dX1_addRule_74 : decode cX1_addRule 74 = .ok (.iconst 1, 1) := by decide +kernel
theorem dX1_addRule_75 : decode cX1_addRule 75 = .ok (.iload_n 1, 1) := by decide +kernel
theorem dX1_addRule_76 : decode cX1_addRule 76 = .ok (.invokevirtual 55, 3) := by decide +kernel
theorem dX1_addRule_79 : decode cX1_addRule 79 = .ok (.aload_n 0, 1) := by decide +kernel
theorem dX1_addRule_80 : decode cX1_addRule 80 = .ok (.dup, 1) := by decide +kernel
theorem dX1_addRule_81 : decode cX1_addRule 81 = .ok (.getfield 44, 3) := by decide +kernel
theorem dX1_addRule_84 : decode cX1_addRule 84 = .ok (.iconst 1, 1) := by decide +kernel
theorem dX1_addRule_85 : decode cX1_addRule 85 = .ok (.iadd, 1) := by decide +kernel
theorem dX1_addRule_86 : decode cX1_addRule 86 = .ok (.putfield 44, 3) := by decide +kernel
theorem dX1_addRule_89 : decode cX1_addRule 89 = .ok (.aload_n 0, 1) := by decide +kernel
theorem dX1_addRule_90 : decode cX1_addRule 90 = .ok (.invokevirtual 59, 3) := by decide +kernel
theorem dX1_addRule_93 : decode cX1_addRule 93 = .ok (.iload 6, 2) := by decide +kernel
theorem dX1_addRule_95 : decode cX1_addRule 95 = .ok (.ireturn, 1) := by decide +kernel
theorem dX1_leftOf_0 : decode cX1_leftOf 0 = .ok (.aload_n 0, 1) := by decide +kernel
theorem dX1_leftOf_1 : decode cX1_leftOf 1 = .ok (.getfield 14, 3) := by decide +kernel
theorem dX1_leftOf_4 : decode cX1_leftOf 4 = .ok (.iload_n 1, 1) := by decide +kernel
theorem dX1_leftOf_5 : decode cX1_leftOf 5 = .ok (.iconst 0, 1) := by decide +kernel
theorem dX1_leftOf_6 : decode cX1_leftOf 6 = .ok (.invokevirtual 62, 3) := by decide +kernel
theorem dX1_leftOf_9 : decode cX1_leftOf 9 = .ok (.ireturn, 1) := by decide +kernel
theorem dX1_symbolAt_0 : decode cX1_symbolAt 0 = .ok (.aload_n 0, 1) := by decide +kernel
theorem dX1_symbolAt_1 : decode cX1_symbolAt 1 = .ok (.getfield 14, 3) := by decide +kernel
theorem dX1_symbolAt_4 : decode cX1_symbolAt 4 = .ok (.iload_n 1, 1) := by decide +kernel
theorem dX1_symbolAt_5 : decode cX1_symbolAt 5 = .ok (.iload_n 2, 1) := by decide +kernel
theorem dX1_symbolAt_6 : decode cX1_symbolAt 6 = .ok (.invokevirtual 62, 3) := by decide +kernel
theorem dX1_symbolAt_9 : decode cX1_symbolAt 9 = .ok (.ireturn, 1) := by decide +kernel
theorem dX1_lengthOf_0 : decode cX1_lengthOf 0 = .ok (.iconst 0, 1) := by decide +kernel
theorem dX1_lengthOf_1 : decode cX1_lengthOf 1 = .ok (.istore_n 2, 1) := by decide +kernel
theorem dX1_lengthOf_2 : decode cX1_lengthOf 2 = .ok (.iload_n 2, 1) := by decide +kernel
theorem dX1_lengthOf_3 : decode cX1_lengthOf 3 = .ok (.iconst 4, 1) := by decide +kernel
theorem dX1_lengthOf_4 : decode cX1_lengthOf 4 = .ok (.if_icmp .ge 23, 3) := by decide +kernel
theorem dX1_lengthOf_7 : decode cX1_lengthOf 7 = .ok (.aload_n 0, 1) := by decide +kernel
theorem dX1_lengthOf_8 : decode cX1_lengthOf 8 = .ok (.getfield 14, 3) := by decide +kernel
theorem dX1_lengthOf_11 : decode cX1_lengthOf 11 = .ok (.iload_n 1, 1) := by decide +kernel
theorem dX1_lengthOf_12 : decode cX1_lengthOf 12 = .ok (.iload_n 2, 1) := by decide +kernel
theorem dX1_lengthOf_13 : decode cX1_lengthOf 13 = .ok (.iconst 1, 1) := by decide +kernel
theorem dX1_lengthOf_14 : decode cX1_lengthOf 14 = .ok (.iadd, 1) := by decide +kernel
theorem dX1_lengthOf_15 : decode cX1_lengthOf 15 = .ok (.invokevirtual 62, 3) := by decide +kernel
theorem dX1_lengthOf_18 : decode cX1_lengthOf 18 = .ok (.ifCond .eq 9, 3) := by decide +kernel
theorem dX1_lengthOf_21 : decode cX1_lengthOf 21 = .ok (.iinc 2 1, 3) := by decide +kernel
theorem dX1_lengthOf_24 : decode cX1_lengthOf 24 = .ok (.goto (-22), 3) := by decide +kernel
theorem dX1_lengthOf_27 : decode cX1_lengthOf 27 = .ok (.iload_n 2, 1) := by decide +kernel
theorem dX1_lengthOf_28 : decode cX1_lengthOf 28 = .ok (.ireturn, 1) := by decide +kernel
theorem dX1_levelOf_0 : decode cX1_levelOf 0 = .ok (.aload_n 0, 1) := by decide +kernel
theorem dX1_levelOf_1 : decode cX1_levelOf 1 = .ok (.getfield 25, 3) := by decide +kernel
theorem dX1_levelOf_4 : decode cX1_levelOf 4 = .ok (.iload_n 1, 1) := by decide +kernel
theorem dX1_levelOf_5 : decode cX1_levelOf 5 = .ok (.invokevirtual 66, 3) := by decide +kernel
theorem dX1_levelOf_8 : decode cX1_levelOf 8 = .ok (.ireturn, 1) := by decide +kernel
theorem dX1_kindOf_0 : decode cX1_kindOf 0 = .ok (.aload_n 0, 1) := by decide +kernel
theorem dX1_kindOf_1 : decode cX1_kindOf 1 = .ok (.getfield 29, 3) := by decide +kernel
theorem dX1_kindOf_4 : decode cX1_kindOf 4 = .ok (.iload_n 1, 1) := by decide +kernel
theorem dX1_kindOf_5 : decode cX1_kindOf 5 = .ok (.invokevirtual 66, 3) := by decide +kernel
theorem dX1_kindOf_8 : decode cX1_kindOf 8 = .ok (.ireturn, 1) := by decide +kernel
theorem dX1_setLevel_0 : decode cX1_setLevel 0 = .ok (.aload_n 0, 1) := by decide +kernel
theorem dX1_setLevel_1 : decode cX1_setLevel 1 = .ok (.getfield 25, 3) := by decide +kernel
theorem dX1_setLevel_4 : decode cX1_setLevel 4 = .ok (.iload_n 1, 1) := by decide +kernel
theorem dX1_setLevel_5 : decode cX1_setLevel 5 = .ok (.iload_n 2, 1) := by decide +kernel
theorem dX1_setLevel_6 : decode cX1_setLevel 6 = .ok (.invokevirtual 69, 3) := by decide +kernel
theorem dX1_setLevel_9 : decode cX1_setLevel 9 = .ok (.aload_n 0, 1) := by decide +kernel
theorem dX1_setLevel_10 : decode cX1_setLevel 10 = .ok (.getfield 29, 3) := by decide +kernel
theorem dX1_setLevel_13 : decode cX1_setLevel 13 = .ok (.iload_n 1, 1) := by decide +kernel
theorem dX1_setLevel_14 : decode cX1_setLevel 14 = .ok (.iload_n 3, 1) := by decide +kernel
theorem dX1_setLevel_15 : decode cX1_setLevel 15 = .ok (.invokevirtual 69, 3) := by decide +kernel
theorem dX1_setLevel_18 : decode cX1_setLevel 18 = .ok (.return_, 1) := by decide +kernel
theorem dX1_levelOfRule_0 : decode cX1_levelOfRule 0 = .ok (.iconst 0, 1) := by decide +kernel
theorem dX1_levelOfRule_1 : decode cX1_levelOfRule 1 = .ok (.istore_n 2, 1) := by decide +kernel
theorem dX1_levelOfRule_2 : decode cX1_levelOfRule 2 = .ok (.iconst 1, 1) := by decide +kernel
theorem dX1_levelOfRule_3 : decode cX1_levelOfRule 3 = .ok (.istore_n 3, 1) := by decide +kernel
theorem dX1_levelOfRule_4 : decode cX1_levelOfRule 4 = .ok (.iload_n 3, 1) := by decide +kernel
theorem dX1_levelOfRule_5 : decode cX1_levelOfRule 5 = .ok (.iconst 4, 1) := by decide +kernel
theorem dX1_levelOfRule_6 : decode cX1_levelOfRule 6 = .ok (.if_icmp .gt 32, 3) := by decide +kernel
theorem dX1_levelOfRule_9 : decode cX1_levelOfRule 9 = .ok (.aload_n 0, 1) := by decide +kernel
theorem dX1_levelOfRule_10 : decode cX1_levelOfRule 10 = .ok (.iload_n 1, 1) := by decide +kernel
theorem dX1_levelOfRule_11 : decode cX1_levelOfRule 11 = .ok (.iload_n 3, 1) := by decide +kernel
theorem dX1_levelOfRule_12 : decode cX1_levelOfRule 12 = .ok (.invokevirtual 71, 3) := by decide +kernel
theorem dX1_levelOfRule_15 : decode cX1_levelOfRule 15 = .ok (.invokestatic 74, 3) := by decide +kernel
theorem dX1_levelOfRule_18 : decode cX1_levelOfRule 18 = .ok (.ifCond .eq 14, 3) := by decide +kernel
theorem dX1_levelOfRule_21 : decode cX1_levelOfRule 21 = .ok (.aload_n 0, 1) := by decide +kernel
theorem dX1_levelOfRule_22 : decode cX1_levelOfRule 22 = .ok (.aload_n 0, 1) := by decide +kernel
theorem dX1_levelOfRule_23 : decode cX1_levelOfRule 23 = .ok (.iload_n 1, 1) := by decide +kernel
theorem dX1_levelOfRule_24 : decode cX1_levelOfRule 24 = .ok (.iload_n 3, 1) := by decide +kernel
theorem dX1_levelOfRule_25 : decode cX1_levelOfRule 25 = .ok (.invokevirtual 71, 3) := by decide +kernel
theorem dX1_levelOfRule_28 : decode cX1_levelOfRule 28 = .ok (.invokevirtual 78, 3) := by decide +kernel
theorem dX1_levelOfRule_31 : decode cX1_levelOfRule 31 = .ok (.istore_n 2, 1) := by decide +kernel
theorem dX1_levelOfRule_32 : decode cX1_levelOfRule 32 = .ok (.iinc 3 1, 3) := by decide +kernel
theorem dX1_levelOfRule_35 : decode cX1_levelOfRule 35 = .ok (.goto (-31), 3) := by decide +kernel
theorem dX1_levelOfRule_38 : decode cX1_levelOfRule 38 = .ok (.iload_n 2, 1) := by decide +kernel
theorem dX1_levelOfRule_39 : decode cX1_levelOfRule 39 = .ok (.ireturn, 1) := by decide +kernel
theorem dX1_firstOf_0 : decode cX1_firstOf 0 = .ok (.iload_n 1, 1) := by decide +kernel
theorem dX1_firstOf_1 : decode cX1_firstOf 1 = .ok (.invokestatic 74, 3) := by decide +kernel
theorem dX1_firstOf_4 : decode cX1_firstOf 4 = .ok (.ifCond .eq 9, 3) := by decide +kernel
theorem dX1_firstOf_7 : decode cX1_firstOf 7 = .ok (.iconst 1, 1) := by decide +kernel
theorem dX1_firstOf_8 : decode cX1_firstOf 8 = .ok (.iload_n 1, 1) := by decide +kernel
theorem dX1_firstOf_9 : decode cX1_firstOf 9 = .ok (.ishl, 1) := by decide +kernel
theorem dX1_firstOf_10 : decode cX1_firstOf 10 = .ok (.goto 11, 3) := by decide +kernel
theorem dX1_firstOf_13 : decode cX1_firstOf 13 = .ok (.aload_n 0, 1) := by decide +kernel
theorem dX1_firstOf_14 : decode cX1_firstOf 14 = .ok (.getfield 32, 3) := by decide +kernel
theorem dX1_firstOf_17 : decode cX1_firstOf 17 = .ok (.iload_n 1, 1) := by decide +kernel
theorem dX1_firstOf_18 : decode cX1_firstOf 18 = .ok (.invokevirtual 66, 3) := by decide +kernel
theorem dX1_firstOf_21 : decode cX1_firstOf 21 = .ok (.ireturn, 1) := by decide +kernel
theorem dX1_firstFrom_0 : decode cX1_firstFrom 0 = .ok (.iconst 1, 1) := by decide +kernel
theorem dX1_firstFrom_1 : decode cX1_firstFrom 1 = .ok (.istore_n 3, 1) := by decide +kernel
theorem dX1_firstFrom_2 : decode cX1_firstFrom 2 = .ok (.iload_n 2, 1) := by decide +kernel
theorem dX1_firstFrom_3 : decode cX1_firstFrom 3 = .ok (.istore 4, 2) := by decide +kernel
theorem dX1_firstFrom_5 : decode cX1_firstFrom 5 = .ok (.iload 4, 2) := by decide +kernel
theorem dX1_firstFrom_7 : decode cX1_firstFrom 7 = .ok (.iconst 4, 1) := by decide +kernel
theorem dX1_firstFrom_8 : decode cX1_firstFrom 8 = .ok (.if_icmp .gt 41, 3) := by decide +kernel
theorem dX1_firstFrom_11 : decode cX1_firstFrom 11 = .ok (.iload_n 3, 1) := by decide +kernel
theorem dX1_firstFrom_12 : decode cX1_firstFrom 12 = .ok (.iconst 1, 1) := by decide +kernel
theorem dX1_firstFrom_13 : decode cX1_firstFrom 13 = .ok (.iand, 1) := by decide +kernel
theorem dX1_firstFrom_14 : decode cX1_firstFrom 14 = .ok (.ifCond .eq 35, 3) := by decide +kernel
theorem dX1_firstFrom_17 : decode cX1_firstFrom 17 = .ok (.aload_n 0, 1) := by decide +kernel
theorem dX1_firstFrom_18 : decode cX1_firstFrom 18 = .ok (.iload_n 1, 1) := by decide +kernel
theorem dX1_firstFrom_19 : decode cX1_firstFrom 19 = .ok (.iload 4, 2) := by decide +kernel
theorem dX1_firstFrom_21 : decode cX1_firstFrom 21 = .ok (.invokevirtual 71, 3) := by decide +kernel
theorem dX1_firstFrom_24 : decode cX1_firstFrom 24 = .ok (.istore 5, 2) := by decide +kernel
theorem dX1_firstFrom_26 : decode cX1_firstFrom 26 = .ok (.iload 5, 2) := by decide +kernel
theorem dX1_firstFrom_28 : decode cX1_firstFrom 28 = .ok (.ifCond .eq 15, 3) := by decide +kernel
theorem dX1_firstFrom_31 : decode cX1_firstFrom 31 = .ok (.iload_n 3, 1) := by decide +kernel
theorem dX1_firstFrom_32 : decode cX1_firstFrom 32 = .ok (.bipush (-2), 2) := by decide +kernel
theorem dX1_firstFrom_34 : decode cX1_firstFrom 34 = .ok (.iand, 1) := by decide +kernel
theorem dX1_firstFrom_35 : decode cX1_firstFrom 35 = .ok (.aload_n 0, 1) := by decide +kernel
theorem dX1_firstFrom_36 : decode cX1_firstFrom 36 = .ok (.iload 5, 2) := by decide +kernel
theorem dX1_firstFrom_38 : decode cX1_firstFrom 38 = .ok (.invokevirtual 81, 3) := by decide +kernel
theorem dX1_firstFrom_41 : decode cX1_firstFrom 41 = .ok (.ior, 1) := by decide +kernel
theorem dX1_firstFrom_42 : decode cX1_firstFrom 42 = .ok (.istore_n 3, 1) := by decide +kernel
theorem dX1_firstFrom_43 : decode cX1_firstFrom 43 = .ok (.iinc 4 1, 3) := by decide +kernel
theorem dX1_firstFrom_46 : decode cX1_firstFrom 46 = .ok (.goto (-41), 3) := by decide +kernel
theorem dX1_firstFrom_49 : decode cX1_firstFrom 49 = .ok (.iload_n 3, 1) := by decide +kernel
theorem dX1_firstFrom_50 : decode cX1_firstFrom 50 = .ok (.ireturn, 1) := by decide +kernel
theorem dX1_updateFirsts_0 : decode cX1_updateFirsts 0 = .ok (.iconst 1, 1) := by decide +kernel
theorem dX1_updateFirsts_1 : decode cX1_updateFirsts 1 = .ok (.istore_n 1, 1) := by decide +kernel
theorem dX1_updateFirsts_2 : decode cX1_updateFirsts 2 = .ok (.iconst 0, 1) := by decide +kernel
theorem dX1_updateFirsts_3 : decode cX1_updateFirsts 3 = .ok (.istore_n 2, 1) := by decide +kernel
theorem dX1_updateFirsts_4 : decode cX1_updateFirsts 4 = .ok (.iload_n 2, 1) := by decide +kernel
theorem dX1_updateFirsts_5 : decode cX1_updateFirsts 5 = .ok (.ldc 84, 2) := by decide +kernel
theorem dX1_updateFirsts_7 : decode cX1_updateFirsts 7 = .ok (.if_icmp .ge 83, 3) := by decide +kernel
theorem dX1_updateFirsts_10 : decode cX1_updateFirsts 10 = .ok (.iload_n 1, 1) := by decide +kernel
theorem dX1_updateFirsts_11 : decode cX1_updateFirsts 11 = .ok (.ifCond .eq 79, 3) := by decide +kernel
theorem dX1_updateFirsts_14 : decode cX1_updateFirsts 14 = .ok (.iconst 0, 1) := by decide +kernel
theorem dX1_updateFirsts_15 : decode cX1_updateFirsts 15 = .ok (.istore_n 1, 1) := by decide +kernel
theorem dX1_updateFirsts_16 : decode cX1_updateFirsts 16 = .ok (.iconst 0, 1) := by decide +kernel
theorem dX1_updateFirsts_17 : decode cX1_updateFirsts 17 = .ok (.istore_n 3, 1) := by decide +kernel
theorem dX1_updateFirsts_18 : decode cX1_updateFirsts 18 = .ok (.iload_n 3, 1) := by decide +kernel
theorem dX1_updateFirsts_19 : decode cX1_updateFirsts 19 = .ok (.aload_n 0, 1) := by decide +kernel
theorem dX1_updateFirsts_20 : decode cX1_updateFirsts 20 = .ok (.getfield 44, 3) := by decide +kernel
theorem dX1_updateFirsts_23 : decode cX1_updateFirsts 23 = .ok (.if_icmp .ge 61, 3) := by decide +kernel
theorem dX1_updateFirsts_26 : decode cX1_updateFirsts 26 = .ok (.aload_n 0, 1) := by decide +kernel
theorem dX1_updateFirsts_27 : decode cX1_updateFirsts 27 = .ok (.iload_n 3, 1) := by decide +kernel
theorem dX1_updateFirsts_28 : decode cX1_updateFirsts 28 = .ok (.invokevirtual 85, 3) := by decide +kernel
theorem dX1_updateFirsts_31 : decode cX1_updateFirsts 31 = .ok (.istore 4, 2) := by decide +kernel
theorem dX1_updateFirsts_33 : decode cX1_updateFirsts 33 = .ok (.aload_n 0, 1) := by decide +kernel
theorem dX1_updateFirsts_34 : decode cX1_updateFirsts 34 = .ok (.getfield 32, 3) := by decide +kernel
theorem dX1_updateFirsts_37 : decode cX1_updateFirsts 37 = .ok (.iload 4, 2) := by decide +kernel
theorem dX1_updateFirsts_39 : decode cX1_updateFirsts 39 = .ok (.invokevirtual 66, 3) := by decide +kernel
theorem dX1_updateFirsts_42 : decode cX1_updateFirsts 42 = .ok (.aload_n 0, 1) := by decide +kernel
theorem dX1_updateFirsts_43 : decode cX1_updateFirsts 43 = .ok (.iload_n 3, 1) := by decide +kernel
theorem dX1_updateFirsts_44 : decode cX1_updateFirsts 44 = .ok (.iconst 1, 1) := by decide +kernel
theorem dX1_updateFirsts_45 : decode cX1_updateFirsts 45 = .ok (.invokevirtual 88, 3) := by decide +kernel
theorem dX1_updateFirsts_48 : decode cX1_updateFirsts 48 = .ok (.ior, 1) := by decide +kernel
theorem dX1_updateFirsts_49 : decode cX1_updateFirsts 49 = .ok (.istore 5, 2) := by decide +kernel
theorem dX1_updateFirsts_51 : decode cX1_updateFirsts 51 = .ok (.iload 5, 2) := by decide +kernel
theorem dX1_updateFirsts_53 : decode cX1_updateFirsts 53 = .ok (.aload_n 0, 1) := by decide +kernel
theorem dX1_updateFirsts_54 : decode cX1_updateFirsts 54 = .ok (.getfield 32, 3) := by decide +kernel
theorem dX1_updateFirsts_57 : decode cX1_updateFirsts 57 = .ok (.iload 4, 2) := by decide +kernel
theorem dX1_updateFirsts_59 : decode cX1_updateFirsts 59 = .ok (.invokevirtual 66, 3) := by decide +kernel
theorem dX1_updateFirsts_62 : decode cX1_updateFirsts 62 = .ok (.if_icmp .eq 16, 3) := by decide +kernel
theorem dX1_updateFirsts_65 : decode cX1_updateFirsts 65 = .ok (.aload_n 0, 1) := by decide +kernel
theorem dX1_updateFirsts_66 : decode cX1_updateFirsts 66 = .ok (.getfield 32, 3) := by decide +kernel
theorem dX1_updateFirsts_69 : decode cX1_updateFirsts 69 = .ok (.iload 4, 2) := by decide +kernel
theorem dX1_updateFirsts_71 : decode cX1_updateFirsts 71 = .ok (.iload 5, 2) := by decide +kernel
theorem dX1_updateFirsts_73 : decode cX1_updateFirsts 73 = .ok (.invokevirtual 69, 3) := by decide +kernel
theorem dX1_updateFirsts_76 : decode cX1_updateFirsts 76 = .ok (.iconst 1, 1) := by decide +kernel
theorem dX1_updateFirsts_77 : decode cX1_updateFirsts 77 = .ok (.istore_n 1, 1) := by decide +kernel
theorem dX1_updateFirsts_78 : decode cX1_updateFirsts 78 = .ok (.iinc 3 1, 3) := by decide +kernel
theorem dX1_updateFirsts_81 : decode cX1_updateFirsts 81 = .ok (.goto (-63), 3) := by decide +kernel
theorem dX1_updateFirsts_84 : decode cX1_updateFirsts 84 = .ok (.iinc 2 1, 3) := by decide +kernel
theorem dX1_updateFirsts_87 : decode cX1_updateFirsts 87 = .ok (.goto (-83), 3) := by decide +kernel
theorem dX1_updateFirsts_90 : decode cX1_updateFirsts 90 = .ok (.return_, 1) := by decide +kernel
theorem dX1_placeOf_0 : decode cX1_placeOf 0 = .ok (.iload_n 2, 1) := by decide +kernel
theorem dX1_placeOf_1 : decode cX1_placeOf 1 = .ok (.ifCond .ge 5, 3) := by decide +kernel
theorem dX1_placeOf_4 : decode cX1_placeOf 4 = .ok (.iconst (-1), 1) := by decide +kernel
theorem dX1_placeOf_5 : decode cX1_placeOf 5 = .ok (.ireturn, 1) := by decide +kernel
theorem dX1_placeOf_6 : decode cX1_placeOf 6 = .ok (.iload_n 2, 1) := by decide +kernel
theorem dX1_placeOf_7 : decode cX1_placeOf 7 = .ok (.bipush 10, 2) := by decide +kernel
theorem dX1_placeOf_9 : decode cX1_placeOf 9 = .ok (.idiv, 1) := by decide +kernel
theorem dX1_placeOf_10 : decode cX1_placeOf 10 = .ok (.istore_n 3, 1) := by decide +kernel
theorem dX1_placeOf_11 : decode cX1_placeOf 11 = .ok (.iload_n 2, 1) := by decide +kernel
theorem dX1_placeOf_12 : decode cX1_placeOf 12 = .ok (.bipush 10, 2) := by decide +kernel
theorem dX1_placeOf_14 : decode cX1_placeOf 14 = .ok (.irem, 1) := by decide +kernel
theorem dX1_placeOf_15 : decode cX1_placeOf 15 = .ok (.istore 4, 2) := by decide +kernel
theorem dX1_placeOf_17 : decode cX1_placeOf 17 = .ok (.iload_n 3, 1) := by decide +kernel
theorem dX1_placeOf_18 : decode cX1_placeOf 18 = .ok (.aload_n 0, 1) := by decide +kernel
theorem dX1_placeOf_19 : decode cX1_placeOf 19 = .ok (.iload_n 1, 1) := by decide +kernel
theorem dX1_placeOf_20 : decode cX1_placeOf 20 = .ok (.invokevirtual 91, 3) := by decide +kernel
theorem dX1_placeOf_23 : decode cX1_placeOf 23 = .ok (.if_icmp .gt 9, 3) := by decide +kernel
theorem dX1_placeOf_26 : decode cX1_placeOf 26 = .ok (.iload 4, 2) := by decide +kernel
theorem dX1_placeOf_28 : decode cX1_placeOf 28 = .ok (.iconst 3, 1) := by decide +kernel
theorem dX1_placeOf_29 : decode cX1_placeOf 29 = .ok (.if_icmp .lt 5, 3) := by decide +kernel
theorem dX1_placeOf_32 : decode cX1_placeOf 32 = .ok (.iconst (-1), 1) := by decide +kernel
theorem dX1_placeOf_33 : decode cX1_placeOf 33 = .ok (.ireturn, 1) := by decide +kernel
theorem dX1_placeOf_34 : decode cX1_placeOf 34 = .ok (.iload_n 3, 1) := by decide +kernel
theorem dX1_placeOf_35 : decode cX1_placeOf 35 = .ok (.ifCond .le 23, 3) := by decide +kernel
theorem dX1_placeOf_38 : decode cX1_placeOf 38 = .ok (.iload 4, 2) := by decide +kernel
theorem dX1_placeOf_40 : decode cX1_placeOf 40 = .ok (.iconst 2, 1) := by decide +kernel
theorem dX1_placeOf_41 : decode cX1_placeOf 41 = .ok (.if_icmp .ne 17, 3) := by decide +kernel
theorem dX1_placeOf_44 : decode cX1_placeOf 44 = .ok (.aload_n 0, 1) := by decide +kernel
theorem dX1_placeOf_45 : decode cX1_placeOf 45 = .ok (.iload_n 1, 1) := by decide +kernel
theorem dX1_placeOf_46 : decode cX1_placeOf 46 = .ok (.iload_n 3, 1) := by decide +kernel
theorem dX1_placeOf_47 : decode cX1_placeOf 47 = .ok (.invokevirtual 71, 3) := by decide +kernel
theorem dX1_placeOf_50 : decode cX1_placeOf 50 = .ok (.invokestatic 74, 3) := by decide +kernel
theorem dX1_placeOf_53 : decode cX1_placeOf 53 = .ok (.ifCond .eq 5, 3) := by decide +kernel
theorem dX1_placeOf_56 : decode cX1_placeOf 56 = .ok (.iconst (-1), 1) := by decide +kernel
theorem dX1_placeOf_57 : decode cX1_placeOf 57 = .ok (.ireturn, 1) := by decide +kernel
theorem dX1_placeOf_58 : decode cX1_placeOf 58 = .ok (.iload_n 3, 1) := by decide +kernel
theorem dX1_placeOf_59 : decode cX1_placeOf 59 = .ok (.iconst 3, 1) := by decide +kernel
theorem dX1_placeOf_60 : decode cX1_placeOf 60 = .ok (.imul, 1) := by decide +kernel
theorem dX1_placeOf_61 : decode cX1_placeOf 61 = .ok (.iload 4, 2) := by decide +kernel
theorem dX1_placeOf_63 : decode cX1_placeOf 63 = .ok (.iadd, 1) := by decide +kernel
theorem dX1_placeOf_64 : decode cX1_placeOf 64 = .ok (.ireturn, 1) := by decide +kernel
theorem dX1_isDefinable_0 : decode cX1_isDefinable 0 = .ok (.iload_n 2, 1) := by decide +kernel
theorem dX1_isDefinable_1 : decode cX1_isDefinable 1 = .ok (.bipush 10, 2) := by decide +kernel
theorem dX1_isDefinable_3 : decode cX1_isDefinable 3 = .ok (.if_icmp .ge 7, 3) := by decide +kernel
theorem dX1_isDefinable_6 : decode cX1_isDefinable 6 = .ok (.iconst 1, 1) := by decide +kernel
theorem dX1_isDefinable_7 : decode cX1_isDefinable 7 = .ok (.goto 4, 3) := by decide +kernel
theorem dX1_isDefinable_10 : decode cX1_isDefinable 10 = .ok (.iconst 0, 1) := by decide +kernel
theorem dX1_isDefinable_11 : decode cX1_isDefinable 11 = .ok (.istore_n 3, 1) := by decide +kernel
theorem dX1_isDefinable_12 : decode cX1_isDefinable 12 = .ok (.iload_n 2, 1) := by decide +kernel
theorem dX1_isDefinable_13 : decode cX1_isDefinable 13 = .ok (.bipush 10, 2) := by decide +kernel
theorem dX1_isDefinable_15 : decode cX1_isDefinable 15 = .ok (.irem, 1) := by decide +kernel
theorem dX1_isDefinable_16 : decode cX1_isDefinable 16 = .ok (.iconst 2, 1) := by decide +kernel
theorem dX1_isDefinable_17 : decode cX1_isDefinable 17 = .ok (.if_icmp .ne 7, 3) := by decide +kernel
theorem dX1_isDefinable_20 : decode cX1_isDefinable 20 = .ok (.iconst 1, 1) := by decide +kernel
theorem dX1_isDefinable_21 : decode cX1_isDefinable 21 = .ok (.goto 4, 3) := by decide +kernel
theorem dX1_isDefinable_24 : decode cX1_isDefinable 24 = .ok (.iconst 0, 1) := by decide +kernel
theorem dX1_isDefinable_25 : decode cX1_isDefinable 25 = .ok (.istore 4, 2) := by decide +kernel
theorem dX1_isDefinable_27 : decode cX1_isDefinable 27 = .ok (.aload_n 0, 1) := by decide +kernel
theorem dX1_isDefinable_28 : decode cX1_isDefinable 28 = .ok (.iload_n 1, 1) := by decide +kernel
theorem dX1_isDefinable_29 : decode cX1_isDefinable 29 = .ok (.iload_n 2, 1) := by decide +kernel
theorem dX1_isDefinable_30 : decode cX1_isDefinable 30 = .ok (.invokevirtual 94, 3) := by decide +kernel
theorem dX1_isDefinable_33 : decode cX1_isDefinable 33 = .ok (.ifCond .lt 13, 3) := by decide +kernel
theorem dX1_isDefinable_36 : decode cX1_isDefinable 36 = .ok (.iload_n 3, 1) := by decide +kernel
theorem dX1_isDefinable_37 : decode cX1_isDefinable 37 = .ok (.iload 4, 2) := by decide +kernel
theorem dX1_isDefinable_39 : decode cX1_isDefinable 39 = .ok (.if_icmp .eq 7, 3) := by decide +kernel
theorem dX1_isDefinable_42 : decode cX1_isDefinable 42 = .ok (.iconst 1, 1) := by decide +kernel
theorem dX1_isDefinable_43 : decode cX1_isDefinable 43 = .ok (.goto 4, 3) := by decide +kernel
theorem dX1_isDefinable_46 : decode cX1_isDefinable 46 = .ok (.iconst 0, 1) := by decide +kernel
theorem dX1_isDefinable_47 : decode cX1_isDefinable 47 = .ok (.ireturn, 1) := by decide +kernel
theorem dX1_addEquation_0 : decode cX1_addEquation 0 = .ok (.aload_n 0, 1) := by decide +kernel
theorem dX1_addEquation_1 : decode cX1_addEquation 1 = .ok (.iload_n 1, 1) := by decide +kernel
theorem dX1_addEquation_2 : decode cX1_addEquation 2 = .ok (.iload_n 2, 1) := by decide +kernel
theorem dX1_addEquation_3 : decode cX1_addEquation 3 = .ok (.invokevirtual 94, 3) := by decide +kernel
theorem dX1_addEquation_6 : decode cX1_addEquation 6 = .ok (.istore 6, 2) := by decide +kernel
theorem dX1_addEquation_8 : decode cX1_addEquation 8 = .ok (.aload_n 0, 1) := by decide +kernel
theorem dX1_addEquation_9 : decode cX1_addEquation 9 = .ok (.iload_n 1, 1) := by decide +kernel
theorem dX1_addEquation_10 : decode cX1_addEquation 10 = .ok (.iload 6, 2) := by decide +kernel
theorem dX1_addEquation_12 : decode cX1_addEquation 12 = .ok (.invokevirtual 97, 3) := by decide +kernel
theorem dX1_addEquation_15 : decode cX1_addEquation 15 = .ok (.ifCond .ge 7, 3) := by decide +kernel
theorem dX1_addEquation_18 : decode cX1_addEquation 18 = .ok (.iconst 1, 1) := by decide +kernel
theorem dX1_addEquation_19 : decode cX1_addEquation 19 = .ok (.goto 4, 3) := by decide +kernel
theorem dX1_addEquation_22 : decode cX1_addEquation 22 = .ok (.iconst 0, 1) := by decide +kernel
theorem dX1_addEquation_23 : decode cX1_addEquation 23 = .ok (.istore 7, 2) := by decide +kernel
theorem dX1_addEquation_25 : decode cX1_addEquation 25 = .ok (.iload 7, 2) := by decide +kernel
theorem dX1_addEquation_27 : decode cX1_addEquation 27 = .ok (.ifCond .eq 13, 3) := by decide +kernel
theorem dX1_addEquation_30 : decode cX1_addEquation 30 = .ok (.aload_n 0, 1) := by decide +kernel
theorem dX1_addEquation_31 : decode cX1_addEquation 31 = .ok (.dup, 1) := by decide +kernel
theorem dX1_addEquation_32 : decode cX1_addEquation 32 = .ok (.getfield 48, 3) := by decide +kernel
theorem dX1_addEquation_35 : decode cX1_addEquation 35 = .ok (.iconst 1, 1) := by decide +kernel
theorem dX1_addEquation_36 : decode cX1_addEquation 36 = .ok (.iadd, 1) := by decide +kernel
theorem dX1_addEquation_37 : decode cX1_addEquation 37 = .ok (.putfield 48, 3) := by decide +kernel
theorem dX1_addEquation_40 : decode cX1_addEquation 40 = .ok (.aload_n 0, 1) := by decide +kernel
theorem dX1_addEquation_41 : decode cX1_addEquation 41 = .ok (.getfield 35, 3) := by decide +kernel
theorem dX1_addEquation_44 : decode cX1_addEquation 44 = .ok (.iload_n 1, 1) := by decide +kernel
theorem dX1_addEquation_45 : decode cX1_addEquation 45 = .ok (.iload 6, 2) := by decide +kernel
theorem dX1_addEquation_47 : decode cX1_addEquation 47 = .ok (.iload_n 3, 1) := by decide +kernel
theorem dX1_addEquation_48 : decode cX1_addEquation 48 = .ok (.iconst 1, 1) := by decide +kernel
theorem dX1_addEquation_49 : decode cX1_addEquation 49 = .ok (.iadd, 1) := by decide +kernel
theorem dX1_addEquation_50 : decode cX1_addEquation 50 = .ok (.invokevirtual 55, 3) := by decide +kernel
theorem dX1_addEquation_53 : decode cX1_addEquation 53 = .ok (.aload_n 0, 1) := by decide +kernel
theorem dX1_addEquation_54 : decode cX1_addEquation 54 = .ok (.getfield 38, 3) := by decide +kernel
theorem dX1_addEquation_57 : decode cX1_addEquation 57 = .ok (.iload_n 1, 1) := by decide +kernel
theorem dX1_addEquation_58 : decode cX1_addEquation 58 = .ok (.iload 6, 2) := by decide +kernel
theorem dX1_addEquation_60 : decode cX1_addEquation 60 = .ok (.iload_n 3, 1) := by decide +kernel
theorem dX1_addEquation_61 : decode cX1_addEquation 61 = .ok (.ifCond .ne 8, 3) := by decide +kernel
theorem dX1_addEquation_64 : decode cX1_addEquation 64 = .ok (.iload 4, 2) := by decide +kernel
theorem dX1_addEquation_66 : decode cX1_addEquation 66 = .ok (.goto 10, 3) := by decide +kernel
theorem dX1_addEquation_69 : decode cX1_addEquation 69 = .ok (.aload_n 0, 1) := by decide +kernel
theorem dX1_addEquation_70 : decode cX1_addEquation 70 = .ok (.iload_n 1, 1) := by decide +kernel
theorem dX1_addEquation_71 : decode cX1_addEquation 71 = .ok (.iload 4, 2) := by decide +kernel
theorem dX1_addEquation_73 : decode cX1_addEquation 73 = .ok (.invokevirtual 94, 3) := by decide +kernel
theorem dX1_addEquation_76 : decode cX1_addEquation 76 = .ok (.invokevirtual 55, 3) := by decide +kernel
theorem dX1_addEquation_79 : decode cX1_addEquation 79 = .ok (.aload_n 0, 1) := by decide +kernel
theorem dX1_addEquation_80 : decode cX1_addEquation 80 = .ok (.getfield 41, 3) := by decide +kernel
theorem dX1_addEquation_83 : decode cX1_addEquation 83 = .ok (.iload_n 1, 1) := by decide +kernel
theorem dX1_addEquation_84 : decode cX1_addEquation 84 = .ok (.iload 6, 2) := by decide +kernel
theorem dX1_addEquation_86 : decode cX1_addEquation 86 = .ok (.iload_n 3, 1) := by decide +kernel
theorem dX1_addEquation_87 : decode cX1_addEquation 87 = .ok (.iconst 2, 1) := by decide +kernel
theorem dX1_addEquation_88 : decode cX1_addEquation 88 = .ok (.if_icmp .ge 7, 3) := by decide +kernel
theorem dX1_addEquation_91 : decode cX1_addEquation 91 = .ok (.iconst 0, 1) := by decide +kernel
theorem dX1_addEquation_92 : decode cX1_addEquation 92 = .ok (.goto 10, 3) := by decide +kernel
theorem dX1_addEquation_95 : decode cX1_addEquation 95 = .ok (.aload_n 0, 1) := by decide +kernel
theorem dX1_addEquation_96 : decode cX1_addEquation 96 = .ok (.iload_n 1, 1) := by decide +kernel
theorem dX1_addEquation_97 : decode cX1_addEquation 97 = .ok (.iload 5, 2) := by decide +kernel
theorem dX1_addEquation_99 : decode cX1_addEquation 99 = .ok (.invokevirtual 94, 3) := by decide +kernel
theorem dX1_addEquation_102 : decode cX1_addEquation 102 = .ok (.invokevirtual 55, 3) := by decide +kernel
theorem dX1_addEquation_105 : decode cX1_addEquation 105 = .ok (.iload 7, 2) := by decide +kernel
theorem dX1_addEquation_107 : decode cX1_addEquation 107 = .ok (.ireturn, 1) := by decide +kernel
theorem dX1_operationAt_0 : decode cX1_operationAt 0 = .ok (.aload_n 0, 1) := by decide +kernel
theorem dX1_operationAt_1 : decode cX1_operationAt 1 = .ok (.getfield 35, 3) := by decide +kernel
theorem dX1_operationAt_4 : decode cX1_operationAt 4 = .ok (.iload_n 1, 1) := by decide +kernel
theorem dX1_operationAt_5 : decode cX1_operationAt 5 = .ok (.iload_n 2, 1) := by decide +kernel
theorem dX1_operationAt_6 : decode cX1_operationAt 6 = .ok (.invokevirtual 62, 3) := by decide +kernel
theorem dX1_operationAt_9 : decode cX1_operationAt 9 = .ok (.iconst 1, 1) := by decide +kernel
theorem dX1_operationAt_10 : decode cX1_operationAt 10 = .ok (.isub, 1) := by decide +kernel
theorem dX1_operationAt_11 : decode cX1_operationAt 11 = .ok (.ireturn, 1) := by decide +kernel
theorem dX1_xAt_0 : decode cX1_xAt 0 = .ok (.aload_n 0, 1) := by decide +kernel
theorem dX1_xAt_1 : decode cX1_xAt 1 = .ok (.getfield 38, 3) := by decide +kernel
theorem dX1_xAt_4 : decode cX1_xAt 4 = .ok (.iload_n 1, 1) := by decide +kernel
theorem dX1_xAt_5 : decode cX1_xAt 5 = .ok (.iload_n 2, 1) := by decide +kernel
theorem dX1_xAt_6 : decode cX1_xAt 6 = .ok (.invokevirtual 62, 3) := by decide +kernel
theorem dX1_xAt_9 : decode cX1_xAt 9 = .ok (.ireturn, 1) := by decide +kernel
theorem dX1_yAt_0 : decode cX1_yAt 0 = .ok (.aload_n 0, 1) := by decide +kernel
theorem dX1_yAt_1 : decode cX1_yAt 1 = .ok (.getfield 41, 3) := by decide +kernel
theorem dX1_yAt_4 : decode cX1_yAt 4 = .ok (.iload_n 1, 1) := by decide +kernel
theorem dX1_yAt_5 : decode cX1_yAt 5 = .ok (.iload_n 2, 1) := by decide +kernel
theorem dX1_yAt_6 : decode cX1_yAt 6 = .ok (.invokevirtual 62, 3) := by decide +kernel
theorem dX1_yAt_9 : decode cX1_yAt 9 = .ok (.ireturn, 1) := by decide +kernel
theorem dX2_init_0 : decode cX2_init 0 = .ok (.aload_n 0, 1) := by decide +kernel
theorem dX2_init_1 : decode cX2_init 1 = .ok (.invokespecial 1, 3) := by decide +kernel
theorem dX2_init_4 : decode cX2_init 4 = .ok (.aload_n 0, 1) := by decide +kernel
theorem dX2_init_5 : decode cX2_init 5 = .ok (.iload_n 1, 1) := by decide +kernel
theorem dX2_init_6 : decode cX2_init 6 = .ok (.putfield 7, 3) := by decide +kernel
theorem dX2_init_9 : decode cX2_init 9 = .ok (.aload_n 0, 1) := by decide +kernel
theorem dX2_init_10 : decode cX2_init 10 = .ok (.iload_n 2, 1) := by decide +kernel
theorem dX2_init_11 : decode cX2_init 11 = .ok (.putfield 13, 3) := by decide +kernel
theorem dX2_init_14 : decode cX2_init 14 = .ok (.aload_n 0, 1) := by decide +kernel
theorem dX2_init_15 : decode cX2_init 15 = .ok (.iconst 0, 1) := by decide +kernel
theorem dX2_init_16 : decode cX2_init 16 = .ok (.iload_n 1, 1) := by decide +kernel
theorem dX2_init_17 : decode cX2_init 17 = .ok (.iload_n 2, 1) := by decide +kernel
theorem dX2_init_18 : decode cX2_init 18 = .ok (.imul, 1) := by decide +kernel
theorem dX2_init_19 : decode cX2_init 19 = .ok (.invokestatic 16, 3) := by decide +kernel
theorem dX2_init_22 : decode cX2_init 22 = .ok (.newarray .int, 2) := by decide +kernel
theorem dX2_init_24 : decode cX2_init 24 = .ok (.putfield 22, 3) := by decide +kernel
theorem dX2_init_27 : decode cX2_init 27 = .ok (.return_, 1) := by decide +kernel
theorem dX2_get_0 : decode cX2_get 0 = .ok (.aload_n 0, 1) := by decide +kernel
theorem dX2_get_1 : decode cX2_get 1 = .ok (.iload_n 1, 1) := by decide +kernel
theorem dX2_get_2 : decode cX2_get 2 = .ok (.iload_n 2, 1) := by decide +kernel
theorem dX2_get_3 : decode cX2_get 3 = .ok (.invokevirtual 26, 3) := by decide +kernel
theorem dX2_get_6 : decode cX2_get 6 = .ok (.istore_n 3, 1) := by decide +kernel
theorem dX2_get_7 : decode cX2_get 7 = .ok (.iload_n 3, 1) := by decide +kernel
theorem dX2_get_8 : decode cX2_get 8 = .ok (.ifCond .lt 21, 3) := by decide +kernel
theorem dX2_get_11 : decode cX2_get 11 = .ok (.iload_n 3, 1) := by decide +kernel
theorem dX2_get_12 : decode cX2_get 12 = .ok (.aload_n 0, 1) := by decide +kernel
theorem dX2_get_13 : decode cX2_get 13 = .ok (.getfield 22, 3) := by decide +kernel
theorem dX2_get_16 : decode cX2_get 16 = .ok (.arraylength, 1) := by decide +kernel
theorem dX2_get_17 : decode cX2_get 17 = .ok (.if_icmp .ge 12, 3) := by decide +kernel
theorem dX2_get_20 : decode cX2_get 20 = .ok (.aload_n 0, 1) := by decide +kernel
theorem dX2_get_21 : decode cX2_get 21 = .ok (.getfield 22, 3) := by decide +kernel
theorem dX2_get_24 : decode cX2_get 24 = .ok (.iload_n 3, 1) := by decide +kernel
theorem dX2_get_25 : decode cX2_get 25 = .ok (.iaload, 1) := by decide +kernel
theorem dX2_get_26 : decode cX2_get 26 = .ok (.goto 4, 3) := by decide +kernel
theorem dX2_get_29 : decode cX2_get 29 = .ok (.iconst 0, 1) := by decide +kernel
theorem dX2_get_30 : decode cX2_get 30 = .ok (.ireturn, 1) := by decide +kernel
theorem dX2_set_0 : decode cX2_set 0 = .ok (.aload_n 0, 1) := by decide +kernel
theorem dX2_set_1 : decode cX2_set 1 = .ok (.iload_n 1, 1) := by decide +kernel
theorem dX2_set_2 : decode cX2_set 2 = .ok (.iload_n 2, 1) := by decide +kernel
theorem dX2_set_3 : decode cX2_set 3 = .ok (.invokevirtual 26, 3) := by decide +kernel
theorem dX2_set_6 : decode cX2_set 6 = .ok (.istore 4, 2) := by decide +kernel
theorem dX2_set_8 : decode cX2_set 8 = .ok (.iload 4, 2) := by decide +kernel
theorem dX2_set_10 : decode cX2_set 10 = .ok (.ifCond .lt 21, 3) := by decide +kernel
theorem dX2_set_13 : decode cX2_set 13 = .ok (.iload 4, 2) := by decide +kernel
theorem dX2_set_15 : decode cX2_set 15 = .ok (.aload_n 0, 1) := by decide +kernel
theorem dX2_set_16 : decode cX2_set 16 = .ok (.getfield 22, 3) := by decide +kernel
theorem dX2_set_19 : decode cX2_set 19 = .ok (.arraylength, 1) := by decide +kernel
theorem dX2_set_20 : decode cX2_set 20 = .ok (.if_icmp .ge 11, 3) := by decide +kernel
theorem dX2_set_23 : decode cX2_set 23 = .ok (.aload_n 0, 1) := by decide +kernel
theorem dX2_set_24 : decode cX2_set 24 = .ok (.getfield 22, 3) := by decide +kernel
theorem dX2_set_27 : decode cX2_set 27 = .ok (.iload 4, 2) := by decide +kernel
theorem dX2_set_29 : decode cX2_set 29 = .ok (.iload_n 3, 1) := by decide +kernel
theorem dX2_set_30 : decode cX2_set 30 = .ok (.iastore, 1) := by decide +kernel
theorem dX2_set_31 : decode cX2_set 31 = .ok (.return_, 1) := by decide +kernel
theorem dX2_wipe_0 : decode cX2_wipe 0 = .ok (.iconst 0, 1) := by decide +kernel
theorem dX2_wipe_1 : decode cX2_wipe 1 = .ok (.istore_n 1, 1) := by decide +kernel
theorem dX2_wipe_2 : decode cX2_wipe 2 = .ok (.iload_n 1, 1) := by decide +kernel
theorem dX2_wipe_3 : decode cX2_wipe 3 = .ok (.aload_n 0, 1) := by decide +kernel
theorem dX2_wipe_4 : decode cX2_wipe 4 = .ok (.getfield 22, 3) := by decide +kernel
theorem dX2_wipe_7 : decode cX2_wipe 7 = .ok (.arraylength, 1) := by decide +kernel
theorem dX2_wipe_8 : decode cX2_wipe 8 = .ok (.if_icmp .ge 16, 3) := by decide +kernel
theorem dX2_wipe_11 : decode cX2_wipe 11 = .ok (.aload_n 0, 1) := by decide +kernel
theorem dX2_wipe_12 : decode cX2_wipe 12 = .ok (.getfield 22, 3) := by decide +kernel
theorem dX2_wipe_15 : decode cX2_wipe 15 = .ok (.iload_n 1, 1) := by decide +kernel
theorem dX2_wipe_16 : decode cX2_wipe 16 = .ok (.iconst 0, 1) := by decide +kernel
theorem dX2_wipe_17 : decode cX2_wipe 17 = .ok (.iastore, 1) := by decide +kernel
theorem dX2_wipe_18 : decode cX2_wipe 18 = .ok (.iinc 1 1, 3) := by decide +kernel
theorem dX2_wipe_21 : decode cX2_wipe 21 = .ok (.goto (-19), 3) := by decide +kernel
theorem dX2_wipe_24 : decode cX2_wipe 24 = .ok (.return_, 1) := by decide +kernel
theorem dX2_index_0 : decode cX2_index 0 = .ok (.iload_n 1, 1) := by decide +kernel
theorem dX2_index_1 : decode cX2_index 1 = .ok (.ifCond .lt 27, 3) := by decide +kernel
theorem dX2_index_4 : decode cX2_index 4 = .ok (.iload_n 1, 1) := by decide +kernel
theorem dX2_index_5 : decode cX2_index 5 = .ok (.aload_n 0, 1) := by decide +kernel
theorem dX2_index_6 : decode cX2_index 6 = .ok (.getfield 7, 3) := by decide +kernel
theorem dX2_index_9 : decode cX2_index 9 = .ok (.if_icmp .ge 19, 3) := by decide +kernel
theorem dX2_index_12 : decode cX2_index 12 = .ok (.iload_n 2, 1) := by decide +kernel
theorem dX2_index_13 : decode cX2_index 13 = .ok (.ifCond .lt 15, 3) := by decide +kernel
theorem dX2_index_16 : decode cX2_index 16 = .ok (.iload_n 2, 1) := by decide +kernel
theorem dX2_index_17 : decode cX2_index 17 = .ok (.aload_n 0, 1) := by decide +kernel
theorem dX2_index_18 : decode cX2_index 18 = .ok (.getfield 13, 3) := by decide +kernel
theorem dX2_index_21 : decode cX2_index 21 = .ok (.if_icmp .ge 7, 3) := by decide +kernel
theorem dX2_index_24 : decode cX2_index 24 = .ok (.iconst 1, 1) := by decide +kernel
theorem dX2_index_25 : decode cX2_index 25 = .ok (.goto 4, 3) := by decide +kernel
theorem dX2_index_28 : decode cX2_index 28 = .ok (.iconst 0, 1) := by decide +kernel
theorem dX2_index_29 : decode cX2_index 29 = .ok (.istore_n 3, 1) := by decide +kernel
theorem dX2_index_30 : decode cX2_index 30 = .ok (.iload_n 3, 1) := by decide +kernel
theorem dX2_index_31 : decode cX2_index 31 = .ok (.ifCond .eq 14, 3) := by decide +kernel
theorem dX2_index_34 : decode cX2_index 34 = .ok (.iload_n 1, 1) := by decide +kernel
theorem dX2_index_35 : decode cX2_index 35 = .ok (.aload_n 0, 1) := by decide +kernel
theorem dX2_index_36 : decode cX2_index 36 = .ok (.getfield 13, 3) := by decide +kernel
theorem dX2_index_39 : decode cX2_index 39 = .ok (.imul, 1) := by decide +kernel
theorem dX2_index_40 : decode cX2_index 40 = .ok (.iload_n 2, 1) := by decide +kernel
theorem dX2_index_41 : decode cX2_index 41 = .ok (.iadd, 1) := by decide +kernel
theorem dX2_index_42 : decode cX2_index 42 = .ok (.goto 4, 3) := by decide +kernel
theorem dX2_index_45 : decode cX2_index 45 = .ok (.iconst (-1), 1) := by decide +kernel
theorem dX2_index_46 : decode cX2_index 46 = .ok (.ireturn, 1) := by decide +kernel
theorem dX3_init_0 : decode cX3_init 0 = .ok (.aload_n 0, 1) := by decide +kernel
theorem dX3_init_1 : decode cX3_init 1 = .ok (.invokespecial 1, 3) := by decide +kernel
theorem dX3_init_4 : decode cX3_init 4 = .ok (.aload_n 0, 1) := by decide +kernel
theorem dX3_init_5 : decode cX3_init 5 = .ok (.iconst 0, 1) := by decide +kernel
theorem dX3_init_6 : decode cX3_init 6 = .ok (.iload_n 1, 1) := by decide +kernel
theorem dX3_init_7 : decode cX3_init 7 = .ok (.invokestatic 7, 3) := by decide +kernel
theorem dX3_init_10 : decode cX3_init 10 = .ok (.newarray .long, 2) := by decide +kernel
theorem dX3_init_12 : decode cX3_init 12 = .ok (.putfield 13, 3) := by decide +kernel
theorem dX3_init_15 : decode cX3_init 15 = .ok (.return_, 1) := by decide +kernel
theorem dX3_get_0 : decode cX3_get 0 = .ok (.iload_n 1, 1) := by decide +kernel
theorem dX3_get_1 : decode cX3_get 1 = .ok (.ifCond .lt 21, 3) := by decide +kernel
theorem dX3_get_4 : decode cX3_get 4 = .ok (.iload_n 1, 1) := by decide +kernel
theorem dX3_get_5 : decode cX3_get 5 = .ok (.aload_n 0, 1) := by decide +kernel
theorem dX3_get_6 : decode cX3_get 6 = .ok (.getfield 13, 3) := by decide +kernel
theorem dX3_get_9 : decode cX3_get 9 = .ok (.arraylength, 1) := by decide +kernel
theorem dX3_get_10 : decode cX3_get 10 = .ok (.if_icmp .ge 12, 3) := by decide +kernel
theorem dX3_get_13 : decode cX3_get 13 = .ok (.aload_n 0, 1) := by decide +kernel
theorem dX3_get_14 : decode cX3_get 14 = .ok (.getfield 13, 3) := by decide +kernel
theorem dX3_get_17 : decode cX3_get 17 = .ok (.iload_n 1, 1) := by decide +kernel
theorem dX3_get_18 : decode cX3_get 18 = .ok (.laload, 1) := by decide +kernel
theorem dX3_get_19 : decode cX3_get 19 = .ok (.goto 4, 3) := by decide +kernel
theorem dX3_get_22 : decode cX3_get 22 = .ok (.lconst 0, 1) := by decide +kernel
theorem dX3_get_23 : decode cX3_get 23 = .ok (.lreturn, 1) := by decide +kernel
theorem dX3_set_0 : decode cX3_set 0 = .ok (.iload_n 1, 1) := by decide +kernel
theorem dX3_set_1 : decode cX3_set 1 = .ok (.ifCond .lt 19, 3) := by decide +kernel
theorem dX3_set_4 : decode cX3_set 4 = .ok (.iload_n 1, 1) := by decide +kernel
theorem dX3_set_5 : decode cX3_set 5 = .ok (.aload_n 0, 1) := by decide +kernel
theorem dX3_set_6 : decode cX3_set 6 = .ok (.getfield 13, 3) := by decide +kernel
theorem dX3_set_9 : decode cX3_set 9 = .ok (.arraylength, 1) := by decide +kernel
theorem dX3_set_10 : decode cX3_set 10 = .ok (.if_icmp .ge 10, 3) := by decide +kernel
theorem dX3_set_13 : decode cX3_set 13 = .ok (.aload_n 0, 1) := by decide +kernel
theorem dX3_set_14 : decode cX3_set 14 = .ok (.getfield 13, 3) := by decide +kernel
theorem dX3_set_17 : decode cX3_set 17 = .ok (.iload_n 1, 1) := by decide +kernel
theorem dX3_set_18 : decode cX3_set 18 = .ok (.lload_n 2, 1) := by decide +kernel
theorem dX3_set_19 : decode cX3_set 19 = .ok (.lastore, 1) := by decide +kernel
theorem dX3_set_20 : decode cX3_set 20 = .ok (.return_, 1) := by decide +kernel
theorem dX3_wipe_0 : decode cX3_wipe 0 = .ok (.iconst 0, 1) := by decide +kernel
theorem dX3_wipe_1 : decode cX3_wipe 1 = .ok (.istore_n 1, 1) := by decide +kernel
theorem dX3_wipe_2 : decode cX3_wipe 2 = .ok (.iload_n 1, 1) := by decide +kernel
theorem dX3_wipe_3 : decode cX3_wipe 3 = .ok (.aload_n 0, 1) := by decide +kernel
theorem dX3_wipe_4 : decode cX3_wipe 4 = .ok (.getfield 13, 3) := by decide +kernel
theorem dX3_wipe_7 : decode cX3_wipe 7 = .ok (.arraylength, 1) := by decide +kernel
theorem dX3_wipe_8 : decode cX3_wipe 8 = .ok (.if_icmp .ge 16, 3) := by decide +kernel
theorem dX3_wipe_11 : decode cX3_wipe 11 = .ok (.aload_n 0, 1) := by decide +kernel
theorem dX3_wipe_12 : decode cX3_wipe 12 = .ok (.getfield 13, 3) := by decide +kernel
theorem dX3_wipe_15 : decode cX3_wipe 15 = .ok (.iload_n 1, 1) := by decide +kernel
theorem dX3_wipe_16 : decode cX3_wipe 16 = .ok (.lconst 0, 1) := by decide +kernel
theorem dX3_wipe_17 : decode cX3_wipe 17 = .ok (.lastore, 1) := by decide +kernel
theorem dX3_wipe_18 : decode cX3_wipe 18 = .ok (.iinc 1 1, 3) := by decide +kernel
theorem dX3_wipe_21 : decode cX3_wipe 21 = .ok (.goto (-19), 3) := by decide +kernel
theorem dX3_wipe_24 : decode cX3_wipe 24 = .ok (.return_, 1) := by decide +kernel
theorem dX4_init_0 : decode cX4_init 0 = .ok (.aload_n 0, 1) := by decide +kernel
theorem dX4_init_1 : decode cX4_init 1 = .ok (.invokespecial 3, 3) := by decide +kernel
theorem dX4_init_4 : decode cX4_init 4 = .ok (.aload_n 0, 1) := by decide +kernel
theorem dX4_init_5 : decode cX4_init 5 = .ok (.aload_n 1, 1) := by decide +kernel
theorem dX4_init_6 : decode cX4_init 6 = .ok (.putfield 9, 3) := by decide +kernel
theorem dX4_init_9 : decode cX4_init 9 = .ok (.aload_n 0, 1) := by decide +kernel
theorem dX4_init_10 : decode cX4_init 10 = .ok (.aload_n 2, 1) := by decide +kernel
theorem dX4_init_11 : decode cX4_init 11 = .ok (.putfield 15, 3) := by decide +kernel
theorem dX4_init_14 : decode cX4_init 14 = .ok (.aload_n 0, 1) := by decide +kernel
theorem dX4_init_15 : decode cX4_init 15 = .ok (.new 19, 3) := by decide +kernel
theorem dX4_init_18 : decode cX4_init 18 = .ok (.dup, 1) := by decide +kernel
theorem dX4_init_19 : decode cX4_init 19 = .ok (.bipush 40, 2) := by decide +kernel
theorem dX4_init_21 : decode cX4_init 21 = .ok (.invokespecial 21, 3) := by decide +kernel
theorem dX4_init_24 : decode cX4_init 24 = .ok (.putfield 24, 3) := by decide +kernel
theorem dX4_init_27 : decode cX4_init 27 = .ok (.aload_n 0, 1) := by decide +kernel
theorem dX4_init_28 : decode cX4_init 28 = .ok (.new 19, 3) := by decide +kernel
theorem dX4_init_31 : decode cX4_init 31 = .ok (.dup, 1) := by decide +kernel
theorem dX4_init_32 : decode cX4_init 32 = .ok (.bipush 40, 2) := by decide +kernel
theorem dX4_init_34 : decode cX4_init 34 = .ok (.invokespecial 21, 3) := by decide +kernel
theorem dX4_init_37 : decode cX4_init 37 = .ok (.putfield 28, 3) := by decide +kernel
theorem dX4_init_40 : decode cX4_init 40 = .ok (.aload_n 0, 1) := by decide +kernel
theorem dX4_init_41 : decode cX4_init 41 = .ok (.new 19, 3) := by decide +kernel
theorem dX4_init_44 : decode cX4_init 44 = .ok (.dup, 1) := by decide +kernel
theorem dX4_init_45 : decode cX4_init 45 = .ok (.sipush 151, 3) := by decide +kernel
theorem dX4_init_48 : decode cX4_init 48 = .ok (.invokespecial 21, 3) := by decide +kernel
theorem dX4_init_51 : decode cX4_init 51 = .ok (.putfield 31, 3) := by decide +kernel
theorem dX4_init_54 : decode cX4_init 54 = .ok (.aload_n 0, 1) := by decide +kernel
theorem dX4_init_55 : decode cX4_init 55 = .ok (.new 19, 3) := by decide +kernel
theorem dX4_init_58 : decode cX4_init 58 = .ok (.dup, 1) := by decide +kernel
theorem dX4_init_59 : decode cX4_init 59 = .ok (.sipush 151, 3) := by decide +kernel
theorem dX4_init_62 : decode cX4_init 62 = .ok (.invokespecial 21, 3) := by decide +kernel
theorem dX4_init_65 : decode cX4_init 65 = .ok (.putfield 34, 3) := by decide +kernel
theorem dX4_init_68 : decode cX4_init 68 = .ok (.aload_n 0, 1) := by decide +kernel
theorem dX4_init_69 : decode cX4_init 69 = .ok (.iconst 0, 1) := by decide +kernel
theorem dX4_init_70 : decode cX4_init 70 = .ok (.putfield 37, 3) := by decide +kernel
theorem dX4_init_73 : decode cX4_init 73 = .ok (.aload_n 0, 1) := by decide +kernel
theorem dX4_init_74 : decode cX4_init 74 = .ok (.iconst 0, 1) := by decide +kernel
theorem dX4_init_75 : decode cX4_init 75 = .ok (.putfield 41, 3) := by decide +kernel
theorem dX4_init_78 : decode cX4_init 78 = .ok (.return_, 1) := by decide +kernel
theorem dX4_size_0 : decode cX4_size 0 = .ok (.aload_n 0, 1) := by decide +kernel
theorem dX4_size_1 : decode cX4_size 1 = .ok (.getfield 37, 3) := by decide +kernel
theorem dX4_size_4 : decode cX4_size 4 = .ok (.ireturn, 1) := by decide +kernel
theorem dX4_addToken_0 : decode cX4_addToken 0 = .ok (.aload_n 0, 1) := by decide +kernel
theorem dX4_addToken_1 : decode cX4_addToken 1 = .ok (.getfield 24, 3) := by decide +kernel
theorem dX4_addToken_4 : decode cX4_addToken 4 = .ok (.aload_n 0, 1) := by decide +kernel
theorem dX4_addToken_5 : decode cX4_addToken 5 = .ok (.getfield 37, 3) := by decide +kernel
theorem dX4_addToken_8 : decode cX4_addToken 8 = .ok (.iload_n 1, 1) := by decide +kernel
theorem dX4_addToken_9 : decode cX4_addToken 9 = .ok (.invokevirtual 44, 3) := by decide +kernel
theorem dX4_addToken_12 : decode cX4_addToken 12 = .ok (.aload_n 0, 1) := by decide +kernel
theorem dX4_addToken_13 : decode cX4_addToken 13 = .ok (.getfield 28, 3) := by decide +kernel
theorem dX4_addToken_16 : decode cX4_addToken 16 = .ok (.aload_n 0, 1) := by decide +kernel
theorem dX4_addToken_17 : decode cX4_addToken 17 = .ok (.getfield 37, 3) := by decide +kernel
theorem dX4_addToken_20 : decode cX4_addToken 20 = .ok (.iload_n 2, 1) := by decide +kernel
theorem dX4_addToken_21 : decode cX4_addToken 21 = .ok (.invokevirtual 44, 3) := by decide +kernel
theorem dX4_addToken_24 : decode cX4_addToken 24 = .ok (.aload_n 0, 1) := by decide +kernel
theorem dX4_addToken_25 : decode cX4_addToken 25 = .ok (.dup, 1) := by decide +kernel
theorem dX4_addToken_26 : decode cX4_addToken 26 = .ok (.getfield 37, 3) := by decide +kernel
theorem dX4_addToken_29 : decode cX4_addToken 29 = .ok (.iconst 1, 1) := by decide +kernel
theorem dX4_addToken_30 : decode cX4_addToken 30 = .ok (.iadd, 1) := by decide +kernel
theorem dX4_addToken_31 : decode cX4_addToken 31 = .ok (.putfield 37, 3) := by decide +kernel
theorem dX4_addToken_34 : decode cX4_addToken 34 = .ok (.aload_n 0, 1) := by decide +kernel
theorem dX4_addToken_35 : decode cX4_addToken 35 = .ok (.getfield 37, 3) := by decide +kernel
theorem dX4_addToken_38 : decode cX4_addToken 38 = .ok (.ireturn, 1) := by decide +kernel
theorem dX4_dropTokens_0 : decode cX4_dropTokens 0 = .ok (.aload_n 0, 1) := by decide +kernel
theorem dX4_dropTokens_1 : decode cX4_dropTokens 1 = .ok (.iconst 0, 1) := by decide +kernel
theorem dX4_dropTokens_2 : decode cX4_dropTokens 2 = .ok (.putfield 37, 3) := by decide +kernel
theorem dX4_dropTokens_5 : decode cX4_dropTokens 5 = .ok (.return_, 1) := by decide +kernel
theorem dX4_run_0 : decode cX4_run 0 = .ok (.aload_n 1, 1) := by decide +kernel
theorem dX4_run_1 : decode cX4_run 1 = .ok (.invokevirtual 48, 3) := by decide +kernel
theorem dX4_run_4 : decode cX4_run 4 = .ok (.aload_n 0, 1) := by decide +kernel
theorem dX4_run_5 : decode cX4_run 5 = .ok (.iconst 0, 1) := by decide +kernel
theorem dX4_run_6 : decode cX4_run 6 = .ok (.putfield 41, 3) := by decide +kernel
theorem dX4_run_9 : decode cX4_run 9 = .ok (.aload_n 0, 1) := by decide +kernel
theorem dX4_run_10 : decode cX4_run 10 = .ok (.iconst 0, 1) := by decide +kernel
theorem dX4_run_11 : decode cX4_run 11 = .ok (.iconst (-1), 1) := by decide +kernel
theorem dX4_run_12 : decode cX4_run 12 = .ok (.invokevirtual 53, 3) := by decide +kernel
theorem dX4_run_15 : decode cX4_run 15 = .ok (.iconst 0, 1) := by decide +kernel
theorem dX4_run_16 : decode cX4_run 16 = .ok (.istore_n 2, 1) := by decide +kernel
theorem dX4_run_17 : decode cX4_run 17 = .ok (.iconst 0, 1) := by decide +kernel
theorem dX4_run_18 : decode cX4_run 18 = .ok (.istore_n 3, 1) := by decide +kernel
theorem dX4_run_19 : decode cX4_run 19 = .ok (.iload_n 3, 1) := by decide +kernel
theorem dX4_run_20 : decode cX4_run 20 = .ok (.sipush 150, 3) := by decide +kernel
theorem dX4_run_23 : decode cX4_run 23 = .ok (.if_icmp .gt 114, 3) := by decide +kernel
theorem dX4_run_26 : decode cX4_run 26 = .ok (.iload_n 2, 1) := by decide +kernel
theorem dX4_run_27 : decode cX4_run 27 = .ok (.aload_n 0, 1) := by decide +kernel
theorem dX4_run_28 : decode cX4_run 28 = .ok (.getfield 37, 3) := by decide +kernel
theorem dX4_run_31 : decode cX4_run 31 = .ok (.if_icmp .ge 14, 3) := by decide +kernel
theorem dX4_run_34 : decode cX4_run 34 = .ok (.aload_n 0, 1) := by decide +kernel
theorem dX4_run_35 : decode cX4_run 35 = .ok (.getfield 24, 3) := by decide +kernel
theorem dX4_run_38 : decode cX4_run 38 = .ok (.iload_n 2, 1) := by decide +kernel
theorem dX4_run_39 : decode cX4_run 39 = .ok (.invokevirtual 56, 3) := by decide +kernel
theorem dX4_run_42 : decode cX4_run 42 = .ok (.goto 4, 3) := by decide +kernel
theorem dX4_run_45 : decode cX4_run 45 = .ok (.iconst 0, 1) := by decide +kernel
theorem dX4_run_46 : decode cX4_run 46 = .ok (.istore 4, 2) := by decide +kernel
theorem dX4_run_48 : decode cX4_run 48 = .ok (.aload_n 0, 1) := by decide +kernel
theorem dX4_run_49 : decode cX4_run 49 = .ok (.getfield 15, 3) := by decide +kernel
theorem dX4_run_52 : decode cX4_run 52 = .ok (.aload_n 0, 1) := by decide +kernel
theorem dX4_run_53 : decode cX4_run 53 = .ok (.invokevirtual 60, 3) := by decide +kernel
theorem dX4_run_56 : decode cX4_run 56 = .ok (.iload 4, 2) := by decide +kernel
theorem dX4_run_58 : decode cX4_run 58 = .ok (.invokevirtual 64, 3) := by decide +kernel
theorem dX4_run_61 : decode cX4_run 61 = .ok (.istore 5, 2) := by decide +kernel
theorem dX4_run_63 : decode cX4_run 63 = .ok (.iload 5, 2) := by decide +kernel
theorem dX4_run_65 : decode cX4_run 65 = .ok (.sipush 1000, 3) := by decide +kernel
theorem dX4_run_68 : decode cX4_run 68 = .ok (.if_icmp .ne 5, 3) := by decide +kernel
theorem dX4_run_71 : decode cX4_run 71 = .ok (.iconst (-1), 1) := by decide +kernel
theorem dX4_run_72 : decode cX4_run 72 = .ok (.ireturn, 1) := by decide +kernel
theorem dX4_run_73 : decode cX4_run 73 = .ok (.iload 5, 2) := by decide +kernel
theorem dX4_run_75 : decode cX4_run 75 = .ok (.ifCond .ne 5, 3) := by decide +kernel
theorem dX4_run_78 : decode cX4_run 78 = .ok (.iload_n 2, 1) := by decide +kernel
theorem dX4_run_79 : decode cX4_run 79 = .ok (.ireturn, 1) := by decide +kernel
theorem dX4_run_80 : decode cX4_run 80 = .ok (.iload_n 3, 1) := by decide +kernel
theorem dX4_run_81 : decode cX4_run 81 = .ok (.sipush 150, 3) := by decide +kernel
theorem dX4_run_84 : decode cX4_run 84 = .ok (.if_icmp .ne 6, 3) := by decide +kernel
theorem dX4_run_87 : decode cX4_run 87 = .ok (.bipush (-2), 2) := by decide +kernel
theorem dX4_run_89 : decode cX4_run 89 = .ok (.ireturn, 1) := by decide +kernel
theorem dX4_run_90 : decode cX4_run 90 = .ok (.iload 5, 2) := by decide +kernel
theorem dX4_run_92 : decode cX4_run 92 = .ok (.ifCond .le 30, 3) := by decide +kernel
theorem dX4_run_95 : decode cX4_run 95 = .ok (.aload_n 0, 1) := by decide +kernel
theorem dX4_run_96 : decode cX4_run 96 = .ok (.iload 5, 2) := by decide +kernel
theorem dX4_run_98 : decode cX4_run 98 = .ok (.aload_n 1, 1) := by decide +kernel
theorem dX4_run_99 : decode cX4_run 99 = .ok (.iload 4, 2) := by decide +kernel
theorem dX4_run_101 : decode cX4_run 101 = .ok (.aload_n 0, 1) := by decide +kernel
theorem dX4_run_102 : decode cX4_run 102 = .ok (.getfield 28, 3) := by decide +kernel
theorem dX4_run_105 : decode cX4_run 105 = .ok (.iload_n 2, 1) := by decide +kernel
theorem dX4_run_106 : decode cX4_run 106 = .ok (.invokevirtual 56, 3) := by decide +kernel
theorem dX4_run_109 : decode cX4_run 109 = .ok (.iload_n 2, 1) := by decide +kernel
theorem dX4_run_110 : decode cX4_run 110 = .ok (.invokevirtual 70, 3) := by decide +kernel
theorem dX4_run_113 : decode cX4_run 113 = .ok (.invokevirtual 53, 3) := by decide +kernel
theorem dX4_run_116 : decode cX4_run 116 = .ok (.iinc 2 1, 3) := by decide +kernel
theorem dX4_run_119 : decode cX4_run 119 = .ok (.goto 12, 3) := by decide +kernel
theorem dX4_run_122 : decode cX4_run 122 = .ok (.aload_n 0, 1) := by decide +kernel
theorem dX4_run_123 : decode cX4_run 123 = .ok (.aload_n 1, 1) := by decide +kernel
theorem dX4_run_124 : decode cX4_run 124 = .ok (.iconst (-1), 1) := by decide +kernel
theorem dX4_run_125 : decode cX4_run 125 = .ok (.iload 5, 2) := by decide +kernel
theorem dX4_run_127 : decode cX4_run 127 = .ok (.isub, 1) := by decide +kernel
theorem dX4_run_128 : decode cX4_run 128 = .ok (.invokevirtual 74, 3) := by decide +kernel
theorem dX4_run_131 : decode cX4_run 131 = .ok (.iinc 3 1, 3) := by decide +kernel
theorem dX4_run_134 : decode cX4_run 134 = .ok (.goto (-115), 3) := by decide +kernel
theorem dX4_run_137 : decode cX4_run 137 = .ok (.bipush (-2), 2) := by decide +kernel
theorem dX4_run_139 : decode cX4_run 139 = .ok (.ireturn, 1) := by decide +kernel
theorem dX4_topState_0 : decode cX4_topState 0 = .ok (.aload_n 0, 1) := by decide +kernel
theorem dX4_topState_1 : decode cX4_topState 1 = .ok (.getfield 31, 3) := by decide +kernel
theorem dX4_topState_4 : decode cX4_topState 4 = .ok (.aload_n 0, 1) := by decide +kernel
theorem dX4_topState_5 : decode cX4_topState 5 = .ok (.getfield 41, 3) := by decide +kernel
theorem dX4_topState_8 : decode cX4_topState 8 = .ok (.iconst 1, 1) := by decide +kernel
theorem dX4_topState_9 : decode cX4_topState 9 = .ok (.isub, 1) := by decide +kernel
theorem dX4_topState_10 : decode cX4_topState 10 = .ok (.invokevirtual 56, 3) := by decide +kernel
theorem dX4_topState_13 : decode cX4_topState 13 = .ok (.ireturn, 1) := by decide +kernel
theorem dX4_push_0 : decode cX4_push 0 = .ok (.aload_n 0, 1) := by decide +kernel
theorem dX4_push_1 : decode cX4_push 1 = .ok (.getfield 31, 3) := by decide +kernel
theorem dX4_push_4 : decode cX4_push 4 = .ok (.aload_n 0, 1) := by decide +kernel
theorem dX4_push_5 : decode cX4_push 5 = .ok (.getfield 41, 3) := by decide +kernel
theorem dX4_push_8 : decode cX4_push 8 = .ok (.iload_n 1, 1) := by decide +kernel
theorem dX4_push_9 : decode cX4_push 9 = .ok (.invokevirtual 44, 3) := by decide +kernel
theorem dX4_push_12 : decode cX4_push 12 = .ok (.aload_n 0, 1) := by decide +kernel
theorem dX4_push_13 : decode cX4_push 13 = .ok (.getfield 34, 3) := by decide +kernel
theorem dX4_push_16 : decode cX4_push 16 = .ok (.aload_n 0, 1) := by decide +kernel
theorem dX4_push_17 : decode cX4_push 17 = .ok (.getfield 41, 3) := by decide +kernel
theorem dX4_push_20 : decode cX4_push 20 = .ok (.iload_n 2, 1) := by decide +kernel
theorem dX4_push_21 : decode cX4_push 21 = .ok (.invokevirtual 44, 3) := by decide +kernel
theorem dX4_push_24 : decode cX4_push 24 = .ok (.aload_n 0, 1) := by decide +kernel
theorem dX4_push_25 : decode cX4_push 25 = .ok (.dup, 1) := by decide +kernel
theorem dX4_push_26 : decode cX4_push 26 = .ok (.getfield 41, 3) := by decide +kernel
theorem dX4_push_29 : decode cX4_push 29 = .ok (.iconst 1, 1) := by decide +kernel
theorem dX4_push_30 : decode cX4_push 30 = .ok (.iadd, 1) := by decide +kernel
theorem dX4_push_31 : decode cX4_push 31 = .ok (.putfield 41, 3) := by decide +kernel
theorem dX4_push_34 : decode cX4_push 34 = .ok (.return_, 1) := by decide +kernel
theorem dX4_reduce_0 : decode cX4_reduce 0 = .ok (.aload_n 0, 1) := by decide +kernel
theorem dX4_reduce_1 : decode cX4_reduce 1 = .ok (.getfield 9, 3) := by decide +kernel
theorem dX4_reduce_4 : decode cX4_reduce 4 = .ok (.iload_n 2, 1) := by decide +kernel
theorem dX4_reduce_5 : decode cX4_reduce 5 = .ok (.invokevirtual 78, 3) := by decide +kernel
theorem dX4_reduce_8 : decode cX4_reduce 8 = .ok (.istore_n 3, 1) := by decide +kernel
theorem dX4_reduce_9 : decode cX4_reduce 9 = .ok (.aload_n 0, 1) := by decide +kernel
theorem dX4_reduce_10 : decode cX4_reduce 10 = .ok (.getfield 9, 3) := by decide +kernel
theorem dX4_reduce_13 : decode cX4_reduce 13 = .ok (.iload_n 2, 1) := by decide +kernel
theorem dX4_reduce_14 : decode cX4_reduce 14 = .ok (.invokevirtual 83, 3) := by decide +kernel
theorem dX4_reduce_17 : decode cX4_reduce 17 = .ok (.istore 4, 2) := by decide +kernel
theorem dX4_reduce_19 : decode cX4_reduce 19 = .ok (.aload_n 1, 1) := by decide +kernel
theorem dX4_reduce_20 : decode cX4_reduce 20 = .ok (.iload_n 3, 1) := by decide +kernel
theorem dX4_reduce_21 : decode cX4_reduce 21 = .ok (.iload_n 2, 1) := by decide +kernel
theorem dX4_reduce_22 : decode cX4_reduce 22 = .ok (.invokevirtual 86, 3) := by decide +kernel
theorem dX4_reduce_25 : decode cX4_reduce 25 = .ok (.istore 5, 2) := by decide +kernel
theorem dX4_reduce_27 : decode cX4_reduce 27 = .ok (.aload_n 0, 1) := by decide +kernel
theorem dX4_reduce_28 : decode cX4_reduce 28 = .ok (.dup, 1) := by decide +kernel
theorem dX4_reduce_29 : decode cX4_reduce 29 = .ok (.getfield 41, 3) := by decide +kernel
theorem dX4_reduce_32 : decode cX4_reduce 32 = .ok (.iload 4, 2) := by decide +kernel
theorem dX4_reduce_34 : decode cX4_reduce 34 = .ok (.isub, 1) := by decide +kernel
theorem dX4_reduce_35 : decode cX4_reduce 35 = .ok (.putfield 41, 3) := by decide +kernel
theorem dX4_reduce_38 : decode cX4_reduce 38 = .ok (.iconst 1, 1) := by decide +kernel
theorem dX4_reduce_39 : decode cX4_reduce 39 = .ok (.istore 6, 2) := by decide +kernel
theorem dX4_reduce_41 : decode cX4_reduce 41 = .ok (.iload 6, 2) := by decide +kernel
theorem dX4_reduce_43 : decode cX4_reduce 43 = .ok (.iload 4, 2) := by decide +kernel
theorem dX4_reduce_45 : decode cX4_reduce 45 = .ok (.if_icmp .gt 33, 3) := by decide +kernel
theorem dX4_reduce_48 : decode cX4_reduce 48 = .ok (.aload_n 1, 1) := by decide +kernel
theorem dX4_reduce_49 : decode cX4_reduce 49 = .ok (.iload 5, 2) := by decide +kernel
theorem dX4_reduce_51 : decode cX4_reduce 51 = .ok (.iload 6, 2) := by decide +kernel
theorem dX4_reduce_53 : decode cX4_reduce 53 = .ok (.aload_n 0, 1) := by decide +kernel
theorem dX4_reduce_54 : decode cX4_reduce 54 = .ok (.getfield 34, 3) := by decide +kernel
theorem dX4_reduce_57 : decode cX4_reduce 57 = .ok (.aload_n 0, 1) := by decide +kernel
theorem dX4_reduce_58 : decode cX4_reduce 58 = .ok (.getfield 41, 3) := by decide +kernel
theorem dX4_reduce_61 : decode cX4_reduce 61 = .ok (.iload 6, 2) := by decide +kernel
theorem dX4_reduce_63 : decode cX4_reduce 63 = .ok (.iadd, 1) := by decide +kernel
theorem dX4_reduce_64 : decode cX4_reduce 64 = .ok (.iconst 1, 1) := by decide +kernel
theorem dX4_reduce_65 : decode cX4_reduce 65 = .ok (.isub, 1) := by decide +kernel
theorem dX4_reduce_66 : decode cX4_reduce 66 = .ok (.invokevirtual 56, 3) := by decide +kernel
theorem dX4_reduce_69 : decode cX4_reduce 69 = .ok (.invokevirtual 89, 3) := by decide +kernel
theorem dX4_reduce_72 : decode cX4_reduce 72 = .ok (.iinc 6 1, 3) := by decide +kernel
theorem dX4_reduce_75 : decode cX4_reduce 75 = .ok (.goto (-34), 3) := by decide +kernel
theorem dX4_reduce_78 : decode cX4_reduce 78 = .ok (.aload_n 0, 1) := by decide +kernel
theorem dX4_reduce_79 : decode cX4_reduce 79 = .ok (.aload_n 0, 1) := by decide +kernel
theorem dX4_reduce_80 : decode cX4_reduce 80 = .ok (.getfield 15, 3) := by decide +kernel
theorem dX4_reduce_83 : decode cX4_reduce 83 = .ok (.aload_n 0, 1) := by decide +kernel
theorem dX4_reduce_84 : decode cX4_reduce 84 = .ok (.invokevirtual 60, 3) := by decide +kernel
theorem dX4_reduce_87 : decode cX4_reduce 87 = .ok (.iload_n 3, 1) := by decide +kernel
theorem dX4_reduce_88 : decode cX4_reduce 88 = .ok (.invokevirtual 93, 3) := by decide +kernel
theorem dX4_reduce_91 : decode cX4_reduce 91 = .ok (.iload 5, 2) := by decide +kernel
theorem dX4_reduce_93 : decode cX4_reduce 93 = .ok (.invokevirtual 53, 3) := by decide +kernel
theorem dX4_reduce_96 : decode cX4_reduce 96 = .ok (.return_, 1) := by decide +kernel
theorem dX5_init_0 : decode cX5_init 0 = .ok (.aload_n 0, 1) := by decide +kernel
theorem dX5_init_1 : decode cX5_init 1 = .ok (.invokespecial 3, 3) := by decide +kernel
theorem dX5_init_4 : decode cX5_init 4 = .ok (.aload_n 0, 1) := by decide +kernel
theorem dX5_init_5 : decode cX5_init 5 = .ok (.aload_n 1, 1) := by decide +kernel
theorem dX5_init_6 : decode cX5_init 6 = .ok (.putfield 9, 3) := by decide +kernel
theorem dX5_init_9 : decode cX5_init 9 = .ok (.aload_n 0, 1) := by decide +kernel
theorem dX5_init_10 : decode cX5_init 10 = .ok (.new 15, 3) := by decide +kernel
theorem dX5_init_13 : decode cX5_init 13 = .ok (.dup, 1) := by decide +kernel
theorem dX5_init_14 : decode cX5_init 14 = .ok (.bipush 14, 2) := by decide +kernel
theorem dX5_init_16 : decode cX5_init 16 = .ok (.invokespecial 17, 3) := by decide +kernel
theorem dX5_init_19 : decode cX5_init 19 = .ok (.putfield 20, 3) := by decide +kernel
theorem dX5_init_22 : decode cX5_init 22 = .ok (.aload_n 0, 1) := by decide +kernel
theorem dX5_init_23 : decode cX5_init 23 = .ok (.new 15, 3) := by decide +kernel
theorem dX5_init_26 : decode cX5_init 26 = .ok (.dup, 1) := by decide +kernel
theorem dX5_init_27 : decode cX5_init 27 = .ok (.bipush 15, 2) := by decide +kernel
theorem dX5_init_29 : decode cX5_init 29 = .ok (.invokespecial 17, 3) := by decide +kernel
theorem dX5_init_32 : decode cX5_init 32 = .ok (.putfield 24, 3) := by decide +kernel
theorem dX5_init_35 : decode cX5_init 35 = .ok (.aload_n 0, 1) := by decide +kernel
theorem dX5_init_36 : decode cX5_init 36 = .ok (.iconst 0, 1) := by decide +kernel
theorem dX5_init_37 : decode cX5_init 37 = .ok (.putfield 27, 3) := by decide +kernel
theorem dX5_init_40 : decode cX5_init 40 = .ok (.return_, 1) := by decide +kernel
theorem dX5_areFound_0 : decode cX5_areFound 0 = .ok (.aload_n 0, 1) := by decide +kernel
theorem dX5_areFound_1 : decode cX5_areFound 1 = .ok (.getfield 27, 3) := by decide +kernel
theorem dX5_areFound_4 : decode cX5_areFound 4 = .ok (.ireturn, 1) := by decide +kernel
theorem dX5_search_0 : decode cX5_search 0 = .ok (.aload_n 0, 1) := by decide +kernel
theorem dX5_search_1 : decode cX5_search 1 = .ok (.iconst 0, 1) := by decide +kernel
theorem dX5_search_2 : decode cX5_search 2 = .ok (.putfield 27, 3) := by decide +kernel
theorem dX5_search_5 : decode cX5_search 5 = .ok (.aload_n 0, 1) := by decide +kernel
theorem dX5_search_6 : decode cX5_search 6 = .ok (.getfield 20, 3) := by decide +kernel
theorem dX5_search_9 : decode cX5_search 9 = .ok (.invokevirtual 31, 3) := by decide +kernel
theorem dX5_search_12 : decode cX5_search 12 = .ok (.iconst 1, 1) := by decide +kernel
theorem dX5_search_13 : decode cX5_search 13 = .ok (.istore_n 1, 1) := by decide +kernel
theorem dX5_search_14 : decode cX5_search 14 = .ok (.iload_n 1, 1) := by decide +kernel
theorem dX5_search_15 : decode cX5_search 15 = .ok (.bipush 6, 2) := by decide +kernel
theorem dX5_search_17 : decode cX5_search 17 = .ok (.if_icmp .gt 18, 3) := by decide +kernel
theorem dX5_search_20 : decode cX5_search 20 = .ok (.aload_n 0, 1) := by decide +kernel
theorem dX5_search_21 : decode cX5_search 21 = .ok (.getfield 20, 3) := by decide +kernel
theorem dX5_search_24 : decode cX5_search 24 = .ok (.iload_n 1, 1) := by decide +kernel
theorem dX5_search_25 : decode cX5_search 25 = .ok (.iconst 4, 1) := by decide +kernel
theorem dX5_search_26 : decode cX5_search 26 = .ok (.invokevirtual 34, 3) := by decide +kernel
theorem dX5_search_29 : decode cX5_search 29 = .ok (.iinc 1 1, 3) := by decide +kernel
theorem dX5_search_32 : decode cX5_search 32 = .ok (.goto (-18), 3) := by decide +kernel
theorem dX5_search_35 : decode cX5_search 35 = .ok (.iconst 1, 1) := by decide +kernel
theorem dX5_search_36 : decode cX5_search 36 = .ok (.istore_n 1, 1) := by decide +kernel
theorem dX5_search_37 : decode cX5_search 37 = .ok (.iconst 0, 1) := by decide +kernel
theorem dX5_search_38 : decode cX5_search 38 = .ok (.istore_n 2, 1) := by decide +kernel
theorem dX5_search_39 : decode cX5_search 39 = .ok (.iload_n 2, 1) := by decide +kernel
theorem dX5_search_40 : decode cX5_search 40 = .ok (.ldc 38, 2) := by decide +kernel
theorem dX5_search_42 : decode cX5_search 42 = .ok (.if_icmp .ge 52, 3) := by decide +kernel
theorem dX5_search_45 : decode cX5_search 45 = .ok (.iload_n 1, 1) := by decide +kernel
theorem dX5_search_46 : decode cX5_search 46 = .ok (.ifCond .eq 48, 3) := by decide +kernel
theorem dX5_search_49 : decode cX5_search 49 = .ok (.iconst 0, 1) := by decide +kernel
theorem dX5_search_50 : decode cX5_search 50 = .ok (.istore_n 1, 1) := by decide +kernel
theorem dX5_search_51 : decode cX5_search 51 = .ok (.iconst 0, 1) := by decide +kernel
theorem dX5_search_52 : decode cX5_search 52 = .ok (.istore_n 3, 1) := by decide +kernel
theorem dX5_search_53 : decode cX5_search 53 = .ok (.iload_n 3, 1) := by decide +kernel
theorem dX5_search_54 : decode cX5_search 54 = .ok (.aload_n 0, 1) := by decide +kernel
theorem dX5_search_55 : decode cX5_search 55 = .ok (.getfield 9, 3) := by decide +kernel
theorem dX5_search_58 : decode cX5_search 58 = .ok (.invokevirtual 39, 3) := by decide +kernel
theorem dX5_search_61 : decode cX5_search 61 = .ok (.if_icmp .ge 27, 3) := by decide +kernel
theorem dX5_search_64 : decode cX5_search 64 = .ok (.aload_n 0, 1) := by decide +kernel
theorem dX5_search_65 : decode cX5_search 65 = .ok (.iload_n 3, 1) := by decide +kernel
theorem dX5_search_66 : decode cX5_search 66 = .ok (.invokevirtual 45, 3) := by decide +kernel
theorem dX5_search_69 : decode cX5_search 69 = .ok (.ifCond .eq 13, 3) := by decide +kernel
theorem dX5_search_72 : decode cX5_search 72 = .ok (.aload_n 0, 1) := by decide +kernel
theorem dX5_search_73 : decode cX5_search 73 = .ok (.iload_n 3, 1) := by decide +kernel
theorem dX5_search_74 : decode cX5_search 74 = .ok (.invokevirtual 49, 3) := by decide +kernel
theorem dX5_search_77 : decode cX5_search 77 = .ok (.ifCond .eq 5, 3) := by decide +kernel
theorem dX5_search_80 : decode cX5_search 80 = .ok (.iconst 1, 1) := by decide +kernel
theorem dX5_search_81 : decode cX5_search 81 = .ok (.istore_n 1, 1) := by decide +kernel
theorem dX5_search_82 : decode cX5_search 82 = .ok (.iinc 3 1, 3) := by decide +kernel
theorem dX5_search_85 : decode cX5_search 85 = .ok (.goto (-32), 3) := by decide +kernel
theorem dX5_search_88 : decode cX5_search 88 = .ok (.iinc 2 1, 3) := by decide +kernel
theorem dX5_search_91 : decode cX5_search 91 = .ok (.goto (-52), 3) := by decide +kernel
theorem dX5_search_94 : decode cX5_search 94 = .ok (.return_, 1) := by decide +kernel
theorem dX5_makesTrees_0 : decode cX5_makesTrees 0 = .ok (.iconst 1, 1) := by decide +kernel
theorem dX5_makesTrees_1 : decode cX5_makesTrees 1 = .ok (.istore_n 2, 1) := by decide +kernel
theorem dX5_makesTrees_2 : decode cX5_makesTrees 2 = .ok (.iload_n 2, 1) := by decide +kernel
theorem dX5_makesTrees_3 : decode cX5_makesTrees 3 = .ok (.aload_n 0, 1) := by decide +kernel
theorem dX5_makesTrees_4 : decode cX5_makesTrees 4 = .ok (.getfield 9, 3) := by decide +kernel
theorem dX5_makesTrees_7 : decode cX5_makesTrees 7 = .ok (.iload_n 1, 1) := by decide +kernel
theorem dX5_makesTrees_8 : decode cX5_makesTrees 8 = .ok (.invokevirtual 52, 3) := by decide +kernel
theorem dX5_makesTrees_11 : decode cX5_makesTrees 11 = .ok (.if_icmp .gt 30, 3) := by decide +kernel
theorem dX5_makesTrees_14 : decode cX5_makesTrees 14 = .ok (.aload_n 0, 1) := by decide +kernel
theorem dX5_makesTrees_15 : decode cX5_makesTrees 15 = .ok (.getfield 20, 3) := by decide +kernel
theorem dX5_makesTrees_18 : decode cX5_makesTrees 18 = .ok (.aload_n 0, 1) := by decide +kernel
theorem dX5_makesTrees_19 : decode cX5_makesTrees 19 = .ok (.getfield 9, 3) := by decide +kernel
theorem dX5_makesTrees_22 : decode cX5_makesTrees 22 = .ok (.iload_n 1, 1) := by decide +kernel
theorem dX5_makesTrees_23 : decode cX5_makesTrees 23 = .ok (.iload_n 2, 1) := by decide +kernel
theorem dX5_makesTrees_24 : decode cX5_makesTrees 24 = .ok (.invokevirtual 56, 3) := by decide +kernel
theorem dX5_makesTrees_27 : decode cX5_makesTrees 27 = .ok (.invokevirtual 60, 3) := by decide +kernel
theorem dX5_makesTrees_30 : decode cX5_makesTrees 30 = .ok (.ifCond .ne 5, 3) := by decide +kernel
theorem dX5_makesTrees_33 : decode cX5_makesTrees 33 = .ok (.iconst 0, 1) := by decide +kernel
theorem dX5_makesTrees_34 : decode cX5_makesTrees 34 = .ok (.ireturn, 1) := by decide +kernel
theorem dX5_makesTrees_35 : decode cX5_makesTrees 35 = .ok (.iinc 2 1, 3) := by decide +kernel
theorem dX5_makesTrees_38 : decode cX5_makesTrees 38 = .ok (.goto (-36), 3) := by decide +kernel
theorem dX5_makesTrees_41 : decode cX5_makesTrees 41 = .ok (.iconst 1, 1) := by decide +kernel
theorem dX5_makesTrees_42 : decode cX5_makesTrees 42 = .ok (.ireturn, 1) := by decide +kernel
theorem dX5_growBy_0 : decode cX5_growBy 0 = .ok (.aload_n 0, 1) := by decide +kernel
theorem dX5_growBy_1 : decode cX5_growBy 1 = .ok (.iload_n 1, 1) := by decide +kernel
theorem dX5_growBy_2 : decode cX5_growBy 2 = .ok (.invokevirtual 63, 3) := by decide +kernel
theorem dX5_growBy_5 : decode cX5_growBy 5 = .ok (.aload_n 0, 1) := by decide +kernel
theorem dX5_growBy_6 : decode cX5_growBy 6 = .ok (.iload_n 1, 1) := by decide +kernel
theorem dX5_growBy_7 : decode cX5_growBy 7 = .ok (.invokevirtual 66, 3) := by decide +kernel
theorem dX5_growBy_10 : decode cX5_growBy 10 = .ok (.iconst 0, 1) := by decide +kernel
theorem dX5_growBy_11 : decode cX5_growBy 11 = .ok (.istore_n 2, 1) := by decide +kernel
theorem dX5_growBy_12 : decode cX5_growBy 12 = .ok (.iload_n 2, 1) := by decide +kernel
theorem dX5_growBy_13 : decode cX5_growBy 13 = .ok (.bipush 15, 2) := by decide +kernel
theorem dX5_growBy_15 : decode cX5_growBy 15 = .ok (.if_icmp .ge 14, 3) := by decide +kernel
theorem dX5_growBy_18 : decode cX5_growBy 18 = .ok (.aload_n 0, 1) := by decide +kernel
theorem dX5_growBy_19 : decode cX5_growBy 19 = .ok (.iload_n 2, 1) := by decide +kernel
theorem dX5_growBy_20 : decode cX5_growBy 20 = .ok (.invokevirtual 69, 3) := by decide +kernel
theorem dX5_growBy_23 : decode cX5_growBy 23 = .ok (.iinc 2 1, 3) := by decide +kernel
theorem dX5_growBy_26 : decode cX5_growBy 26 = .ok (.goto (-14), 3) := by decide +kernel
theorem dX5_growBy_29 : decode cX5_growBy 29 = .ok (.iconst 0, 1) := by decide +kernel
theorem dX5_growBy_30 : decode cX5_growBy 30 = .ok (.istore_n 2, 1) := by decide +kernel
theorem dX5_growBy_31 : decode cX5_growBy 31 = .ok (.iload_n 2, 1) := by decide +kernel
theorem dX5_growBy_32 : decode cX5_growBy 32 = .ok (.bipush 15, 2) := by decide +kernel
theorem dX5_growBy_34 : decode cX5_growBy 34 = .ok (.if_icmp .ge 23, 3) := by decide +kernel
theorem dX5_growBy_37 : decode cX5_growBy 37 = .ok (.aload_n 0, 1) := by decide +kernel
theorem dX5_growBy_38 : decode cX5_growBy 38 = .ok (.iload_n 2, 1) := by decide +kernel
theorem dX5_growBy_39 : decode cX5_growBy 39 = .ok (.iload_n 2, 1) := by decide +kernel
theorem dX5_growBy_40 : decode cX5_growBy 40 = .ok (.invokevirtual 72, 3) := by decide +kernel
theorem dX5_growBy_43 : decode cX5_growBy 43 = .ok (.ifCond .eq 8, 3) := by decide +kernel
theorem dX5_growBy_46 : decode cX5_growBy 46 = .ok (.aload_n 0, 1) := by decide +kernel
theorem dX5_growBy_47 : decode cX5_growBy 47 = .ok (.iconst 1, 1) := by decide +kernel
theorem dX5_growBy_48 : decode cX5_growBy 48 = .ok (.putfield 27, 3) := by decide +kernel
theorem dX5_growBy_51 : decode cX5_growBy 51 = .ok (.iinc 2 1, 3) := by decide +kernel
theorem dX5_growBy_54 : decode cX5_growBy 54 = .ok (.goto (-23), 3) := by decide +kernel
theorem dX5_growBy_57 : decode cX5_growBy 57 = .ok (.aload_n 0, 1) := by decide +kernel
theorem dX5_growBy_58 : decode cX5_growBy 58 = .ok (.getfield 9, 3) := by decide +kernel
theorem dX5_growBy_61 : decode cX5_growBy 61 = .ok (.iload_n 1, 1) := by decide +kernel
theorem dX5_growBy_62 : decode cX5_growBy 62 = .ok (.invokevirtual 76, 3) := by decide +kernel
theorem dX5_growBy_65 : decode cX5_growBy 65 = .ok (.istore_n 2, 1) := by decide +kernel
theorem dX5_growBy_66 : decode cX5_growBy 66 = .ok (.aload_n 0, 1) := by decide +kernel
theorem dX5_growBy_67 : decode cX5_growBy 67 = .ok (.getfield 20, 3) := by decide +kernel
theorem dX5_growBy_70 : decode cX5_growBy 70 = .ok (.iload_n 2, 1) := by decide +kernel
theorem dX5_growBy_71 : decode cX5_growBy 71 = .ok (.invokevirtual 60, 3) := by decide +kernel
theorem dX5_growBy_74 : decode cX5_growBy 74 = .ok (.istore_n 3, 1) := by decide +kernel
theorem dX5_growBy_75 : decode cX5_growBy 75 = .ok (.iload_n 3, 1) := by decide +kernel
theorem dX5_growBy_76 : decode cX5_growBy 76 = .ok (.iconst 4, 1) := by decide +kernel
theorem dX5_growBy_77 : decode cX5_growBy 77 = .ok (.ior, 1) := by decide +kernel
theorem dX5_growBy_78 : decode cX5_growBy 78 = .ok (.aload_n 0, 1) := by decide +kernel
theorem dX5_growBy_79 : decode cX5_growBy 79 = .ok (.iconst 0, 1) := by decide +kernel
theorem dX5_growBy_80 : decode cX5_growBy 80 = .ok (.iconst 2, 1) := by decide +kernel
theorem dX5_growBy_81 : decode cX5_growBy 81 = .ok (.invokevirtual 72, 3) := by decide +kernel
theorem dX5_growBy_84 : decode cX5_growBy 84 = .ok (.ifCond .eq 7, 3) := by decide +kernel
theorem dX5_growBy_87 : decode cX5_growBy 87 = .ok (.iconst 1, 1) := by decide +kernel
theorem dX5_growBy_88 : decode cX5_growBy 88 = .ok (.goto 4, 3) := by decide +kernel
theorem dX5_growBy_91 : decode cX5_growBy 91 = .ok (.iconst 0, 1) := by decide +kernel
theorem dX5_growBy_92 : decode cX5_growBy 92 = .ok (.ior, 1) := by decide +kernel
theorem dX5_growBy_93 : decode cX5_growBy 93 = .ok (.aload_n 0, 1) := by decide +kernel
theorem dX5_growBy_94 : decode cX5_growBy 94 = .ok (.iconst 1, 1) := by decide +kernel
theorem dX5_growBy_95 : decode cX5_growBy 95 = .ok (.iconst 2, 1) := by decide +kernel
theorem dX5_growBy_96 : decode cX5_growBy 96 = .ok (.invokevirtual 72, 3) := by decide +kernel
theorem dX5_growBy_99 : decode cX5_growBy 99 = .ok (.ifCond .eq 7, 3) := by decide +kernel
theorem dX5_growBy_102 : decode cX5_growBy 102 = .ok (.iconst 2, 1) := by decide +kernel
theorem dX5_growBy_103 : decode cX5_growBy 103 = .ok (.goto 4, 3) := by decide +kernel
theorem dX5_growBy_106 : decode cX5_growBy 106 = .ok (.iconst 0, 1) := by decide +kernel
theorem dX5_growBy_107 : decode cX5_growBy 107 = .ok (.ior, 1) := by decide +kernel
theorem dX5_growBy_108 : decode cX5_growBy 108 = .ok (.istore 4, 2) := by decide +kernel
theorem dX5_growBy_110 : decode cX5_growBy 110 = .ok (.aload_n 0, 1) := by decide +kernel
theorem dX5_growBy_111 : decode cX5_growBy 111 = .ok (.getfield 20, 3) := by decide +kernel
theorem dX5_growBy_114 : decode cX5_growBy 114 = .ok (.iload_n 2, 1) := by decide +kernel
theorem dX5_growBy_115 : decode cX5_growBy 115 = .ok (.iload 4, 2) := by decide +kernel
theorem dX5_growBy_117 : decode cX5_growBy 117 = .ok (.invokevirtual 34, 3) := by decide +kernel
theorem dX5_growBy_120 : decode cX5_growBy 120 = .ok (.iload 4, 2) := by decide +kernel
theorem dX5_growBy_122 : decode cX5_growBy 122 = .ok (.iload_n 3, 1) := by decide +kernel
theorem dX5_growBy_123 : decode cX5_growBy 123 = .ok (.if_icmp .eq 7, 3) := by decide +kernel
theorem dX5_growBy_126 : decode cX5_growBy 126 = .ok (.iconst 1, 1) := by decide +kernel
theorem dX5_growBy_127 : decode cX5_growBy 127 = .ok (.goto 4, 3) := by decide +kernel
theorem dX5_growBy_130 : decode cX5_growBy 130 = .ok (.iconst 0, 1) := by decide +kernel
theorem dX5_growBy_131 : decode cX5_growBy 131 = .ok (.ireturn, 1) := by decide +kernel
theorem dX5_hangsOn_0 : decode cX5_hangsOn 0 = .ok (.aload_n 0, 1) := by decide +kernel
theorem dX5_hangsOn_1 : decode cX5_hangsOn 1 = .ok (.getfield 24, 3) := by decide +kernel
theorem dX5_hangsOn_4 : decode cX5_hangsOn 4 = .ok (.iload_n 1, 1) := by decide +kernel
theorem dX5_hangsOn_5 : decode cX5_hangsOn 5 = .ok (.invokevirtual 60, 3) := by decide +kernel
theorem dX5_hangsOn_8 : decode cX5_hangsOn 8 = .ok (.iload_n 2, 1) := by decide +kernel
theorem dX5_hangsOn_9 : decode cX5_hangsOn 9 = .ok (.ishr, 1) := by decide +kernel
theorem dX5_hangsOn_10 : decode cX5_hangsOn 10 = .ok (.iconst 1, 1) := by decide +kernel
theorem dX5_hangsOn_11 : decode cX5_hangsOn 11 = .ok (.iand, 1) := by decide +kernel
theorem dX5_hangsOn_12 : decode cX5_hangsOn 12 = .ok (.ifCond .eq 7, 3) := by decide +kernel
theorem dX5_hangsOn_15 : decode cX5_hangsOn 15 = .ok (.iconst 1, 1) := by decide +kernel
theorem dX5_hangsOn_16 : decode cX5_hangsOn 16 = .ok (.goto 4, 3) := by decide +kernel
theorem dX5_hangsOn_19 : decode cX5_hangsOn 19 = .ok (.iconst 0, 1) := by decide +kernel
theorem dX5_hangsOn_20 : decode cX5_hangsOn 20 = .ok (.ireturn, 1) := by decide +kernel
theorem dX5_readEquations_0 : decode cX5_readEquations 0 = .ok (.iconst 0, 1) := by decide +kernel
theorem dX5_readEquations_1 : decode cX5_readEquations 1 = .ok (.istore_n 2, 1) := by decide +kernel
theorem dX5_readEquations_2 : decode cX5_readEquations 2 = .ok (.iload_n 2, 1) := by decide +kernel
theorem dX5_readEquations_3 : decode cX5_readEquations 3 = .ok (.bipush 15, 2) := by decide +kernel
theorem dX5_readEquations_5 : decode cX5_readEquations 5 = .ok (.if_icmp .ge 76, 3) := by decide +kernel
theorem dX5_readEquations_8 : decode cX5_readEquations 8 = .ok (.aload_n 0, 1) := by decide +kernel
theorem dX5_readEquations_9 : decode cX5_readEquations 9 = .ok (.getfield 9, 3) := by decide +kernel
theorem dX5_readEquations_12 : decode cX5_readEquations 12 = .ok (.iload_n 1, 1) := by decide +kernel
theorem dX5_readEquations_13 : decode cX5_readEquations 13 = .ok (.iload_n 2, 1) := by decide +kernel
theorem dX5_readEquations_14 : decode cX5_readEquations 14 = .ok (.invokevirtual 79, 3) := by decide +kernel
theorem dX5_readEquations_17 : decode cX5_readEquations 17 = .ok (.istore_n 3, 1) := by decide +kernel
theorem dX5_readEquations_18 : decode cX5_readEquations 18 = .ok (.iload_n 3, 1) := by decide +kernel
theorem dX5_readEquations_19 : decode cX5_readEquations 19 = .ok (.iconst 1, 1) := by decide +kernel
theorem dX5_readEquations_20 : decode cX5_readEquations 20 = .ok (.if_icmp .lt 17, 3) := by decide +kernel
theorem dX5_readEquations_23 : decode cX5_readEquations 23 = .ok (.iconst 1, 1) := by decide +kernel
theorem dX5_readEquations_24 : decode cX5_readEquations 24 = .ok (.aload_n 0, 1) := by decide +kernel
theorem dX5_readEquations_25 : decode cX5_readEquations 25 = .ok (.getfield 9, 3) := by decide +kernel
theorem dX5_readEquations_28 : decode cX5_readEquations 28 = .ok (.iload_n 1, 1) := by decide +kernel
theorem dX5_readEquations_29 : decode cX5_readEquations 29 = .ok (.iload_n 2, 1) := by decide +kernel
theorem dX5_readEquations_30 : decode cX5_readEquations 30 = .ok (.invokevirtual 82, 3) := by decide +kernel
theorem dX5_readEquations_33 : decode cX5_readEquations 33 = .ok (.ishl, 1) := by decide +kernel
theorem dX5_readEquations_34 : decode cX5_readEquations 34 = .ok (.goto 4, 3) := by decide +kernel
theorem dX5_readEquations_37 : decode cX5_readEquations 37 = .ok (.iconst 0, 1) := by decide +kernel
theorem dX5_readEquations_38 : decode cX5_readEquations 38 = .ok (.istore 4, 2) := by decide +kernel
theorem dX5_readEquations_40 : decode cX5_readEquations 40 = .ok (.iload_n 3, 1) := by decide +kernel
theorem dX5_readEquations_41 : decode cX5_readEquations 41 = .ok (.iconst 2, 1) := by decide +kernel
theorem dX5_readEquations_42 : decode cX5_readEquations 42 = .ok (.if_icmp .lt 17, 3) := by decide +kernel
theorem dX5_readEquations_45 : decode cX5_readEquations 45 = .ok (.iconst 1, 1) := by decide +kernel
theorem dX5_readEquations_46 : decode cX5_readEquations 46 = .ok (.aload_n 0, 1) := by decide +kernel
theorem dX5_readEquations_47 : decode cX5_readEquations 47 = .ok (.getfield 9, 3) := by decide +kernel
theorem dX5_readEquations_50 : decode cX5_readEquations 50 = .ok (.iload_n 1, 1) := by decide +kernel
theorem dX5_readEquations_51 : decode cX5_readEquations 51 = .ok (.iload_n 2, 1) := by decide +kernel
theorem dX5_readEquations_52 : decode cX5_readEquations 52 = .ok (.invokevirtual 85, 3) := by decide +kernel
theorem dX5_readEquations_55 : decode cX5_readEquations 55 = .ok (.ishl, 1) := by decide +kernel
theorem dX5_readEquations_56 : decode cX5_readEquations 56 = .ok (.goto 4, 3) := by decide +kernel
theorem dX5_readEquations_59 : decode cX5_readEquations 59 = .ok (.iconst 0, 1) := by decide +kernel
theorem dX5_readEquations_60 : decode cX5_readEquations 60 = .ok (.istore 5, 2) := by decide +kernel
theorem dX5_readEquations_62 : decode cX5_readEquations 62 = .ok (.aload_n 0, 1) := by decide +kernel
theorem dX5_readEquations_63 : decode cX5_readEquations 63 = .ok (.getfield 24, 3) := by decide +kernel
theorem dX5_readEquations_66 : decode cX5_readEquations 66 = .ok (.iload_n 2, 1) := by decide +kernel
theorem dX5_readEquations_67 : decode cX5_readEquations 67 = .ok (.iload 4, 2) := by decide +kernel
theorem dX5_readEquations_69 : decode cX5_readEquations 69 = .ok (.iload 5, 2) := by decide +kernel
theorem dX5_readEquations_71 : decode cX5_readEquations 71 = .ok (.ior, 1) := by decide +kernel
theorem dX5_readEquations_72 : decode cX5_readEquations 72 = .ok (.invokevirtual 34, 3) := by decide +kernel
theorem dX5_readEquations_75 : decode cX5_readEquations 75 = .ok (.iinc 2 1, 3) := by decide +kernel
theorem dX5_readEquations_78 : decode cX5_readEquations 78 = .ok (.goto (-76), 3) := by decide +kernel
theorem dX5_readEquations_81 : decode cX5_readEquations 81 = .ok (.return_, 1) := by decide +kernel
theorem dX5_readChildren_0 : decode cX5_readChildren 0 = .ok (.iconst 1, 1) := by decide +kernel
theorem dX5_readChildren_1 : decode cX5_readChildren 1 = .ok (.istore_n 2, 1) := by decide +kernel
theorem dX5_readChildren_2 : decode cX5_readChildren 2 = .ok (.iload_n 2, 1) := by decide +kernel
theorem dX5_readChildren_3 : decode cX5_readChildren 3 = .ok (.aload_n 0, 1) := by decide +kernel
theorem dX5_readChildren_4 : decode cX5_readChildren 4 = .ok (.getfield 9, 3) := by decide +kernel
theorem dX5_readChildren_7 : decode cX5_readChildren 7 = .ok (.iload_n 1, 1) := by decide +kernel
theorem dX5_readChildren_8 : decode cX5_readChildren 8 = .ok (.invokevirtual 52, 3) := by decide +kernel
theorem dX5_readChildren_11 : decode cX5_readChildren 11 = .ok (.if_icmp .gt 83, 3) := by decide +kernel
theorem dX5_readChildren_14 : decode cX5_readChildren 14 = .ok (.aload_n 0, 1) := by decide +kernel
theorem dX5_readChildren_15 : decode cX5_readChildren 15 = .ok (.getfield 20, 3) := by decide +kernel
theorem dX5_readChildren_18 : decode cX5_readChildren 18 = .ok (.aload_n 0, 1) := by decide +kernel
theorem dX5_readChildren_19 : decode cX5_readChildren 19 = .ok (.getfield 9, 3) := by decide +kernel
theorem dX5_readChildren_22 : decode cX5_readChildren 22 = .ok (.iload_n 1, 1) := by decide +kernel
theorem dX5_readChildren_23 : decode cX5_readChildren 23 = .ok (.iload_n 2, 1) := by decide +kernel
theorem dX5_readChildren_24 : decode cX5_readChildren 24 = .ok (.invokevirtual 56, 3) := by decide +kernel
theorem dX5_readChildren_27 : decode cX5_readChildren 27 = .ok (.invokevirtual 60, 3) := by decide +kernel
theorem dX5_readChildren_30 : decode cX5_readChildren 30 = .ok (.istore_n 3, 1) := by decide +kernel
theorem dX5_readChildren_31 : decode cX5_readChildren 31 = .ok (.iload_n 2, 1) := by decide +kernel
theorem dX5_readChildren_32 : decode cX5_readChildren 32 = .ok (.iconst 3, 1) := by decide +kernel
theorem dX5_readChildren_33 : decode cX5_readChildren 33 = .ok (.imul, 1) := by decide +kernel
theorem dX5_readChildren_34 : decode cX5_readChildren 34 = .ok (.istore 4, 2) := by decide +kernel
theorem dX5_readChildren_36 : decode cX5_readChildren 36 = .ok (.iconst 1, 1) := by decide +kernel
theorem dX5_readChildren_37 : decode cX5_readChildren 37 = .ok (.iload 4, 2) := by decide +kernel
theorem dX5_readChildren_39 : decode cX5_readChildren 39 = .ok (.iconst 2, 1) := by decide +kernel
theorem dX5_readChildren_40 : decode cX5_readChildren 40 = .ok (.iadd, 1) := by decide +kernel
theorem dX5_readChildren_41 : decode cX5_readChildren 41 = .ok (.ishl, 1) := by decide +kernel
theorem dX5_readChildren_42 : decode cX5_readChildren 42 = .ok (.istore 5, 2) := by decide +kernel
theorem dX5_readChildren_44 : decode cX5_readChildren 44 = .ok (.aload_n 0, 1) := by decide +kernel
theorem dX5_readChildren_45 : decode cX5_readChildren 45 = .ok (.getfield 24, 3) := by decide +kernel
theorem dX5_readChildren_48 : decode cX5_readChildren 48 = .ok (.iload 4, 2) := by decide +kernel
theorem dX5_readChildren_50 : decode cX5_readChildren 50 = .ok (.iload_n 3, 1) := by decide +kernel
theorem dX5_readChildren_51 : decode cX5_readChildren 51 = .ok (.iconst 1, 1) := by decide +kernel
theorem dX5_readChildren_52 : decode cX5_readChildren 52 = .ok (.iand, 1) := by decide +kernel
theorem dX5_readChildren_53 : decode cX5_readChildren 53 = .ok (.ifCond .eq 8, 3) := by decide +kernel
theorem dX5_readChildren_56 : decode cX5_readChildren 56 = .ok (.iload 5, 2) := by decide +kernel
theorem dX5_readChildren_58 : decode cX5_readChildren 58 = .ok (.goto 4, 3) := by decide +kernel
theorem dX5_readChildren_61 : decode cX5_readChildren 61 = .ok (.iconst 0, 1) := by decide +kernel
theorem dX5_readChildren_62 : decode cX5_readChildren 62 = .ok (.invokevirtual 34, 3) := by decide +kernel
theorem dX5_readChildren_65 : decode cX5_readChildren 65 = .ok (.aload_n 0, 1) := by decide +kernel
theorem dX5_readChildren_66 : decode cX5_readChildren 66 = .ok (.getfield 24, 3) := by decide +kernel
theorem dX5_readChildren_69 : decode cX5_readChildren 69 = .ok (.iload 4, 2) := by decide +kernel
theorem dX5_readChildren_71 : decode cX5_readChildren 71 = .ok (.iconst 1, 1) := by decide +kernel
theorem dX5_readChildren_72 : decode cX5_readChildren 72 = .ok (.iadd, 1) := by decide +kernel
theorem dX5_readChildren_73 : decode cX5_readChildren 73 = .ok (.iload_n 3, 1) := by decide +kernel
theorem dX5_readChildren_74 : decode cX5_readChildren 74 = .ok (.iconst 2, 1) := by decide +kernel
theorem dX5_readChildren_75 : decode cX5_readChildren 75 = .ok (.iand, 1) := by decide +kernel
theorem dX5_readChildren_76 : decode cX5_readChildren 76 = .ok (.ifCond .eq 8, 3) := by decide +kernel
theorem dX5_readChildren_79 : decode cX5_readChildren 79 = .ok (.iload 5, 2) := by decide +kernel
theorem dX5_readChildren_81 : decode cX5_readChildren 81 = .ok (.goto 4, 3) := by decide +kernel
theorem dX5_readChildren_84 : decode cX5_readChildren 84 = .ok (.iconst 0, 1) := by decide +kernel
theorem dX5_readChildren_85 : decode cX5_readChildren 85 = .ok (.invokevirtual 34, 3) := by decide +kernel
theorem dX5_readChildren_88 : decode cX5_readChildren 88 = .ok (.iinc 2 1, 3) := by decide +kernel
theorem dX5_readChildren_91 : decode cX5_readChildren 91 = .ok (.goto (-89), 3) := by decide +kernel
theorem dX5_readChildren_94 : decode cX5_readChildren 94 = .ok (.return_, 1) := by decide +kernel
theorem dX5_passOn_0 : decode cX5_passOn 0 = .ok (.iconst 0, 1) := by decide +kernel
theorem dX5_passOn_1 : decode cX5_passOn 1 = .ok (.istore_n 2, 1) := by decide +kernel
theorem dX5_passOn_2 : decode cX5_passOn 2 = .ok (.iload_n 2, 1) := by decide +kernel
theorem dX5_passOn_3 : decode cX5_passOn 3 = .ok (.bipush 15, 2) := by decide +kernel
theorem dX5_passOn_5 : decode cX5_passOn 5 = .ok (.if_icmp .ge 43, 3) := by decide +kernel
theorem dX5_passOn_8 : decode cX5_passOn 8 = .ok (.aload_n 0, 1) := by decide +kernel
theorem dX5_passOn_9 : decode cX5_passOn 9 = .ok (.iload_n 2, 1) := by decide +kernel
theorem dX5_passOn_10 : decode cX5_passOn 10 = .ok (.iload_n 1, 1) := by decide +kernel
theorem dX5_passOn_11 : decode cX5_passOn 11 = .ok (.invokevirtual 72, 3) := by decide +kernel
theorem dX5_passOn_14 : decode cX5_passOn 14 = .ok (.ifCond .eq 28, 3) := by decide +kernel
theorem dX5_passOn_17 : decode cX5_passOn 17 = .ok (.aload_n 0, 1) := by decide +kernel
theorem dX5_passOn_18 : decode cX5_passOn 18 = .ok (.getfield 24, 3) := by decide +kernel
theorem dX5_passOn_21 : decode cX5_passOn 21 = .ok (.iload_n 2, 1) := by decide +kernel
theorem dX5_passOn_22 : decode cX5_passOn 22 = .ok (.aload_n 0, 1) := by decide +kernel
theorem dX5_passOn_23 : decode cX5_passOn 23 = .ok (.getfield 24, 3) := by decide +kernel
theorem dX5_passOn_26 : decode cX5_passOn 26 = .ok (.iload_n 2, 1) := by decide +kernel
theorem dX5_passOn_27 : decode cX5_passOn 27 = .ok (.invokevirtual 60, 3) := by decide +kernel
theorem dX5_passOn_30 : decode cX5_passOn 30 = .ok (.aload_n 0, 1) := by decide +kernel
theorem dX5_passOn_31 : decode cX5_passOn 31 = .ok (.getfield 24, 3) := by decide +kernel
theorem dX5_passOn_34 : decode cX5_passOn 34 = .ok (.iload_n 1, 1) := by decide +kernel
theorem dX5_passOn_35 : decode cX5_passOn 35 = .ok (.invokevirtual 60, 3) := by decide +kernel
theorem dX5_passOn_38 : decode cX5_passOn 38 = .ok (.ior, 1) := by decide +kernel
theorem dX5_passOn_39 : decode cX5_passOn 39 = .ok (.invokevirtual 34, 3) := by decide +kernel
theorem dX5_passOn_42 : decode cX5_passOn 42 = .ok (.iinc 2 1, 3) := by decide +kernel
theorem dX5_passOn_45 : decode cX5_passOn 45 = .ok (.goto (-43), 3) := by decide +kernel
theorem dX5_passOn_48 : decode cX5_passOn 48 = .ok (.return_, 1) := by decide +kernel
theorem dX6_init_0 : decode cX6_init 0 = .ok (.aload_n 0, 1) := by decide +kernel
theorem dX6_init_1 : decode cX6_init 1 = .ok (.invokespecial 1, 3) := by decide +kernel
theorem dX6_init_4 : decode cX6_init 4 = .ok (.aload_n 0, 1) := by decide +kernel
theorem dX6_init_5 : decode cX6_init 5 = .ok (.iconst 0, 1) := by decide +kernel
theorem dX6_init_6 : decode cX6_init 6 = .ok (.iload_n 1, 1) := by decide +kernel
theorem dX6_init_7 : decode cX6_init 7 = .ok (.invokestatic 7, 3) := by decide +kernel
theorem dX6_init_10 : decode cX6_init 10 = .ok (.newarray .int, 2) := by decide +kernel
theorem dX6_init_12 : decode cX6_init 12 = .ok (.putfield 13, 3) := by decide +kernel
theorem dX6_init_15 : decode cX6_init 15 = .ok (.return_, 1) := by decide +kernel
theorem dX6_get_0 : decode cX6_get 0 = .ok (.iload_n 1, 1) := by decide +kernel
theorem dX6_get_1 : decode cX6_get 1 = .ok (.ifCond .lt 21, 3) := by decide +kernel
theorem dX6_get_4 : decode cX6_get 4 = .ok (.iload_n 1, 1) := by decide +kernel
theorem dX6_get_5 : decode cX6_get 5 = .ok (.aload_n 0, 1) := by decide +kernel
theorem dX6_get_6 : decode cX6_get 6 = .ok (.getfield 13, 3) := by decide +kernel
theorem dX6_get_9 : decode cX6_get 9 = .ok (.arraylength, 1) := by decide +kernel
theorem dX6_get_10 : decode cX6_get 10 = .ok (.if_icmp .ge 12, 3) := by decide +kernel
theorem dX6_get_13 : decode cX6_get 13 = .ok (.aload_n 0, 1) := by decide +kernel
theorem dX6_get_14 : decode cX6_get 14 = .ok (.getfield 13, 3) := by decide +kernel
theorem dX6_get_17 : decode cX6_get 17 = .ok (.iload_n 1, 1) := by decide +kernel
theorem dX6_get_18 : decode cX6_get 18 = .ok (.iaload, 1) := by decide +kernel
theorem dX6_get_19 : decode cX6_get 19 = .ok (.goto 4, 3) := by decide +kernel
theorem dX6_get_22 : decode cX6_get 22 = .ok (.iconst 0, 1) := by decide +kernel
theorem dX6_get_23 : decode cX6_get 23 = .ok (.ireturn, 1) := by decide +kernel
theorem dX6_set_0 : decode cX6_set 0 = .ok (.iload_n 1, 1) := by decide +kernel
theorem dX6_set_1 : decode cX6_set 1 = .ok (.ifCond .lt 19, 3) := by decide +kernel
theorem dX6_set_4 : decode cX6_set 4 = .ok (.iload_n 1, 1) := by decide +kernel
theorem dX6_set_5 : decode cX6_set 5 = .ok (.aload_n 0, 1) := by decide +kernel
theorem dX6_set_6 : decode cX6_set 6 = .ok (.getfield 13, 3) := by decide +kernel
theorem dX6_set_9 : decode cX6_set 9 = .ok (.arraylength, 1) := by decide +kernel
theorem dX6_set_10 : decode cX6_set 10 = .ok (.if_icmp .ge 10, 3) := by decide +kernel
theorem dX6_set_13 : decode cX6_set 13 = .ok (.aload_n 0, 1) := by decide +kernel
theorem dX6_set_14 : decode cX6_set 14 = .ok (.getfield 13, 3) := by decide +kernel
theorem dX6_set_17 : decode cX6_set 17 = .ok (.iload_n 1, 1) := by decide +kernel
theorem dX6_set_18 : decode cX6_set 18 = .ok (.iload_n 2, 1) := by decide +kernel
theorem dX6_set_19 : decode cX6_set 19 = .ok (.iastore, 1) := by decide +kernel
theorem dX6_set_20 : decode cX6_set 20 = .ok (.return_, 1) := by decide +kernel
theorem dX6_wipe_0 : decode cX6_wipe 0 = .ok (.iconst 0, 1) := by decide +kernel
theorem dX6_wipe_1 : decode cX6_wipe 1 = .ok (.istore_n 1, 1) := by decide +kernel
theorem dX6_wipe_2 : decode cX6_wipe 2 = .ok (.iload_n 1, 1) := by decide +kernel
theorem dX6_wipe_3 : decode cX6_wipe 3 = .ok (.aload_n 0, 1) := by decide +kernel
theorem dX6_wipe_4 : decode cX6_wipe 4 = .ok (.getfield 13, 3) := by decide +kernel
theorem dX6_wipe_7 : decode cX6_wipe 7 = .ok (.arraylength, 1) := by decide +kernel
theorem dX6_wipe_8 : decode cX6_wipe 8 = .ok (.if_icmp .ge 16, 3) := by decide +kernel
theorem dX6_wipe_11 : decode cX6_wipe 11 = .ok (.aload_n 0, 1) := by decide +kernel
theorem dX6_wipe_12 : decode cX6_wipe 12 = .ok (.getfield 13, 3) := by decide +kernel
theorem dX6_wipe_15 : decode cX6_wipe 15 = .ok (.iload_n 1, 1) := by decide +kernel
theorem dX6_wipe_16 : decode cX6_wipe 16 = .ok (.iconst 0, 1) := by decide +kernel
theorem dX6_wipe_17 : decode cX6_wipe 17 = .ok (.iastore, 1) := by decide +kernel
theorem dX6_wipe_18 : decode cX6_wipe 18 = .ok (.iinc 1 1, 3) := by decide +kernel
theorem dX6_wipe_21 : decode cX6_wipe 21 = .ok (.goto (-19), 3) := by decide +kernel
theorem dX6_wipe_24 : decode cX6_wipe 24 = .ok (.return_, 1) := by decide +kernel
theorem dX7_init_0 : decode cX7_init 0 = .ok (.aload_n 0, 1) := by decide +kernel
theorem dX7_init_1 : decode cX7_init 1 = .ok (.invokespecial 3, 3) := by decide +kernel
theorem dX7_init_4 : decode cX7_init 4 = .ok (.aload_n 0, 1) := by decide +kernel
theorem dX7_init_5 : decode cX7_init 5 = .ok (.aload_n 1, 1) := by decide +kernel
theorem dX7_init_6 : decode cX7_init 6 = .ok (.putfield 9, 3) := by decide +kernel
theorem dX7_init_9 : decode cX7_init 9 = .ok (.aload_n 0, 1) := by decide +kernel
theorem dX7_init_10 : decode cX7_init 10 = .ok (.new 15, 3) := by decide +kernel
theorem dX7_init_13 : decode cX7_init 13 = .ok (.dup, 1) := by decide +kernel
theorem dX7_init_14 : decode cX7_init 14 = .ok (.bipush 50, 2) := by decide +kernel
theorem dX7_init_16 : decode cX7_init 16 = .ok (.invokespecial 17, 3) := by decide +kernel
theorem dX7_init_19 : decode cX7_init 19 = .ok (.putfield 20, 3) := by decide +kernel
theorem dX7_init_22 : decode cX7_init 22 = .ok (.aload_n 0, 1) := by decide +kernel
theorem dX7_init_23 : decode cX7_init 23 = .ok (.new 15, 3) := by decide +kernel
theorem dX7_init_26 : decode cX7_init 26 = .ok (.dup, 1) := by decide +kernel
theorem dX7_init_27 : decode cX7_init 27 = .ok (.bipush 14, 2) := by decide +kernel
theorem dX7_init_29 : decode cX7_init 29 = .ok (.invokespecial 17, 3) := by decide +kernel
theorem dX7_init_32 : decode cX7_init 32 = .ok (.putfield 24, 3) := by decide +kernel
theorem dX7_init_35 : decode cX7_init 35 = .ok (.aload_n 0, 1) := by decide +kernel
theorem dX7_init_36 : decode cX7_init 36 = .ok (.new 27, 3) := by decide +kernel
theorem dX7_init_39 : decode cX7_init 39 = .ok (.dup, 1) := by decide +kernel
theorem dX7_init_40 : decode cX7_init 40 = .ok (.bipush 50, 2) := by decide +kernel
theorem dX7_init_42 : decode cX7_init 42 = .ok (.bipush 75, 2) := by decide +kernel
theorem dX7_init_44 : decode cX7_init 44 = .ok (.invokespecial 29, 3) := by decide +kernel
theorem dX7_init_47 : decode cX7_init 47 = .ok (.putfield 32, 3) := by decide +kernel
theorem dX7_init_50 : decode cX7_init 50 = .ok (.aload_n 0, 1) := by decide +kernel
theorem dX7_init_51 : decode cX7_init 51 = .ok (.new 27, 3) := by decide +kernel
theorem dX7_init_54 : decode cX7_init 54 = .ok (.dup, 1) := by decide +kernel
theorem dX7_init_55 : decode cX7_init 55 = .ok (.bipush 50, 2) := by decide +kernel
theorem dX7_init_57 : decode cX7_init 57 = .ok (.bipush 14, 2) := by decide +kernel
theorem dX7_init_59 : decode cX7_init 59 = .ok (.invokespecial 29, 3) := by decide +kernel
theorem dX7_init_62 : decode cX7_init 62 = .ok (.putfield 36, 3) := by decide +kernel
theorem dX7_init_65 : decode cX7_init 65 = .ok (.aload_n 0, 1) := by decide +kernel
theorem dX7_init_66 : decode cX7_init 66 = .ok (.new 27, 3) := by decide +kernel
theorem dX7_init_69 : decode cX7_init 69 = .ok (.dup, 1) := by decide +kernel
theorem dX7_init_70 : decode cX7_init 70 = .ok (.bipush 50, 2) := by decide +kernel
theorem dX7_init_72 : decode cX7_init 72 = .ok (.bipush 7, 2) := by decide +kernel
theorem dX7_init_74 : decode cX7_init 74 = .ok (.invokespecial 29, 3) := by decide +kernel
theorem dX7_init_77 : decode cX7_init 77 = .ok (.putfield 39, 3) := by decide +kernel
theorem dX7_init_80 : decode cX7_init 80 = .ok (.aload_n 0, 1) := by decide +kernel
theorem dX7_init_81 : decode cX7_init 81 = .ok (.iconst 0, 1) := by decide +kernel
theorem dX7_init_82 : decode cX7_init 82 = .ok (.putfield 42, 3) := by decide +kernel
theorem dX7_init_85 : decode cX7_init 85 = .ok (.aload_n 0, 1) := by decide +kernel
theorem dX7_init_86 : decode cX7_init 86 = .ok (.iconst 0, 1) := by decide +kernel
theorem dX7_init_87 : decode cX7_init 87 = .ok (.putfield 46, 3) := by decide +kernel
theorem dX7_init_90 : decode cX7_init 90 = .ok (.return_, 1) := by decide +kernel
theorem dX7_size_0 : decode cX7_size 0 = .ok (.aload_n 0, 1) := by decide +kernel
theorem dX7_size_1 : decode cX7_size 1 = .ok (.getfield 42, 3) := by decide +kernel
theorem dX7_size_4 : decode cX7_size 4 = .ok (.ireturn, 1) := by decide +kernel
theorem dX7_conflicts_0 : decode cX7_conflicts 0 = .ok (.aload_n 0, 1) := by decide +kernel
theorem dX7_conflicts_1 : decode cX7_conflicts 1 = .ok (.getfield 46, 3) := by decide +kernel
theorem dX7_conflicts_4 : decode cX7_conflicts 4 = .ok (.ireturn, 1) := by decide +kernel
theorem dX7_hasState_0 : decode cX7_hasState 0 = .ok (.iload_n 1, 1) := by decide +kernel
theorem dX7_hasState_1 : decode cX7_hasState 1 = .ok (.ifCond .lt 15, 3) := by decide +kernel
theorem dX7_hasState_4 : decode cX7_hasState 4 = .ok (.iload_n 1, 1) := by decide +kernel
theorem dX7_hasState_5 : decode cX7_hasState 5 = .ok (.aload_n 0, 1) := by decide +kernel
theorem dX7_hasState_6 : decode cX7_hasState 6 = .ok (.getfield 42, 3) := by decide +kernel
theorem dX7_hasState_9 : decode cX7_hasState 9 = .ok (.if_icmp .ge 7, 3) := by decide +kernel
theorem dX7_hasState_12 : decode cX7_hasState 12 = .ok (.iconst 1, 1) := by decide +kernel
theorem dX7_hasState_13 : decode cX7_hasState 13 = .ok (.goto 4, 3) := by decide +kernel
theorem dX7_hasState_16 : decode cX7_hasState 16 = .ok (.iconst 0, 1) := by decide +kernel
theorem dX7_hasState_17 : decode cX7_hasState 17 = .ok (.ireturn, 1) := by decide +kernel
theorem dX7_target_0 : decode cX7_target 0 = .ok (.aload_n 0, 1) := by decide +kernel
theorem dX7_target_1 : decode cX7_target 1 = .ok (.getfield 36, 3) := by decide +kernel
theorem dX7_target_4 : decode cX7_target 4 = .ok (.iload_n 1, 1) := by decide +kernel
theorem dX7_target_5 : decode cX7_target 5 = .ok (.iload_n 2, 1) := by decide +kernel
theorem dX7_target_6 : decode cX7_target 6 = .ok (.invokevirtual 49, 3) := by decide +kernel
theorem dX7_target_9 : decode cX7_target 9 = .ok (.ireturn, 1) := by decide +kernel
theorem dX7_deedAt_0 : decode cX7_deedAt 0 = .ok (.aload_n 0, 1) := by decide +kernel
theorem dX7_deedAt_1 : decode cX7_deedAt 1 = .ok (.getfield 39, 3) := by decide +kernel
theorem dX7_deedAt_4 : decode cX7_deedAt 4 = .ok (.iload_n 1, 1) := by decide +kernel
theorem dX7_deedAt_5 : decode cX7_deedAt 5 = .ok (.iload_n 2, 1) := by decide +kernel
theorem dX7_deedAt_6 : decode cX7_deedAt 6 = .ok (.invokevirtual 49, 3) := by decide +kernel
theorem dX7_deedAt_9 : decode cX7_deedAt 9 = .ok (.ireturn, 1) := by decide +kernel
theorem dX7_isEnding_0 : decode cX7_isEnding 0 = .ok (.aload_n 0, 1) := by decide +kernel
theorem dX7_isEnding_1 : decode cX7_isEnding 1 = .ok (.getfield 32, 3) := by decide +kernel
theorem dX7_isEnding_4 : decode cX7_isEnding 4 = .ok (.iload_n 1, 1) := by decide +kernel
theorem dX7_isEnding_5 : decode cX7_isEnding 5 = .ok (.aload_n 0, 1) := by decide +kernel
theorem dX7_isEnding_6 : decode cX7_isEnding 6 = .ok (.iload_n 2, 1) := by decide +kernel
theorem dX7_isEnding_7 : decode cX7_isEnding 7 = .ok (.invokevirtual 53, 3) := by decide +kernel
theorem dX7_isEnding_10 : decode cX7_isEnding 10 = .ok (.invokevirtual 49, 3) := by decide +kernel
theorem dX7_isEnding_13 : decode cX7_isEnding 13 = .ok (.ifCond .eq 7, 3) := by decide +kernel
theorem dX7_isEnding_16 : decode cX7_isEnding 16 = .ok (.iconst 1, 1) := by decide +kernel
theorem dX7_isEnding_17 : decode cX7_isEnding 17 = .ok (.goto 4, 3) := by decide +kernel
theorem dX7_isEnding_20 : decode cX7_isEnding 20 = .ok (.iconst 0, 1) := by decide +kernel
theorem dX7_isEnding_21 : decode cX7_isEnding 21 = .ok (.ireturn, 1) := by decide +kernel
theorem dX7_lookaheadsAtEnd_0 : decode cX7_lookaheadsAtEnd 0 = .ok (.aload_n 0, 1) := by decide +kernel
theorem dX7_lookaheadsAtEnd_1 : decode cX7_lookaheadsAtEnd 1 = .ok (.getfield 32, 3) := by decide +kernel
theorem dX7_lookaheadsAtEnd_4 : decode cX7_lookaheadsAtEnd 4 = .ok (.iload_n 1, 1) := by decide +kernel
theorem dX7_lookaheadsAtEnd_5 : decode cX7_lookaheadsAtEnd 5 = .ok (.aload_n 0, 1) := by decide +kernel
theorem dX7_lookaheadsAtEnd_6 : decode cX7_lookaheadsAtEnd 6 = .ok (.iload_n 2, 1) := by decide +kernel
theorem dX7_lookaheadsAtEnd_7 : decode cX7_lookaheadsAtEnd 7 = .ok (.invokevirtual 53, 3) := by decide +kernel
theorem dX7_lookaheadsAtEnd_10 : decode cX7_lookaheadsAtEnd 10 = .ok (.invokevirtual 49, 3) := by decide +kernel
theorem dX7_lookaheadsAtEnd_13 : decode cX7_lookaheadsAtEnd 13 = .ok (.bipush 127, 2) := by decide +kernel
theorem dX7_lookaheadsAtEnd_15 : decode cX7_lookaheadsAtEnd 15 = .ok (.iand, 1) := by decide +kernel
theorem dX7_lookaheadsAtEnd_16 : decode cX7_lookaheadsAtEnd 16 = .ok (.ireturn, 1) := by decide +kernel
theorem dX7_endOf_0 : decode cX7_endOf 0 = .ok (.iload_n 1, 1) := by decide +kernel
theorem dX7_endOf_1 : decode cX7_endOf 1 = .ok (.iconst 5, 1) := by decide +kernel
theorem dX7_endOf_2 : decode cX7_endOf 2 = .ok (.imul, 1) := by decide +kernel
theorem dX7_endOf_3 : decode cX7_endOf 3 = .ok (.aload_n 0, 1) := by decide +kernel
theorem dX7_endOf_4 : decode cX7_endOf 4 = .ok (.getfield 9, 3) := by decide +kernel
theorem dX7_endOf_7 : decode cX7_endOf 7 = .ok (.iload_n 1, 1) := by decide +kernel
theorem dX7_endOf_8 : decode cX7_endOf 8 = .ok (.invokevirtual 57, 3) := by decide +kernel
theorem dX7_endOf_11 : decode cX7_endOf 11 = .ok (.iadd, 1) := by decide +kernel
theorem dX7_endOf_12 : decode cX7_endOf 12 = .ok (.ireturn, 1) := by decide +kernel
theorem dX7_symbolBehindDot_0 : decode cX7_symbolBehindDot 0 = .ok (.aload_n 0, 1) := by decide +kernel
theorem dX7_symbolBehindDot_1 : decode cX7_symbolBehindDot 1 = .ok (.getfield 9, 3) := by decide +kernel
theorem dX7_symbolBehindDot_4 : decode cX7_symbolBehindDot 4 = .ok (.iload_n 1, 1) := by decide +kernel
theorem dX7_symbolBehindDot_5 : decode cX7_symbolBehindDot 5 = .ok (.iconst 5, 1) := by decide +kernel
theorem dX7_symbolBehindDot_6 : decode cX7_symbolBehindDot 6 = .ok (.idiv, 1) := by decide +kernel
theorem dX7_symbolBehindDot_7 : decode cX7_symbolBehindDot 7 = .ok (.iload_n 1, 1) := by decide +kernel
theorem dX7_symbolBehindDot_8 : decode cX7_symbolBehindDot 8 = .ok (.iconst 5, 1) := by decide +kernel
theorem dX7_symbolBehindDot_9 : decode cX7_symbolBehindDot 9 = .ok (.irem, 1) := by decide +kernel
theorem dX7_symbolBehindDot_10 : decode cX7_symbolBehindDot 10 = .ok (.iconst 1, 1) := by decide +kernel
theorem dX7_symbolBehindDot_11 : decode cX7_symbolBehindDot 11 = .ok (.iadd, 1) := by decide +kernel
theorem dX7_symbolBehindDot_12 : decode cX7_symbolBehindDot 12 = .ok (.invokevirtual 62, 3) := by decide +kernel
theorem dX7_symbolBehindDot_15 : decode cX7_symbolBehindDot 15 = .ok (.ireturn, 1) := by decide +kernel
theorem dX7_kernelBit_0 : decode cX7_kernelBit 0 = .ok (.iload_n 0, 1) := by decide +kernel
theorem dX7_kernelBit_1 : decode cX7_kernelBit 1 = .ok (.iconst 5, 1) := by decide +kernel
theorem dX7_kernelBit_2 : decode cX7_kernelBit 2 = .ok (.irem, 1) := by decide +kernel
theorem dX7_kernelBit_3 : decode cX7_kernelBit 3 = .ok (.istore_n 1, 1) := by decide +kernel
theorem dX7_kernelBit_4 : decode cX7_kernelBit 4 = .ok (.iload_n 1, 1) := by decide +kernel
theorem dX7_kernelBit_5 : decode cX7_kernelBit 5 = .ok (.ifCond .ne 7, 3) := by decide +kernel
theorem dX7_kernelBit_8 : decode cX7_kernelBit 8 = .ok (.lconst 0, 1) := by decide +kernel
theorem dX7_kernelBit_9 : decode cX7_kernelBit 9 = .ok (.goto 14, 3) := by decide +kernel
theorem dX7_kernelBit_12 : decode cX7_kernelBit 12 = .ok (.lconst 1, 1) := by decide +kernel
theorem dX7_kernelBit_13 : decode cX7_kernelBit 13 = .ok (.iload_n 0, 1) := by decide +kernel
theorem dX7_kernelBit_14 : decode cX7_kernelBit 14 = .ok (.iconst 5, 1) := by decide +kernel
theorem dX7_kernelBit_15 : decode cX7_kernelBit 15 = .ok (.idiv, 1) := by decide +kernel
theorem dX7_kernelBit_16 : decode cX7_kernelBit 16 = .ok (.iconst 4, 1) := by decide +kernel
theorem dX7_kernelBit_17 : decode cX7_kernelBit 17 = .ok (.imul, 1) := by decide +kernel
theorem dX7_kernelBit_18 : decode cX7_kernelBit 18 = .ok (.iload_n 1, 1) := by decide +kernel
theorem dX7_kernelBit_19 : decode cX7_kernelBit 19 = .ok (.iadd, 1) := by decide +kernel
theorem dX7_kernelBit_20 : decode cX7_kernelBit 20 = .ok (.iconst 1, 1) := by decide +kernel
theorem dX7_kernelBit_21 : decode cX7_kernelBit 21 = .ok (.isub, 1) := by decide +kernel
theorem dX7_kernelBit_22 : decode cX7_kernelBit 22 = .ok (.lshl, 1) := by decide +kernel
theorem dX7_kernelBit_23 : decode cX7_kernelBit 23 = .ok (.lreturn, 1) := by decide +kernel
theorem dX7_findAll_0 : decode cX7_findAll 0 = .ok (.aload_n 0, 1) := by decide +kernel
theorem dX7_findAll_1 : decode cX7_findAll 1 = .ok (.iconst 0, 1) := by decide +kernel
theorem dX7_findAll_2 : decode cX7_findAll 2 = .ok (.putfield 42, 3) := by decide +kernel
theorem dX7_findAll_5 : decode cX7_findAll 5 = .ok (.aload_n 0, 1) := by decide +kernel
theorem dX7_findAll_6 : decode cX7_findAll 6 = .ok (.lconst 0, 1) := by decide +kernel
theorem dX7_findAll_7 : decode cX7_findAll 7 = .ok (.invokevirtual 65, 3) := by decide +kernel
theorem dX7_findAll_10 : decode cX7_findAll 10 = .ok (.iconst 0, 1) := by decide +kernel
theorem dX7_findAll_11 : decode cX7_findAll 11 = .ok (.istore_n 1, 1) := by decide +kernel
theorem dX7_findAll_12 : decode cX7_findAll 12 = .ok (.iload_n 1, 1) := by decide +kernel
theorem dX7_findAll_13 : decode cX7_findAll 13 = .ok (.aload_n 0, 1) := by decide +kernel
theorem dX7_findAll_14 : decode cX7_findAll 14 = .ok (.getfield 42, 3) := by decide +kernel
theorem dX7_findAll_17 : decode cX7_findAll 17 = .ok (.if_icmp .ge 85, 3) := by decide +kernel
theorem dX7_findAll_20 : decode cX7_findAll 20 = .ok (.iload_n 1, 1) := by decide +kernel
theorem dX7_findAll_21 : decode cX7_findAll 21 = .ok (.bipush 50, 2) := by decide +kernel
theorem dX7_findAll_23 : decode cX7_findAll 23 = .ok (.if_icmp .ge 79, 3) := by decide +kernel
theorem dX7_findAll_26 : decode cX7_findAll 26 = .ok (.aload_n 0, 1) := by decide +kernel
theorem dX7_findAll_27 : decode cX7_findAll 27 = .ok (.iload_n 1, 1) := by decide +kernel
theorem dX7_findAll_28 : decode cX7_findAll 28 = .ok (.invokevirtual 69, 3) := by decide +kernel
theorem dX7_findAll_31 : decode cX7_findAll 31 = .ok (.aload_n 0, 1) := by decide +kernel
theorem dX7_findAll_32 : decode cX7_findAll 32 = .ok (.iload_n 1, 1) := by decide +kernel
theorem dX7_findAll_33 : decode cX7_findAll 33 = .ok (.invokevirtual 72, 3) := by decide +kernel
theorem dX7_findAll_36 : decode cX7_findAll 36 = .ok (.iconst 1, 1) := by decide +kernel
theorem dX7_findAll_37 : decode cX7_findAll 37 = .ok (.istore_n 2, 1) := by decide +kernel
theorem dX7_findAll_38 : decode cX7_findAll 38 = .ok (.iload_n 2, 1) := by decide +kernel
theorem dX7_findAll_39 : decode cX7_findAll 39 = .ok (.bipush 14, 2) := by decide +kernel
theorem dX7_findAll_41 : decode cX7_findAll 41 = .ok (.if_icmp .ge 55, 3) := by decide +kernel
theorem dX7_findAll_44 : decode cX7_findAll 44 = .ok (.aload_n 0, 1) := by decide +kernel
theorem dX7_findAll_45 : decode cX7_findAll 45 = .ok (.getfield 24, 3) := by decide +kernel
theorem dX7_findAll_48 : decode cX7_findAll 48 = .ok (.iload_n 2, 1) := by decide +kernel
theorem dX7_findAll_49 : decode cX7_findAll 49 = .ok (.invokevirtual 75, 3) := by decide +kernel
theorem dX7_findAll_52 : decode cX7_findAll 52 = .ok (.lstore_n 3, 1) := by decide +kernel
theorem dX7_findAll_53 : decode cX7_findAll 53 = .ok (.lload_n 3, 1) := by decide +kernel
theorem dX7_findAll_54 : decode cX7_findAll 54 = .ok (.lconst 0, 1) := by decide +kernel
theorem dX7_findAll_55 : decode cX7_findAll 55 = .ok (.lcmp, 1) := by decide +kernel
theorem dX7_findAll_56 : decode cX7_findAll 56 = .ok (.ifCond .ne 7, 3) := by decide +kernel
theorem dX7_findAll_59 : decode cX7_findAll 59 = .ok (.iconst 0, 1) := by decide +kernel
theorem dX7_findAll_60 : decode cX7_findAll 60 = .ok (.goto 8, 3) := by decide +kernel
theorem dX7_findAll_63 : decode cX7_findAll 63 = .ok (.aload_n 0, 1) := by decide +kernel
theorem dX7_findAll_64 : decode cX7_findAll 64 = .ok (.lload_n 3, 1) := by decide +kernel
theorem dX7_findAll_65 : decode cX7_findAll 65 = .ok (.invokevirtual 78, 3) := by decide +kernel
theorem dX7_findAll_68 : decode cX7_findAll 68 = .ok (.istore 5, 2) := by decide +kernel
theorem dX7_findAll_70 : decode cX7_findAll 70 = .ok (.iload 5, 2) := by decide +kernel
theorem dX7_findAll_72 : decode cX7_findAll 72 = .ok (.bipush 50, 2) := by decide +kernel
theorem dX7_findAll_74 : decode cX7_findAll 74 = .ok (.if_icmp .lt 5, 3) := by decide +kernel
theorem dX7_findAll_77 : decode cX7_findAll 77 = .ok (.iconst 0, 1) := by decide +kernel
theorem dX7_findAll_78 : decode cX7_findAll 78 = .ok (.ireturn, 1) := by decide +kernel
theorem dX7_findAll_79 : decode cX7_findAll 79 = .ok (.aload_n 0, 1) := by decide +kernel
theorem dX7_findAll_80 : decode cX7_findAll 80 = .ok (.getfield 36, 3) := by decide +kernel
theorem dX7_findAll_83 : decode cX7_findAll 83 = .ok (.iload_n 1, 1) := by decide +kernel
theorem dX7_findAll_84 : decode cX7_findAll 84 = .ok (.iload_n 2, 1) := by decide +kernel
theorem dX7_findAll_85 : decode cX7_findAll 85 = .ok (.iload 5, 2) := by decide +kernel
theorem dX7_findAll_87 : decode cX7_findAll 87 = .ok (.invokevirtual 82, 3) := by decide +kernel
theorem dX7_findAll_90 : decode cX7_findAll 90 = .ok (.iinc 2 1, 3) := by decide +kernel
theorem dX7_findAll_93 : decode cX7_findAll 93 = .ok (.goto (-55), 3) := by decide +kernel
theorem dX7_findAll_96 : decode cX7_findAll 96 = .ok (.iinc 1 1, 3) := by decide +kernel
theorem dX7_findAll_99 : decode cX7_findAll 99 = .ok (.goto (-87), 3) := by decide +kernel
theorem dX7_findAll_102 : decode cX7_findAll 102 = .ok (.iconst 1, 1) := by decide +kernel
theorem dX7_findAll_103 : decode cX7_findAll 103 = .ok (.ireturn, 1) := by decide +kernel
theorem dX7_gatherNextKernels_0 : decode cX7_gatherNextKernels 0 = .ok (.aload_n 0, 1) := by decide +kernel
theorem dX7_gatherNextKernels_1 : decode cX7_gatherNextKernels 1 = .ok (.getfield 24, 3) := by decide +kernel
theorem dX7_gatherNextKernels_4 : decode cX7_gatherNextKernels 4 = .ok (.invokevirtual 86, 3) := by decide +kernel
theorem dX7_gatherNextKernels_7 : decode cX7_gatherNextKernels 7 = .ok (.iconst 0, 1) := by decide +kernel
theorem dX7_gatherNextKernels_8 : decode cX7_gatherNextKernels 8 = .ok (.istore_n 2, 1) := by decide +kernel
theorem dX7_gatherNextKernels_9 : decode cX7_gatherNextKernels 9 = .ok (.iload_n 2, 1) := by decide +kernel
theorem dX7_gatherNextKernels_10 : decode cX7_gatherNextKernels 10 = .ok (.bipush 75, 2) := by decide +kernel
theorem dX7_gatherNextKernels_12 : decode cX7_gatherNextKernels 12 = .ok (.if_icmp .ge 54, 3) := by decide +kernel
theorem dX7_gatherNextKernels_15 : decode cX7_gatherNextKernels 15 = .ok (.aload_n 0, 1) := by decide +kernel
theorem dX7_gatherNextKernels_16 : decode cX7_gatherNextKernels 16 = .ok (.getfield 32, 3) := by decide +kernel
theorem dX7_gatherNextKernels_19 : decode cX7_gatherNextKernels 19 = .ok (.iload_n 1, 1) := by decide +kernel
theorem dX7_gatherNextKernels_20 : decode cX7_gatherNextKernels 20 = .ok (.iload_n 2, 1) := by decide +kernel
theorem dX7_gatherNextKernels_21 : decode cX7_gatherNextKernels 21 = .ok (.invokevirtual 49, 3) := by decide +kernel
theorem dX7_gatherNextKernels_24 : decode cX7_gatherNextKernels 24 = .ok (.ifCond .eq 36, 3) := by decide +kernel
theorem dX7_gatherNextKernels_27 : decode cX7_gatherNextKernels 27 = .ok (.aload_n 0, 1) := by decide +kernel
theorem dX7_gatherNextKernels_28 : decode cX7_gatherNextKernels 28 = .ok (.iload_n 2, 1) := by decide +kernel
theorem dX7_gatherNextKernels_29 : decode cX7_gatherNextKernels 29 = .ok (.invokevirtual 89, 3) := by decide +kernel
theorem dX7_gatherNextKernels_32 : decode cX7_gatherNextKernels 32 = .ok (.istore_n 3, 1) := by decide +kernel
theorem dX7_gatherNextKernels_33 : decode cX7_gatherNextKernels 33 = .ok (.iload_n 3, 1) := by decide +kernel
theorem dX7_gatherNextKernels_34 : decode cX7_gatherNextKernels 34 = .ok (.ifCond .eq 26, 3) := by decide +kernel
theorem dX7_gatherNextKernels_37 : decode cX7_gatherNextKernels 37 = .ok (.aload_n 0, 1) := by decide +kernel
theorem dX7_gatherNextKernels_38 : decode cX7_gatherNextKernels 38 = .ok (.getfield 24, 3) := by decide +kernel
theorem dX7_gatherNextKernels_41 : decode cX7_gatherNextKernels 41 = .ok (.iload_n 3, 1) := by decide +kernel
theorem dX7_gatherNextKernels_42 : decode cX7_gatherNextKernels 42 = .ok (.aload_n 0, 1) := by decide +kernel
theorem dX7_gatherNextKernels_43 : decode cX7_gatherNextKernels 43 = .ok (.getfield 24, 3) := by decide +kernel
theorem dX7_gatherNextKernels_46 : decode cX7_gatherNextKernels 46 = .ok (.iload_n 3, 1) := by decide +kernel
theorem dX7_gatherNextKernels_47 : decode cX7_gatherNextKernels 47 = .ok (.invokevirtual 75, 3) := by decide +kernel
theorem dX7_gatherNextKernels_50 : decode cX7_gatherNextKernels 50 = .ok (.iload_n 2, 1) := by decide +kernel
theorem dX7_gatherNextKernels_51 : decode cX7_gatherNextKernels 51 = .ok (.iconst 1, 1) := by decide +kernel
theorem dX7_gatherNextKernels_52 : decode cX7_gatherNextKernels 52 = .ok (.iadd, 1) := by decide +kernel
theorem dX7_gatherNextKernels_53 : decode cX7_gatherNextKernels 53 = .ok (.invokestatic 92, 3) := by decide +kernel
theorem dX7_gatherNextKernels_56 : decode cX7_gatherNextKernels 56 = .ok (.lor, 1) := by decide +kernel
theorem dX7_gatherNextKernels_57 : decode cX7_gatherNextKernels 57 = .ok (.invokevirtual 95, 3) := by decide +kernel
theorem dX7_gatherNextKernels_60 : decode cX7_gatherNextKernels 60 = .ok (.iinc 2 1, 3) := by decide +kernel
theorem dX7_gatherNextKernels_63 : decode cX7_gatherNextKernels 63 = .ok (.goto (-54), 3) := by decide +kernel
theorem dX7_gatherNextKernels_66 : decode cX7_gatherNextKernels 66 = .ok (.return_, 1) := by decide +kernel
theorem dX7_stateWith_0 : decode cX7_stateWith 0 = .ok (.iconst 1, 1) := by decide +kernel
theorem dX7_stateWith_1 : decode cX7_stateWith 1 = .ok (.istore_n 3, 1) := by decide +kernel
theorem dX7_stateWith_2 : decode cX7_stateWith 2 = .ok (.iload_n 3, 1) := by decide +kernel
theorem dX7_stateWith_3 : decode cX7_stateWith 3 = .ok (.aload_n 0, 1) := by decide +kernel
theorem dX7_stateWith_4 : decode cX7_stateWith 4 = .ok (.getfield 42, 3) := by decide +kernel
theorem dX7_stateWith_7 : decode cX7_stateWith 7 = .ok (.if_icmp .ge 24, 3) := by decide +kernel
theorem dX7_stateWith_10 : decode cX7_stateWith 10 = .ok (.aload_n 0, 1) := by decide +kernel
theorem dX7_stateWith_11 : decode cX7_stateWith 11 = .ok (.getfield 20, 3) := by decide +kernel
theorem dX7_stateWith_14 : decode cX7_stateWith 14 = .ok (.iload_n 3, 1) := by decide +kernel
theorem dX7_stateWith_15 : decode cX7_stateWith 15 = .ok (.invokevirtual 75, 3) := by decide +kernel
theorem dX7_stateWith_18 : decode cX7_stateWith 18 = .ok (.lload_n 1, 1) := by decide +kernel
theorem dX7_stateWith_19 : decode cX7_stateWith 19 = .ok (.lcmp, 1) := by decide +kernel
theorem dX7_stateWith_20 : decode cX7_stateWith 20 = .ok (.ifCond .ne 5, 3) := by decide +kernel
theorem dX7_stateWith_23 : decode cX7_stateWith 23 = .ok (.iload_n 3, 1) := by decide +kernel
theorem dX7_stateWith_24 : decode cX7_stateWith 24 = .ok (.ireturn, 1) := by decide +kernel
theorem dX7_stateWith_25 : decode cX7_stateWith 25 = .ok (.iinc 3 1, 3) := by decide +kernel
theorem dX7_stateWith_28 : decode cX7_stateWith 28 = .ok (.goto (-26), 3) := by decide +kernel
theorem dX7_stateWith_31 : decode cX7_stateWith 31 = .ok (.aload_n 0, 1) := by decide +kernel
theorem dX7_stateWith_32 : decode cX7_stateWith 32 = .ok (.getfield 42, 3) := by decide +kernel
theorem dX7_stateWith_35 : decode cX7_stateWith 35 = .ok (.istore_n 3, 1) := by decide +kernel
theorem dX7_stateWith_36 : decode cX7_stateWith 36 = .ok (.iload_n 3, 1) := by decide +kernel
theorem dX7_stateWith_37 : decode cX7_stateWith 37 = .ok (.bipush 50, 2) := by decide +kernel
theorem dX7_stateWith_39 : decode cX7_stateWith 39 = .ok (.if_icmp .ge 8, 3) := by decide +kernel
theorem dX7_stateWith_42 : decode cX7_stateWith 42 = .ok (.aload_n 0, 1) := by decide +kernel
theorem dX7_stateWith_43 : decode cX7_stateWith 43 = .ok (.lload_n 1, 1) := by decide +kernel
theorem dX7_stateWith_44 : decode cX7_stateWith 44 = .ok (.invokevirtual 65, 3) := by decide +kernel
theorem dX7_stateWith_47 : decode cX7_stateWith 47 = .ok (.iload_n 3, 1) := by decide +kernel
theorem dX7_stateWith_48 : decode cX7_stateWith 48 = .ok (.ireturn, 1) := by decide +kernel
theorem dX7_enter_0 : decode cX7_enter 0 = .ok (.aload_n 0, 1) := by decide +kernel
theorem dX7_enter_1 : decode cX7_enter 1 = .ok (.getfield 42, 3) := by decide +kernel
theorem dX7_enter_4 : decode cX7_enter 4 = .ok (.istore_n 3, 1) := by decide +kernel
theorem dX7_enter_5 : decode cX7_enter 5 = .ok (.aload_n 0, 1) := by decide +kernel
theorem dX7_enter_6 : decode cX7_enter 6 = .ok (.getfield 20, 3) := by decide +kernel
theorem dX7_enter_9 : decode cX7_enter 9 = .ok (.iload_n 3, 1) := by decide +kernel
theorem dX7_enter_10 : decode cX7_enter 10 = .ok (.lload_n 1, 1) := by decide +kernel
theorem dX7_enter_11 : decode cX7_enter 11 = .ok (.invokevirtual 95, 3) := by decide +kernel
theorem dX7_enter_14 : decode cX7_enter 14 = .ok (.iconst 0, 1) := by decide +kernel
theorem dX7_enter_15 : decode cX7_enter 15 = .ok (.istore 4, 2) := by decide +kernel
theorem dX7_enter_17 : decode cX7_enter 17 = .ok (.iload 4, 2) := by decide +kernel
theorem dX7_enter_19 : decode cX7_enter 19 = .ok (.bipush 75, 2) := by decide +kernel
theorem dX7_enter_21 : decode cX7_enter 21 = .ok (.if_icmp .ge 38, 3) := by decide +kernel
theorem dX7_enter_24 : decode cX7_enter 24 = .ok (.aload_n 0, 1) := by decide +kernel
theorem dX7_enter_25 : decode cX7_enter 25 = .ok (.getfield 32, 3) := by decide +kernel
theorem dX7_enter_28 : decode cX7_enter 28 = .ok (.iload_n 3, 1) := by decide +kernel
theorem dX7_enter_29 : decode cX7_enter 29 = .ok (.iload 4, 2) := by decide +kernel
theorem dX7_enter_31 : decode cX7_enter 31 = .ok (.lload_n 1, 1) := by decide +kernel
theorem dX7_enter_32 : decode cX7_enter 32 = .ok (.iload 4, 2) := by decide +kernel
theorem dX7_enter_34 : decode cX7_enter 34 = .ok (.invokestatic 92, 3) := by decide +kernel
theorem dX7_enter_37 : decode cX7_enter 37 = .ok (.land, 1) := by decide +kernel
theorem dX7_enter_38 : decode cX7_enter 38 = .ok (.lconst 0, 1) := by decide +kernel
theorem dX7_enter_39 : decode cX7_enter 39 = .ok (.lcmp, 1) := by decide +kernel
theorem dX7_enter_40 : decode cX7_enter 40 = .ok (.ifCond .eq 9, 3) := by decide +kernel
theorem dX7_enter_43 : decode cX7_enter 43 = .ok (.sipush 128, 3) := by decide +kernel
theorem dX7_enter_46 : decode cX7_enter 46 = .ok (.goto 4, 3) := by decide +kernel
theorem dX7_enter_49 : decode cX7_enter 49 = .ok (.iconst 0, 1) := by decide +kernel
theorem dX7_enter_50 : decode cX7_enter 50 = .ok (.invokevirtual 82, 3) := by decide +kernel
theorem dX7_enter_53 : decode cX7_enter 53 = .ok (.iinc 4 1, 3) := by decide +kernel
theorem dX7_enter_56 : decode cX7_enter 56 = .ok (.goto (-39), 3) := by decide +kernel
theorem dX7_enter_59 : decode cX7_enter 59 = .ok (.iload_n 3, 1) := by decide +kernel
theorem dX7_enter_60 : decode cX7_enter 60 = .ok (.ifCond .ne 16, 3) := by decide +kernel
theorem dX7_enter_63 : decode cX7_enter 63 = .ok (.aload_n 0, 1) := by decide +kernel
theorem dX7_enter_64 : decode cX7_enter 64 = .ok (.getfield 32, 3) := by decide +kernel
theorem dX7_enter_67 : decode cX7_enter 67 = .ok (.iload_n 3, 1) := by decide +kernel
theorem dX7_enter_68 : decode cX7_enter 68 = .ok (.bipush 70, 2) := by decide +kernel
theorem dX7_enter_70 : decode cX7_enter 70 = .ok (.sipush 128, 3) := by decide +kernel
theorem dX7_enter_73 : decode cX7_enter 73 = .ok (.invokevirtual 82, 3) := by decide +kernel
theorem dX7_enter_76 : decode cX7_enter 76 = .ok (.aload_n 0, 1) := by decide +kernel
theorem dX7_enter_77 : decode cX7_enter 77 = .ok (.dup, 1) := by decide +kernel
theorem dX7_enter_78 : decode cX7_enter 78 = .ok (.getfield 42, 3) := by decide +kernel
theorem dX7_enter_81 : decode cX7_enter 81 = .ok (.iconst 1, 1) := by decide +kernel
theorem dX7_enter_82 : decode cX7_enter 82 = .ok (.iadd, 1) := by decide +kernel
theorem dX7_enter_83 : decode cX7_enter 83 = .ok (.putfield 42, 3) := by decide +kernel
theorem dX7_enter_86 : decode cX7_enter 86 = .ok (.return_, 1) := by decide +kernel
theorem dX7_close_0 : decode cX7_close 0 = .ok (.iconst 1, 1) := by decide +kernel
theorem dX7_close_1 : decode cX7_close 1 = .ok (.istore_n 2, 1) := by decide +kernel
theorem dX7_close_2 : decode cX7_close 2 = .ok (.iconst 0, 1) := by decide +kernel
theorem dX7_close_3 : decode cX7_close 3 = .ok (.istore_n 3, 1) := by decide +kernel
theorem dX7_close_4 : decode cX7_close 4 = .ok (.iload_n 3, 1) := by decide +kernel
theorem dX7_close_5 : decode cX7_close 5 = .ok (.ldc 98, 2) := by decide +kernel
theorem dX7_close_7 : decode cX7_close 7 = .ok (.if_icmp .ge 75, 3) := by decide +kernel
theorem dX7_close_10 : decode cX7_close 10 = .ok (.iload_n 2, 1) := by decide +kernel
theorem dX7_close_11 : decode cX7_close 11 = .ok (.ifCond .eq 71, 3) := by decide +kernel
theorem dX7_close_14 : decode cX7_close 14 = .ok (.iconst 0, 1) := by decide +kernel
theorem dX7_close_15 : decode cX7_close 15 = .ok (.istore_n 2, 1) := by decide +kernel
theorem dX7_close_16 : decode cX7_close 16 = .ok (.iconst 0, 1) := by decide +kernel
theorem dX7_close_17 : decode cX7_close 17 = .ok (.istore 4, 2) := by decide +kernel
theorem dX7_close_19 : decode cX7_close 19 = .ok (.iload 4, 2) := by decide +kernel
theorem dX7_close_21 : decode cX7_close 21 = .ok (.bipush 75, 2) := by decide +kernel
theorem dX7_close_23 : decode cX7_close 23 = .ok (.if_icmp .ge 53, 3) := by decide +kernel
theorem dX7_close_26 : decode cX7_close 26 = .ok (.aload_n 0, 1) := by decide +kernel
theorem dX7_close_27 : decode cX7_close 27 = .ok (.getfield 32, 3) := by decide +kernel
theorem dX7_close_30 : decode cX7_close 30 = .ok (.iload_n 1, 1) := by decide +kernel
theorem dX7_close_31 : decode cX7_close 31 = .ok (.iload 4, 2) := by decide +kernel
theorem dX7_close_33 : decode cX7_close 33 = .ok (.invokevirtual 49, 3) := by decide +kernel
theorem dX7_close_36 : decode cX7_close 36 = .ok (.ifCond .eq 7, 3) := by decide +kernel
theorem dX7_close_39 : decode cX7_close 39 = .ok (.iconst 1, 1) := by decide +kernel
theorem dX7_close_40 : decode cX7_close 40 = .ok (.goto 4, 3) := by decide +kernel
theorem dX7_close_43 : decode cX7_close 43 = .ok (.iconst 0, 1) := by decide +kernel
theorem dX7_close_44 : decode cX7_close 44 = .ok (.istore 5, 2) := by decide +kernel
theorem dX7_close_46 : decode cX7_close 46 = .ok (.iload 5, 2) := by decide +kernel
theorem dX7_close_48 : decode cX7_close 48 = .ok (.ifCond .eq 22, 3) := by decide +kernel
theorem dX7_close_51 : decode cX7_close 51 = .ok (.aload_n 0, 1) := by decide +kernel
theorem dX7_close_52 : decode cX7_close 52 = .ok (.aload_n 0, 1) := by decide +kernel
theorem dX7_close_53 : decode cX7_close 53 = .ok (.iload 4, 2) := by decide +kernel
theorem dX7_close_55 : decode cX7_close 55 = .ok (.invokevirtual 89, 3) := by decide +kernel
theorem dX7_close_58 : decode cX7_close 58 = .ok (.iload_n 1, 1) := by decide +kernel
theorem dX7_close_59 : decode cX7_close 59 = .ok (.sipush 128, 3) := by decide +kernel
theorem dX7_close_62 : decode cX7_close 62 = .ok (.invokevirtual 99, 3) := by decide +kernel
theorem dX7_close_65 : decode cX7_close 65 = .ok (.ifCond .eq 5, 3) := by decide +kernel
theorem dX7_close_68 : decode cX7_close 68 = .ok (.iconst 1, 1) := by decide +kernel
theorem dX7_close_69 : decode cX7_close 69 = .ok (.istore_n 2, 1) := by decide +kernel
theorem dX7_close_70 : decode cX7_close 70 = .ok (.iinc 4 1, 3) := by decide +kernel
theorem dX7_close_73 : decode cX7_close 73 = .ok (.goto (-54), 3) := by decide +kernel
theorem dX7_close_76 : decode cX7_close 76 = .ok (.iinc 3 1, 3) := by decide +kernel
theorem dX7_close_79 : decode cX7_close 79 = .ok (.goto (-75), 3) := by decide +kernel
theorem dX7_close_82 : decode cX7_close 82 = .ok (.return_, 1) := by decide +kernel
theorem dX7_giveToRulesOf_0 : decode cX7_giveToRulesOf 0 = .ok (.iconst 0, 1) := by decide +kernel
theorem dX7_giveToRulesOf_1 : decode cX7_giveToRulesOf 1 = .ok (.istore 4, 2) := by decide +kernel
theorem dX7_giveToRulesOf_3 : decode cX7_giveToRulesOf 3 = .ok (.iconst 0, 1) := by decide +kernel
theorem dX7_giveToRulesOf_4 : decode cX7_giveToRulesOf 4 = .ok (.istore 5, 2) := by decide +kernel
theorem dX7_giveToRulesOf_6 : decode cX7_giveToRulesOf 6 = .ok (.iload 5, 2) := by decide +kernel
theorem dX7_giveToRulesOf_8 : decode cX7_giveToRulesOf 8 = .ok (.aload_n 0, 1) := by decide +kernel
theorem dX7_giveToRulesOf_9 : decode cX7_giveToRulesOf 9 = .ok (.getfield 9, 3) := by decide +kernel
theorem dX7_giveToRulesOf_12 : decode cX7_giveToRulesOf 12 = .ok (.invokevirtual 103, 3) := by decide +kernel
theorem dX7_giveToRulesOf_15 : decode cX7_giveToRulesOf 15 = .ok (.if_icmp .ge 38, 3) := by decide +kernel
theorem dX7_giveToRulesOf_18 : decode cX7_giveToRulesOf 18 = .ok (.aload_n 0, 1) := by decide +kernel
theorem dX7_giveToRulesOf_19 : decode cX7_giveToRulesOf 19 = .ok (.getfield 9, 3) := by decide +kernel
theorem dX7_giveToRulesOf_22 : decode cX7_giveToRulesOf 22 = .ok (.iload 5, 2) := by decide +kernel
theorem dX7_giveToRulesOf_24 : decode cX7_giveToRulesOf 24 = .ok (.invokevirtual 106, 3) := by decide +kernel
theorem dX7_giveToRulesOf_27 : decode cX7_giveToRulesOf 27 = .ok (.iload_n 1, 1) := by decide +kernel
theorem dX7_giveToRulesOf_28 : decode cX7_giveToRulesOf 28 = .ok (.if_icmp .ne 19, 3) := by decide +kernel
theorem dX7_giveToRulesOf_31 : decode cX7_giveToRulesOf 31 = .ok (.aload_n 0, 1) := by decide +kernel
theorem dX7_giveToRulesOf_32 : decode cX7_giveToRulesOf 32 = .ok (.iload_n 2, 1) := by decide +kernel
theorem dX7_giveToRulesOf_33 : decode cX7_giveToRulesOf 33 = .ok (.iload 5, 2) := by decide +kernel
theorem dX7_giveToRulesOf_35 : decode cX7_giveToRulesOf 35 = .ok (.iconst 5, 1) := by decide +kernel
theorem dX7_giveToRulesOf_36 : decode cX7_giveToRulesOf 36 = .ok (.imul, 1) := by decide +kernel
theorem dX7_giveToRulesOf_37 : decode cX7_giveToRulesOf 37 = .ok (.iload_n 3, 1) := by decide +kernel
theorem dX7_giveToRulesOf_38 : decode cX7_giveToRulesOf 38 = .ok (.invokevirtual 109, 3) := by decide +kernel
theorem dX7_giveToRulesOf_41 : decode cX7_giveToRulesOf 41 = .ok (.ifCond .eq 6, 3) := by decide +kernel
theorem dX7_giveToRulesOf_44 : decode cX7_giveToRulesOf 44 = .ok (.iconst 1, 1) := by decide +kernel
theorem dX7_giveToRulesOf_45 : decode cX7_giveToRulesOf 45 = .ok (.istore 4, 2) := by decide +kernel
theorem dX7_giveToRulesOf_47 : decode cX7_giveToRulesOf 47 = .ok (.iinc 5 1, 3) := by decide +kernel
theorem dX7_giveToRulesOf_50 : decode cX7_giveToRulesOf 50 = .ok (.goto (-44), 3) := by decide +kernel
theorem dX7_giveToRulesOf_53 : decode cX7_giveToRulesOf 53 = .ok (.iload 4, 2) := by decide +kernel
theorem dX7_giveToRulesOf_55 : decode cX7_giveToRulesOf 55 = .ok (.ireturn, 1) := by decide +kernel
theorem dX7_give_0 : decode cX7_give 0 = .ok (.aload_n 0, 1) := by decide +kernel
theorem dX7_give_1 : decode cX7_give 1 = .ok (.getfield 32, 3) := by decide +kernel
theorem dX7_give_4 : decode cX7_give 4 = .ok (.iload_n 1, 1) := by decide +kernel
theorem dX7_give_5 : decode cX7_give 5 = .ok (.iload_n 2, 1) := by decide +kernel
theorem dX7_give_6 : decode cX7_give 6 = .ok (.invokevirtual 49, 3) := by decide +kernel
theorem dX7_give_9 : decode cX7_give 9 = .ok (.istore 4, 2) := by decide +kernel
theorem dX7_give_11 : decode cX7_give 11 = .ok (.aload_n 0, 1) := by decide +kernel
theorem dX7_give_12 : decode cX7_give 12 = .ok (.getfield 32, 3) := by decide +kernel
theorem dX7_give_15 : decode cX7_give 15 = .ok (.iload_n 1, 1) := by decide +kernel
theorem dX7_give_16 : decode cX7_give 16 = .ok (.iload_n 2, 1) := by decide +kernel
theorem dX7_give_17 : decode cX7_give 17 = .ok (.iload 4, 2) := by decide +kernel
theorem dX7_give_19 : decode cX7_give 19 = .ok (.iload_n 3, 1) := by decide +kernel
theorem dX7_give_20 : decode cX7_give 20 = .ok (.ior, 1) := by decide +kernel
theorem dX7_give_21 : decode cX7_give 21 = .ok (.invokevirtual 82, 3) := by decide +kernel
theorem dX7_give_24 : decode cX7_give 24 = .ok (.iload 4, 2) := by decide +kernel
theorem dX7_give_26 : decode cX7_give 26 = .ok (.iload_n 3, 1) := by decide +kernel
theorem dX7_give_27 : decode cX7_give 27 = .ok (.ior, 1) := by decide +kernel
theorem dX7_give_28 : decode cX7_give 28 = .ok (.iload 4, 2) := by decide +kernel
theorem dX7_give_30 : decode cX7_give 30 = .ok (.if_icmp .eq 7, 3) := by decide +kernel
theorem dX7_give_33 : decode cX7_give 33 = .ok (.iconst 1, 1) := by decide +kernel
theorem dX7_give_34 : decode cX7_give 34 = .ok (.goto 4, 3) := by decide +kernel
theorem dX7_give_37 : decode cX7_give 37 = .ok (.iconst 0, 1) := by decide +kernel
theorem dX7_give_38 : decode cX7_give 38 = .ok (.ireturn, 1) := by decide +kernel
theorem dX7_spreadLookaheads_0 : decode cX7_spreadLookaheads 0 = .ok (.aload_n 0, 1) := by decide +kernel
theorem dX7_spreadLookaheads_1 : decode cX7_spreadLookaheads 1 = .ok (.iconst 0, 1) := by decide +kernel
theorem dX7_spreadLookaheads_2 : decode cX7_spreadLookaheads 2 = .ok (.bipush 70, 2) := by decide +kernel
theorem dX7_spreadLookaheads_4 : decode cX7_spreadLookaheads 4 = .ok (.iconst 1, 1) := by decide +kernel
theorem dX7_spreadLookaheads_5 : decode cX7_spreadLookaheads 5 = .ok (.invokevirtual 109, 3) := by decide +kernel
theorem dX7_spreadLookaheads_8 : decode cX7_spreadLookaheads 8 = .ok (.pop, 1) := by decide +kernel
theorem dX7_spreadLookaheads_9 : decode cX7_spreadLookaheads 9 = .ok (.iconst 1, 1) := by decide +kernel
theorem dX7_spreadLookaheads_10 : decode cX7_spreadLookaheads 10 = .ok (.istore_n 1, 1) := by decide +kernel
theorem dX7_spreadLookaheads_11 : decode cX7_spreadLookaheads 11 = .ok (.iconst 0, 1) := by decide +kernel
theorem dX7_spreadLookaheads_12 : decode cX7_spreadLookaheads 12 = .ok (.istore_n 2, 1) := by decide +kernel
theorem dX7_spreadLookaheads_13 : decode cX7_spreadLookaheads 13 = .ok (.iload_n 2, 1) := by decide +kernel
theorem dX7_spreadLookaheads_14 : decode cX7_spreadLookaheads 14 = .ok (.ldc 98, 2) := by decide +kernel
theorem dX7_spreadLookaheads_16 : decode cX7_spreadLookaheads 16 = .ok (.if_icmp .ge 72, 3) := by decide +kernel
theorem dX7_spreadLookaheads_19 : decode cX7_spreadLookaheads 19 = .ok (.iload_n 1, 1) := by decide +kernel
theorem dX7_spreadLookaheads_20 : decode cX7_spreadLookaheads 20 = .ok (.ifCond .eq 68, 3) := by decide +kernel
theorem dX7_spreadLookaheads_23 : decode cX7_spreadLookaheads 23 = .ok (.iconst 0, 1) := by decide +kernel
theorem dX7_spreadLookaheads_24 : decode cX7_spreadLookaheads 24 = .ok (.istore_n 1, 1) := by decide +kernel
theorem dX7_spreadLookaheads_25 : decode cX7_spreadLookaheads 25 = .ok (.iconst 0, 1) := by decide +kernel
theorem dX7_spreadLookaheads_26 : decode cX7_spreadLookaheads 26 = .ok (.istore_n 3, 1) := by decide +kernel
theorem dX7_spreadLookaheads_27 : decode cX7_spreadLookaheads 27 = .ok (.iload_n 3, 1) := by decide +kernel
theorem dX7_spreadLookaheads_28 : decode cX7_spreadLookaheads 28 = .ok (.aload_n 0, 1) := by decide +kernel
theorem dX7_spreadLookaheads_29 : decode cX7_spreadLookaheads 29 = .ok (.getfield 42, 3) := by decide +kernel
theorem dX7_spreadLookaheads_32 : decode cX7_spreadLookaheads 32 = .ok (.if_icmp .ge 50, 3) := by decide +kernel
theorem dX7_spreadLookaheads_35 : decode cX7_spreadLookaheads 35 = .ok (.iconst 0, 1) := by decide +kernel
theorem dX7_spreadLookaheads_36 : decode cX7_spreadLookaheads 36 = .ok (.istore 4, 2) := by decide +kernel
theorem dX7_spreadLookaheads_38 : decode cX7_spreadLookaheads 38 = .ok (.iload 4, 2) := by decide +kernel
theorem dX7_spreadLookaheads_40 : decode cX7_spreadLookaheads 40 = .ok (.bipush 75, 2) := by decide +kernel
theorem dX7_spreadLookaheads_42 : decode cX7_spreadLookaheads 42 = .ok (.if_icmp .ge 34, 3) := by decide +kernel
theorem dX7_spreadLookaheads_45 : decode cX7_spreadLookaheads 45 = .ok (.aload_n 0, 1) := by decide +kernel
theorem dX7_spreadLookaheads_46 : decode cX7_spreadLookaheads 46 = .ok (.getfield 32, 3) := by decide +kernel
theorem dX7_spreadLookaheads_49 : decode cX7_spreadLookaheads 49 = .ok (.iload_n 3, 1) := by decide +kernel
theorem dX7_spreadLookaheads_50 : decode cX7_spreadLookaheads 50 = .ok (.iload 4, 2) := by decide +kernel
theorem dX7_spreadLookaheads_52 : decode cX7_spreadLookaheads 52 = .ok (.invokevirtual 49, 3) := by decide +kernel
theorem dX7_spreadLookaheads_55 : decode cX7_spreadLookaheads 55 = .ok (.ifCond .eq 15, 3) := by decide +kernel
theorem dX7_spreadLookaheads_58 : decode cX7_spreadLookaheads 58 = .ok (.aload_n 0, 1) := by decide +kernel
theorem dX7_spreadLookaheads_59 : decode cX7_spreadLookaheads 59 = .ok (.iload_n 3, 1) := by decide +kernel
theorem dX7_spreadLookaheads_60 : decode cX7_spreadLookaheads 60 = .ok (.iload 4, 2) := by decide +kernel
theorem dX7_spreadLookaheads_62 : decode cX7_spreadLookaheads 62 = .ok (.invokevirtual 112, 3) := by decide +kernel
theorem dX7_spreadLookaheads_65 : decode cX7_spreadLookaheads 65 = .ok (.ifCond .eq 5, 3) := by decide +kernel
theorem dX7_spreadLookaheads_68 : decode cX7_spreadLookaheads 68 = .ok (.iconst 1, 1) := by decide +kernel
theorem dX7_spreadLookaheads_69 : decode cX7_spreadLookaheads 69 = .ok (.istore_n 1, 1) := by decide +kernel
theorem dX7_spreadLookaheads_70 : decode cX7_spreadLookaheads 70 = .ok (.iinc 4 1, 3) := by decide +kernel
theorem dX7_spreadLookaheads_73 : decode cX7_spreadLookaheads 73 = .ok (.goto (-35), 3) := by decide +kernel
theorem dX7_spreadLookaheads_76 : decode cX7_spreadLookaheads 76 = .ok (.iinc 3 1, 3) := by decide +kernel
theorem dX7_spreadLookaheads_79 : decode cX7_spreadLookaheads 79 = .ok (.goto (-52), 3) := by decide +kernel
theorem dX7_spreadLookaheads_82 : decode cX7_spreadLookaheads 82 = .ok (.iinc 2 1, 3) := by decide +kernel
theorem dX7_spreadLookaheads_85 : decode cX7_spreadLookaheads 85 = .ok (.goto (-72), 3) := by decide +kernel
theorem dX7_spreadLookaheads_88 : decode cX7_spreadLookaheads 88 = .ok (.return_, 1) := by decide +kernel
theorem dX7_spreadFrom_0 : decode cX7_spreadFrom 0 = .ok (.aload_n 0, 1) := by decide +kernel
theorem dX7_spreadFrom_1 : decode cX7_spreadFrom 1 = .ok (.iload_n 2, 1) := by decide +kernel
theorem dX7_spreadFrom_2 : decode cX7_spreadFrom 2 = .ok (.invokevirtual 89, 3) := by decide +kernel
theorem dX7_spreadFrom_5 : decode cX7_spreadFrom 5 = .ok (.istore_n 3, 1) := by decide +kernel
theorem dX7_spreadFrom_6 : decode cX7_spreadFrom 6 = .ok (.iload_n 3, 1) := by decide +kernel
theorem dX7_spreadFrom_7 : decode cX7_spreadFrom 7 = .ok (.ifCond .ne 5, 3) := by decide +kernel
theorem dX7_spreadFrom_10 : decode cX7_spreadFrom 10 = .ok (.iconst 0, 1) := by decide +kernel
theorem dX7_spreadFrom_11 : decode cX7_spreadFrom 11 = .ok (.ireturn, 1) := by decide +kernel
theorem dX7_spreadFrom_12 : decode cX7_spreadFrom 12 = .ok (.aload_n 0, 1) := by decide +kernel
theorem dX7_spreadFrom_13 : decode cX7_spreadFrom 13 = .ok (.getfield 32, 3) := by decide +kernel
theorem dX7_spreadFrom_16 : decode cX7_spreadFrom 16 = .ok (.iload_n 1, 1) := by decide +kernel
theorem dX7_spreadFrom_17 : decode cX7_spreadFrom 17 = .ok (.iload_n 2, 1) := by decide +kernel
theorem dX7_spreadFrom_18 : decode cX7_spreadFrom 18 = .ok (.invokevirtual 49, 3) := by decide +kernel
theorem dX7_spreadFrom_21 : decode cX7_spreadFrom 21 = .ok (.bipush 127, 2) := by decide +kernel
theorem dX7_spreadFrom_23 : decode cX7_spreadFrom 23 = .ok (.iand, 1) := by decide +kernel
theorem dX7_spreadFrom_24 : decode cX7_spreadFrom 24 = .ok (.istore 4, 2) := by decide +kernel
theorem dX7_spreadFrom_26 : decode cX7_spreadFrom 26 = .ok (.aload_n 0, 1) := by decide +kernel
theorem dX7_spreadFrom_27 : decode cX7_spreadFrom 27 = .ok (.aload_n 0, 1) := by decide +kernel
theorem dX7_spreadFrom_28 : decode cX7_spreadFrom 28 = .ok (.iload_n 1, 1) := by decide +kernel
theorem dX7_spreadFrom_29 : decode cX7_spreadFrom 29 = .ok (.iload_n 3, 1) := by decide +kernel
theorem dX7_spreadFrom_30 : decode cX7_spreadFrom 30 = .ok (.invokevirtual 116, 3) := by decide +kernel
theorem dX7_spreadFrom_33 : decode cX7_spreadFrom 33 = .ok (.iload_n 2, 1) := by decide +kernel
theorem dX7_spreadFrom_34 : decode cX7_spreadFrom 34 = .ok (.iconst 1, 1) := by decide +kernel
theorem dX7_spreadFrom_35 : decode cX7_spreadFrom 35 = .ok (.iadd, 1) := by decide +kernel
theorem dX7_spreadFrom_36 : decode cX7_spreadFrom 36 = .ok (.iload 4, 2) := by decide +kernel
theorem dX7_spreadFrom_38 : decode cX7_spreadFrom 38 = .ok (.invokevirtual 109, 3) := by decide +kernel
theorem dX7_spreadFrom_41 : decode cX7_spreadFrom 41 = .ok (.istore 5, 2) := by decide +kernel
theorem dX7_spreadFrom_43 : decode cX7_spreadFrom 43 = .ok (.iload_n 3, 1) := by decide +kernel
theorem dX7_spreadFrom_44 : decode cX7_spreadFrom 44 = .ok (.invokestatic 119, 3) := by decide +kernel
theorem dX7_spreadFrom_47 : decode cX7_spreadFrom 47 = .ok (.ifCond .eq 56, 3) := by decide +kernel
theorem dX7_spreadFrom_50 : decode cX7_spreadFrom 50 = .ok (.aload_n 0, 1) := by decide +kernel
theorem dX7_spreadFrom_51 : decode cX7_spreadFrom 51 = .ok (.getfield 9, 3) := by decide +kernel
theorem dX7_spreadFrom_54 : decode cX7_spreadFrom 54 = .ok (.iload_n 2, 1) := by decide +kernel
theorem dX7_spreadFrom_55 : decode cX7_spreadFrom 55 = .ok (.iconst 5, 1) := by decide +kernel
theorem dX7_spreadFrom_56 : decode cX7_spreadFrom 56 = .ok (.idiv, 1) := by decide +kernel
theorem dX7_spreadFrom_57 : decode cX7_spreadFrom 57 = .ok (.iload_n 2, 1) := by decide +kernel
theorem dX7_spreadFrom_58 : decode cX7_spreadFrom 58 = .ok (.iconst 5, 1) := by decide +kernel
theorem dX7_spreadFrom_59 : decode cX7_spreadFrom 59 = .ok (.irem, 1) := by decide +kernel
theorem dX7_spreadFrom_60 : decode cX7_spreadFrom 60 = .ok (.iconst 2, 1) := by decide +kernel
theorem dX7_spreadFrom_61 : decode cX7_spreadFrom 61 = .ok (.iadd, 1) := by decide +kernel
theorem dX7_spreadFrom_62 : decode cX7_spreadFrom 62 = .ok (.invokevirtual 123, 3) := by decide +kernel
theorem dX7_spreadFrom_65 : decode cX7_spreadFrom 65 = .ok (.istore 6, 2) := by decide +kernel
theorem dX7_spreadFrom_67 : decode cX7_spreadFrom 67 = .ok (.iload 6, 2) := by decide +kernel
theorem dX7_spreadFrom_69 : decode cX7_spreadFrom 69 = .ok (.iconst 1, 1) := by decide +kernel
theorem dX7_spreadFrom_70 : decode cX7_spreadFrom 70 = .ok (.iand, 1) := by decide +kernel
theorem dX7_spreadFrom_71 : decode cX7_spreadFrom 71 = .ok (.ifCond .eq 14, 3) := by decide +kernel
theorem dX7_spreadFrom_74 : decode cX7_spreadFrom 74 = .ok (.iload 6, 2) := by decide +kernel
theorem dX7_spreadFrom_76 : decode cX7_spreadFrom 76 = .ok (.bipush (-2), 2) := by decide +kernel
theorem dX7_spreadFrom_78 : decode cX7_spreadFrom 78 = .ok (.iand, 1) := by decide +kernel
theorem dX7_spreadFrom_79 : decode cX7_spreadFrom 79 = .ok (.iload 4, 2) := by decide +kernel
theorem dX7_spreadFrom_81 : decode cX7_spreadFrom 81 = .ok (.ior, 1) := by decide +kernel
theorem dX7_spreadFrom_82 : decode cX7_spreadFrom 82 = .ok (.goto 5, 3) := by decide +kernel
theorem dX7_spreadFrom_85 : decode cX7_spreadFrom 85 = .ok (.iload 6, 2) := by decide +kernel
theorem dX7_spreadFrom_87 : decode cX7_spreadFrom 87 = .ok (.istore 7, 2) := by decide +kernel
theorem dX7_spreadFrom_89 : decode cX7_spreadFrom 89 = .ok (.aload_n 0, 1) := by decide +kernel
theorem dX7_spreadFrom_90 : decode cX7_spreadFrom 90 = .ok (.iload_n 3, 1) := by decide +kernel
theorem dX7_spreadFrom_91 : decode cX7_spreadFrom 91 = .ok (.iload_n 1, 1) := by decide +kernel
theorem dX7_spreadFrom_92 : decode cX7_spreadFrom 92 = .ok (.iload 7, 2) := by decide +kernel
theorem dX7_spreadFrom_94 : decode cX7_spreadFrom 94 = .ok (.invokevirtual 99, 3) := by decide +kernel
theorem dX7_spreadFrom_97 : decode cX7_spreadFrom 97 = .ok (.ifCond .eq 6, 3) := by decide +kernel
theorem dX7_spreadFrom_100 : decode cX7_spreadFrom 100 = .ok (.iconst 1, 1) := by decide +kernel
theorem dX7_spreadFrom_101 : decode cX7_spreadFrom 101 = .ok (.istore 5, 2) := by decide +kernel
theorem dX7_spreadFrom_103 : decode cX7_spreadFrom 103 = .ok (.iload 5, 2) := by decide +kernel
theorem dX7_spreadFrom_105 : decode cX7_spreadFrom 105 = .ok (.ireturn, 1) := by decide +kernel
theorem dX7_decideAll_0 : decode cX7_decideAll 0 = .ok (.aload_n 0, 1) := by decide +kernel
theorem dX7_decideAll_1 : decode cX7_decideAll 1 = .ok (.iconst 0, 1) := by decide +kernel
theorem dX7_decideAll_2 : decode cX7_decideAll 2 = .ok (.putfield 46, 3) := by decide +kernel
theorem dX7_decideAll_5 : decode cX7_decideAll 5 = .ok (.iconst 0, 1) := by decide +kernel
theorem dX7_decideAll_6 : decode cX7_decideAll 6 = .ok (.istore_n 1, 1) := by decide +kernel
theorem dX7_decideAll_7 : decode cX7_decideAll 7 = .ok (.iload_n 1, 1) := by decide +kernel
theorem dX7_decideAll_8 : decode cX7_decideAll 8 = .ok (.aload_n 0, 1) := by decide +kernel
theorem dX7_decideAll_9 : decode cX7_decideAll 9 = .ok (.getfield 42, 3) := by decide +kernel
theorem dX7_decideAll_12 : decode cX7_decideAll 12 = .ok (.if_icmp .ge 57, 3) := by decide +kernel
theorem dX7_decideAll_15 : decode cX7_decideAll 15 = .ok (.iconst 0, 1) := by decide +kernel
theorem dX7_decideAll_16 : decode cX7_decideAll 16 = .ok (.istore_n 2, 1) := by decide +kernel
theorem dX7_decideAll_17 : decode cX7_decideAll 17 = .ok (.iload_n 2, 1) := by decide +kernel
theorem dX7_decideAll_18 : decode cX7_decideAll 18 = .ok (.bipush 6, 2) := by decide +kernel
theorem dX7_decideAll_20 : decode cX7_decideAll 20 = .ok (.if_icmp .gt 43, 3) := by decide +kernel
theorem dX7_decideAll_23 : decode cX7_decideAll 23 = .ok (.aload_n 0, 1) := by decide +kernel
theorem dX7_decideAll_24 : decode cX7_decideAll 24 = .ok (.iload_n 1, 1) := by decide +kernel
theorem dX7_decideAll_25 : decode cX7_decideAll 25 = .ok (.iload_n 2, 1) := by decide +kernel
theorem dX7_decideAll_26 : decode cX7_decideAll 26 = .ok (.invokevirtual 126, 3) := by decide +kernel
theorem dX7_decideAll_29 : decode cX7_decideAll 29 = .ok (.istore_n 3, 1) := by decide +kernel
theorem dX7_decideAll_30 : decode cX7_decideAll 30 = .ok (.aload_n 0, 1) := by decide +kernel
theorem dX7_decideAll_31 : decode cX7_decideAll 31 = .ok (.getfield 39, 3) := by decide +kernel
theorem dX7_decideAll_34 : decode cX7_decideAll 34 = .ok (.iload_n 1, 1) := by decide +kernel
theorem dX7_decideAll_35 : decode cX7_decideAll 35 = .ok (.iload_n 2, 1) := by decide +kernel
theorem dX7_decideAll_36 : decode cX7_decideAll 36 = .ok (.iload_n 3, 1) := by decide +kernel
theorem dX7_decideAll_37 : decode cX7_decideAll 37 = .ok (.invokevirtual 82, 3) := by decide +kernel
theorem dX7_decideAll_40 : decode cX7_decideAll 40 = .ok (.iload_n 3, 1) := by decide +kernel
theorem dX7_decideAll_41 : decode cX7_decideAll 41 = .ok (.sipush 1001, 3) := by decide +kernel
theorem dX7_decideAll_44 : decode cX7_decideAll 44 = .ok (.if_icmp .ne 13, 3) := by decide +kernel
theorem dX7_decideAll_47 : decode cX7_decideAll 47 = .ok (.aload_n 0, 1) := by decide +kernel
theorem dX7_decideAll_48 : decode cX7_decideAll 48 = .ok (.dup, 1) := by decide +kernel
theorem dX7_decideAll_49 : decode cX7_decideAll 49 = .ok (.getfield 46, 3) := by decide +kernel
theorem dX7_decideAll_52 : decode cX7_decideAll 52 = .ok (.iconst 1, 1) := by decide +kernel
theorem dX7_decideAll_53 : decode cX7_decideAll 53 = .ok (.iadd, 1) := by decide +kernel
theorem dX7_decideAll_54 : decode cX7_decideAll 54 = .ok (.putfield 46, 3) := by decide +kernel
theorem dX7_decideAll_57 : decode cX7_decideAll 57 = .ok (.iinc 2 1, 3) := by decide +kernel
theorem dX7_decideAll_60 : decode cX7_decideAll 60 = .ok (.goto (-43), 3) := by decide +kernel
theorem dX7_decideAll_63 : decode cX7_decideAll 63 = .ok (.iinc 1 1, 3) := by decide +kernel
theorem dX7_decideAll_66 : decode cX7_decideAll 66 = .ok (.goto (-59), 3) := by decide +kernel
theorem dX7_decideAll_69 : decode cX7_decideAll 69 = .ok (.return_, 1) := by decide +kernel
theorem dX7_decide_0 : decode cX7_decide 0 = .ok (.aload_n 0, 1) := by decide +kernel
theorem dX7_decide_1 : decode cX7_decide 1 = .ok (.iload_n 1, 1) := by decide +kernel
theorem dX7_decide_2 : decode cX7_decide 2 = .ok (.iload_n 2, 1) := by decide +kernel
theorem dX7_decide_3 : decode cX7_decide 3 = .ok (.invokevirtual 116, 3) := by decide +kernel
theorem dX7_decide_6 : decode cX7_decide 6 = .ok (.istore_n 3, 1) := by decide +kernel
theorem dX7_decide_7 : decode cX7_decide 7 = .ok (.iconst 0, 1) := by decide +kernel
theorem dX7_decide_8 : decode cX7_decide 8 = .ok (.istore 4, 2) := by decide +kernel
theorem dX7_decide_10 : decode cX7_decide 10 = .ok (.iconst 0, 1) := by decide +kernel
theorem dX7_decide_11 : decode cX7_decide 11 = .ok (.istore 5, 2) := by decide +kernel
theorem dX7_decide_13 : decode cX7_decide 13 = .ok (.iconst 0, 1) := by decide +kernel
theorem dX7_decide_14 : decode cX7_decide 14 = .ok (.istore 6, 2) := by decide +kernel
theorem dX7_decide_16 : decode cX7_decide 16 = .ok (.iload 6, 2) := by decide +kernel
theorem dX7_decide_18 : decode cX7_decide 18 = .ok (.bipush 14, 2) := by decide +kernel
theorem dX7_decide_20 : decode cX7_decide 20 = .ok (.if_icmp .gt 30, 3) := by decide +kernel
theorem dX7_decide_23 : decode cX7_decide 23 = .ok (.aload_n 0, 1) := by decide +kernel
theorem dX7_decide_24 : decode cX7_decide 24 = .ok (.iload_n 1, 1) := by decide +kernel
theorem dX7_decide_25 : decode cX7_decide 25 = .ok (.iload 6, 2) := by decide +kernel
theorem dX7_decide_27 : decode cX7_decide 27 = .ok (.invokevirtual 129, 3) := by decide +kernel
theorem dX7_decide_30 : decode cX7_decide 30 = .ok (.iload_n 2, 1) := by decide +kernel
theorem dX7_decide_31 : decode cX7_decide 31 = .ok (.ishr, 1) := by decide +kernel
theorem dX7_decide_32 : decode cX7_decide 32 = .ok (.iconst 1, 1) := by decide +kernel
theorem dX7_decide_33 : decode cX7_decide 33 = .ok (.iand, 1) := by decide +kernel
theorem dX7_decide_34 : decode cX7_decide 34 = .ok (.ifCond .eq 10, 3) := by decide +kernel
theorem dX7_decide_37 : decode cX7_decide 37 = .ok (.iinc 4 1, 3) := by decide +kernel
theorem dX7_decide_40 : decode cX7_decide 40 = .ok (.iload 6, 2) := by decide +kernel
theorem dX7_decide_42 : decode cX7_decide 42 = .ok (.istore 5, 2) := by decide +kernel
theorem dX7_decide_44 : decode cX7_decide 44 = .ok (.iinc 6 1, 3) := by decide +kernel
theorem dX7_decide_47 : decode cX7_decide 47 = .ok (.goto (-31), 3) := by decide +kernel
theorem dX7_decide_50 : decode cX7_decide 50 = .ok (.iload 4, 2) := by decide +kernel
theorem dX7_decide_52 : decode cX7_decide 52 = .ok (.ifCond .ne 13, 3) := by decide +kernel
theorem dX7_decide_55 : decode cX7_decide 55 = .ok (.iload_n 3, 1) := by decide +kernel
theorem dX7_decide_56 : decode cX7_decide 56 = .ok (.ifCond .ne 7, 3) := by decide +kernel
theorem dX7_decide_59 : decode cX7_decide 59 = .ok (.iconst 0, 1) := by decide +kernel
theorem dX7_decide_60 : decode cX7_decide 60 = .ok (.goto 4, 3) := by decide +kernel
theorem dX7_decide_63 : decode cX7_decide 63 = .ok (.iload_n 3, 1) := by decide +kernel
theorem dX7_decide_64 : decode cX7_decide 64 = .ok (.ireturn, 1) := by decide +kernel
theorem dX7_decide_65 : decode cX7_decide 65 = .ok (.iload 4, 2) := by decide +kernel
theorem dX7_decide_67 : decode cX7_decide 67 = .ok (.iconst 1, 1) := by decide +kernel
theorem dX7_decide_68 : decode cX7_decide 68 = .ok (.if_icmp .le 7, 3) := by decide +kernel
theorem dX7_decide_71 : decode cX7_decide 71 = .ok (.sipush 1001, 3) := by decide +kernel
theorem dX7_decide_74 : decode cX7_decide 74 = .ok (.ireturn, 1) := by decide +kernel
theorem dX7_decide_75 : decode cX7_decide 75 = .ok (.iload 5, 2) := by decide +kernel
theorem dX7_decide_77 : decode cX7_decide 77 = .ok (.bipush 14, 2) := by decide +kernel
theorem dX7_decide_79 : decode cX7_decide 79 = .ok (.if_icmp .ne 9, 3) := by decide +kernel
theorem dX7_decide_82 : decode cX7_decide 82 = .ok (.sipush 1000, 3) := by decide +kernel
theorem dX7_decide_85 : decode cX7_decide 85 = .ok (.goto 7, 3) := by decide +kernel
theorem dX7_decide_88 : decode cX7_decide 88 = .ok (.iconst (-1), 1) := by decide +kernel
theorem dX7_decide_89 : decode cX7_decide 89 = .ok (.iload 5, 2) := by decide +kernel
theorem dX7_decide_91 : decode cX7_decide 91 = .ok (.isub, 1) := by decide +kernel
theorem dX7_decide_92 : decode cX7_decide 92 = .ok (.istore 6, 2) := by decide +kernel
theorem dX7_decide_94 : decode cX7_decide 94 = .ok (.iload_n 3, 1) := by decide +kernel
theorem dX7_decide_95 : decode cX7_decide 95 = .ok (.ifCond .ne 8, 3) := by decide +kernel
theorem dX7_decide_98 : decode cX7_decide 98 = .ok (.iload 6, 2) := by decide +kernel
theorem dX7_decide_100 : decode cX7_decide 100 = .ok (.goto 13, 3) := by decide +kernel
theorem dX7_decide_103 : decode cX7_decide 103 = .ok (.aload_n 0, 1) := by decide +kernel
theorem dX7_decide_104 : decode cX7_decide 104 = .ok (.iload 5, 2) := by decide +kernel
theorem dX7_decide_106 : decode cX7_decide 106 = .ok (.iload_n 2, 1) := by decide +kernel
theorem dX7_decide_107 : decode cX7_decide 107 = .ok (.iload_n 3, 1) := by decide +kernel
theorem dX7_decide_108 : decode cX7_decide 108 = .ok (.iload 6, 2) := by decide +kernel
theorem dX7_decide_110 : decode cX7_decide 110 = .ok (.invokevirtual 132, 3) := by decide +kernel
theorem dX7_decide_113 : decode cX7_decide 113 = .ok (.ireturn, 1) := by decide +kernel
theorem dX7_weigh_0 : decode cX7_weigh 0 = .ok (.aload_n 0, 1) := by decide +kernel
theorem dX7_weigh_1 : decode cX7_weigh 1 = .ok (.getfield 9, 3) := by decide +kernel
theorem dX7_weigh_4 : decode cX7_weigh 4 = .ok (.iload_n 1, 1) := by decide +kernel
theorem dX7_weigh_5 : decode cX7_weigh 5 = .ok (.invokevirtual 136, 3) := by decide +kernel
theorem dX7_weigh_8 : decode cX7_weigh 8 = .ok (.istore 5, 2) := by decide +kernel
theorem dX7_weigh_10 : decode cX7_weigh 10 = .ok (.aload_n 0, 1) := by decide +kernel
theorem dX7_weigh_11 : decode cX7_weigh 11 = .ok (.getfield 9, 3) := by decide +kernel
theorem dX7_weigh_14 : decode cX7_weigh 14 = .ok (.iload_n 2, 1) := by decide +kernel
theorem dX7_weigh_15 : decode cX7_weigh 15 = .ok (.invokevirtual 139, 3) := by decide +kernel
theorem dX7_weigh_18 : decode cX7_weigh 18 = .ok (.istore 6, 2) := by decide +kernel
theorem dX7_weigh_20 : decode cX7_weigh 20 = .ok (.iload 5, 2) := by decide +kernel
theorem dX7_weigh_22 : decode cX7_weigh 22 = .ok (.ifCond .eq 8, 3) := by decide +kernel
theorem dX7_weigh_25 : decode cX7_weigh 25 = .ok (.iload 6, 2) := by decide +kernel
theorem dX7_weigh_27 : decode cX7_weigh 27 = .ok (.ifCond .ne 7, 3) := by decide +kernel
theorem dX7_weigh_30 : decode cX7_weigh 30 = .ok (.sipush 1001, 3) := by decide +kernel
theorem dX7_weigh_33 : decode cX7_weigh 33 = .ok (.ireturn, 1) := by decide +kernel
theorem dX7_weigh_34 : decode cX7_weigh 34 = .ok (.iload 5, 2) := by decide +kernel
theorem dX7_weigh_36 : decode cX7_weigh 36 = .ok (.iload 6, 2) := by decide +kernel
theorem dX7_weigh_38 : decode cX7_weigh 38 = .ok (.if_icmp .eq 17, 3) := by decide +kernel
theorem dX7_weigh_41 : decode cX7_weigh 41 = .ok (.iload 5, 2) := by decide +kernel
theorem dX7_weigh_43 : decode cX7_weigh 43 = .ok (.iload 6, 2) := by decide +kernel
theorem dX7_weigh_45 : decode cX7_weigh 45 = .ok (.if_icmp .le 8, 3) := by decide +kernel
theorem dX7_weigh_48 : decode cX7_weigh 48 = .ok (.iload 4, 2) := by decide +kernel
theorem dX7_weigh_50 : decode cX7_weigh 50 = .ok (.goto 4, 3) := by decide +kernel
theorem dX7_weigh_53 : decode cX7_weigh 53 = .ok (.iload_n 3, 1) := by decide +kernel
theorem dX7_weigh_54 : decode cX7_weigh 54 = .ok (.ireturn, 1) := by decide +kernel
theorem dX7_weigh_55 : decode cX7_weigh 55 = .ok (.aload_n 0, 1) := by decide +kernel
theorem dX7_weigh_56 : decode cX7_weigh 56 = .ok (.getfield 9, 3) := by decide +kernel
theorem dX7_weigh_59 : decode cX7_weigh 59 = .ok (.iload_n 2, 1) := by decide +kernel
theorem dX7_weigh_60 : decode cX7_weigh 60 = .ok (.invokevirtual 142, 3) := by decide +kernel
theorem dX7_weigh_63 : decode cX7_weigh 63 = .ok (.ifCond .ne 6, 3) := by decide +kernel
theorem dX7_weigh_66 : decode cX7_weigh 66 = .ok (.iload 4, 2) := by decide +kernel
theorem dX7_weigh_68 : decode cX7_weigh 68 = .ok (.ireturn, 1) := by decide +kernel
theorem dX7_weigh_69 : decode cX7_weigh 69 = .ok (.aload_n 0, 1) := by decide +kernel
theorem dX7_weigh_70 : decode cX7_weigh 70 = .ok (.getfield 9, 3) := by decide +kernel
theorem dX7_weigh_73 : decode cX7_weigh 73 = .ok (.iload_n 2, 1) := by decide +kernel
theorem dX7_weigh_74 : decode cX7_weigh 74 = .ok (.invokevirtual 142, 3) := by decide +kernel
theorem dX7_weigh_77 : decode cX7_weigh 77 = .ok (.iconst 1, 1) := by decide +kernel
theorem dX7_weigh_78 : decode cX7_weigh 78 = .ok (.if_icmp .ne 7, 3) := by decide +kernel
theorem dX7_weigh_81 : decode cX7_weigh 81 = .ok (.iload_n 3, 1) := by decide +kernel
theorem dX7_weigh_82 : decode cX7_weigh 82 = .ok (.goto 4, 3) := by decide +kernel
theorem dX7_weigh_85 : decode cX7_weigh 85 = .ok (.iconst 0, 1) := by decide +kernel
theorem dX7_weigh_86 : decode cX7_weigh 86 = .ok (.ireturn, 1) := by decide +kernel
theorem dX8_init_0 : decode cX8_init 0 = .ok (.aload_n 0, 1) := by decide +kernel
theorem dX8_init_1 : decode cX8_init 1 = .ok (.invokespecial 3, 3) := by decide +kernel
theorem dX8_init_4 : decode cX8_init 4 = .ok (.aload_n 0, 1) := by decide +kernel
theorem dX8_init_5 : decode cX8_init 5 = .ok (.new 9, 3) := by decide +kernel
theorem dX8_init_8 : decode cX8_init 8 = .ok (.dup, 1) := by decide +kernel
theorem dX8_init_9 : decode cX8_init 9 = .ok (.sipush 150, 3) := by decide +kernel
theorem dX8_init_12 : decode cX8_init 12 = .ok (.bipush 8, 2) := by decide +kernel
theorem dX8_init_14 : decode cX8_init 14 = .ok (.invokespecial 11, 3) := by decide +kernel
theorem dX8_init_17 : decode cX8_init 17 = .ok (.putfield 14, 3) := by decide +kernel
theorem dX8_init_20 : decode cX8_init 20 = .ok (.aload_n 0, 1) := by decide +kernel
theorem dX8_init_21 : decode cX8_init 21 = .ok (.new 20, 3) := by decide +kernel
theorem dX8_init_24 : decode cX8_init 24 = .ok (.dup, 1) := by decide +kernel
theorem dX8_init_25 : decode cX8_init 25 = .ok (.sipush 450, 3) := by decide +kernel
theorem dX8_init_28 : decode cX8_init 28 = .ok (.invokespecial 22, 3) := by decide +kernel
theorem dX8_init_31 : decode cX8_init 31 = .ok (.putfield 25, 3) := by decide +kernel
theorem dX8_init_34 : decode cX8_init 34 = .ok (.aload_n 0, 1) := by decide +kernel
theorem dX8_init_35 : decode cX8_init 35 = .ok (.iconst 0, 1) := by decide +kernel
theorem dX8_init_36 : decode cX8_init 36 = .ok (.putfield 29, 3) := by decide +kernel
theorem dX8_init_39 : decode cX8_init 39 = .ok (.return_, 1) := by decide +kernel
theorem dX8_begin_0 : decode cX8_begin 0 = .ok (.aload_n 0, 1) := by decide +kernel
theorem dX8_begin_1 : decode cX8_begin 1 = .ok (.iconst 0, 1) := by decide +kernel
theorem dX8_begin_2 : decode cX8_begin 2 = .ok (.putfield 29, 3) := by decide +kernel
theorem dX8_begin_5 : decode cX8_begin 5 = .ok (.return_, 1) := by decide +kernel
theorem dX8_size_0 : decode cX8_size 0 = .ok (.aload_n 0, 1) := by decide +kernel
theorem dX8_size_1 : decode cX8_size 1 = .ok (.getfield 29, 3) := by decide +kernel
theorem dX8_size_4 : decode cX8_size 4 = .ok (.ireturn, 1) := by decide +kernel
theorem dX8_hasNode_0 : decode cX8_hasNode 0 = .ok (.iload_n 1, 1) := by decide +kernel
theorem dX8_hasNode_1 : decode cX8_hasNode 1 = .ok (.ifCond .lt 15, 3) := by decide +kernel
theorem dX8_hasNode_4 : decode cX8_hasNode 4 = .ok (.iload_n 1, 1) := by decide +kernel
theorem dX8_hasNode_5 : decode cX8_hasNode 5 = .ok (.aload_n 0, 1) := by decide +kernel
theorem dX8_hasNode_6 : decode cX8_hasNode 6 = .ok (.getfield 29, 3) := by decide +kernel
theorem dX8_hasNode_9 : decode cX8_hasNode 9 = .ok (.if_icmp .ge 7, 3) := by decide +kernel
theorem dX8_hasNode_12 : decode cX8_hasNode 12 = .ok (.iconst 1, 1) := by decide +kernel
theorem dX8_hasNode_13 : decode cX8_hasNode 13 = .ok (.goto 4, 3) := by decide +kernel
theorem dX8_hasNode_16 : decode cX8_hasNode 16 = .ok (.iconst 0, 1) := by decide +kernel
theorem dX8_hasNode_17 : decode cX8_hasNode 17 = .ok (.ireturn, 1) := by decide +kernel
theorem dX8_fact_0 : decode cX8_fact 0 = .ok (.aload_n 0, 1) := by decide +kernel
theorem dX8_fact_1 : decode cX8_fact 1 = .ok (.getfield 14, 3) := by decide +kernel
theorem dX8_fact_4 : decode cX8_fact 4 = .ok (.iload_n 1, 1) := by decide +kernel
theorem dX8_fact_5 : decode cX8_fact 5 = .ok (.iload_n 2, 1) := by decide +kernel
theorem dX8_fact_6 : decode cX8_fact 6 = .ok (.invokevirtual 33, 3) := by decide +kernel
theorem dX8_fact_9 : decode cX8_fact 9 = .ok (.ireturn, 1) := by decide +kernel
theorem dX8_isToken_0 : decode cX8_isToken 0 = .ok (.aload_n 0, 1) := by decide +kernel
theorem dX8_isToken_1 : decode cX8_isToken 1 = .ok (.iload_n 1, 1) := by decide +kernel
theorem dX8_isToken_2 : decode cX8_isToken 2 = .ok (.iconst 1, 1) := by decide +kernel
theorem dX8_isToken_3 : decode cX8_isToken 3 = .ok (.invokevirtual 37, 3) := by decide +kernel
theorem dX8_isToken_6 : decode cX8_isToken 6 = .ok (.ifCond .ge 7, 3) := by decide +kernel
theorem dX8_isToken_9 : decode cX8_isToken 9 = .ok (.iconst 1, 1) := by decide +kernel
theorem dX8_isToken_10 : decode cX8_isToken 10 = .ok (.goto 4, 3) := by decide +kernel
theorem dX8_isToken_13 : decode cX8_isToken 13 = .ok (.iconst 0, 1) := by decide +kernel
theorem dX8_isToken_14 : decode cX8_isToken 14 = .ok (.ireturn, 1) := by decide +kernel
theorem dX8_child_0 : decode cX8_child 0 = .ok (.aload_n 0, 1) := by decide +kernel
theorem dX8_child_1 : decode cX8_child 1 = .ok (.getfield 14, 3) := by decide +kernel
theorem dX8_child_4 : decode cX8_child 4 = .ok (.iload_n 1, 1) := by decide +kernel
theorem dX8_child_5 : decode cX8_child 5 = .ok (.iconst 4, 1) := by decide +kernel
theorem dX8_child_6 : decode cX8_child 6 = .ok (.iload_n 2, 1) := by decide +kernel
theorem dX8_child_7 : decode cX8_child 7 = .ok (.iadd, 1) := by decide +kernel
theorem dX8_child_8 : decode cX8_child 8 = .ok (.iconst 1, 1) := by decide +kernel
theorem dX8_child_9 : decode cX8_child 9 = .ok (.isub, 1) := by decide +kernel
theorem dX8_child_10 : decode cX8_child 10 = .ok (.invokevirtual 33, 3) := by decide +kernel
theorem dX8_child_13 : decode cX8_child 13 = .ok (.ireturn, 1) := by decide +kernel
theorem dX8_value_0 : decode cX8_value 0 = .ok (.aload_n 0, 1) := by decide +kernel
theorem dX8_value_1 : decode cX8_value 1 = .ok (.getfield 25, 3) := by decide +kernel
theorem dX8_value_4 : decode cX8_value 4 = .ok (.iload_n 1, 1) := by decide +kernel
theorem dX8_value_5 : decode cX8_value 5 = .ok (.invokevirtual 40, 3) := by decide +kernel
theorem dX8_value_8 : decode cX8_value 8 = .ok (.lreturn, 1) := by decide +kernel
theorem dX8_setValue_0 : decode cX8_setValue 0 = .ok (.aload_n 0, 1) := by decide +kernel
theorem dX8_setValue_1 : decode cX8_setValue 1 = .ok (.getfield 25, 3) := by decide +kernel
theorem dX8_setValue_4 : decode cX8_setValue 4 = .ok (.iload_n 1, 1) := by decide +kernel
theorem dX8_setValue_5 : decode cX8_setValue 5 = .ok (.lload_n 2, 1) := by decide +kernel
theorem dX8_setValue_6 : decode cX8_setValue 6 = .ok (.invokevirtual 43, 3) := by decide +kernel
theorem dX8_setValue_9 : decode cX8_setValue 9 = .ok (.return_, 1) := by decide +kernel
theorem dX8_addTokenNode_0 : decode cX8_addTokenNode 0 = .ok (.aload_n 0, 1) := by decide +kernel
theorem dX8_addTokenNode_1 : decode cX8_addTokenNode 1 = .ok (.iload_n 1, 1) := by decide +kernel
theorem dX8_addTokenNode_2 : decode cX8_addTokenNode 2 = .ok (.iconst (-1), 1) := by decide +kernel
theorem dX8_addTokenNode_3 : decode cX8_addTokenNode 3 = .ok (.invokevirtual 47, 3) := by decide +kernel
theorem dX8_addTokenNode_6 : decode cX8_addTokenNode 6 = .ok (.istore 4, 2) := by decide +kernel
theorem dX8_addTokenNode_8 : decode cX8_addTokenNode 8 = .ok (.aload_n 0, 1) := by decide +kernel
theorem dX8_addTokenNode_9 : decode cX8_addTokenNode 9 = .ok (.iload 4, 2) := by decide +kernel
theorem dX8_addTokenNode_11 : decode cX8_addTokenNode 11 = .ok (.iconst 3, 1) := by decide +kernel
theorem dX8_addTokenNode_12 : decode cX8_addTokenNode 12 = .ok (.imul, 1) := by decide +kernel
theorem dX8_addTokenNode_13 : decode cX8_addTokenNode 13 = .ok (.iload_n 2, 1) := by decide +kernel
theorem dX8_addTokenNode_14 : decode cX8_addTokenNode 14 = .ok (.i2l, 1) := by decide +kernel
theorem dX8_addTokenNode_15 : decode cX8_addTokenNode 15 = .ok (.invokevirtual 50, 3) := by decide +kernel
theorem dX8_addTokenNode_18 : decode cX8_addTokenNode 18 = .ok (.aload_n 0, 1) := by decide +kernel
theorem dX8_addTokenNode_19 : decode cX8_addTokenNode 19 = .ok (.iload 4, 2) := by decide +kernel
theorem dX8_addTokenNode_21 : decode cX8_addTokenNode 21 = .ok (.iconst 3, 1) := by decide +kernel
theorem dX8_addTokenNode_22 : decode cX8_addTokenNode 22 = .ok (.imul, 1) := by decide +kernel
theorem dX8_addTokenNode_23 : decode cX8_addTokenNode 23 = .ok (.iconst 1, 1) := by decide +kernel
theorem dX8_addTokenNode_24 : decode cX8_addTokenNode 24 = .ok (.iadd, 1) := by decide +kernel
theorem dX8_addTokenNode_25 : decode cX8_addTokenNode 25 = .ok (.iload_n 3, 1) := by decide +kernel
theorem dX8_addTokenNode_26 : decode cX8_addTokenNode 26 = .ok (.i2l, 1) := by decide +kernel
theorem dX8_addTokenNode_27 : decode cX8_addTokenNode 27 = .ok (.invokevirtual 50, 3) := by decide +kernel
theorem dX8_addTokenNode_30 : decode cX8_addTokenNode 30 = .ok (.aload_n 0, 1) := by decide +kernel
theorem dX8_addTokenNode_31 : decode cX8_addTokenNode 31 = .ok (.iload 4, 2) := by decide +kernel
theorem dX8_addTokenNode_33 : decode cX8_addTokenNode 33 = .ok (.iconst 3, 1) := by decide +kernel
theorem dX8_addTokenNode_34 : decode cX8_addTokenNode 34 = .ok (.imul, 1) := by decide +kernel
theorem dX8_addTokenNode_35 : decode cX8_addTokenNode 35 = .ok (.iconst 2, 1) := by decide +kernel
theorem dX8_addTokenNode_36 : decode cX8_addTokenNode 36 = .ok (.iadd, 1) := by decide +kernel
theorem dX8_addTokenNode_37 : decode cX8_addTokenNode 37 = .ok (.lconst 0, 1) := by decide +kernel
theorem dX8_addTokenNode_38 : decode cX8_addTokenNode 38 = .ok (.invokevirtual 50, 3) := by decide +kernel
theorem dX8_addTokenNode_41 : decode cX8_addTokenNode 41 = .ok (.iload 4, 2) := by decide +kernel
theorem dX8_addTokenNode_43 : decode cX8_addTokenNode 43 = .ok (.ireturn, 1) := by decide +kernel
theorem dX8_addRuleNode_0 : decode cX8_addRuleNode 0 = .ok (.aload_n 0, 1) := by decide +kernel
theorem dX8_addRuleNode_1 : decode cX8_addRuleNode 1 = .ok (.getfield 29, 3) := by decide +kernel
theorem dX8_addRuleNode_4 : decode cX8_addRuleNode 4 = .ok (.istore_n 3, 1) := by decide +kernel
theorem dX8_addRuleNode_5 : decode cX8_addRuleNode 5 = .ok (.aload_n 0, 1) := by decide +kernel
theorem dX8_addRuleNode_6 : decode cX8_addRuleNode 6 = .ok (.getfield 14, 3) := by decide +kernel
theorem dX8_addRuleNode_9 : decode cX8_addRuleNode 9 = .ok (.iload_n 3, 1) := by decide +kernel
theorem dX8_addRuleNode_10 : decode cX8_addRuleNode 10 = .ok (.iconst 0, 1) := by decide +kernel
theorem dX8_addRuleNode_11 : decode cX8_addRuleNode 11 = .ok (.iload_n 1, 1) := by decide +kernel
theorem dX8_addRuleNode_12 : decode cX8_addRuleNode 12 = .ok (.invokevirtual 53, 3) := by decide +kernel
theorem dX8_addRuleNode_15 : decode cX8_addRuleNode 15 = .ok (.aload_n 0, 1) := by decide +kernel
theorem dX8_addRuleNode_16 : decode cX8_addRuleNode 16 = .ok (.getfield 14, 3) := by decide +kernel
theorem dX8_addRuleNode_19 : decode cX8_addRuleNode 19 = .ok (.iload_n 3, 1) := by decide +kernel
theorem dX8_addRuleNode_20 : decode cX8_addRuleNode 20 = .ok (.iconst 1, 1) := by decide +kernel
theorem dX8_addRuleNode_21 : decode cX8_addRuleNode 21 = .ok (.iload_n 2, 1) := by decide +kernel
theorem dX8_addRuleNode_22 : decode cX8_addRuleNode 22 = .ok (.invokevirtual 53, 3) := by decide +kernel
theorem dX8_addRuleNode_25 : decode cX8_addRuleNode 25 = .ok (.aload_n 0, 1) := by decide +kernel
theorem dX8_addRuleNode_26 : decode cX8_addRuleNode 26 = .ok (.getfield 14, 3) := by decide +kernel
theorem dX8_addRuleNode_29 : decode cX8_addRuleNode 29 = .ok (.iload_n 3, 1) := by decide +kernel
theorem dX8_addRuleNode_30 : decode cX8_addRuleNode 30 = .ok (.iconst 2, 1) := by decide +kernel
theorem dX8_addRuleNode_31 : decode cX8_addRuleNode 31 = .ok (.iconst (-1), 1) := by decide +kernel
theorem dX8_addRuleNode_32 : decode cX8_addRuleNode 32 = .ok (.invokevirtual 53, 3) := by decide +kernel
theorem dX8_addRuleNode_35 : decode cX8_addRuleNode 35 = .ok (.aload_n 0, 1) := by decide +kernel
theorem dX8_addRuleNode_36 : decode cX8_addRuleNode 36 = .ok (.getfield 14, 3) := by decide +kernel
theorem dX8_addRuleNode_39 : decode cX8_addRuleNode 39 = .ok (.iload_n 3, 1) := by decide +kernel
theorem dX8_addRuleNode_40 : decode cX8_addRuleNode 40 = .ok (.iconst 3, 1) := by decide +kernel
theorem dX8_addRuleNode_41 : decode cX8_addRuleNode 41 = .ok (.iconst 0, 1) := by decide +kernel
theorem dX8_addRuleNode_42 : decode cX8_addRuleNode 42 = .ok (.invokevirtual 53, 3) := by decide +kernel
theorem dX8_addRuleNode_45 : decode cX8_addRuleNode 45 = .ok (.aload_n 0, 1) := by decide +kernel
theorem dX8_addRuleNode_46 : decode cX8_addRuleNode 46 = .ok (.dup, 1) := by decide +kernel
theorem dX8_addRuleNode_47 : decode cX8_addRuleNode 47 = .ok (.getfield 29, 3) := by decide +kernel
theorem dX8_addRuleNode_50 : decode cX8_addRuleNode 50 = .ok (.iconst 1, 1) := by decide +kernel
theorem dX8_addRuleNode_51 : decode cX8_addRuleNode 51 = .ok (.iadd, 1) := by decide +kernel
theorem dX8_addRuleNode_52 : decode cX8_addRuleNode 52 = .ok (.putfield 29, 3) := by decide +kernel
theorem dX8_addRuleNode_55 : decode cX8_addRuleNode 55 = .ok (.iload_n 3, 1) := by decide +kernel
theorem dX8_addRuleNode_56 : decode cX8_addRuleNode 56 = .ok (.ireturn, 1) := by decide +kernel
theorem dX8_setChild_0 : decode cX8_setChild 0 = .ok (.aload_n 0, 1) := by decide +kernel
theorem dX8_setChild_1 : decode cX8_setChild 1 = .ok (.getfield 14, 3) := by decide +kernel
theorem dX8_setChild_4 : decode cX8_setChild 4 = .ok (.iload_n 1, 1) := by decide +kernel
theorem dX8_setChild_5 : decode cX8_setChild 5 = .ok (.iconst 4, 1) := by decide +kernel
theorem dX8_setChild_6 : decode cX8_setChild 6 = .ok (.iload_n 2, 1) := by decide +kernel
theorem dX8_setChild_7 : decode cX8_setChild 7 = .ok (.iadd, 1) := by decide +kernel
theorem dX8_setChild_8 : decode cX8_setChild 8 = .ok (.iconst 1, 1) := by decide +kernel
theorem dX8_setChild_9 : decode cX8_setChild 9 = .ok (.isub, 1) := by decide +kernel
theorem dX8_setChild_10 : decode cX8_setChild 10 = .ok (.iload_n 3, 1) := by decide +kernel
theorem dX8_setChild_11 : decode cX8_setChild 11 = .ok (.invokevirtual 53, 3) := by decide +kernel
theorem dX8_setChild_14 : decode cX8_setChild 14 = .ok (.aload_n 0, 1) := by decide +kernel
theorem dX8_setChild_15 : decode cX8_setChild 15 = .ok (.getfield 14, 3) := by decide +kernel
theorem dX8_setChild_18 : decode cX8_setChild 18 = .ok (.iload_n 3, 1) := by decide +kernel
theorem dX8_setChild_19 : decode cX8_setChild 19 = .ok (.iconst 2, 1) := by decide +kernel
theorem dX8_setChild_20 : decode cX8_setChild 20 = .ok (.iload_n 1, 1) := by decide +kernel
theorem dX8_setChild_21 : decode cX8_setChild 21 = .ok (.invokevirtual 53, 3) := by decide +kernel
theorem dX8_setChild_24 : decode cX8_setChild 24 = .ok (.aload_n 0, 1) := by decide +kernel
theorem dX8_setChild_25 : decode cX8_setChild 25 = .ok (.getfield 14, 3) := by decide +kernel
theorem dX8_setChild_28 : decode cX8_setChild 28 = .ok (.iload_n 3, 1) := by decide +kernel
theorem dX8_setChild_29 : decode cX8_setChild 29 = .ok (.iconst 3, 1) := by decide +kernel
theorem dX8_setChild_30 : decode cX8_setChild 30 = .ok (.iload_n 2, 1) := by decide +kernel
theorem dX8_setChild_31 : decode cX8_setChild 31 = .ok (.invokevirtual 53, 3) := by decide +kernel
theorem dX8_setChild_34 : decode cX8_setChild 34 = .ok (.return_, 1) := by decide +kernel
theorem dX9_init_0 : decode cX9_init 0 = .ok (.aload_n 0, 1) := by decide +kernel
theorem dX9_init_1 : decode cX9_init 1 = .ok (.invokespecial 3, 3) := by decide +kernel
theorem dX9_init_4 : decode cX9_init 4 = .ok (.aload_n 0, 1) := by decide +kernel
theorem dX9_init_5 : decode cX9_init 5 = .ok (.new 9, 3) := by decide +kernel
theorem dX9_init_8 : decode cX9_init 8 = .ok (.dup, 1) := by decide +kernel
theorem dX9_init_9 : decode cX9_init 9 = .ok (.invokespecial 11, 3) := by decide +kernel
theorem dX9_init_12 : decode cX9_init 12 = .ok (.putfield 12, 3) := by decide +kernel
theorem dX9_init_15 : decode cX9_init 15 = .ok (.aload_n 0, 1) := by decide +kernel
theorem dX9_init_16 : decode cX9_init 16 = .ok (.new 16, 3) := by decide +kernel
theorem dX9_init_19 : decode cX9_init 19 = .ok (.dup, 1) := by decide +kernel
theorem dX9_init_20 : decode cX9_init 20 = .ok (.aload_n 0, 1) := by decide +kernel
theorem dX9_init_21 : decode cX9_init 21 = .ok (.getfield 12, 3) := by decide +kernel
theorem dX9_init_24 : decode cX9_init 24 = .ok (.invokespecial 18, 3) := by decide +kernel
theorem dX9_init_27 : decode cX9_init 27 = .ok (.putfield 21, 3) := by decide +kernel
theorem dX9_init_30 : decode cX9_init 30 = .ok (.aload_n 0, 1) := by decide +kernel
theorem dX9_init_31 : decode cX9_init 31 = .ok (.new 25, 3) := by decide +kernel
theorem dX9_init_34 : decode cX9_init 34 = .ok (.dup, 1) := by decide +kernel
theorem dX9_init_35 : decode cX9_init 35 = .ok (.aload_n 0, 1) := by decide +kernel
theorem dX9_init_36 : decode cX9_init 36 = .ok (.getfield 12, 3) := by decide +kernel
theorem dX9_init_39 : decode cX9_init 39 = .ok (.invokespecial 27, 3) := by decide +kernel
theorem dX9_init_42 : decode cX9_init 42 = .ok (.putfield 28, 3) := by decide +kernel
theorem dX9_init_45 : decode cX9_init 45 = .ok (.aload_n 0, 1) := by decide +kernel
theorem dX9_init_46 : decode cX9_init 46 = .ok (.new 32, 3) := by decide +kernel
theorem dX9_init_49 : decode cX9_init 49 = .ok (.dup, 1) := by decide +kernel
theorem dX9_init_50 : decode cX9_init 50 = .ok (.aload_n 0, 1) := by decide +kernel
theorem dX9_init_51 : decode cX9_init 51 = .ok (.getfield 12, 3) := by decide +kernel
theorem dX9_init_54 : decode cX9_init 54 = .ok (.aload_n 0, 1) := by decide +kernel
theorem dX9_init_55 : decode cX9_init 55 = .ok (.getfield 21, 3) := by decide +kernel
theorem dX9_init_58 : decode cX9_init 58 = .ok (.invokespecial 34, 3) := by decide +kernel
theorem dX9_init_61 : decode cX9_init 61 = .ok (.putfield 37, 3) := by decide +kernel
theorem dX9_init_64 : decode cX9_init 64 = .ok (.aload_n 0, 1) := by decide +kernel
theorem dX9_init_65 : decode cX9_init 65 = .ok (.new 41, 3) := by decide +kernel
theorem dX9_init_68 : decode cX9_init 68 = .ok (.dup, 1) := by decide +kernel
theorem dX9_init_69 : decode cX9_init 69 = .ok (.aload_n 0, 1) := by decide +kernel
theorem dX9_init_70 : decode cX9_init 70 = .ok (.getfield 12, 3) := by decide +kernel
theorem dX9_init_73 : decode cX9_init 73 = .ok (.invokespecial 43, 3) := by decide +kernel
theorem dX9_init_76 : decode cX9_init 76 = .ok (.putfield 44, 3) := by decide +kernel
theorem dX9_init_79 : decode cX9_init 79 = .ok (.aload_n 0, 1) := by decide +kernel
theorem dX9_init_80 : decode cX9_init 80 = .ok (.new 48, 3) := by decide +kernel
theorem dX9_init_83 : decode cX9_init 83 = .ok (.dup, 1) := by decide +kernel
theorem dX9_init_84 : decode cX9_init 84 = .ok (.invokespecial 50, 3) := by decide +kernel
theorem dX9_init_87 : decode cX9_init 87 = .ok (.putfield 51, 3) := by decide +kernel
theorem dX9_init_90 : decode cX9_init 90 = .ok (.aload_n 0, 1) := by decide +kernel
theorem dX9_init_91 : decode cX9_init 91 = .ok (.new 48, 3) := by decide +kernel
theorem dX9_init_94 : decode cX9_init 94 = .ok (.dup, 1) := by decide +kernel
theorem dX9_init_95 : decode cX9_init 95 = .ok (.invokespecial 50, 3) := by decide +kernel
theorem dX9_init_98 : decode cX9_init 98 = .ok (.putfield 55, 3) := by decide +kernel
theorem dX9_init_101 : decode cX9_init 101 = .ok (.aload_n 0, 1) := by decide +kernel
theorem dX9_init_102 : decode cX9_init 102 = .ok (.iconst 0, 1) := by decide +kernel
theorem dX9_init_103 : decode cX9_init 103 = .ok (.putfield 58, 3) := by decide +kernel
theorem dX9_init_106 : decode cX9_init 106 = .ok (.aload_n 0, 1) := by decide +kernel
theorem dX9_init_107 : decode cX9_init 107 = .ok (.iconst (-1), 1) := by decide +kernel
theorem dX9_init_108 : decode cX9_init 108 = .ok (.putfield 62, 3) := by decide +kernel
theorem dX9_init_111 : decode cX9_init 111 = .ok (.return_, 1) := by decide +kernel
theorem dX9_rule_0 : decode cX9_rule 0 = .ok (.iload_n 1, 1) := by decide +kernel
theorem dX9_rule_1 : decode cX9_rule 1 = .ok (.invokestatic 66, 3) := by decide +kernel
theorem dX9_rule_4 : decode cX9_rule 4 = .ok (.ifCond .ne 13, 3) := by decide +kernel
theorem dX9_rule_7 : decode cX9_rule 7 = .ok (.new 70, 3) := by decide +kernel
theorem dX9_rule_10 : decode cX9_rule 10 = .ok (.dup, 1) := by decide +kernel
theorem dX9_rule_11 : decode cX9_rule 11 = .ok (.ldc 72, 2) := by decide +kernel
theorem dX9_rule_13 : decode cX9_rule 13 = .ok (.invokespecial 74, 3) := by decide +kernel
theorem dX9_rule_16 : decode cX9_rule 16 = .ok (.athrow, 1) := by decide +kernel
theorem dX9_rule_17 : decode cX9_rule 17 = .ok (.iload_n 2, 1) := by decide +kernel
theorem dX9_rule_18 : decode cX9_rule 18 = .ok (.ifCond .eq 10, 3) := by decide +kernel
theorem dX9_rule_21 : decode cX9_rule 21 = .ok (.iload_n 2, 1) := by decide +kernel
theorem dX9_rule_22 : decode cX9_rule 22 = .ok (.invokestatic 77, 3) := by decide +kernel
theorem dX9_rule_25 : decode cX9_rule 25 = .ok (.ifCond .eq 34, 3) := by decide +kernel
theorem dX9_rule_28 : decode cX9_rule 28 = .ok (.iload_n 2, 1) := by decide +kernel
theorem dX9_rule_29 : decode cX9_rule 29 = .ok (.iload_n 3, 1) := by decide +kernel
theorem dX9_rule_30 : decode cX9_rule 30 = .ok (.invokestatic 80, 3) := by decide +kernel
theorem dX9_rule_33 : decode cX9_rule 33 = .ok (.ifCond .eq 26, 3) := by decide +kernel
theorem dX9_rule_36 : decode cX9_rule 36 = .ok (.iload_n 3, 1) := by decide +kernel
theorem dX9_rule_37 : decode cX9_rule 37 = .ok (.iload 4, 2) := by decide +kernel
theorem dX9_rule_39 : decode cX9_rule 39 = .ok (.invokestatic 80, 3) := by decide +kernel
theorem dX9_rule_42 : decode cX9_rule 42 = .ok (.ifCond .eq 17, 3) := by decide +kernel
theorem dX9_rule_45 : decode cX9_rule 45 = .ok (.iload 4, 2) := by decide +kernel
theorem dX9_rule_47 : decode cX9_rule 47 = .ok (.iload 5, 2) := by decide +kernel
theorem dX9_rule_49 : decode cX9_rule 49 = .ok (.invokestatic 80, 3) := by decide +kernel
theorem dX9_rule_52 : decode cX9_rule 52 = .ok (.ifCond .eq 7, 3) := by decide +kernel
theorem dX9_rule_55 : decode cX9_rule 55 = .ok (.iconst 1, 1) := by decide +kernel
theorem dX9_rule_56 : decode cX9_rule 56 = .ok (.goto 4, 3) := by decide +kernel
theorem dX9_rule_59 : decode cX9_rule 59 = .ok (.iconst 0, 1) := by decide +kernel
theorem dX9_rule_60 : decode cX9_rule 60 = .ok (.istore 6, 2) := by decide +kernel
theorem dX9_rule_62 : decode cX9_rule 62 = .ok (.iload 6, 2) := by decide +kernel
theorem dX9_rule_64 : decode cX9_rule 64 = .ok (.ifCond .ne 13, 3) := by decide +kernel
theorem dX9_rule_67 : decode cX9_rule 67 = .ok (.new 70, 3) := by decide +kernel
theorem dX9_rule_70 : decode cX9_rule 70 = .ok (.dup, 1) := by decide +kernel
theorem dX9_rule_71 : decode cX9_rule 71 = .ok (.ldc 84, 2) := by decide +kernel
theorem dX9_rule_73 : decode cX9_rule 73 = .ok (.invokespecial 74, 3) := by decide +kernel
theorem dX9_rule_76 : decode cX9_rule 76 = .ok (.athrow, 1) := by decide +kernel
theorem dX9_rule_77 : decode cX9_rule 77 = .ok (.aload_n 0, 1) := by decide +kernel
theorem dX9_rule_78 : decode cX9_rule 78 = .ok (.getfield 12, 3) := by decide +kernel
theorem dX9_rule_81 : decode cX9_rule 81 = .ok (.invokevirtual 86, 3) := by decide +kernel
theorem dX9_rule_84 : decode cX9_rule 84 = .ok (.bipush 14, 2) := by decide +kernel
theorem dX9_rule_86 : decode cX9_rule 86 = .ok (.if_icmp .lt 13, 3) := by decide +kernel
theorem dX9_rule_89 : decode cX9_rule 89 = .ok (.new 90, 3) := by decide +kernel
theorem dX9_rule_92 : decode cX9_rule 92 = .ok (.dup, 1) := by decide +kernel
theorem dX9_rule_93 : decode cX9_rule 93 = .ok (.ldc 92, 2) := by decide +kernel
theorem dX9_rule_95 : decode cX9_rule 95 = .ok (.invokespecial 94, 3) := by decide +kernel
theorem dX9_rule_98 : decode cX9_rule 98 = .ok (.athrow, 1) := by decide +kernel
theorem dX9_rule_99 : decode cX9_rule 99 = .ok (.aload_n 0, 1) := by decide +kernel
theorem dX9_rule_100 : decode cX9_rule 100 = .ok (.iconst 0, 1) := by decide +kernel
theorem dX9_rule_101 : decode cX9_rule 101 = .ok (.putfield 58, 3) := by decide +kernel
theorem dX9_rule_104 : decode cX9_rule 104 = .ok (.aload_n 0, 1) := by decide +kernel
theorem dX9_rule_105 : decode cX9_rule 105 = .ok (.getfield 12, 3) := by decide +kernel
theorem dX9_rule_108 : decode cX9_rule 108 = .ok (.iload_n 1, 1) := by decide +kernel
theorem dX9_rule_109 : decode cX9_rule 109 = .ok (.iload_n 2, 1) := by decide +kernel
theorem dX9_rule_110 : decode cX9_rule 110 = .ok (.iload_n 3, 1) := by decide +kernel
theorem dX9_rule_111 : decode cX9_rule 111 = .ok (.iload 4, 2) := by decide +kernel
theorem dX9_rule_113 : decode cX9_rule 113 = .ok (.iload 5, 2) := by decide +kernel
theorem dX9_rule_115 : decode cX9_rule 115 = .ok (.invokevirtual 95, 3) := by decide +kernel
theorem dX9_rule_118 : decode cX9_rule 118 = .ok (.ireturn, 1) := by decide +kernel
theorem dX9_level_0 : decode cX9_level 0 = .ok (.iload_n 1, 1) := by decide +kernel
theorem dX9_level_1 : decode cX9_level 1 = .ok (.invokestatic 99, 3) := by decide +kernel
theorem dX9_level_4 : decode cX9_level 4 = .ok (.ifCond .ne 13, 3) := by decide +kernel
theorem dX9_level_7 : decode cX9_level 7 = .ok (.new 70, 3) := by decide +kernel
theorem dX9_level_10 : decode cX9_level 10 = .ok (.dup, 1) := by decide +kernel
theorem dX9_level_11 : decode cX9_level 11 = .ok (.ldc 102, 2) := by decide +kernel
theorem dX9_level_13 : decode cX9_level 13 = .ok (.invokespecial 74, 3) := by decide +kernel
theorem dX9_level_16 : decode cX9_level 16 = .ok (.athrow, 1) := by decide +kernel
theorem dX9_level_17 : decode cX9_level 17 = .ok (.iload_n 2, 1) := by decide +kernel
theorem dX9_level_18 : decode cX9_level 18 = .ok (.ifCond .lt 9, 3) := by decide +kernel
theorem dX9_level_21 : decode cX9_level 21 = .ok (.iload_n 2, 1) := by decide +kernel
theorem dX9_level_22 : decode cX9_level 22 = .ok (.bipush 9, 2) := by decide +kernel
theorem dX9_level_24 : decode cX9_level 24 = .ok (.if_icmp .le 13, 3) := by decide +kernel
theorem dX9_level_27 : decode cX9_level 27 = .ok (.new 70, 3) := by decide +kernel
theorem dX9_level_30 : decode cX9_level 30 = .ok (.dup, 1) := by decide +kernel
theorem dX9_level_31 : decode cX9_level 31 = .ok (.ldc 104, 2) := by decide +kernel
theorem dX9_level_33 : decode cX9_level 33 = .ok (.invokespecial 74, 3) := by decide +kernel
theorem dX9_level_36 : decode cX9_level 36 = .ok (.athrow, 1) := by decide +kernel
theorem dX9_level_37 : decode cX9_level 37 = .ok (.iload_n 3, 1) := by decide +kernel
theorem dX9_level_38 : decode cX9_level 38 = .ok (.ifCond .lt 8, 3) := by decide +kernel
theorem dX9_level_41 : decode cX9_level 41 = .ok (.iload_n 3, 1) := by decide +kernel
theorem dX9_level_42 : decode cX9_level 42 = .ok (.iconst 2, 1) := by decide +kernel
theorem dX9_level_43 : decode cX9_level 43 = .ok (.if_icmp .le 13, 3) := by decide +kernel
theorem dX9_level_46 : decode cX9_level 46 = .ok (.new 70, 3) := by decide +kernel
theorem dX9_level_49 : decode cX9_level 49 = .ok (.dup, 1) := by decide +kernel
theorem dX9_level_50 : decode cX9_level 50 = .ok (.ldc 106, 2) := by decide +kernel
theorem dX9_level_52 : decode cX9_level 52 = .ok (.invokespecial 74, 3) := by decide +kernel
theorem dX9_level_55 : decode cX9_level 55 = .ok (.athrow, 1) := by decide +kernel
theorem dX9_level_56 : decode cX9_level 56 = .ok (.aload_n 0, 1) := by decide +kernel
theorem dX9_level_57 : decode cX9_level 57 = .ok (.iconst 0, 1) := by decide +kernel
theorem dX9_level_58 : decode cX9_level 58 = .ok (.putfield 58, 3) := by decide +kernel
theorem dX9_level_61 : decode cX9_level 61 = .ok (.aload_n 0, 1) := by decide +kernel
theorem dX9_level_62 : decode cX9_level 62 = .ok (.getfield 12, 3) := by decide +kernel
theorem dX9_level_65 : decode cX9_level 65 = .ok (.iload_n 1, 1) := by decide +kernel
theorem dX9_level_66 : decode cX9_level 66 = .ok (.invokevirtual 108, 3) := by decide +kernel
theorem dX9_level_69 : decode cX9_level 69 = .ok (.istore 4, 2) := by decide +kernel
theorem dX9_level_71 : decode cX9_level 71 = .ok (.aload_n 0, 1) := by decide +kernel
theorem dX9_level_72 : decode cX9_level 72 = .ok (.getfield 12, 3) := by decide +kernel
theorem dX9_level_75 : decode cX9_level 75 = .ok (.iload_n 1, 1) := by decide +kernel
theorem dX9_level_76 : decode cX9_level 76 = .ok (.iload_n 2, 1) := by decide +kernel
theorem dX9_level_77 : decode cX9_level 77 = .ok (.iload_n 3, 1) := by decide +kernel
theorem dX9_level_78 : decode cX9_level 78 = .ok (.invokevirtual 112, 3) := by decide +kernel
theorem dX9_level_81 : decode cX9_level 81 = .ok (.iload 4, 2) := by decide +kernel
theorem dX9_level_83 : decode cX9_level 83 = .ok (.ireturn, 1) := by decide +kernel
theorem dX9_equation_0 : decode cX9_equation 0 = .ok (.aload_n 0, 1) := by decide +kernel
theorem dX9_equation_1 : decode cX9_equation 1 = .ok (.getfield 12, 3) := by decide +kernel
theorem dX9_equation_4 : decode cX9_equation 4 = .ok (.iload_n 1, 1) := by decide +kernel
theorem dX9_equation_5 : decode cX9_equation 5 = .ok (.invokevirtual 116, 3) := by decide +kernel
theorem dX9_equation_8 : decode cX9_equation 8 = .ok (.ifCond .ne 13, 3) := by decide +kernel
theorem dX9_equation_11 : decode cX9_equation 11 = .ok (.new 119, 3) := by decide +kernel
theorem dX9_equation_14 : decode cX9_equation 14 = .ok (.dup, 1) := by decide +kernel
theorem dX9_equation_15 : decode cX9_equation 15 = .ok (.ldc 121, 2) := by decide +kernel
theorem dX9_equation_17 : decode cX9_equation 17 = .ok (.invokespecial 123, 3) := by decide +kernel
theorem dX9_equation_20 : decode cX9_equation 20 = .ok (.athrow, 1) := by decide +kernel
theorem dX9_equation_21 : decode cX9_equation 21 = .ok (.aload_n 0, 1) := by decide +kernel
theorem dX9_equation_22 : decode cX9_equation 22 = .ok (.getfield 12, 3) := by decide +kernel
theorem dX9_equation_25 : decode cX9_equation 25 = .ok (.iload_n 1, 1) := by decide +kernel
theorem dX9_equation_26 : decode cX9_equation 26 = .ok (.iload_n 2, 1) := by decide +kernel
theorem dX9_equation_27 : decode cX9_equation 27 = .ok (.invokevirtual 124, 3) := by decide +kernel
theorem dX9_equation_30 : decode cX9_equation 30 = .ok (.ifCond .ne 13, 3) := by decide +kernel
theorem dX9_equation_33 : decode cX9_equation 33 = .ok (.new 70, 3) := by decide +kernel
theorem dX9_equation_36 : decode cX9_equation 36 = .ok (.dup, 1) := by decide +kernel
theorem dX9_equation_37 : decode cX9_equation 37 = .ok (.ldc 127, 2) := by decide +kernel
theorem dX9_equation_39 : decode cX9_equation 39 = .ok (.invokespecial 74, 3) := by decide +kernel
theorem dX9_equation_42 : decode cX9_equation 42 = .ok (.athrow, 1) := by decide +kernel
theorem dX9_equation_43 : decode cX9_equation 43 = .ok (.iload_n 3, 1) := by decide +kernel
theorem dX9_equation_44 : decode cX9_equation 44 = .ok (.ifCond .lt 9, 3) := by decide +kernel
theorem dX9_equation_47 : decode cX9_equation 47 = .ok (.iload_n 3, 1) := by decide +kernel
theorem dX9_equation_48 : decode cX9_equation 48 = .ok (.bipush 7, 2) := by decide +kernel
theorem dX9_equation_50 : decode cX9_equation 50 = .ok (.if_icmp .le 13, 3) := by decide +kernel
theorem dX9_equation_53 : decode cX9_equation 53 = .ok (.new 70, 3) := by decide +kernel
theorem dX9_equation_56 : decode cX9_equation 56 = .ok (.dup, 1) := by decide +kernel
theorem dX9_equation_57 : decode cX9_equation 57 = .ok (.ldc 129, 2) := by decide +kernel
theorem dX9_equation_59 : decode cX9_equation 59 = .ok (.invokespecial 74, 3) := by decide +kernel
theorem dX9_equation_62 : decode cX9_equation 62 = .ok (.athrow, 1) := by decide +kernel
theorem dX9_equation_63 : decode cX9_equation 63 = .ok (.iload_n 3, 1) := by decide +kernel
theorem dX9_equation_64 : decode cX9_equation 64 = .ok (.iconst 1, 1) := by decide +kernel
theorem dX9_equation_65 : decode cX9_equation 65 = .ok (.if_icmp .lt 26, 3) := by decide +kernel
theorem dX9_equation_68 : decode cX9_equation 68 = .ok (.aload_n 0, 1) := by decide +kernel
theorem dX9_equation_69 : decode cX9_equation 69 = .ok (.getfield 12, 3) := by decide +kernel
theorem dX9_equation_72 : decode cX9_equation 72 = .ok (.iload_n 1, 1) := by decide +kernel
theorem dX9_equation_73 : decode cX9_equation 73 = .ok (.iload 4, 2) := by decide +kernel
theorem dX9_equation_75 : decode cX9_equation 75 = .ok (.invokevirtual 131, 3) := by decide +kernel
theorem dX9_equation_78 : decode cX9_equation 78 = .ok (.ifCond .ge 13, 3) := by decide +kernel
theorem dX9_equation_81 : decode cX9_equation 81 = .ok (.new 70, 3) := by decide +kernel
theorem dX9_equation_84 : decode cX9_equation 84 = .ok (.dup, 1) := by decide +kernel
theorem dX9_equation_85 : decode cX9_equation 85 = .ok (.ldc 135, 2) := by decide +kernel
theorem dX9_equation_87 : decode cX9_equation 87 = .ok (.invokespecial 74, 3) := by decide +kernel
theorem dX9_equation_90 : decode cX9_equation 90 = .ok (.athrow, 1) := by decide +kernel
theorem dX9_equation_91 : decode cX9_equation 91 = .ok (.iload_n 3, 1) := by decide +kernel
theorem dX9_equation_92 : decode cX9_equation 92 = .ok (.iconst 2, 1) := by decide +kernel
theorem dX9_equation_93 : decode cX9_equation 93 = .ok (.if_icmp .lt 26, 3) := by decide +kernel
theorem dX9_equation_96 : decode cX9_equation 96 = .ok (.aload_n 0, 1) := by decide +kernel
theorem dX9_equation_97 : decode cX9_equation 97 = .ok (.getfield 12, 3) := by decide +kernel
theorem dX9_equation_100 : decode cX9_equation 100 = .ok (.iload_n 1, 1) := by decide +kernel
theorem dX9_equation_101 : decode cX9_equation 101 = .ok (.iload 5, 2) := by decide +kernel
theorem dX9_equation_103 : decode cX9_equation 103 = .ok (.invokevirtual 131, 3) := by decide +kernel
theorem dX9_equation_106 : decode cX9_equation 106 = .ok (.ifCond .ge 13, 3) := by decide +kernel
theorem dX9_equation_109 : decode cX9_equation 109 = .ok (.new 70, 3) := by decide +kernel
theorem dX9_equation_112 : decode cX9_equation 112 = .ok (.dup, 1) := by decide +kernel
theorem dX9_equation_113 : decode cX9_equation 113 = .ok (.ldc 137, 2) := by decide +kernel
theorem dX9_equation_115 : decode cX9_equation 115 = .ok (.invokespecial 74, 3) := by decide +kernel
theorem dX9_equation_118 : decode cX9_equation 118 = .ok (.athrow, 1) := by decide +kernel
theorem dX9_equation_119 : decode cX9_equation 119 = .ok (.aload_n 0, 1) := by decide +kernel
theorem dX9_equation_120 : decode cX9_equation 120 = .ok (.iconst 0, 1) := by decide +kernel
theorem dX9_equation_121 : decode cX9_equation 121 = .ok (.putfield 58, 3) := by decide +kernel
theorem dX9_equation_124 : decode cX9_equation 124 = .ok (.aload_n 0, 1) := by decide +kernel
theorem dX9_equation_125 : decode cX9_equation 125 = .ok (.getfield 12, 3) := by decide +kernel
theorem dX9_equation_128 : decode cX9_equation 128 = .ok (.iload_n 1, 1) := by decide +kernel
theorem dX9_equation_129 : decode cX9_equation 129 = .ok (.iload_n 2, 1) := by decide +kernel
theorem dX9_equation_130 : decode cX9_equation 130 = .ok (.iload_n 3, 1) := by decide +kernel
theorem dX9_equation_131 : decode cX9_equation 131 = .ok (.iload 4, 2) := by decide +kernel
theorem dX9_equation_133 : decode cX9_equation 133 = .ok (.iload 5, 2) := by decide +kernel
theorem dX9_equation_135 : decode cX9_equation 135 = .ok (.invokevirtual 139, 3) := by decide +kernel
theorem dX9_equation_138 : decode cX9_equation 138 = .ok (.ifCond .eq 7, 3) := by decide +kernel
theorem dX9_equation_141 : decode cX9_equation 141 = .ok (.iconst 1, 1) := by decide +kernel
theorem dX9_equation_142 : decode cX9_equation 142 = .ok (.goto 4, 3) := by decide +kernel
theorem dX9_equation_145 : decode cX9_equation 145 = .ok (.iconst 0, 1) := by decide +kernel
theorem dX9_equation_146 : decode cX9_equation 146 = .ok (.ireturn, 1) := by decide +kernel
theorem dX9_build_0 : decode cX9_build 0 = .ok (.aload_n 0, 1) := by decide +kernel
theorem dX9_build_1 : decode cX9_build 1 = .ok (.iconst 0, 1) := by decide +kernel
theorem dX9_build_2 : decode cX9_build 2 = .ok (.putfield 58, 3) := by decide +kernel
theorem dX9_build_5 : decode cX9_build 5 = .ok (.aload_n 0, 1) := by decide +kernel
theorem dX9_build_6 : decode cX9_build 6 = .ok (.getfield 12, 3) := by decide +kernel
theorem dX9_build_9 : decode cX9_build 9 = .ok (.invokevirtual 86, 3) := by decide +kernel
theorem dX9_build_12 : decode cX9_build 12 = .ok (.ifCond .ne 13, 3) := by decide +kernel
theorem dX9_build_15 : decode cX9_build 15 = .ok (.new 90, 3) := by decide +kernel
theorem dX9_build_18 : decode cX9_build 18 = .ok (.dup, 1) := by decide +kernel
theorem dX9_build_19 : decode cX9_build 19 = .ok (.ldc 143, 2) := by decide +kernel
theorem dX9_build_21 : decode cX9_build 21 = .ok (.invokespecial 94, 3) := by decide +kernel
theorem dX9_build_24 : decode cX9_build 24 = .ok (.athrow, 1) := by decide +kernel
theorem dX9_build_25 : decode cX9_build 25 = .ok (.aload_n 0, 1) := by decide +kernel
theorem dX9_build_26 : decode cX9_build 26 = .ok (.getfield 21, 3) := by decide +kernel
theorem dX9_build_29 : decode cX9_build 29 = .ok (.invokevirtual 145, 3) := by decide +kernel
theorem dX9_build_32 : decode cX9_build 32 = .ok (.ifCond .ne 13, 3) := by decide +kernel
theorem dX9_build_35 : decode cX9_build 35 = .ok (.new 149, 3) := by decide +kernel
theorem dX9_build_38 : decode cX9_build 38 = .ok (.dup, 1) := by decide +kernel
theorem dX9_build_39 : decode cX9_build 39 = .ok (.ldc 151, 2) := by decide +kernel
theorem dX9_build_41 : decode cX9_build 41 = .ok (.invokespecial 153, 3) := by decide +kernel
theorem dX9_build_44 : decode cX9_build 44 = .ok (.athrow, 1) := by decide +kernel
theorem dX9_build_45 : decode cX9_build 45 = .ok (.aload_n 0, 1) := by decide +kernel
theorem dX9_build_46 : decode cX9_build 46 = .ok (.getfield 21, 3) := by decide +kernel
theorem dX9_build_49 : decode cX9_build 49 = .ok (.invokevirtual 154, 3) := by decide +kernel
theorem dX9_build_52 : decode cX9_build 52 = .ok (.aload_n 0, 1) := by decide +kernel
theorem dX9_build_53 : decode cX9_build 53 = .ok (.getfield 21, 3) := by decide +kernel
theorem dX9_build_56 : decode cX9_build 56 = .ok (.invokevirtual 157, 3) := by decide +kernel
theorem dX9_build_59 : decode cX9_build 59 = .ok (.aload_n 0, 1) := by decide +kernel
theorem dX9_build_60 : decode cX9_build 60 = .ok (.getfield 28, 3) := by decide +kernel
theorem dX9_build_63 : decode cX9_build 63 = .ok (.invokevirtual 160, 3) := by decide +kernel
theorem dX9_build_66 : decode cX9_build 66 = .ok (.aload_n 0, 1) := by decide +kernel
theorem dX9_build_67 : decode cX9_build 67 = .ok (.iconst 1, 1) := by decide +kernel
theorem dX9_build_68 : decode cX9_build 68 = .ok (.putfield 58, 3) := by decide +kernel
theorem dX9_build_71 : decode cX9_build 71 = .ok (.aload_n 0, 1) := by decide +kernel
theorem dX9_build_72 : decode cX9_build 72 = .ok (.getfield 21, 3) := by decide +kernel
theorem dX9_build_75 : decode cX9_build 75 = .ok (.invokevirtual 163, 3) := by decide +kernel
theorem dX9_build_78 : decode cX9_build 78 = .ok (.ireturn, 1) := by decide +kernel
theorem dX9_first_0 : decode cX9_first 0 = .ok (.iload_n 1, 1) := by decide +kernel
theorem dX9_first_1 : decode cX9_first 1 = .ok (.invokestatic 77, 3) := by decide +kernel
theorem dX9_first_4 : decode cX9_first 4 = .ok (.ifCond .ne 13, 3) := by decide +kernel
theorem dX9_first_7 : decode cX9_first 7 = .ok (.new 70, 3) := by decide +kernel
theorem dX9_first_10 : decode cX9_first 10 = .ok (.dup, 1) := by decide +kernel
theorem dX9_first_11 : decode cX9_first 11 = .ok (.ldc 164, 2) := by decide +kernel
theorem dX9_first_13 : decode cX9_first 13 = .ok (.invokespecial 74, 3) := by decide +kernel
theorem dX9_first_16 : decode cX9_first 16 = .ok (.athrow, 1) := by decide +kernel
theorem dX9_first_17 : decode cX9_first 17 = .ok (.aload_n 0, 1) := by decide +kernel
theorem dX9_first_18 : decode cX9_first 18 = .ok (.getfield 12, 3) := by decide +kernel
theorem dX9_first_21 : decode cX9_first 21 = .ok (.iload_n 1, 1) := by decide +kernel
theorem dX9_first_22 : decode cX9_first 22 = .ok (.invokevirtual 166, 3) := by decide +kernel
theorem dX9_first_25 : decode cX9_first 25 = .ok (.ireturn, 1) := by decide +kernel
theorem dX9_action_0 : decode cX9_action 0 = .ok (.aload_n 0, 1) := by decide +kernel
theorem dX9_action_1 : decode cX9_action 1 = .ok (.getfield 58, 3) := by decide +kernel
theorem dX9_action_4 : decode cX9_action 4 = .ok (.ifCond .ne 13, 3) := by decide +kernel
theorem dX9_action_7 : decode cX9_action 7 = .ok (.new 90, 3) := by decide +kernel
theorem dX9_action_10 : decode cX9_action 10 = .ok (.dup, 1) := by decide +kernel
theorem dX9_action_11 : decode cX9_action 11 = .ok (.ldc 169, 2) := by decide +kernel
theorem dX9_action_13 : decode cX9_action 13 = .ok (.invokespecial 94, 3) := by decide +kernel
theorem dX9_action_16 : decode cX9_action 16 = .ok (.athrow, 1) := by decide +kernel
theorem dX9_action_17 : decode cX9_action 17 = .ok (.aload_n 0, 1) := by decide +kernel
theorem dX9_action_18 : decode cX9_action 18 = .ok (.getfield 21, 3) := by decide +kernel
theorem dX9_action_21 : decode cX9_action 21 = .ok (.iload_n 1, 1) := by decide +kernel
theorem dX9_action_22 : decode cX9_action 22 = .ok (.invokevirtual 171, 3) := by decide +kernel
theorem dX9_action_25 : decode cX9_action 25 = .ok (.ifCond .ne 13, 3) := by decide +kernel
theorem dX9_action_28 : decode cX9_action 28 = .ok (.new 70, 3) := by decide +kernel
theorem dX9_action_31 : decode cX9_action 31 = .ok (.dup, 1) := by decide +kernel
theorem dX9_action_32 : decode cX9_action 32 = .ok (.ldc 174, 2) := by decide +kernel
theorem dX9_action_34 : decode cX9_action 34 = .ok (.invokespecial 74, 3) := by decide +kernel
theorem dX9_action_37 : decode cX9_action 37 = .ok (.athrow, 1) := by decide +kernel
theorem dX9_action_38 : decode cX9_action 38 = .ok (.iload_n 2, 1) := by decide +kernel
theorem dX9_action_39 : decode cX9_action 39 = .ok (.ifCond .eq 20, 3) := by decide +kernel
theorem dX9_action_42 : decode cX9_action 42 = .ok (.iload_n 2, 1) := by decide +kernel
theorem dX9_action_43 : decode cX9_action 43 = .ok (.invokestatic 99, 3) := by decide +kernel
theorem dX9_action_46 : decode cX9_action 46 = .ok (.ifCond .ne 13, 3) := by decide +kernel
theorem dX9_action_49 : decode cX9_action 49 = .ok (.new 70, 3) := by decide +kernel
theorem dX9_action_52 : decode cX9_action 52 = .ok (.dup, 1) := by decide +kernel
theorem dX9_action_53 : decode cX9_action 53 = .ok (.ldc 176, 2) := by decide +kernel
theorem dX9_action_55 : decode cX9_action 55 = .ok (.invokespecial 74, 3) := by decide +kernel
theorem dX9_action_58 : decode cX9_action 58 = .ok (.athrow, 1) := by decide +kernel
theorem dX9_action_59 : decode cX9_action 59 = .ok (.aload_n 0, 1) := by decide +kernel
theorem dX9_action_60 : decode cX9_action 60 = .ok (.getfield 21, 3) := by decide +kernel
theorem dX9_action_63 : decode cX9_action 63 = .ok (.iload_n 1, 1) := by decide +kernel
theorem dX9_action_64 : decode cX9_action 64 = .ok (.iload_n 2, 1) := by decide +kernel
theorem dX9_action_65 : decode cX9_action 65 = .ok (.invokevirtual 178, 3) := by decide +kernel
theorem dX9_action_68 : decode cX9_action 68 = .ok (.ireturn, 1) := by decide +kernel
theorem dX9_go_0 : decode cX9_go 0 = .ok (.aload_n 0, 1) := by decide +kernel
theorem dX9_go_1 : decode cX9_go 1 = .ok (.getfield 58, 3) := by decide +kernel
theorem dX9_go_4 : decode cX9_go 4 = .ok (.ifCond .ne 13, 3) := by decide +kernel
theorem dX9_go_7 : decode cX9_go 7 = .ok (.new 90, 3) := by decide +kernel
theorem dX9_go_10 : decode cX9_go 10 = .ok (.dup, 1) := by decide +kernel
theorem dX9_go_11 : decode cX9_go 11 = .ok (.ldc 169, 2) := by decide +kernel
theorem dX9_go_13 : decode cX9_go 13 = .ok (.invokespecial 94, 3) := by decide +kernel
theorem dX9_go_16 : decode cX9_go 16 = .ok (.athrow, 1) := by decide +kernel
theorem dX9_go_17 : decode cX9_go 17 = .ok (.aload_n 0, 1) := by decide +kernel
theorem dX9_go_18 : decode cX9_go 18 = .ok (.getfield 21, 3) := by decide +kernel
theorem dX9_go_21 : decode cX9_go 21 = .ok (.iload_n 1, 1) := by decide +kernel
theorem dX9_go_22 : decode cX9_go 22 = .ok (.invokevirtual 171, 3) := by decide +kernel
theorem dX9_go_25 : decode cX9_go 25 = .ok (.ifCond .ne 13, 3) := by decide +kernel
theorem dX9_go_28 : decode cX9_go 28 = .ok (.new 70, 3) := by decide +kernel
theorem dX9_go_31 : decode cX9_go 31 = .ok (.dup, 1) := by decide +kernel
theorem dX9_go_32 : decode cX9_go 32 = .ok (.ldc 174, 2) := by decide +kernel
theorem dX9_go_34 : decode cX9_go 34 = .ok (.invokespecial 74, 3) := by decide +kernel
theorem dX9_go_37 : decode cX9_go 37 = .ok (.athrow, 1) := by decide +kernel
theorem dX9_go_38 : decode cX9_go 38 = .ok (.iload_n 2, 1) := by decide +kernel
theorem dX9_go_39 : decode cX9_go 39 = .ok (.invokestatic 66, 3) := by decide +kernel
theorem dX9_go_42 : decode cX9_go 42 = .ok (.ifCond .ne 13, 3) := by decide +kernel
theorem dX9_go_45 : decode cX9_go 45 = .ok (.new 70, 3) := by decide +kernel
theorem dX9_go_48 : decode cX9_go 48 = .ok (.dup, 1) := by decide +kernel
theorem dX9_go_49 : decode cX9_go 49 = .ok (.ldc 181, 2) := by decide +kernel
theorem dX9_go_51 : decode cX9_go 51 = .ok (.invokespecial 74, 3) := by decide +kernel
theorem dX9_go_54 : decode cX9_go 54 = .ok (.athrow, 1) := by decide +kernel
theorem dX9_go_55 : decode cX9_go 55 = .ok (.aload_n 0, 1) := by decide +kernel
theorem dX9_go_56 : decode cX9_go 56 = .ok (.getfield 21, 3) := by decide +kernel
theorem dX9_go_59 : decode cX9_go 59 = .ok (.iload_n 1, 1) := by decide +kernel
theorem dX9_go_60 : decode cX9_go 60 = .ok (.iload_n 2, 1) := by decide +kernel
theorem dX9_go_61 : decode cX9_go 61 = .ok (.invokevirtual 183, 3) := by decide +kernel
theorem dX9_go_64 : decode cX9_go 64 = .ok (.ireturn, 1) := by decide +kernel
theorem dX9_lookaheads_0 : decode cX9_lookaheads 0 = .ok (.aload_n 0, 1) := by decide +kernel
theorem dX9_lookaheads_1 : decode cX9_lookaheads 1 = .ok (.getfield 58, 3) := by decide +kernel
theorem dX9_lookaheads_4 : decode cX9_lookaheads 4 = .ok (.ifCond .ne 13, 3) := by decide +kernel
theorem dX9_lookaheads_7 : decode cX9_lookaheads 7 = .ok (.new 90, 3) := by decide +kernel
theorem dX9_lookaheads_10 : decode cX9_lookaheads 10 = .ok (.dup, 1) := by decide +kernel
theorem dX9_lookaheads_11 : decode cX9_lookaheads 11 = .ok (.ldc 169, 2) := by decide +kernel
theorem dX9_lookaheads_13 : decode cX9_lookaheads 13 = .ok (.invokespecial 94, 3) := by decide +kernel
theorem dX9_lookaheads_16 : decode cX9_lookaheads 16 = .ok (.athrow, 1) := by decide +kernel
theorem dX9_lookaheads_17 : decode cX9_lookaheads 17 = .ok (.aload_n 0, 1) := by decide +kernel
theorem dX9_lookaheads_18 : decode cX9_lookaheads 18 = .ok (.getfield 21, 3) := by decide +kernel
theorem dX9_lookaheads_21 : decode cX9_lookaheads 21 = .ok (.iload_n 1, 1) := by decide +kernel
theorem dX9_lookaheads_22 : decode cX9_lookaheads 22 = .ok (.invokevirtual 171, 3) := by decide +kernel
theorem dX9_lookaheads_25 : decode cX9_lookaheads 25 = .ok (.ifCond .ne 13, 3) := by decide +kernel
theorem dX9_lookaheads_28 : decode cX9_lookaheads 28 = .ok (.new 70, 3) := by decide +kernel
theorem dX9_lookaheads_31 : decode cX9_lookaheads 31 = .ok (.dup, 1) := by decide +kernel
theorem dX9_lookaheads_32 : decode cX9_lookaheads 32 = .ok (.ldc 174, 2) := by decide +kernel
theorem dX9_lookaheads_34 : decode cX9_lookaheads 34 = .ok (.invokespecial 74, 3) := by decide +kernel
theorem dX9_lookaheads_37 : decode cX9_lookaheads 37 = .ok (.athrow, 1) := by decide +kernel
theorem dX9_lookaheads_38 : decode cX9_lookaheads 38 = .ok (.aload_n 0, 1) := by decide +kernel
theorem dX9_lookaheads_39 : decode cX9_lookaheads 39 = .ok (.getfield 12, 3) := by decide +kernel
theorem dX9_lookaheads_42 : decode cX9_lookaheads 42 = .ok (.iload_n 2, 1) := by decide +kernel
theorem dX9_lookaheads_43 : decode cX9_lookaheads 43 = .ok (.invokevirtual 116, 3) := by decide +kernel
theorem dX9_lookaheads_46 : decode cX9_lookaheads 46 = .ok (.ifCond .ne 13, 3) := by decide +kernel
theorem dX9_lookaheads_49 : decode cX9_lookaheads 49 = .ok (.new 119, 3) := by decide +kernel
theorem dX9_lookaheads_52 : decode cX9_lookaheads 52 = .ok (.dup, 1) := by decide +kernel
theorem dX9_lookaheads_53 : decode cX9_lookaheads 53 = .ok (.ldc 121, 2) := by decide +kernel
theorem dX9_lookaheads_55 : decode cX9_lookaheads 55 = .ok (.invokespecial 123, 3) := by decide +kernel
theorem dX9_lookaheads_58 : decode cX9_lookaheads 58 = .ok (.athrow, 1) := by decide +kernel
theorem dX9_lookaheads_59 : decode cX9_lookaheads 59 = .ok (.aload_n 0, 1) := by decide +kernel
theorem dX9_lookaheads_60 : decode cX9_lookaheads 60 = .ok (.getfield 21, 3) := by decide +kernel
theorem dX9_lookaheads_63 : decode cX9_lookaheads 63 = .ok (.iload_n 1, 1) := by decide +kernel
theorem dX9_lookaheads_64 : decode cX9_lookaheads 64 = .ok (.iload_n 2, 1) := by decide +kernel
theorem dX9_lookaheads_65 : decode cX9_lookaheads 65 = .ok (.invokevirtual 186, 3) := by decide +kernel
theorem dX9_lookaheads_68 : decode cX9_lookaheads 68 = .ok (.ifCond .ne 13, 3) := by decide +kernel
theorem dX9_lookaheads_71 : decode cX9_lookaheads 71 = .ok (.new 119, 3) := by decide +kernel
theorem dX9_lookaheads_74 : decode cX9_lookaheads 74 = .ok (.dup, 1) := by decide +kernel
theorem dX9_lookaheads_75 : decode cX9_lookaheads 75 = .ok (.ldc 189, 2) := by decide +kernel
theorem dX9_lookaheads_77 : decode cX9_lookaheads 77 = .ok (.invokespecial 123, 3) := by decide +kernel
theorem dX9_lookaheads_80 : decode cX9_lookaheads 80 = .ok (.athrow, 1) := by decide +kernel
theorem dX9_lookaheads_81 : decode cX9_lookaheads 81 = .ok (.aload_n 0, 1) := by decide +kernel
theorem dX9_lookaheads_82 : decode cX9_lookaheads 82 = .ok (.getfield 21, 3) := by decide +kernel
theorem dX9_lookaheads_85 : decode cX9_lookaheads 85 = .ok (.iload_n 1, 1) := by decide +kernel
theorem dX9_lookaheads_86 : decode cX9_lookaheads 86 = .ok (.iload_n 2, 1) := by decide +kernel
theorem dX9_lookaheads_87 : decode cX9_lookaheads 87 = .ok (.invokevirtual 191, 3) := by decide +kernel
theorem dX9_lookaheads_90 : decode cX9_lookaheads 90 = .ok (.ireturn, 1) := by decide +kernel
theorem dX9_token_0 : decode cX9_token 0 = .ok (.iload_n 1, 1) := by decide +kernel
theorem dX9_token_1 : decode cX9_token 1 = .ok (.invokestatic 99, 3) := by decide +kernel
theorem dX9_token_4 : decode cX9_token 4 = .ok (.ifCond .ne 13, 3) := by decide +kernel
theorem dX9_token_7 : decode cX9_token 7 = .ok (.new 70, 3) := by decide +kernel
theorem dX9_token_10 : decode cX9_token 10 = .ok (.dup, 1) := by decide +kernel
theorem dX9_token_11 : decode cX9_token 11 = .ok (.ldc 102, 2) := by decide +kernel
theorem dX9_token_13 : decode cX9_token 13 = .ok (.invokespecial 74, 3) := by decide +kernel
theorem dX9_token_16 : decode cX9_token 16 = .ok (.athrow, 1) := by decide +kernel
theorem dX9_token_17 : decode cX9_token 17 = .ok (.aload_n 0, 1) := by decide +kernel
theorem dX9_token_18 : decode cX9_token 18 = .ok (.getfield 37, 3) := by decide +kernel
theorem dX9_token_21 : decode cX9_token 21 = .ok (.invokevirtual 194, 3) := by decide +kernel
theorem dX9_token_24 : decode cX9_token 24 = .ok (.bipush 40, 2) := by decide +kernel
theorem dX9_token_26 : decode cX9_token 26 = .ok (.if_icmp .lt 13, 3) := by decide +kernel
theorem dX9_token_29 : decode cX9_token 29 = .ok (.new 90, 3) := by decide +kernel
theorem dX9_token_32 : decode cX9_token 32 = .ok (.dup, 1) := by decide +kernel
theorem dX9_token_33 : decode cX9_token 33 = .ok (.ldc 195, 2) := by decide +kernel
theorem dX9_token_35 : decode cX9_token 35 = .ok (.invokespecial 94, 3) := by decide +kernel
theorem dX9_token_38 : decode cX9_token 38 = .ok (.athrow, 1) := by decide +kernel
theorem dX9_token_39 : decode cX9_token 39 = .ok (.aload_n 0, 1) := by decide +kernel
theorem dX9_token_40 : decode cX9_token 40 = .ok (.getfield 37, 3) := by decide +kernel
theorem dX9_token_43 : decode cX9_token 43 = .ok (.iload_n 1, 1) := by decide +kernel
theorem dX9_token_44 : decode cX9_token 44 = .ok (.iload_n 2, 1) := by decide +kernel
theorem dX9_token_45 : decode cX9_token 45 = .ok (.invokevirtual 197, 3) := by decide +kernel
theorem dX9_token_48 : decode cX9_token 48 = .ok (.ireturn, 1) := by decide +kernel
theorem dX9_parse_0 : decode cX9_parse 0 = .ok (.aload_n 0, 1) := by decide +kernel
theorem dX9_parse_1 : decode cX9_parse 1 = .ok (.getfield 58, 3) := by decide +kernel
theorem dX9_parse_4 : decode cX9_parse 4 = .ok (.ifCond .ne 13, 3) := by decide +kernel
theorem dX9_parse_7 : decode cX9_parse 7 = .ok (.new 90, 3) := by decide +kernel
theorem dX9_parse_10 : decode cX9_parse 10 = .ok (.dup, 1) := by decide +kernel
theorem dX9_parse_11 : decode cX9_parse 11 = .ok (.ldc 169, 2) := by decide +kernel
theorem dX9_parse_13 : decode cX9_parse 13 = .ok (.invokespecial 94, 3) := by decide +kernel
theorem dX9_parse_16 : decode cX9_parse 16 = .ok (.athrow, 1) := by decide +kernel
theorem dX9_parse_17 : decode cX9_parse 17 = .ok (.aload_n 0, 1) := by decide +kernel
theorem dX9_parse_18 : decode cX9_parse 18 = .ok (.getfield 21, 3) := by decide +kernel
theorem dX9_parse_21 : decode cX9_parse 21 = .ok (.invokevirtual 200, 3) := by decide +kernel
theorem dX9_parse_24 : decode cX9_parse 24 = .ok (.ifCond .le 13, 3) := by decide +kernel
theorem dX9_parse_27 : decode cX9_parse 27 = .ok (.new 90, 3) := by decide +kernel
theorem dX9_parse_30 : decode cX9_parse 30 = .ok (.dup, 1) := by decide +kernel
theorem dX9_parse_31 : decode cX9_parse 31 = .ok (.ldc 203, 2) := by decide +kernel
theorem dX9_parse_33 : decode cX9_parse 33 = .ok (.invokespecial 94, 3) := by decide +kernel
theorem dX9_parse_36 : decode cX9_parse 36 = .ok (.athrow, 1) := by decide +kernel
theorem dX9_parse_37 : decode cX9_parse 37 = .ok (.aload_n 0, 1) := by decide +kernel
theorem dX9_parse_38 : decode cX9_parse 38 = .ok (.getfield 28, 3) := by decide +kernel
theorem dX9_parse_41 : decode cX9_parse 41 = .ok (.invokevirtual 205, 3) := by decide +kernel
theorem dX9_parse_44 : decode cX9_parse 44 = .ok (.ifCond .eq 13, 3) := by decide +kernel
theorem dX9_parse_47 : decode cX9_parse 47 = .ok (.new 90, 3) := by decide +kernel
theorem dX9_parse_50 : decode cX9_parse 50 = .ok (.dup, 1) := by decide +kernel
theorem dX9_parse_51 : decode cX9_parse 51 = .ok (.ldc 208, 2) := by decide +kernel
theorem dX9_parse_53 : decode cX9_parse 53 = .ok (.invokespecial 94, 3) := by decide +kernel
theorem dX9_parse_56 : decode cX9_parse 56 = .ok (.athrow, 1) := by decide +kernel
theorem dX9_parse_57 : decode cX9_parse 57 = .ok (.aload_n 0, 1) := by decide +kernel
theorem dX9_parse_58 : decode cX9_parse 58 = .ok (.getfield 37, 3) := by decide +kernel
theorem dX9_parse_61 : decode cX9_parse 61 = .ok (.aload_n 0, 1) := by decide +kernel
theorem dX9_parse_62 : decode cX9_parse 62 = .ok (.getfield 55, 3) := by decide +kernel
theorem dX9_parse_65 : decode cX9_parse 65 = .ok (.invokevirtual 210, 3) := by decide +kernel
theorem dX9_parse_68 : decode cX9_parse 68 = .ok (.istore_n 1, 1) := by decide +kernel
theorem dX9_parse_69 : decode cX9_parse 69 = .ok (.aload_n 0, 1) := by decide +kernel
theorem dX9_parse_70 : decode cX9_parse 70 = .ok (.getfield 37, 3) := by decide +kernel
theorem dX9_parse_73 : decode cX9_parse 73 = .ok (.invokevirtual 214, 3) := by decide +kernel
theorem dX9_parse_76 : decode cX9_parse 76 = .ok (.aload_n 0, 1) := by decide +kernel
theorem dX9_parse_77 : decode cX9_parse 77 = .ok (.iload_n 1, 1) := by decide +kernel
theorem dX9_parse_78 : decode cX9_parse 78 = .ok (.ifCond .lt 7, 3) := by decide +kernel
theorem dX9_parse_81 : decode cX9_parse 81 = .ok (.iload_n 1, 1) := by decide +kernel
theorem dX9_parse_82 : decode cX9_parse 82 = .ok (.goto 4, 3) := by decide +kernel
theorem dX9_parse_85 : decode cX9_parse 85 = .ok (.iconst (-1), 1) := by decide +kernel
theorem dX9_parse_86 : decode cX9_parse 86 = .ok (.putfield 62, 3) := by decide +kernel
theorem dX9_parse_89 : decode cX9_parse 89 = .ok (.iload_n 1, 1) := by decide +kernel
theorem dX9_parse_90 : decode cX9_parse 90 = .ok (.bipush (-2), 2) := by decide +kernel
theorem dX9_parse_92 : decode cX9_parse 92 = .ok (.if_icmp .ne 13, 3) := by decide +kernel
theorem dX9_parse_95 : decode cX9_parse 95 = .ok (.new 149, 3) := by decide +kernel
theorem dX9_parse_98 : decode cX9_parse 98 = .ok (.dup, 1) := by decide +kernel
theorem dX9_parse_99 : decode cX9_parse 99 = .ok (.ldc 217, 2) := by decide +kernel
theorem dX9_parse_101 : decode cX9_parse 101 = .ok (.invokespecial 153, 3) := by decide +kernel
theorem dX9_parse_104 : decode cX9_parse 104 = .ok (.athrow, 1) := by decide +kernel
theorem dX9_parse_105 : decode cX9_parse 105 = .ok (.iload_n 1, 1) := by decide +kernel
theorem dX9_parse_106 : decode cX9_parse 106 = .ok (.iconst (-1), 1) := by decide +kernel
theorem dX9_parse_107 : decode cX9_parse 107 = .ok (.if_icmp .eq 13, 3) := by decide +kernel
theorem dX9_parse_110 : decode cX9_parse 110 = .ok (.new 70, 3) := by decide +kernel
theorem dX9_parse_113 : decode cX9_parse 113 = .ok (.dup, 1) := by decide +kernel
theorem dX9_parse_114 : decode cX9_parse 114 = .ok (.ldc 219, 2) := by decide +kernel
theorem dX9_parse_116 : decode cX9_parse 116 = .ok (.invokespecial 74, 3) := by decide +kernel
theorem dX9_parse_119 : decode cX9_parse 119 = .ok (.athrow, 1) := by decide +kernel
theorem dX9_parse_120 : decode cX9_parse 120 = .ok (.aload_n 0, 1) := by decide +kernel
theorem dX9_parse_121 : decode cX9_parse 121 = .ok (.getfield 44, 3) := by decide +kernel
theorem dX9_parse_124 : decode cX9_parse 124 = .ok (.aload_n 0, 1) := by decide +kernel
theorem dX9_parse_125 : decode cX9_parse 125 = .ok (.getfield 55, 3) := by decide +kernel
theorem dX9_parse_128 : decode cX9_parse 128 = .ok (.invokevirtual 221, 3) := by decide +kernel
theorem dX9_parse_131 : decode cX9_parse 131 = .ok (.aload_n 0, 1) := by decide +kernel
theorem dX9_parse_132 : decode cX9_parse 132 = .ok (.getfield 51, 3) := by decide +kernel
theorem dX9_parse_135 : decode cX9_parse 135 = .ok (.astore_n 2, 1) := by decide +kernel
theorem dX9_parse_136 : decode cX9_parse 136 = .ok (.aload_n 0, 1) := by decide +kernel
theorem dX9_parse_137 : decode cX9_parse 137 = .ok (.aload_n 0, 1) := by decide +kernel
theorem dX9_parse_138 : decode cX9_parse 138 = .ok (.getfield 55, 3) := by decide +kernel
theorem dX9_parse_141 : decode cX9_parse 141 = .ok (.putfield 51, 3) := by decide +kernel
theorem dX9_parse_144 : decode cX9_parse 144 = .ok (.aload_n 0, 1) := by decide +kernel
theorem dX9_parse_145 : decode cX9_parse 145 = .ok (.aload_n 2, 1) := by decide +kernel
theorem dX9_parse_146 : decode cX9_parse 146 = .ok (.putfield 55, 3) := by decide +kernel
theorem dX9_parse_149 : decode cX9_parse 149 = .ok (.aload_n 0, 1) := by decide +kernel
theorem dX9_parse_150 : decode cX9_parse 150 = .ok (.getfield 51, 3) := by decide +kernel
theorem dX9_parse_153 : decode cX9_parse 153 = .ok (.invokevirtual 225, 3) := by decide +kernel
theorem dX9_parse_156 : decode cX9_parse 156 = .ok (.ireturn, 1) := by decide +kernel
theorem dX9_fault_0 : decode cX9_fault 0 = .ok (.aload_n 0, 1) := by decide +kernel
theorem dX9_fault_1 : decode cX9_fault 1 = .ok (.getfield 62, 3) := by decide +kernel
theorem dX9_fault_4 : decode cX9_fault 4 = .ok (.ireturn, 1) := by decide +kernel
theorem dX9_node_0 : decode cX9_node 0 = .ok (.aload_n 0, 1) := by decide +kernel
theorem dX9_node_1 : decode cX9_node 1 = .ok (.getfield 51, 3) := by decide +kernel
theorem dX9_node_4 : decode cX9_node 4 = .ok (.iload_n 1, 1) := by decide +kernel
theorem dX9_node_5 : decode cX9_node 5 = .ok (.invokevirtual 226, 3) := by decide +kernel
theorem dX9_node_8 : decode cX9_node 8 = .ok (.ifCond .ne 13, 3) := by decide +kernel
theorem dX9_node_11 : decode cX9_node 11 = .ok (.new 119, 3) := by decide +kernel
theorem dX9_node_14 : decode cX9_node 14 = .ok (.dup, 1) := by decide +kernel
theorem dX9_node_15 : decode cX9_node 15 = .ok (.ldc 229, 2) := by decide +kernel
theorem dX9_node_17 : decode cX9_node 17 = .ok (.invokespecial 123, 3) := by decide +kernel
theorem dX9_node_20 : decode cX9_node 20 = .ok (.athrow, 1) := by decide +kernel
theorem dX9_node_21 : decode cX9_node 21 = .ok (.iload_n 2, 1) := by decide +kernel
theorem dX9_node_22 : decode cX9_node 22 = .ok (.ifCond .lt 8, 3) := by decide +kernel
theorem dX9_node_25 : decode cX9_node 25 = .ok (.iload_n 2, 1) := by decide +kernel
theorem dX9_node_26 : decode cX9_node 26 = .ok (.iconst 3, 1) := by decide +kernel
theorem dX9_node_27 : decode cX9_node 27 = .ok (.if_icmp .le 13, 3) := by decide +kernel
theorem dX9_node_30 : decode cX9_node 30 = .ok (.new 70, 3) := by decide +kernel
theorem dX9_node_33 : decode cX9_node 33 = .ok (.dup, 1) := by decide +kernel
theorem dX9_node_34 : decode cX9_node 34 = .ok (.ldc 231, 2) := by decide +kernel
theorem dX9_node_36 : decode cX9_node 36 = .ok (.invokespecial 74, 3) := by decide +kernel
theorem dX9_node_39 : decode cX9_node 39 = .ok (.athrow, 1) := by decide +kernel
theorem dX9_node_40 : decode cX9_node 40 = .ok (.aload_n 0, 1) := by decide +kernel
theorem dX9_node_41 : decode cX9_node 41 = .ok (.getfield 51, 3) := by decide +kernel
theorem dX9_node_44 : decode cX9_node 44 = .ok (.iload_n 1, 1) := by decide +kernel
theorem dX9_node_45 : decode cX9_node 45 = .ok (.iload_n 2, 1) := by decide +kernel
theorem dX9_node_46 : decode cX9_node 46 = .ok (.invokevirtual 233, 3) := by decide +kernel
theorem dX9_node_49 : decode cX9_node 49 = .ok (.ireturn, 1) := by decide +kernel
theorem dX9_attribute_0 : decode cX9_attribute 0 = .ok (.aload_n 0, 1) := by decide +kernel
theorem dX9_attribute_1 : decode cX9_attribute 1 = .ok (.getfield 51, 3) := by decide +kernel
theorem dX9_attribute_4 : decode cX9_attribute 4 = .ok (.iload_n 1, 1) := by decide +kernel
theorem dX9_attribute_5 : decode cX9_attribute 5 = .ok (.invokevirtual 226, 3) := by decide +kernel
theorem dX9_attribute_8 : decode cX9_attribute 8 = .ok (.ifCond .ne 13, 3) := by decide +kernel
theorem dX9_attribute_11 : decode cX9_attribute 11 = .ok (.new 119, 3) := by decide +kernel
theorem dX9_attribute_14 : decode cX9_attribute 14 = .ok (.dup, 1) := by decide +kernel
theorem dX9_attribute_15 : decode cX9_attribute 15 = .ok (.ldc 229, 2) := by decide +kernel
theorem dX9_attribute_17 : decode cX9_attribute 17 = .ok (.invokespecial 123, 3) := by decide +kernel
theorem dX9_attribute_20 : decode cX9_attribute 20 = .ok (.athrow, 1) := by decide +kernel
theorem dX9_attribute_21 : decode cX9_attribute 21 = .ok (.iload_n 2, 1) := by decide +kernel
theorem dX9_attribute_22 : decode cX9_attribute 22 = .ok (.ifCond .lt 8, 3) := by decide +kernel
theorem dX9_attribute_25 : decode cX9_attribute 25 = .ok (.iload_n 2, 1) := by decide +kernel
theorem dX9_attribute_26 : decode cX9_attribute 26 = .ok (.iconst 3, 1) := by decide +kernel
theorem dX9_attribute_27 : decode cX9_attribute 27 = .ok (.if_icmp .lt 13, 3) := by decide +kernel
theorem dX9_attribute_30 : decode cX9_attribute 30 = .ok (.new 70, 3) := by decide +kernel
theorem dX9_attribute_33 : decode cX9_attribute 33 = .ok (.dup, 1) := by decide +kernel
theorem dX9_attribute_34 : decode cX9_attribute 34 = .ok (.ldc 236, 2) := by decide +kernel
theorem dX9_attribute_36 : decode cX9_attribute 36 = .ok (.invokespecial 74, 3) := by decide +kernel
theorem dX9_attribute_39 : decode cX9_attribute 39 = .ok (.athrow, 1) := by decide +kernel
theorem dX9_attribute_40 : decode cX9_attribute 40 = .ok (.aload_n 0, 1) := by decide +kernel
theorem dX9_attribute_41 : decode cX9_attribute 41 = .ok (.getfield 51, 3) := by decide +kernel
theorem dX9_attribute_44 : decode cX9_attribute 44 = .ok (.iload_n 1, 1) := by decide +kernel
theorem dX9_attribute_45 : decode cX9_attribute 45 = .ok (.iconst 3, 1) := by decide +kernel
theorem dX9_attribute_46 : decode cX9_attribute 46 = .ok (.imul, 1) := by decide +kernel
theorem dX9_attribute_47 : decode cX9_attribute 47 = .ok (.iload_n 2, 1) := by decide +kernel
theorem dX9_attribute_48 : decode cX9_attribute 48 = .ok (.iadd, 1) := by decide +kernel
theorem dX9_attribute_49 : decode cX9_attribute 49 = .ok (.invokevirtual 238, 3) := by decide +kernel
theorem dX9_attribute_52 : decode cX9_attribute 52 = .ok (.lreturn, 1) := by decide +kernel
theorem dX9_clear_0 : decode cX9_clear 0 = .ok (.aload_n 0, 1) := by decide +kernel
theorem dX9_clear_1 : decode cX9_clear 1 = .ok (.getfield 12, 3) := by decide +kernel
theorem dX9_clear_4 : decode cX9_clear 4 = .ok (.invokevirtual 86, 3) := by decide +kernel
theorem dX9_clear_7 : decode cX9_clear 7 = .ok (.istore_n 1, 1) := by decide +kernel
theorem dX9_clear_8 : decode cX9_clear 8 = .ok (.aload_n 0, 1) := by decide +kernel
theorem dX9_clear_9 : decode cX9_clear 9 = .ok (.getfield 12, 3) := by decide +kernel
theorem dX9_clear_12 : decode cX9_clear 12 = .ok (.invokevirtual 242, 3) := by decide +kernel
theorem dX9_clear_15 : decode cX9_clear 15 = .ok (.aload_n 0, 1) := by decide +kernel
theorem dX9_clear_16 : decode cX9_clear 16 = .ok (.getfield 37, 3) := by decide +kernel
theorem dX9_clear_19 : decode cX9_clear 19 = .ok (.invokevirtual 214, 3) := by decide +kernel
theorem dX9_clear_22 : decode cX9_clear 22 = .ok (.aload_n 0, 1) := by decide +kernel
theorem dX9_clear_23 : decode cX9_clear 23 = .ok (.iconst 0, 1) := by decide +kernel
theorem dX9_clear_24 : decode cX9_clear 24 = .ok (.putfield 58, 3) := by decide +kernel
theorem dX9_clear_27 : decode cX9_clear 27 = .ok (.iload_n 1, 1) := by decide +kernel
theorem dX9_clear_28 : decode cX9_clear 28 = .ok (.ireturn, 1) := by decide +kernel
theorem dX9_count_0 : decode cX9_count 0 = .ok (.iload_n 1, 1) := by decide +kernel
theorem dX9_count_1 : decode cX9_count 1 = .ok (.tableswitch 136 0 6 #[43, 51, 59, 78, 97, 120, 128], 43) := by decide +kernel
theorem dX9_count_44 : decode cX9_count 44 = .ok (.aload_n 0, 1) := by decide +kernel
theorem dX9_count_45 : decode cX9_count 45 = .ok (.getfield 12, 3) := by decide +kernel
theorem dX9_count_48 : decode cX9_count 48 = .ok (.invokevirtual 86, 3) := by decide +kernel
theorem dX9_count_51 : decode cX9_count 51 = .ok (.ireturn, 1) := by decide +kernel
theorem dX9_count_52 : decode cX9_count 52 = .ok (.aload_n 0, 1) := by decide +kernel
theorem dX9_count_53 : decode cX9_count 53 = .ok (.getfield 12, 3) := by decide +kernel
theorem dX9_count_56 : decode cX9_count 56 = .ok (.invokevirtual 245, 3) := by decide +kernel
theorem dX9_count_59 : decode cX9_count 59 = .ok (.ireturn, 1) := by decide +kernel
theorem dX9_count_60 : decode cX9_count 60 = .ok (.aload_n 0, 1) := by decide +kernel
theorem dX9_count_61 : decode cX9_count 61 = .ok (.getfield 58, 3) := by decide +kernel
theorem dX9_count_64 : decode cX9_count 64 = .ok (.ifCond .eq 13, 3) := by decide +kernel
theorem dX9_count_67 : decode cX9_count 67 = .ok (.aload_n 0, 1) := by decide +kernel
theorem dX9_count_68 : decode cX9_count 68 = .ok (.getfield 21, 3) := by decide +kernel
theorem dX9_count_71 : decode cX9_count 71 = .ok (.invokevirtual 163, 3) := by decide +kernel
theorem dX9_count_74 : decode cX9_count 74 = .ok (.goto 4, 3) := by decide +kernel
theorem dX9_count_77 : decode cX9_count 77 = .ok (.iconst 0, 1) := by decide +kernel
theorem dX9_count_78 : decode cX9_count 78 = .ok (.ireturn, 1) := by decide +kernel
theorem dX9_count_79 : decode cX9_count 79 = .ok (.aload_n 0, 1) := by decide +kernel
theorem dX9_count_80 : decode cX9_count 80 = .ok (.getfield 58, 3) := by decide +kernel
theorem dX9_count_83 : decode cX9_count 83 = .ok (.ifCond .eq 13, 3) := by decide +kernel
theorem dX9_count_86 : decode cX9_count 86 = .ok (.aload_n 0, 1) := by decide +kernel
theorem dX9_count_87 : decode cX9_count 87 = .ok (.getfield 21, 3) := by decide +kernel
theorem dX9_count_90 : decode cX9_count 90 = .ok (.invokevirtual 200, 3) := by decide +kernel
theorem dX9_count_93 : decode cX9_count 93 = .ok (.goto 4, 3) := by decide +kernel
theorem dX9_count_96 : decode cX9_count 96 = .ok (.iconst 0, 1) := by decide +kernel
theorem dX9_count_97 : decode cX9_count 97 = .ok (.ireturn, 1) := by decide +kernel
theorem dX9_count_98 : decode cX9_count 98 = .ok (.aload_n 0, 1) := by decide +kernel
theorem dX9_count_99 : decode cX9_count 99 = .ok (.getfield 58, 3) := by decide +kernel
theorem dX9_count_102 : decode cX9_count 102 = .ok (.ifCond .eq 17, 3) := by decide +kernel
theorem dX9_count_105 : decode cX9_count 105 = .ok (.aload_n 0, 1) := by decide +kernel
theorem dX9_count_106 : decode cX9_count 106 = .ok (.getfield 28, 3) := by decide +kernel
theorem dX9_count_109 : decode cX9_count 109 = .ok (.invokevirtual 205, 3) := by decide +kernel
theorem dX9_count_112 : decode cX9_count 112 = .ok (.ifCond .eq 7, 3) := by decide +kernel
theorem dX9_count_115 : decode cX9_count 115 = .ok (.iconst 1, 1) := by decide +kernel
theorem dX9_count_116 : decode cX9_count 116 = .ok (.goto 4, 3) := by decide +kernel
theorem dX9_count_119 : decode cX9_count 119 = .ok (.iconst 0, 1) := by decide +kernel
theorem dX9_count_120 : decode cX9_count 120 = .ok (.ireturn, 1) := by decide +kernel
theorem dX9_count_121 : decode cX9_count 121 = .ok (.aload_n 0, 1) := by decide +kernel
theorem dX9_count_122 : decode cX9_count 122 = .ok (.getfield 51, 3) := by decide +kernel
theorem dX9_count_125 : decode cX9_count 125 = .ok (.invokevirtual 225, 3) := by decide +kernel
theorem dX9_count_128 : decode cX9_count 128 = .ok (.ireturn, 1) := by decide +kernel
theorem dX9_count_129 : decode cX9_count 129 = .ok (.aload_n 0, 1) := by decide +kernel
theorem dX9_count_130 : decode cX9_count 130 = .ok (.getfield 37, 3) := by decide +kernel
theorem dX9_count_133 : decode cX9_count 133 = .ok (.invokevirtual 194, 3) := by decide +kernel
theorem dX9_count_136 : decode cX9_count 136 = .ok (.ireturn, 1) := by decide +kernel
theorem dX9_count_137 : decode cX9_count 137 = .ok (.new 70, 3) := by decide +kernel
theorem dX9_count_140 : decode cX9_count 140 = .ok (.dup, 1) := by decide +kernel
theorem dX9_count_141 : decode cX9_count 141 = .ok (.ldc 248, 2) := by decide +kernel
theorem dX9_count_143 : decode cX9_count 143 = .ok (.invokespecial 74, 3) := by decide +kernel
theorem dX9_count_146 : decode cX9_count 146 = .ok (.athrow, 1) := by decide +kernel
theorem dX9_isTerminal_0 : decode cX9_isTerminal 0 = .ok (.iload_n 0, 1) := by decide +kernel
theorem dX9_isTerminal_1 : decode cX9_isTerminal 1 = .ok (.iconst 1, 1) := by decide +kernel
theorem dX9_isTerminal_2 : decode cX9_isTerminal 2 = .ok (.if_icmp .lt 13, 3) := by decide +kernel
theorem dX9_isTerminal_5 : decode cX9_isTerminal 5 = .ok (.iload_n 0, 1) := by decide +kernel
theorem dX9_isTerminal_6 : decode cX9_isTerminal 6 = .ok (.bipush 6, 2) := by decide +kernel
theorem dX9_isTerminal_8 : decode cX9_isTerminal 8 = .ok (.if_icmp .gt 7, 3) := by decide +kernel
theorem dX9_isTerminal_11 : decode cX9_isTerminal 11 = .ok (.iconst 1, 1) := by decide +kernel
theorem dX9_isTerminal_12 : decode cX9_isTerminal 12 = .ok (.goto 4, 3) := by decide +kernel
theorem dX9_isTerminal_15 : decode cX9_isTerminal 15 = .ok (.iconst 0, 1) := by decide +kernel
theorem dX9_isTerminal_16 : decode cX9_isTerminal 16 = .ok (.ireturn, 1) := by decide +kernel
theorem dX9_isNonterminal_0 : decode cX9_isNonterminal 0 = .ok (.iload_n 0, 1) := by decide +kernel
theorem dX9_isNonterminal_1 : decode cX9_isNonterminal 1 = .ok (.bipush 8, 2) := by decide +kernel
theorem dX9_isNonterminal_3 : decode cX9_isNonterminal 3 = .ok (.if_icmp .lt 13, 3) := by decide +kernel
theorem dX9_isNonterminal_6 : decode cX9_isNonterminal 6 = .ok (.iload_n 0, 1) := by decide +kernel
theorem dX9_isNonterminal_7 : decode cX9_isNonterminal 7 = .ok (.bipush 13, 2) := by decide +kernel
theorem dX9_isNonterminal_9 : decode cX9_isNonterminal 9 = .ok (.if_icmp .gt 7, 3) := by decide +kernel
theorem dX9_isNonterminal_12 : decode cX9_isNonterminal 12 = .ok (.iconst 1, 1) := by decide +kernel
theorem dX9_isNonterminal_13 : decode cX9_isNonterminal 13 = .ok (.goto 4, 3) := by decide +kernel
theorem dX9_isNonterminal_16 : decode cX9_isNonterminal 16 = .ok (.iconst 0, 1) := by decide +kernel
theorem dX9_isNonterminal_17 : decode cX9_isNonterminal 17 = .ok (.ireturn, 1) := by decide +kernel
theorem dX9_isSymbol_0 : decode cX9_isSymbol 0 = .ok (.iload_n 0, 1) := by decide +kernel
theorem dX9_isSymbol_1 : decode cX9_isSymbol 1 = .ok (.invokestatic 99, 3) := by decide +kernel
theorem dX9_isSymbol_4 : decode cX9_isSymbol 4 = .ok (.ifCond .ne 10, 3) := by decide +kernel
theorem dX9_isSymbol_7 : decode cX9_isSymbol 7 = .ok (.iload_n 0, 1) := by decide +kernel
theorem dX9_isSymbol_8 : decode cX9_isSymbol 8 = .ok (.invokestatic 66, 3) := by decide +kernel
theorem dX9_isSymbol_11 : decode cX9_isSymbol 11 = .ok (.ifCond .eq 7, 3) := by decide +kernel
theorem dX9_isSymbol_14 : decode cX9_isSymbol 14 = .ok (.iconst 1, 1) := by decide +kernel
theorem dX9_isSymbol_15 : decode cX9_isSymbol 15 = .ok (.goto 4, 3) := by decide +kernel
theorem dX9_isSymbol_18 : decode cX9_isSymbol 18 = .ok (.iconst 0, 1) := by decide +kernel
theorem dX9_isSymbol_19 : decode cX9_isSymbol 19 = .ok (.ireturn, 1) := by decide +kernel
theorem dX9_mayFollow_0 : decode cX9_mayFollow 0 = .ok (.iload_n 1, 1) := by decide +kernel
theorem dX9_mayFollow_1 : decode cX9_mayFollow 1 = .ok (.ifCond .eq 14, 3) := by decide +kernel
theorem dX9_mayFollow_4 : decode cX9_mayFollow 4 = .ok (.iload_n 0, 1) := by decide +kernel
theorem dX9_mayFollow_5 : decode cX9_mayFollow 5 = .ok (.ifCond .eq 14, 3) := by decide +kernel
theorem dX9_mayFollow_8 : decode cX9_mayFollow 8 = .ok (.iload_n 1, 1) := by decide +kernel
theorem dX9_mayFollow_9 : decode cX9_mayFollow 9 = .ok (.invokestatic 77, 3) := by decide +kernel
theorem dX9_mayFollow_12 : decode cX9_mayFollow 12 = .ok (.ifCond .eq 7, 3) := by decide +kernel
theorem dX9_mayFollow_15 : decode cX9_mayFollow 15 = .ok (.iconst 1, 1) := by decide +kernel
theorem dX9_mayFollow_16 : decode cX9_mayFollow 16 = .ok (.goto 4, 3) := by decide +kernel
theorem dX9_mayFollow_19 : decode cX9_mayFollow 19 = .ok (.iconst 0, 1) := by decide +kernel
theorem dX9_mayFollow_20 : decode cX9_mayFollow 20 = .ok (.ireturn, 1) := by decide +kernel
theorem dX10_init_0 : decode cX10_init 0 = .ok (.aload_n 0, 1) := by decide +kernel
theorem dX10_init_1 : decode cX10_init 1 = .ok (.invokespecial 1, 3) := by decide +kernel
theorem dX10_init_4 : decode cX10_init 4 = .ok (.aload_n 0, 1) := by decide +kernel
theorem dX10_init_5 : decode cX10_init 5 = .ok (.bipush 15, 2) := by decide +kernel
theorem dX10_init_7 : decode cX10_init 7 = .ok (.newarray .int, 2) := by decide +kernel
theorem dX10_init_9 : decode cX10_init 9 = .ok (.putfield 7, 3) := by decide +kernel
theorem dX10_init_12 : decode cX10_init 12 = .ok (.aload_n 0, 1) := by decide +kernel
theorem dX10_init_13 : decode cX10_init 13 = .ok (.bipush 60, 2) := by decide +kernel
theorem dX10_init_15 : decode cX10_init 15 = .ok (.newarray .int, 2) := by decide +kernel
theorem dX10_init_17 : decode cX10_init 17 = .ok (.putfield 13, 3) := by decide +kernel
theorem dX10_init_20 : decode cX10_init 20 = .ok (.aload_n 0, 1) := by decide +kernel
theorem dX10_init_21 : decode cX10_init 21 = .ok (.bipush 15, 2) := by decide +kernel
theorem dX10_init_23 : decode cX10_init 23 = .ok (.newarray .int, 2) := by decide +kernel
theorem dX10_init_25 : decode cX10_init 25 = .ok (.putfield 16, 3) := by decide +kernel
theorem dX10_init_28 : decode cX10_init 28 = .ok (.aload_n 0, 1) := by decide +kernel
theorem dX10_init_29 : decode cX10_init 29 = .ok (.bipush 7, 2) := by decide +kernel
theorem dX10_init_31 : decode cX10_init 31 = .ok (.newarray .int, 2) := by decide +kernel
theorem dX10_init_33 : decode cX10_init 33 = .ok (.putfield 19, 3) := by decide +kernel
theorem dX10_init_36 : decode cX10_init 36 = .ok (.aload_n 0, 1) := by decide +kernel
theorem dX10_init_37 : decode cX10_init 37 = .ok (.bipush 7, 2) := by decide +kernel
theorem dX10_init_39 : decode cX10_init 39 = .ok (.newarray .int, 2) := by decide +kernel
theorem dX10_init_41 : decode cX10_init 41 = .ok (.putfield 22, 3) := by decide +kernel
theorem dX10_init_44 : decode cX10_init 44 = .ok (.aload_n 0, 1) := by decide +kernel
theorem dX10_init_45 : decode cX10_init 45 = .ok (.sipush 210, 3) := by decide +kernel
theorem dX10_init_48 : decode cX10_init 48 = .ok (.newarray .int, 2) := by decide +kernel
theorem dX10_init_50 : decode cX10_init 50 = .ok (.putfield 25, 3) := by decide +kernel
theorem dX10_init_53 : decode cX10_init 53 = .ok (.aload_n 0, 1) := by decide +kernel
theorem dX10_init_54 : decode cX10_init 54 = .ok (.sipush 210, 3) := by decide +kernel
theorem dX10_init_57 : decode cX10_init 57 = .ok (.newarray .int, 2) := by decide +kernel
theorem dX10_init_59 : decode cX10_init 59 = .ok (.putfield 28, 3) := by decide +kernel
theorem dX10_init_62 : decode cX10_init 62 = .ok (.aload_n 0, 1) := by decide +kernel
theorem dX10_init_63 : decode cX10_init 63 = .ok (.sipush 210, 3) := by decide +kernel
theorem dX10_init_66 : decode cX10_init 66 = .ok (.newarray .int, 2) := by decide +kernel
theorem dX10_init_68 : decode cX10_init 68 = .ok (.putfield 31, 3) := by decide +kernel
theorem dX10_init_71 : decode cX10_init 71 = .ok (.aload_n 0, 1) := by decide +kernel
theorem dX10_init_72 : decode cX10_init 72 = .ok (.sipush 3750, 3) := by decide +kernel
theorem dX10_init_75 : decode cX10_init 75 = .ok (.newarray .boolean, 2) := by decide +kernel
theorem dX10_init_77 : decode cX10_init 77 = .ok (.putfield 34, 3) := by decide +kernel
theorem dX10_init_80 : decode cX10_init 80 = .ok (.aload_n 0, 1) := by decide +kernel
theorem dX10_init_81 : decode cX10_init 81 = .ok (.bipush 75, 2) := by decide +kernel
theorem dX10_init_83 : decode cX10_init 83 = .ok (.newarray .boolean, 2) := by decide +kernel
theorem dX10_init_85 : decode cX10_init 85 = .ok (.putfield 38, 3) := by decide +kernel
theorem dX10_init_88 : decode cX10_init 88 = .ok (.aload_n 0, 1) := by decide +kernel
theorem dX10_init_89 : decode cX10_init 89 = .ok (.sipush 700, 3) := by decide +kernel
theorem dX10_init_92 : decode cX10_init 92 = .ok (.newarray .int, 2) := by decide +kernel
theorem dX10_init_94 : decode cX10_init 94 = .ok (.putfield 41, 3) := by decide +kernel
theorem dX10_init_97 : decode cX10_init 97 = .ok (.aload_n 0, 1) := by decide +kernel
theorem dX10_init_98 : decode cX10_init 98 = .ok (.bipush 14, 2) := by decide +kernel
theorem dX10_init_100 : decode cX10_init 100 = .ok (.newarray .boolean, 2) := by decide +kernel
theorem dX10_init_102 : decode cX10_init 102 = .ok (.putfield 44, 3) := by decide +kernel
theorem dX10_init_105 : decode cX10_init 105 = .ok (.aload_n 0, 1) := by decide +kernel
theorem dX10_init_106 : decode cX10_init 106 = .ok (.bipush 14, 2) := by decide +kernel
theorem dX10_init_108 : decode cX10_init 108 = .ok (.newarray .int, 2) := by decide +kernel
theorem dX10_init_110 : decode cX10_init 110 = .ok (.putfield 47, 3) := by decide +kernel
theorem dX10_init_113 : decode cX10_init 113 = .ok (.aload_n 0, 1) := by decide +kernel
theorem dX10_init_114 : decode cX10_init 114 = .ok (.sipush 700, 3) := by decide +kernel
theorem dX10_init_117 : decode cX10_init 117 = .ok (.newarray .int, 2) := by decide +kernel
theorem dX10_init_119 : decode cX10_init 119 = .ok (.putfield 50, 3) := by decide +kernel
theorem dX10_init_122 : decode cX10_init 122 = .ok (.aload_n 0, 1) := by decide +kernel
theorem dX10_init_123 : decode cX10_init 123 = .ok (.sipush 700, 3) := by decide +kernel
theorem dX10_init_126 : decode cX10_init 126 = .ok (.newarray .int, 2) := by decide +kernel
theorem dX10_init_128 : decode cX10_init 128 = .ok (.putfield 53, 3) := by decide +kernel
theorem dX10_init_131 : decode cX10_init 131 = .ok (.aload_n 0, 1) := by decide +kernel
theorem dX10_init_132 : decode cX10_init 132 = .ok (.sipush 700, 3) := by decide +kernel
theorem dX10_init_135 : decode cX10_init 135 = .ok (.newarray .int, 2) := by decide +kernel
theorem dX10_init_137 : decode cX10_init 137 = .ok (.putfield 56, 3) := by decide +kernel
theorem dX10_init_140 : decode cX10_init 140 = .ok (.aload_n 0, 1) := by decide +kernel
theorem dX10_init_141 : decode cX10_init 141 = .ok (.sipush 350, 3) := by decide +kernel
theorem dX10_init_144 : decode cX10_init 144 = .ok (.newarray .int, 2) := by decide +kernel
theorem dX10_init_146 : decode cX10_init 146 = .ok (.putfield 59, 3) := by decide +kernel
theorem dX10_init_149 : decode cX10_init 149 = .ok (.aload_n 0, 1) := by decide +kernel
theorem dX10_init_150 : decode cX10_init 150 = .ok (.bipush 56, 2) := by decide +kernel
theorem dX10_init_152 : decode cX10_init 152 = .ok (.newarray .boolean, 2) := by decide +kernel
theorem dX10_init_154 : decode cX10_init 154 = .ok (.putfield 62, 3) := by decide +kernel
theorem dX10_init_157 : decode cX10_init 157 = .ok (.aload_n 0, 1) := by decide +kernel
theorem dX10_init_158 : decode cX10_init 158 = .ok (.bipush 15, 2) := by decide +kernel
theorem dX10_init_160 : decode cX10_init 160 = .ok (.newarray .int, 2) := by decide +kernel
theorem dX10_init_162 : decode cX10_init 162 = .ok (.putfield 65, 3) := by decide +kernel
theorem dX10_init_165 : decode cX10_init 165 = .ok (.aload_n 0, 1) := by decide +kernel
theorem dX10_init_166 : decode cX10_init 166 = .ok (.iconst 5, 1) := by decide +kernel
theorem dX10_init_167 : decode cX10_init 167 = .ok (.newarray .int, 2) := by decide +kernel
theorem dX10_init_169 : decode cX10_init 169 = .ok (.putfield 68, 3) := by decide +kernel
theorem dX10_init_172 : decode cX10_init 172 = .ok (.aload_n 0, 1) := by decide +kernel
theorem dX10_init_173 : decode cX10_init 173 = .ok (.bipush 40, 2) := by decide +kernel
theorem dX10_init_175 : decode cX10_init 175 = .ok (.newarray .int, 2) := by decide +kernel
theorem dX10_init_177 : decode cX10_init 177 = .ok (.putfield 71, 3) := by decide +kernel
theorem dX10_init_180 : decode cX10_init 180 = .ok (.aload_n 0, 1) := by decide +kernel
theorem dX10_init_181 : decode cX10_init 181 = .ok (.bipush 40, 2) := by decide +kernel
theorem dX10_init_183 : decode cX10_init 183 = .ok (.newarray .int, 2) := by decide +kernel
theorem dX10_init_185 : decode cX10_init 185 = .ok (.putfield 74, 3) := by decide +kernel
theorem dX10_init_188 : decode cX10_init 188 = .ok (.aload_n 0, 1) := by decide +kernel
theorem dX10_init_189 : decode cX10_init 189 = .ok (.sipush 160, 3) := by decide +kernel
theorem dX10_init_192 : decode cX10_init 192 = .ok (.newarray .int, 2) := by decide +kernel
theorem dX10_init_194 : decode cX10_init 194 = .ok (.putfield 77, 3) := by decide +kernel
theorem dX10_init_197 : decode cX10_init 197 = .ok (.aload_n 0, 1) := by decide +kernel
theorem dX10_init_198 : decode cX10_init 198 = .ok (.sipush 160, 3) := by decide +kernel
theorem dX10_init_201 : decode cX10_init 201 = .ok (.newarray .int, 2) := by decide +kernel
theorem dX10_init_203 : decode cX10_init 203 = .ok (.putfield 80, 3) := by decide +kernel
theorem dX10_init_206 : decode cX10_init 206 = .ok (.aload_n 0, 1) := by decide +kernel
theorem dX10_init_207 : decode cX10_init 207 = .ok (.sipush 150, 3) := by decide +kernel
theorem dX10_init_210 : decode cX10_init 210 = .ok (.newarray .int, 2) := by decide +kernel
theorem dX10_init_212 : decode cX10_init 212 = .ok (.putfield 83, 3) := by decide +kernel
theorem dX10_init_215 : decode cX10_init 215 = .ok (.aload_n 0, 1) := by decide +kernel
theorem dX10_init_216 : decode cX10_init 216 = .ok (.sipush 150, 3) := by decide +kernel
theorem dX10_init_219 : decode cX10_init 219 = .ok (.newarray .int, 2) := by decide +kernel
theorem dX10_init_221 : decode cX10_init 221 = .ok (.putfield 86, 3) := by decide +kernel
theorem dX10_init_224 : decode cX10_init 224 = .ok (.aload_n 0, 1) := by decide +kernel
theorem dX10_init_225 : decode cX10_init 225 = .ok (.sipush 150, 3) := by decide +kernel
theorem dX10_init_228 : decode cX10_init 228 = .ok (.newarray .int, 2) := by decide +kernel
theorem dX10_init_230 : decode cX10_init 230 = .ok (.putfield 89, 3) := by decide +kernel
theorem dX10_init_233 : decode cX10_init 233 = .ok (.aload_n 0, 1) := by decide +kernel
theorem dX10_init_234 : decode cX10_init 234 = .ok (.sipush 150, 3) := by decide +kernel
theorem dX10_init_237 : decode cX10_init 237 = .ok (.newarray .int, 2) := by decide +kernel
theorem dX10_init_239 : decode cX10_init 239 = .ok (.putfield 92, 3) := by decide +kernel
theorem dX10_init_242 : decode cX10_init 242 = .ok (.aload_n 0, 1) := by decide +kernel
theorem dX10_init_243 : decode cX10_init 243 = .ok (.sipush 150, 3) := by decide +kernel
theorem dX10_init_246 : decode cX10_init 246 = .ok (.newarray .int, 2) := by decide +kernel
theorem dX10_init_248 : decode cX10_init 248 = .ok (.putfield 95, 3) := by decide +kernel
theorem dX10_init_251 : decode cX10_init 251 = .ok (.aload_n 0, 1) := by decide +kernel
theorem dX10_init_252 : decode cX10_init 252 = .ok (.sipush 150, 3) := by decide +kernel
theorem dX10_init_255 : decode cX10_init 255 = .ok (.newarray .int, 2) := by decide +kernel
theorem dX10_init_257 : decode cX10_init 257 = .ok (.putfield 98, 3) := by decide +kernel
theorem dX10_init_260 : decode cX10_init 260 = .ok (.aload_n 0, 1) := by decide +kernel
theorem dX10_init_261 : decode cX10_init 261 = .ok (.sipush 150, 3) := by decide +kernel
theorem dX10_init_264 : decode cX10_init 264 = .ok (.newarray .int, 2) := by decide +kernel
theorem dX10_init_266 : decode cX10_init 266 = .ok (.putfield 101, 3) := by decide +kernel
theorem dX10_init_269 : decode cX10_init 269 = .ok (.aload_n 0, 1) := by decide +kernel
theorem dX10_init_270 : decode cX10_init 270 = .ok (.sipush 150, 3) := by decide +kernel
theorem dX10_init_273 : decode cX10_init 273 = .ok (.newarray .int, 2) := by decide +kernel
theorem dX10_init_275 : decode cX10_init 275 = .ok (.putfield 104, 3) := by decide +kernel
theorem dX10_init_278 : decode cX10_init 278 = .ok (.aload_n 0, 1) := by decide +kernel
theorem dX10_init_279 : decode cX10_init 279 = .ok (.sipush 150, 3) := by decide +kernel
theorem dX10_init_282 : decode cX10_init 282 = .ok (.newarray .int, 2) := by decide +kernel
theorem dX10_init_284 : decode cX10_init 284 = .ok (.putfield 107, 3) := by decide +kernel
theorem dX10_init_287 : decode cX10_init 287 = .ok (.aload_n 0, 1) := by decide +kernel
theorem dX10_init_288 : decode cX10_init 288 = .ok (.sipush 600, 3) := by decide +kernel
theorem dX10_init_291 : decode cX10_init 291 = .ok (.newarray .int, 2) := by decide +kernel
theorem dX10_init_293 : decode cX10_init 293 = .ok (.putfield 110, 3) := by decide +kernel
theorem dX10_init_296 : decode cX10_init 296 = .ok (.aload_n 0, 1) := by decide +kernel
theorem dX10_init_297 : decode cX10_init 297 = .ok (.sipush 450, 3) := by decide +kernel
theorem dX10_init_300 : decode cX10_init 300 = .ok (.newarray .long, 2) := by decide +kernel
theorem dX10_init_302 : decode cX10_init 302 = .ok (.putfield 113, 3) := by decide +kernel
theorem dX10_init_305 : decode cX10_init 305 = .ok (.aload_n 0, 1) := by decide +kernel
theorem dX10_init_306 : decode cX10_init 306 = .ok (.sipush 450, 3) := by decide +kernel
theorem dX10_init_309 : decode cX10_init 309 = .ok (.newarray .boolean, 2) := by decide +kernel
theorem dX10_init_311 : decode cX10_init 311 = .ok (.putfield 117, 3) := by decide +kernel
theorem dX10_init_314 : decode cX10_init 314 = .ok (.aload_n 0, 1) := by decide +kernel
theorem dX10_init_315 : decode cX10_init 315 = .ok (.iconst (-1), 1) := by decide +kernel
theorem dX10_init_316 : decode cX10_init 316 = .ok (.putfield 120, 3) := by decide +kernel
theorem dX10_init_319 : decode cX10_init 319 = .ok (.iconst 0, 1) := by decide +kernel
theorem dX10_init_320 : decode cX10_init 320 = .ok (.istore_n 1, 1) := by decide +kernel
theorem dX10_init_321 : decode cX10_init 321 = .ok (.iload_n 1, 1) := by decide +kernel
theorem dX10_init_322 : decode cX10_init 322 = .ok (.sipush 210, 3) := by decide +kernel
theorem dX10_init_325 : decode cX10_init 325 = .ok (.if_icmp .ge 16, 3) := by decide +kernel
theorem dX10_init_328 : decode cX10_init 328 = .ok (.aload_n 0, 1) := by decide +kernel
theorem dX10_init_329 : decode cX10_init 329 = .ok (.getfield 25, 3) := by decide +kernel
theorem dX10_init_332 : decode cX10_init 332 = .ok (.iload_n 1, 1) := by decide +kernel
theorem dX10_init_333 : decode cX10_init 333 = .ok (.iconst (-1), 1) := by decide +kernel
theorem dX10_init_334 : decode cX10_init 334 = .ok (.iastore, 1) := by decide +kernel
theorem dX10_init_335 : decode cX10_init 335 = .ok (.iinc 1 1, 3) := by decide +kernel
theorem dX10_init_338 : decode cX10_init 338 = .ok (.goto (-17), 3) := by decide +kernel
theorem dX10_init_341 : decode cX10_init 341 = .ok (.return_, 1) := by decide +kernel
theorem dX10_thrown_0 : decode cX10_thrown 0 = .ok (.aload_n 0, 1) := by decide +kernel
theorem dX10_thrown_1 : decode cX10_thrown 1 = .ok (.getfield 124, 3) := by decide +kernel
theorem dX10_thrown_4 : decode cX10_thrown 4 = .ok (.ireturn, 1) := by decide +kernel
theorem dX10_in_0 : decode cX10_in 0 = .ok (.iload_n 0, 1) := by decide +kernel
theorem dX10_in_1 : decode cX10_in 1 = .ok (.iload_n 1, 1) := by decide +kernel
theorem dX10_in_2 : decode cX10_in 2 = .ok (.if_icmp .lt 12, 3) := by decide +kernel
theorem dX10_in_5 : decode cX10_in 5 = .ok (.iload_n 0, 1) := by decide +kernel
theorem dX10_in_6 : decode cX10_in 6 = .ok (.iload_n 2, 1) := by decide +kernel
theorem dX10_in_7 : decode cX10_in 7 = .ok (.if_icmp .gt 7, 3) := by decide +kernel
theorem dX10_in_10 : decode cX10_in 10 = .ok (.iconst 1, 1) := by decide +kernel
theorem dX10_in_11 : decode cX10_in 11 = .ok (.goto 4, 3) := by decide +kernel
theorem dX10_in_14 : decode cX10_in 14 = .ok (.iconst 0, 1) := by decide +kernel
theorem dX10_in_15 : decode cX10_in 15 = .ok (.ireturn, 1) := by decide +kernel
theorem dX10_good_0 : decode cX10_good 0 = .ok (.aload_n 0, 1) := by decide +kernel
theorem dX10_good_1 : decode cX10_good 1 = .ok (.iload_n 1, 1) := by decide +kernel
theorem dX10_good_2 : decode cX10_good 2 = .ok (.ifCond .eq 7, 3) := by decide +kernel
theorem dX10_good_5 : decode cX10_good 5 = .ok (.iconst 0, 1) := by decide +kernel
theorem dX10_good_6 : decode cX10_good 6 = .ok (.goto 4, 3) := by decide +kernel
theorem dX10_good_9 : decode cX10_good 9 = .ok (.iload_n 2, 1) := by decide +kernel
theorem dX10_good_10 : decode cX10_good 10 = .ok (.putfield 124, 3) := by decide +kernel
theorem dX10_good_13 : decode cX10_good 13 = .ok (.iload_n 1, 1) := by decide +kernel
theorem dX10_good_14 : decode cX10_good 14 = .ok (.ireturn, 1) := by decide +kernel
theorem dX10_terminal_0 : decode cX10_terminal 0 = .ok (.iload_n 0, 1) := by decide +kernel
theorem dX10_terminal_1 : decode cX10_terminal 1 = .ok (.iconst 1, 1) := by decide +kernel
theorem dX10_terminal_2 : decode cX10_terminal 2 = .ok (.bipush 6, 2) := by decide +kernel
theorem dX10_terminal_4 : decode cX10_terminal 4 = .ok (.invokestatic 127, 3) := by decide +kernel
theorem dX10_terminal_7 : decode cX10_terminal 7 = .ok (.ireturn, 1) := by decide +kernel
theorem dX10_nonterminal_0 : decode cX10_nonterminal 0 = .ok (.iload_n 0, 1) := by decide +kernel
theorem dX10_nonterminal_1 : decode cX10_nonterminal 1 = .ok (.bipush 8, 2) := by decide +kernel
theorem dX10_nonterminal_3 : decode cX10_nonterminal 3 = .ok (.bipush 13, 2) := by decide +kernel
theorem dX10_nonterminal_5 : decode cX10_nonterminal 5 = .ok (.invokestatic 127, 3) := by decide +kernel
theorem dX10_nonterminal_8 : decode cX10_nonterminal 8 = .ok (.ireturn, 1) := by decide +kernel
theorem dX10_isSymbol_0 : decode cX10_isSymbol 0 = .ok (.iload_n 0, 1) := by decide +kernel
theorem dX10_isSymbol_1 : decode cX10_isSymbol 1 = .ok (.invokestatic 131, 3) := by decide +kernel
theorem dX10_isSymbol_4 : decode cX10_isSymbol 4 = .ok (.ifCond .ne 10, 3) := by decide +kernel
theorem dX10_isSymbol_7 : decode cX10_isSymbol 7 = .ok (.iload_n 0, 1) := by decide +kernel
theorem dX10_isSymbol_8 : decode cX10_isSymbol 8 = .ok (.invokestatic 135, 3) := by decide +kernel
theorem dX10_isSymbol_11 : decode cX10_isSymbol 11 = .ok (.ifCond .eq 7, 3) := by decide +kernel
theorem dX10_isSymbol_14 : decode cX10_isSymbol 14 = .ok (.iconst 1, 1) := by decide +kernel
theorem dX10_isSymbol_15 : decode cX10_isSymbol 15 = .ok (.goto 4, 3) := by decide +kernel
theorem dX10_isSymbol_18 : decode cX10_isSymbol 18 = .ok (.iconst 0, 1) := by decide +kernel
theorem dX10_isSymbol_19 : decode cX10_isSymbol 19 = .ok (.ireturn, 1) := by decide +kernel
theorem dX10_rule_0 : decode cX10_rule 0 = .ok (.iload_n 1, 1) := by decide +kernel
theorem dX10_rule_1 : decode cX10_rule 1 = .ok (.invokestatic 135, 3) := by decide +kernel
theorem dX10_rule_4 : decode cX10_rule 4 = .ok (.ifCond .eq 55, 3) := by decide +kernel
theorem dX10_rule_7 : decode cX10_rule 7 = .ok (.iload_n 2, 1) := by decide +kernel
theorem dX10_rule_8 : decode cX10_rule 8 = .ok (.ifCond .eq 10, 3) := by decide +kernel
theorem dX10_rule_11 : decode cX10_rule 11 = .ok (.iload_n 2, 1) := by decide +kernel
theorem dX10_rule_12 : decode cX10_rule 12 = .ok (.invokestatic 138, 3) := by decide +kernel
theorem dX10_rule_15 : decode cX10_rule 15 = .ok (.ifCond .eq 44, 3) := by decide +kernel
theorem dX10_rule_18 : decode cX10_rule 18 = .ok (.iload_n 3, 1) := by decide +kernel
theorem dX10_rule_19 : decode cX10_rule 19 = .ok (.ifCond .eq 10, 3) := by decide +kernel
theorem dX10_rule_22 : decode cX10_rule 22 = .ok (.iload_n 3, 1) := by decide +kernel
theorem dX10_rule_23 : decode cX10_rule 23 = .ok (.invokestatic 138, 3) := by decide +kernel
theorem dX10_rule_26 : decode cX10_rule 26 = .ok (.ifCond .eq 33, 3) := by decide +kernel
theorem dX10_rule_29 : decode cX10_rule 29 = .ok (.iload 4, 2) := by decide +kernel
theorem dX10_rule_31 : decode cX10_rule 31 = .ok (.ifCond .eq 11, 3) := by decide +kernel
theorem dX10_rule_34 : decode cX10_rule 34 = .ok (.iload 4, 2) := by decide +kernel
theorem dX10_rule_36 : decode cX10_rule 36 = .ok (.invokestatic 138, 3) := by decide +kernel
theorem dX10_rule_39 : decode cX10_rule 39 = .ok (.ifCond .eq 20, 3) := by decide +kernel
theorem dX10_rule_42 : decode cX10_rule 42 = .ok (.iload 5, 2) := by decide +kernel
theorem dX10_rule_44 : decode cX10_rule 44 = .ok (.ifCond .eq 11, 3) := by decide +kernel
theorem dX10_rule_47 : decode cX10_rule 47 = .ok (.iload 5, 2) := by decide +kernel
theorem dX10_rule_49 : decode cX10_rule 49 = .ok (.invokestatic 138, 3) := by decide +kernel
theorem dX10_rule_52 : decode cX10_rule 52 = .ok (.ifCond .eq 7, 3) := by decide +kernel
theorem dX10_rule_55 : decode cX10_rule 55 = .ok (.iconst 1, 1) := by decide +kernel
theorem dX10_rule_56 : decode cX10_rule 56 = .ok (.goto 4, 3) := by decide +kernel
theorem dX10_rule_59 : decode cX10_rule 59 = .ok (.iconst 0, 1) := by decide +kernel
theorem dX10_rule_60 : decode cX10_rule 60 = .ok (.istore 6, 2) := by decide +kernel
theorem dX10_rule_62 : decode cX10_rule 62 = .ok (.iload 6, 2) := by decide +kernel
theorem dX10_rule_64 : decode cX10_rule 64 = .ok (.ifCond .eq 34, 3) := by decide +kernel
theorem dX10_rule_67 : decode cX10_rule 67 = .ok (.iload_n 2, 1) := by decide +kernel
theorem dX10_rule_68 : decode cX10_rule 68 = .ok (.ifCond .ne 7, 3) := by decide +kernel
theorem dX10_rule_71 : decode cX10_rule 71 = .ok (.iload_n 3, 1) := by decide +kernel
theorem dX10_rule_72 : decode cX10_rule 72 = .ok (.ifCond .ne 26, 3) := by decide +kernel
theorem dX10_rule_75 : decode cX10_rule 75 = .ok (.iload_n 3, 1) := by decide +kernel
theorem dX10_rule_76 : decode cX10_rule 76 = .ok (.ifCond .ne 8, 3) := by decide +kernel
theorem dX10_rule_79 : decode cX10_rule 79 = .ok (.iload 4, 2) := by decide +kernel
theorem dX10_rule_81 : decode cX10_rule 81 = .ok (.ifCond .ne 17, 3) := by decide +kernel
theorem dX10_rule_84 : decode cX10_rule 84 = .ok (.iload 4, 2) := by decide +kernel
theorem dX10_rule_86 : decode cX10_rule 86 = .ok (.ifCond .ne 8, 3) := by decide +kernel
theorem dX10_rule_89 : decode cX10_rule 89 = .ok (.iload 5, 2) := by decide +kernel
theorem dX10_rule_91 : decode cX10_rule 91 = .ok (.ifCond .ne 7, 3) := by decide +kernel
theorem dX10_rule_94 : decode cX10_rule 94 = .ok (.iconst 1, 1) := by decide +kernel
theorem dX10_rule_95 : decode cX10_rule 95 = .ok (.goto 4, 3) := by decide +kernel
theorem dX10_rule_98 : decode cX10_rule 98 = .ok (.iconst 0, 1) := by decide +kernel
theorem dX10_rule_99 : decode cX10_rule 99 = .ok (.istore 6, 2) := by decide +kernel
theorem dX10_rule_101 : decode cX10_rule 101 = .ok (.aload_n 0, 1) := by decide +kernel
theorem dX10_rule_102 : decode cX10_rule 102 = .ok (.iload 6, 2) := by decide +kernel
theorem dX10_rule_104 : decode cX10_rule 104 = .ok (.iconst 1, 1) := by decide +kernel
theorem dX10_rule_105 : decode cX10_rule 105 = .ok (.invokevirtual 141, 3) := by decide +kernel
theorem dX10_rule_108 : decode cX10_rule 108 = .ok (.ifCond .eq 25, 3) := by decide +kernel
theorem dX10_rule_111 : decode cX10_rule 111 = .ok (.aload_n 0, 1) := by decide +kernel
theorem dX10_rule_112 : decode cX10_rule 112 = .ok (.aload_n 0, 1) := by decide +kernel
theorem dX10_rule_113 : decode cX10_rule 113 = .ok (.getfield 145, 3) := by decide +kernel
theorem dX10_rule_116 : decode cX10_rule 116 = .ok (.bipush 14, 2) := by decide +kernel
theorem dX10_rule_118 : decode cX10_rule 118 = .ok (.if_icmp .ge 7, 3) := by decide +kernel
theorem dX10_rule_121 : decode cX10_rule 121 = .ok (.iconst 1, 1) := by decide +kernel
theorem dX10_rule_122 : decode cX10_rule 122 = .ok (.goto 4, 3) := by decide +kernel
theorem dX10_rule_125 : decode cX10_rule 125 = .ok (.iconst 0, 1) := by decide +kernel
theorem dX10_rule_126 : decode cX10_rule 126 = .ok (.iconst 2, 1) := by decide +kernel
theorem dX10_rule_127 : decode cX10_rule 127 = .ok (.invokevirtual 141, 3) := by decide +kernel
theorem dX10_rule_130 : decode cX10_rule 130 = .ok (.ifCond .ne 5, 3) := by decide +kernel
theorem dX10_rule_133 : decode cX10_rule 133 = .ok (.iconst 0, 1) := by decide +kernel
theorem dX10_rule_134 : decode cX10_rule 134 = .ok (.ireturn, 1) := by decide +kernel
theorem dX10_rule_135 : decode cX10_rule 135 = .ok (.aload_n 0, 1) := by decide +kernel
theorem dX10_rule_136 : decode cX10_rule 136 = .ok (.getfield 145, 3) := by decide +kernel
theorem dX10_rule_139 : decode cX10_rule 139 = .ok (.istore 7, 2) := by decide +kernel
theorem dX10_rule_141 : decode cX10_rule 141 = .ok (.aload_n 0, 1) := by decide +kernel
theorem dX10_rule_142 : decode cX10_rule 142 = .ok (.getfield 7, 3) := by decide +kernel
theorem dX10_rule_145 : decode cX10_rule 145 = .ok (.iload 7, 2) := by decide +kernel
theorem dX10_rule_147 : decode cX10_rule 147 = .ok (.iload_n 1, 1) := by decide +kernel
theorem dX10_rule_148 : decode cX10_rule 148 = .ok (.iastore, 1) := by decide +kernel
theorem dX10_rule_149 : decode cX10_rule 149 = .ok (.aload_n 0, 1) := by decide +kernel
theorem dX10_rule_150 : decode cX10_rule 150 = .ok (.getfield 13, 3) := by decide +kernel
theorem dX10_rule_153 : decode cX10_rule 153 = .ok (.iconst 4, 1) := by decide +kernel
theorem dX10_rule_154 : decode cX10_rule 154 = .ok (.iload 7, 2) := by decide +kernel
theorem dX10_rule_156 : decode cX10_rule 156 = .ok (.imul, 1) := by decide +kernel
theorem dX10_rule_157 : decode cX10_rule 157 = .ok (.iload_n 2, 1) := by decide +kernel
theorem dX10_rule_158 : decode cX10_rule 158 = .ok (.iastore, 1) := by decide +kernel
theorem dX10_rule_159 : decode cX10_rule 159 = .ok (.aload_n 0, 1) := by decide +kernel
theorem dX10_rule_160 : decode cX10_rule 160 = .ok (.getfield 13, 3) := by decide +kernel
theorem dX10_rule_163 : decode cX10_rule 163 = .ok (.iconst 4, 1) := by decide +kernel
theorem dX10_rule_164 : decode cX10_rule 164 = .ok (.iload 7, 2) := by decide +kernel
theorem dX10_rule_166 : decode cX10_rule 166 = .ok (.imul, 1) := by decide +kernel
theorem dX10_rule_167 : decode cX10_rule 167 = .ok (.iconst 1, 1) := by decide +kernel
theorem dX10_rule_168 : decode cX10_rule 168 = .ok (.iadd, 1) := by decide +kernel
theorem dX10_rule_169 : decode cX10_rule 169 = .ok (.iload_n 3, 1) := by decide +kernel
theorem dX10_rule_170 : decode cX10_rule 170 = .ok (.iastore, 1) := by decide +kernel
theorem dX10_rule_171 : decode cX10_rule 171 = .ok (.aload_n 0, 1) := by decide +kernel
theorem dX10_rule_172 : decode cX10_rule 172 = .ok (.getfield 13, 3) := by decide +kernel
theorem dX10_rule_175 : decode cX10_rule 175 = .ok (.iconst 4, 1) := by decide +kernel
theorem dX10_rule_176 : decode cX10_rule 176 = .ok (.iload 7, 2) := by decide +kernel
theorem dX10_rule_178 : decode cX10_rule 178 = .ok (.imul, 1) := by decide +kernel
theorem dX10_rule_179 : decode cX10_rule 179 = .ok (.iconst 2, 1) := by decide +kernel
theorem dX10_rule_180 : decode cX10_rule 180 = .ok (.iadd, 1) := by decide +kernel
theorem dX10_rule_181 : decode cX10_rule 181 = .ok (.iload 4, 2) := by decide +kernel
theorem dX10_rule_183 : decode cX10_rule 183 = .ok (.iastore, 1) := by decide +kernel
theorem dX10_rule_184 : decode cX10_rule 184 = .ok (.aload_n 0, 1) := by decide +kernel
theorem dX10_rule_185 : decode cX10_rule 185 = .ok (.getfield 13, 3) := by decide +kernel
theorem dX10_rule_188 : decode cX10_rule 188 = .ok (.iconst 4, 1) := by decide +kernel
theorem dX10_rule_189 : decode cX10_rule 189 = .ok (.iload 7, 2) := by decide +kernel
theorem dX10_rule_191 : decode cX10_rule 191 = .ok (.imul, 1) := by decide +kernel
theorem dX10_rule_192 : decode cX10_rule 192 = .ok (.iconst 3, 1) := by decide +kernel
theorem dX10_rule_193 : decode cX10_rule 193 = .ok (.iadd, 1) := by decide +kernel
theorem dX10_rule_194 : decode cX10_rule 194 = .ok (.iload 5, 2) := by decide +kernel
theorem dX10_rule_196 : decode cX10_rule 196 = .ok (.iastore, 1) := by decide +kernel
theorem dX10_rule_197 : decode cX10_rule 197 = .ok (.aload_n 0, 1) := by decide +kernel
theorem dX10_rule_198 : decode cX10_rule 198 = .ok (.getfield 16, 3) := by decide +kernel
theorem dX10_rule_201 : decode cX10_rule 201 = .ok (.iload 7, 2) := by decide +kernel
theorem dX10_rule_203 : decode cX10_rule 203 = .ok (.iload_n 2, 1) := by decide +kernel
theorem dX10_rule_204 : decode cX10_rule 204 = .ok (.ifCond .ne 7, 3) := by decide +kernel
theorem dX10_rule_207 : decode cX10_rule 207 = .ok (.iconst 0, 1) := by decide +kernel
theorem dX10_rule_208 : decode cX10_rule 208 = .ok (.goto 30, 3) := by decide +kernel
theorem dX10_rule_211 : decode cX10_rule 211 = .ok (.iload_n 3, 1) := by decide +kernel
theorem dX10_rule_212 : decode cX10_rule 212 = .ok (.ifCond .ne 7, 3) := by decide +kernel
theorem dX10_rule_215 : decode cX10_rule 215 = .ok (.iconst 1, 1) := by decide +kernel
theorem dX10_rule_216 : decode cX10_rule 216 = .ok (.goto 22, 3) := by decide +kernel
theorem dX10_rule_219 : decode cX10_rule 219 = .ok (.iload 4, 2) := by decide +kernel
theorem dX10_rule_221 : decode cX10_rule 221 = .ok (.ifCond .ne 7, 3) := by decide +kernel
theorem dX10_rule_224 : decode cX10_rule 224 = .ok (.iconst 2, 1) := by decide +kernel
theorem dX10_rule_225 : decode cX10_rule 225 = .ok (.goto 13, 3) := by decide +kernel
theorem dX10_rule_228 : decode cX10_rule 228 = .ok (.iload 5, 2) := by decide +kernel
theorem dX10_rule_230 : decode cX10_rule 230 = .ok (.ifCond .ne 7, 3) := by decide +kernel
theorem dX10_rule_233 : decode cX10_rule 233 = .ok (.iconst 3, 1) := by decide +kernel
theorem dX10_rule_234 : decode cX10_rule 234 = .ok (.goto 4, 3) := by decide +kernel
theorem dX10_rule_237 : decode cX10_rule 237 = .ok (.iconst 4, 1) := by decide +kernel
theorem dX10_rule_238 : decode cX10_rule 238 = .ok (.iastore, 1) := by decide +kernel
theorem dX10_rule_239 : decode cX10_rule 239 = .ok (.aload_n 0, 1) := by decide +kernel
theorem dX10_rule_240 : decode cX10_rule 240 = .ok (.dup, 1) := by decide +kernel
theorem dX10_rule_241 : decode cX10_rule 241 = .ok (.getfield 145, 3) := by decide +kernel
theorem dX10_rule_244 : decode cX10_rule 244 = .ok (.iconst 1, 1) := by decide +kernel
theorem dX10_rule_245 : decode cX10_rule 245 = .ok (.iadd, 1) := by decide +kernel
theorem dX10_rule_246 : decode cX10_rule 246 = .ok (.putfield 145, 3) := by decide +kernel
theorem dX10_rule_249 : decode cX10_rule 249 = .ok (.aload_n 0, 1) := by decide +kernel
theorem dX10_rule_250 : decode cX10_rule 250 = .ok (.iconst 0, 1) := by decide +kernel
theorem dX10_rule_251 : decode cX10_rule 251 = .ok (.putfield 148, 3) := by decide +kernel
theorem dX10_rule_254 : decode cX10_rule 254 = .ok (.iload 7, 2) := by decide +kernel
theorem dX10_rule_256 : decode cX10_rule 256 = .ok (.ireturn, 1) := by decide +kernel
theorem dX10_level_0 : decode cX10_level 0 = .ok (.aload_n 0, 1) := by decide +kernel
theorem dX10_level_1 : decode cX10_level 1 = .ok (.iload_n 1, 1) := by decide +kernel
theorem dX10_level_2 : decode cX10_level 2 = .ok (.iconst 1, 1) := by decide +kernel
theorem dX10_level_3 : decode cX10_level 3 = .ok (.bipush 6, 2) := by decide +kernel
theorem dX10_level_5 : decode cX10_level 5 = .ok (.invokestatic 127, 3) := by decide +kernel
theorem dX10_level_8 : decode cX10_level 8 = .ok (.ifCond .eq 26, 3) := by decide +kernel
theorem dX10_level_11 : decode cX10_level 11 = .ok (.iload_n 2, 1) := by decide +kernel
theorem dX10_level_12 : decode cX10_level 12 = .ok (.iconst 0, 1) := by decide +kernel
theorem dX10_level_13 : decode cX10_level 13 = .ok (.bipush 9, 2) := by decide +kernel
theorem dX10_level_15 : decode cX10_level 15 = .ok (.invokestatic 127, 3) := by decide +kernel
theorem dX10_level_18 : decode cX10_level 18 = .ok (.ifCond .eq 16, 3) := by decide +kernel
theorem dX10_level_21 : decode cX10_level 21 = .ok (.iload_n 3, 1) := by decide +kernel
theorem dX10_level_22 : decode cX10_level 22 = .ok (.iconst 0, 1) := by decide +kernel
theorem dX10_level_23 : decode cX10_level 23 = .ok (.iconst 2, 1) := by decide +kernel
theorem dX10_level_24 : decode cX10_level 24 = .ok (.invokestatic 127, 3) := by decide +kernel
theorem dX10_level_27 : decode cX10_level 27 = .ok (.ifCond .eq 7, 3) := by decide +kernel
theorem dX10_level_30 : decode cX10_level 30 = .ok (.iconst 1, 1) := by decide +kernel
theorem dX10_level_31 : decode cX10_level 31 = .ok (.goto 4, 3) := by decide +kernel
theorem dX10_level_34 : decode cX10_level 34 = .ok (.iconst 0, 1) := by decide +kernel
theorem dX10_level_35 : decode cX10_level 35 = .ok (.iconst 1, 1) := by decide +kernel
theorem dX10_level_36 : decode cX10_level 36 = .ok (.invokevirtual 141, 3) := by decide +kernel
theorem dX10_level_39 : decode cX10_level 39 = .ok (.ifCond .ne 5, 3) := by decide +kernel
theorem dX10_level_42 : decode cX10_level 42 = .ok (.iconst 0, 1) := by decide +kernel
theorem dX10_level_43 : decode cX10_level 43 = .ok (.ireturn, 1) := by decide +kernel
theorem dX10_level_44 : decode cX10_level 44 = .ok (.aload_n 0, 1) := by decide +kernel
theorem dX10_level_45 : decode cX10_level 45 = .ok (.getfield 19, 3) := by decide +kernel
theorem dX10_level_48 : decode cX10_level 48 = .ok (.iload_n 1, 1) := by decide +kernel
theorem dX10_level_49 : decode cX10_level 49 = .ok (.iaload, 1) := by decide +kernel
theorem dX10_level_50 : decode cX10_level 50 = .ok (.istore 4, 2) := by decide +kernel
theorem dX10_level_52 : decode cX10_level 52 = .ok (.aload_n 0, 1) := by decide +kernel
theorem dX10_level_53 : decode cX10_level 53 = .ok (.getfield 19, 3) := by decide +kernel
theorem dX10_level_56 : decode cX10_level 56 = .ok (.iload_n 1, 1) := by decide +kernel
theorem dX10_level_57 : decode cX10_level 57 = .ok (.iload_n 2, 1) := by decide +kernel
theorem dX10_level_58 : decode cX10_level 58 = .ok (.iastore, 1) := by decide +kernel
theorem dX10_level_59 : decode cX10_level 59 = .ok (.aload_n 0, 1) := by decide +kernel
theorem dX10_level_60 : decode cX10_level 60 = .ok (.getfield 22, 3) := by decide +kernel
theorem dX10_level_63 : decode cX10_level 63 = .ok (.iload_n 1, 1) := by decide +kernel
theorem dX10_level_64 : decode cX10_level 64 = .ok (.iload_n 3, 1) := by decide +kernel
theorem dX10_level_65 : decode cX10_level 65 = .ok (.iastore, 1) := by decide +kernel
theorem dX10_level_66 : decode cX10_level 66 = .ok (.aload_n 0, 1) := by decide +kernel
theorem dX10_level_67 : decode cX10_level 67 = .ok (.iconst 0, 1) := by decide +kernel
theorem dX10_level_68 : decode cX10_level 68 = .ok (.putfield 148, 3) := by decide +kernel
theorem dX10_level_71 : decode cX10_level 71 = .ok (.iload 4, 2) := by decide +kernel
theorem dX10_level_73 : decode cX10_level 73 = .ok (.ireturn, 1) := by decide +kernel
theorem dX10_about_0 : decode cX10_about 0 = .ok (.iload_n 2, 1) := by decide +kernel
theorem dX10_about_1 : decode cX10_about 1 = .ok (.ifCond .lt 24, 3) := by decide +kernel
theorem dX10_about_4 : decode cX10_about 4 = .ok (.iload_n 2, 1) := by decide +kernel
theorem dX10_about_5 : decode cX10_about 5 = .ok (.bipush 10, 2) := by decide +kernel
theorem dX10_about_7 : decode cX10_about 7 = .ok (.irem, 1) := by decide +kernel
theorem dX10_about_8 : decode cX10_about 8 = .ok (.iconst 2, 1) := by decide +kernel
theorem dX10_about_9 : decode cX10_about 9 = .ok (.if_icmp .gt 16, 3) := by decide +kernel
theorem dX10_about_12 : decode cX10_about 12 = .ok (.iload_n 2, 1) := by decide +kernel
theorem dX10_about_13 : decode cX10_about 13 = .ok (.bipush 10, 2) := by decide +kernel
theorem dX10_about_15 : decode cX10_about 15 = .ok (.idiv, 1) := by decide +kernel
theorem dX10_about_16 : decode cX10_about 16 = .ok (.aload_n 0, 1) := by decide +kernel
theorem dX10_about_17 : decode cX10_about 17 = .ok (.getfield 16, 3) := by decide +kernel
theorem dX10_about_20 : decode cX10_about 20 = .ok (.iload_n 1, 1) := by decide +kernel
theorem dX10_about_21 : decode cX10_about 21 = .ok (.iaload, 1) := by decide +kernel
theorem dX10_about_22 : decode cX10_about 22 = .ok (.if_icmp .le 5, 3) := by decide +kernel
theorem dX10_about_25 : decode cX10_about 25 = .ok (.iconst (-1), 1) := by decide +kernel
theorem dX10_about_26 : decode cX10_about 26 = .ok (.ireturn, 1) := by decide +kernel
theorem dX10_about_27 : decode cX10_about 27 = .ok (.iload_n 2, 1) := by decide +kernel
theorem dX10_about_28 : decode cX10_about 28 = .ok (.bipush 10, 2) := by decide +kernel
theorem dX10_about_30 : decode cX10_about 30 = .ok (.if_icmp .ge 12, 3) := by decide +kernel
theorem dX10_about_33 : decode cX10_about 33 = .ok (.aload_n 0, 1) := by decide +kernel
theorem dX10_about_34 : decode cX10_about 34 = .ok (.getfield 7, 3) := by decide +kernel
theorem dX10_about_37 : decode cX10_about 37 = .ok (.iload_n 1, 1) := by decide +kernel
theorem dX10_about_38 : decode cX10_about 38 = .ok (.iaload, 1) := by decide +kernel
theorem dX10_about_39 : decode cX10_about 39 = .ok (.goto 18, 3) := by decide +kernel
theorem dX10_about_42 : decode cX10_about 42 = .ok (.aload_n 0, 1) := by decide +kernel
theorem dX10_about_43 : decode cX10_about 43 = .ok (.getfield 13, 3) := by decide +kernel
theorem dX10_about_46 : decode cX10_about 46 = .ok (.iconst 4, 1) := by decide +kernel
theorem dX10_about_47 : decode cX10_about 47 = .ok (.iload_n 1, 1) := by decide +kernel
theorem dX10_about_48 : decode cX10_about 48 = .ok (.imul, 1) := by decide +kernel
theorem dX10_about_49 : decode cX10_about 49 = .ok (.iload_n 2, 1) := by decide +kernel
theorem dX10_about_50 : decode cX10_about 50 = .ok (.bipush 10, 2) := by decide +kernel
theorem dX10_about_52 : decode cX10_about 52 = .ok (.idiv, 1) := by decide +kernel
theorem dX10_about_53 : decode cX10_about 53 = .ok (.iadd, 1) := by decide +kernel
theorem dX10_about_54 : decode cX10_about 54 = .ok (.iconst 1, 1) := by decide +kernel
theorem dX10_about_55 : decode cX10_about 55 = .ok (.isub, 1) := by decide +kernel
theorem dX10_about_56 : decode cX10_about 56 = .ok (.iaload, 1) := by decide +kernel
theorem dX10_about_57 : decode cX10_about 57 = .ok (.ireturn, 1) := by decide +kernel
theorem dX10_usable_0 : decode cX10_usable 0 = .ok (.aload_n 0, 1) := by decide +kernel
theorem dX10_usable_1 : decode cX10_usable 1 = .ok (.iload_n 1, 1) := by decide +kernel
theorem dX10_usable_2 : decode cX10_usable 2 = .ok (.iload_n 2, 1) := by decide +kernel
theorem dX10_usable_3 : decode cX10_usable 3 = .ok (.invokevirtual 152, 3) := by decide +kernel
theorem dX10_usable_6 : decode cX10_usable 6 = .ok (.istore_n 3, 1) := by decide +kernel
theorem dX10_usable_7 : decode cX10_usable 7 = .ok (.iload_n 3, 1) := by decide +kernel
theorem dX10_usable_8 : decode cX10_usable 8 = .ok (.ifCond .le 22, 3) := by decide +kernel
theorem dX10_usable_11 : decode cX10_usable 11 = .ok (.iload_n 2, 1) := by decide +kernel
theorem dX10_usable_12 : decode cX10_usable 12 = .ok (.bipush 10, 2) := by decide +kernel
theorem dX10_usable_14 : decode cX10_usable 14 = .ok (.irem, 1) := by decide +kernel
theorem dX10_usable_15 : decode cX10_usable 15 = .ok (.iconst 2, 1) := by decide +kernel
theorem dX10_usable_16 : decode cX10_usable 16 = .ok (.if_icmp .lt 10, 3) := by decide +kernel
theorem dX10_usable_19 : decode cX10_usable 19 = .ok (.iload_n 3, 1) := by decide +kernel
theorem dX10_usable_20 : decode cX10_usable 20 = .ok (.invokestatic 135, 3) := by decide +kernel
theorem dX10_usable_23 : decode cX10_usable 23 = .ok (.ifCond .eq 7, 3) := by decide +kernel
theorem dX10_usable_26 : decode cX10_usable 26 = .ok (.iconst 1, 1) := by decide +kernel
theorem dX10_usable_27 : decode cX10_usable 27 = .ok (.goto 4, 3) := by decide +kernel
theorem dX10_usable_30 : decode cX10_usable 30 = .ok (.iconst 0, 1) := by decide +kernel
theorem dX10_usable_31 : decode cX10_usable 31 = .ok (.ireturn, 1) := by decide +kernel
theorem dX10_index_0 : decode cX10_index 0 = .ok (.bipush 15, 2) := by decide +kernel
theorem dX10_index_2 : decode cX10_index 2 = .ok (.iload_n 0, 1) := by decide +kernel
theorem dX10_index_3 : decode cX10_index 3 = .ok (.imul, 1) := by decide +kernel
theorem dX10_index_4 : decode cX10_index 4 = .ok (.iconst 3, 1) := by decide +kernel
theorem dX10_index_5 : decode cX10_index 5 = .ok (.iload_n 1, 1) := by decide +kernel
theorem dX10_index_6 : decode cX10_index 6 = .ok (.bipush 10, 2) := by decide +kernel
theorem dX10_index_8 : decode cX10_index 8 = .ok (.idiv, 1) := by decide +kernel
theorem dX10_index_9 : decode cX10_index 9 = .ok (.imul, 1) := by decide +kernel
theorem dX10_index_10 : decode cX10_index 10 = .ok (.iadd, 1) := by decide +kernel
theorem dX10_index_11 : decode cX10_index 11 = .ok (.iload_n 1, 1) := by decide +kernel
theorem dX10_index_12 : decode cX10_index 12 = .ok (.bipush 10, 2) := by decide +kernel
theorem dX10_index_14 : decode cX10_index 14 = .ok (.irem, 1) := by decide +kernel
theorem dX10_index_15 : decode cX10_index 15 = .ok (.iadd, 1) := by decide +kernel
theorem dX10_index_16 : decode cX10_index 16 = .ok (.ireturn, 1) := by decide +kernel
theorem dX10_equation_0 : decode cX10_equation 0 = .ok (.aload_n 0, 1) := by decide +kernel
theorem dX10_equation_1 : decode cX10_equation 1 = .ok (.iload_n 1, 1) := by decide +kernel
theorem dX10_equation_2 : decode cX10_equation 2 = .ok (.iconst 0, 1) := by decide +kernel
theorem dX10_equation_3 : decode cX10_equation 3 = .ok (.aload_n 0, 1) := by decide +kernel
theorem dX10_equation_4 : decode cX10_equation 4 = .ok (.getfield 145, 3) := by decide +kernel
theorem dX10_equation_7 : decode cX10_equation 7 = .ok (.iconst 1, 1) := by decide +kernel
theorem dX10_equation_8 : decode cX10_equation 8 = .ok (.isub, 1) := by decide +kernel
theorem dX10_equation_9 : decode cX10_equation 9 = .ok (.invokestatic 127, 3) := by decide +kernel
theorem dX10_equation_12 : decode cX10_equation 12 = .ok (.iconst 1, 1) := by decide +kernel
theorem dX10_equation_13 : decode cX10_equation 13 = .ok (.invokevirtual 141, 3) := by decide +kernel
theorem dX10_equation_16 : decode cX10_equation 16 = .ok (.ifCond .ne 5, 3) := by decide +kernel
theorem dX10_equation_19 : decode cX10_equation 19 = .ok (.iconst 0, 1) := by decide +kernel
theorem dX10_equation_20 : decode cX10_equation 20 = .ok (.ireturn, 1) := by decide +kernel
theorem dX10_equation_21 : decode cX10_equation 21 = .ok (.aload_n 0, 1) := by decide +kernel
theorem dX10_equation_22 : decode cX10_equation 22 = .ok (.iload_n 1, 1) := by decide +kernel
theorem dX10_equation_23 : decode cX10_equation 23 = .ok (.iload_n 2, 1) := by decide +kernel
theorem dX10_equation_24 : decode cX10_equation 24 = .ok (.invokevirtual 156, 3) := by decide +kernel
theorem dX10_equation_27 : decode cX10_equation 27 = .ok (.ifCond .eq 39, 3) := by decide +kernel
theorem dX10_equation_30 : decode cX10_equation 30 = .ok (.iload_n 2, 1) := by decide +kernel
theorem dX10_equation_31 : decode cX10_equation 31 = .ok (.bipush 10, 2) := by decide +kernel
theorem dX10_equation_33 : decode cX10_equation 33 = .ok (.if_icmp .ge 11, 3) := by decide +kernel
theorem dX10_equation_36 : decode cX10_equation 36 = .ok (.iload_n 2, 1) := by decide +kernel
theorem dX10_equation_37 : decode cX10_equation 37 = .ok (.iconst 2, 1) := by decide +kernel
theorem dX10_equation_38 : decode cX10_equation 38 = .ok (.if_icmp .ge 28, 3) := by decide +kernel
theorem dX10_equation_41 : decode cX10_equation 41 = .ok (.goto 11, 3) := by decide +kernel
theorem dX10_equation_44 : decode cX10_equation 44 = .ok (.iload_n 2, 1) := by decide +kernel
theorem dX10_equation_45 : decode cX10_equation 45 = .ok (.bipush 10, 2) := by decide +kernel
theorem dX10_equation_47 : decode cX10_equation 47 = .ok (.irem, 1) := by decide +kernel
theorem dX10_equation_48 : decode cX10_equation 48 = .ok (.iconst 2, 1) := by decide +kernel
theorem dX10_equation_49 : decode cX10_equation 49 = .ok (.if_icmp .ne 17, 3) := by decide +kernel
theorem dX10_equation_52 : decode cX10_equation 52 = .ok (.iload_n 3, 1) := by decide +kernel
theorem dX10_equation_53 : decode cX10_equation 53 = .ok (.iconst 0, 1) := by decide +kernel
theorem dX10_equation_54 : decode cX10_equation 54 = .ok (.bipush 7, 2) := by decide +kernel
theorem dX10_equation_56 : decode cX10_equation 56 = .ok (.invokestatic 127, 3) := by decide +kernel
theorem dX10_equation_59 : decode cX10_equation 59 = .ok (.ifCond .eq 7, 3) := by decide +kernel
theorem dX10_equation_62 : decode cX10_equation 62 = .ok (.iconst 1, 1) := by decide +kernel
theorem dX10_equation_63 : decode cX10_equation 63 = .ok (.goto 4, 3) := by decide +kernel
theorem dX10_equation_66 : decode cX10_equation 66 = .ok (.iconst 0, 1) := by decide +kernel
theorem dX10_equation_67 : decode cX10_equation 67 = .ok (.istore 6, 2) := by decide +kernel
theorem dX10_equation_69 : decode cX10_equation 69 = .ok (.iload 6, 2) := by decide +kernel
theorem dX10_equation_71 : decode cX10_equation 71 = .ok (.ifCond .eq 36, 3) := by decide +kernel
theorem dX10_equation_74 : decode cX10_equation 74 = .ok (.iload_n 3, 1) := by decide +kernel
theorem dX10_equation_75 : decode cX10_equation 75 = .ok (.ifCond .eq 13, 3) := by decide +kernel
theorem dX10_equation_78 : decode cX10_equation 78 = .ok (.aload_n 0, 1) := by decide +kernel
theorem dX10_equation_79 : decode cX10_equation 79 = .ok (.iload_n 1, 1) := by decide +kernel
theorem dX10_equation_80 : decode cX10_equation 80 = .ok (.iload 4, 2) := by decide +kernel
theorem dX10_equation_82 : decode cX10_equation 82 = .ok (.invokevirtual 156, 3) := by decide +kernel
theorem dX10_equation_85 : decode cX10_equation 85 = .ok (.ifCond .eq 22, 3) := by decide +kernel
theorem dX10_equation_88 : decode cX10_equation 88 = .ok (.iload_n 3, 1) := by decide +kernel
theorem dX10_equation_89 : decode cX10_equation 89 = .ok (.iconst 2, 1) := by decide +kernel
theorem dX10_equation_90 : decode cX10_equation 90 = .ok (.if_icmp .lt 13, 3) := by decide +kernel
theorem dX10_equation_93 : decode cX10_equation 93 = .ok (.aload_n 0, 1) := by decide +kernel
theorem dX10_equation_94 : decode cX10_equation 94 = .ok (.iload_n 1, 1) := by decide +kernel
theorem dX10_equation_95 : decode cX10_equation 95 = .ok (.iload 5, 2) := by decide +kernel
theorem dX10_equation_97 : decode cX10_equation 97 = .ok (.invokevirtual 156, 3) := by decide +kernel
theorem dX10_equation_100 : decode cX10_equation 100 = .ok (.ifCond .eq 7, 3) := by decide +kernel
theorem dX10_equation_103 : decode cX10_equation 103 = .ok (.iconst 1, 1) := by decide +kernel
theorem dX10_equation_104 : decode cX10_equation 104 = .ok (.goto 4, 3) := by decide +kernel
theorem dX10_equation_107 : decode cX10_equation 107 = .ok (.iconst 0, 1) := by decide +kernel
theorem dX10_equation_108 : decode cX10_equation 108 = .ok (.istore 6, 2) := by decide +kernel
theorem dX10_equation_110 : decode cX10_equation 110 = .ok (.aload_n 0, 1) := by decide +kernel
theorem dX10_equation_111 : decode cX10_equation 111 = .ok (.iload 6, 2) := by decide +kernel
theorem dX10_equation_113 : decode cX10_equation 113 = .ok (.iconst 2, 1) := by decide +kernel
theorem dX10_equation_114 : decode cX10_equation 114 = .ok (.invokevirtual 141, 3) := by decide +kernel
theorem dX10_equation_117 : decode cX10_equation 117 = .ok (.ifCond .ne 5, 3) := by decide +kernel
theorem dX10_equation_120 : decode cX10_equation 120 = .ok (.iconst 0, 1) := by decide +kernel
theorem dX10_equation_121 : decode cX10_equation 121 = .ok (.ireturn, 1) := by decide +kernel
theorem dX10_equation_122 : decode cX10_equation 122 = .ok (.iload_n 1, 1) := by decide +kernel
theorem dX10_equation_123 : decode cX10_equation 123 = .ok (.iload_n 2, 1) := by decide +kernel
theorem dX10_equation_124 : decode cX10_equation 124 = .ok (.invokestatic 160, 3) := by decide +kernel
theorem dX10_equation_127 : decode cX10_equation 127 = .ok (.istore 7, 2) := by decide +kernel
theorem dX10_equation_129 : decode cX10_equation 129 = .ok (.aload_n 0, 1) := by decide +kernel
theorem dX10_equation_130 : decode cX10_equation 130 = .ok (.getfield 25, 3) := by decide +kernel
theorem dX10_equation_133 : decode cX10_equation 133 = .ok (.iload 7, 2) := by decide +kernel
theorem dX10_equation_135 : decode cX10_equation 135 = .ok (.iaload, 1) := by decide +kernel
theorem dX10_equation_136 : decode cX10_equation 136 = .ok (.ifCond .ge 7, 3) := by decide +kernel
theorem dX10_equation_139 : decode cX10_equation 139 = .ok (.iconst 1, 1) := by decide +kernel
theorem dX10_equation_140 : decode cX10_equation 140 = .ok (.goto 4, 3) := by decide +kernel
theorem dX10_equation_143 : decode cX10_equation 143 = .ok (.iconst 0, 1) := by decide +kernel
theorem dX10_equation_144 : decode cX10_equation 144 = .ok (.istore 8, 2) := by decide +kernel
theorem dX10_equation_146 : decode cX10_equation 146 = .ok (.aload_n 0, 1) := by decide +kernel
theorem dX10_equation_147 : decode cX10_equation 147 = .ok (.getfield 25, 3) := by decide +kernel
theorem dX10_equation_150 : decode cX10_equation 150 = .ok (.iload 7, 2) := by decide +kernel
theorem dX10_equation_152 : decode cX10_equation 152 = .ok (.iload_n 3, 1) := by decide +kernel
theorem dX10_equation_153 : decode cX10_equation 153 = .ok (.iastore, 1) := by decide +kernel
theorem dX10_equation_154 : decode cX10_equation 154 = .ok (.aload_n 0, 1) := by decide +kernel
theorem dX10_equation_155 : decode cX10_equation 155 = .ok (.getfield 28, 3) := by decide +kernel
theorem dX10_equation_158 : decode cX10_equation 158 = .ok (.iload 7, 2) := by decide +kernel
theorem dX10_equation_160 : decode cX10_equation 160 = .ok (.iload 4, 2) := by decide +kernel
theorem dX10_equation_162 : decode cX10_equation 162 = .ok (.iastore, 1) := by decide +kernel
theorem dX10_equation_163 : decode cX10_equation 163 = .ok (.aload_n 0, 1) := by decide +kernel
theorem dX10_equation_164 : decode cX10_equation 164 = .ok (.getfield 31, 3) := by decide +kernel
theorem dX10_equation_167 : decode cX10_equation 167 = .ok (.iload 7, 2) := by decide +kernel
theorem dX10_equation_169 : decode cX10_equation 169 = .ok (.iload 5, 2) := by decide +kernel
theorem dX10_equation_171 : decode cX10_equation 171 = .ok (.iastore, 1) := by decide +kernel
theorem dX10_equation_172 : decode cX10_equation 172 = .ok (.aload_n 0, 1) := by decide +kernel
theorem dX10_equation_173 : decode cX10_equation 173 = .ok (.iconst 0, 1) := by decide +kernel
theorem dX10_equation_174 : decode cX10_equation 174 = .ok (.putfield 148, 3) := by decide +kernel
theorem dX10_equation_177 : decode cX10_equation 177 = .ok (.iload 8, 2) := by decide +kernel
theorem dX10_equation_179 : decode cX10_equation 179 = .ok (.ireturn, 1) := by decide +kernel
theorem dX10_beginnings_0 : decode cX10_beginnings 0 = .ok (.iconst 0, 1) := by decide +kernel
theorem dX10_beginnings_1 : decode cX10_beginnings 1 = .ok (.istore_n 1, 1) := by decide +kernel
theorem dX10_beginnings_2 : decode cX10_beginnings 2 = .ok (.iload_n 1, 1) := by decide +kernel
theorem dX10_beginnings_3 : decode cX10_beginnings 3 = .ok (.bipush 14, 2) := by decide +kernel
theorem dX10_beginnings_5 : decode cX10_beginnings 5 = .ok (.if_icmp .ge 36, 3) := by decide +kernel
theorem dX10_beginnings_8 : decode cX10_beginnings 8 = .ok (.aload_n 0, 1) := by decide +kernel
theorem dX10_beginnings_9 : decode cX10_beginnings 9 = .ok (.getfield 44, 3) := by decide +kernel
theorem dX10_beginnings_12 : decode cX10_beginnings 12 = .ok (.iload_n 1, 1) := by decide +kernel
theorem dX10_beginnings_13 : decode cX10_beginnings 13 = .ok (.iconst 0, 1) := by decide +kernel
theorem dX10_beginnings_14 : decode cX10_beginnings 14 = .ok (.bastore, 1) := by decide +kernel
theorem dX10_beginnings_15 : decode cX10_beginnings 15 = .ok (.aload_n 0, 1) := by decide +kernel
theorem dX10_beginnings_16 : decode cX10_beginnings 16 = .ok (.getfield 47, 3) := by decide +kernel
theorem dX10_beginnings_19 : decode cX10_beginnings 19 = .ok (.iload_n 1, 1) := by decide +kernel
theorem dX10_beginnings_20 : decode cX10_beginnings 20 = .ok (.iload_n 1, 1) := by decide +kernel
theorem dX10_beginnings_21 : decode cX10_beginnings 21 = .ok (.invokestatic 131, 3) := by decide +kernel
theorem dX10_beginnings_24 : decode cX10_beginnings 24 = .ok (.ifCond .eq 9, 3) := by decide +kernel
theorem dX10_beginnings_27 : decode cX10_beginnings 27 = .ok (.iconst 1, 1) := by decide +kernel
theorem dX10_beginnings_28 : decode cX10_beginnings 28 = .ok (.iload_n 1, 1) := by decide +kernel
theorem dX10_beginnings_29 : decode cX10_beginnings 29 = .ok (.ishl, 1) := by decide +kernel
theorem dX10_beginnings_30 : decode cX10_beginnings 30 = .ok (.goto 4, 3) := by decide +kernel
theorem dX10_beginnings_33 : decode cX10_beginnings 33 = .ok (.iconst 0, 1) := by decide +kernel
theorem dX10_beginnings_34 : decode cX10_beginnings 34 = .ok (.iastore, 1) := by decide +kernel
theorem dX10_beginnings_35 : decode cX10_beginnings 35 = .ok (.iinc 1 1, 3) := by decide +kernel
theorem dX10_beginnings_38 : decode cX10_beginnings 38 = .ok (.goto (-36), 3) := by decide +kernel
theorem dX10_beginnings_41 : decode cX10_beginnings 41 = .ok (.iconst 1, 1) := by decide +kernel
theorem dX10_beginnings_42 : decode cX10_beginnings 42 = .ok (.istore_n 1, 1) := by decide +kernel
theorem dX10_beginnings_43 : decode cX10_beginnings 43 = .ok (.iload_n 1, 1) := by decide +kernel
theorem dX10_beginnings_44 : decode cX10_beginnings 44 = .ok (.ifCond .eq 166, 3) := by decide +kernel
theorem dX10_beginnings_47 : decode cX10_beginnings 47 = .ok (.iconst 0, 1) := by decide +kernel
theorem dX10_beginnings_48 : decode cX10_beginnings 48 = .ok (.istore_n 1, 1) := by decide +kernel
theorem dX10_beginnings_49 : decode cX10_beginnings 49 = .ok (.iconst 0, 1) := by decide +kernel
theorem dX10_beginnings_50 : decode cX10_beginnings 50 = .ok (.istore_n 2, 1) := by decide +kernel
theorem dX10_beginnings_51 : decode cX10_beginnings 51 = .ok (.iload_n 2, 1) := by decide +kernel
theorem dX10_beginnings_52 : decode cX10_beginnings 52 = .ok (.aload_n 0, 1) := by decide +kernel
theorem dX10_beginnings_53 : decode cX10_beginnings 53 = .ok (.getfield 145, 3) := by decide +kernel
theorem dX10_beginnings_56 : decode cX10_beginnings 56 = .ok (.if_icmp .ge 151, 3) := by decide +kernel
theorem dX10_beginnings_59 : decode cX10_beginnings 59 = .ok (.aload_n 0, 1) := by decide +kernel
theorem dX10_beginnings_60 : decode cX10_beginnings 60 = .ok (.getfield 7, 3) := by decide +kernel
theorem dX10_beginnings_63 : decode cX10_beginnings 63 = .ok (.iload_n 2, 1) := by decide +kernel
theorem dX10_beginnings_64 : decode cX10_beginnings 64 = .ok (.iaload, 1) := by decide +kernel
theorem dX10_beginnings_65 : decode cX10_beginnings 65 = .ok (.istore_n 3, 1) := by decide +kernel
theorem dX10_beginnings_66 : decode cX10_beginnings 66 = .ok (.iconst 1, 1) := by decide +kernel
theorem dX10_beginnings_67 : decode cX10_beginnings 67 = .ok (.istore 4, 2) := by decide +kernel
theorem dX10_beginnings_69 : decode cX10_beginnings 69 = .ok (.aload_n 0, 1) := by decide +kernel
theorem dX10_beginnings_70 : decode cX10_beginnings 70 = .ok (.getfield 47, 3) := by decide +kernel
theorem dX10_beginnings_73 : decode cX10_beginnings 73 = .ok (.iload_n 3, 1) := by decide +kernel
theorem dX10_beginnings_74 : decode cX10_beginnings 74 = .ok (.iaload, 1) := by decide +kernel
theorem dX10_beginnings_75 : decode cX10_beginnings 75 = .ok (.istore 5, 2) := by decide +kernel
theorem dX10_beginnings_77 : decode cX10_beginnings 77 = .ok (.iconst 0, 1) := by decide +kernel
theorem dX10_beginnings_78 : decode cX10_beginnings 78 = .ok (.istore 6, 2) := by decide +kernel
theorem dX10_beginnings_80 : decode cX10_beginnings 80 = .ok (.iload 6, 2) := by decide +kernel
theorem dX10_beginnings_82 : decode cX10_beginnings 82 = .ok (.aload_n 0, 1) := by decide +kernel
theorem dX10_beginnings_83 : decode cX10_beginnings 83 = .ok (.getfield 16, 3) := by decide +kernel
theorem dX10_beginnings_86 : decode cX10_beginnings 86 = .ok (.iload_n 2, 1) := by decide +kernel
theorem dX10_beginnings_87 : decode cX10_beginnings 87 = .ok (.iaload, 1) := by decide +kernel
theorem dX10_beginnings_88 : decode cX10_beginnings 88 = .ok (.if_icmp .ge 53, 3) := by decide +kernel
theorem dX10_beginnings_91 : decode cX10_beginnings 91 = .ok (.iload 4, 2) := by decide +kernel
theorem dX10_beginnings_93 : decode cX10_beginnings 93 = .ok (.ifCond .eq 48, 3) := by decide +kernel
theorem dX10_beginnings_96 : decode cX10_beginnings 96 = .ok (.iload 5, 2) := by decide +kernel
theorem dX10_beginnings_98 : decode cX10_beginnings 98 = .ok (.aload_n 0, 1) := by decide +kernel
theorem dX10_beginnings_99 : decode cX10_beginnings 99 = .ok (.getfield 47, 3) := by decide +kernel
theorem dX10_beginnings_102 : decode cX10_beginnings 102 = .ok (.aload_n 0, 1) := by decide +kernel
theorem dX10_beginnings_103 : decode cX10_beginnings 103 = .ok (.getfield 13, 3) := by decide +kernel
theorem dX10_beginnings_106 : decode cX10_beginnings 106 = .ok (.iconst 4, 1) := by decide +kernel
theorem dX10_beginnings_107 : decode cX10_beginnings 107 = .ok (.iload_n 2, 1) := by decide +kernel
theorem dX10_beginnings_108 : decode cX10_beginnings 108 = .ok (.imul, 1) := by decide +kernel
theorem dX10_beginnings_109 : decode cX10_beginnings 109 = .ok (.iload 6, 2) := by decide +kernel
theorem dX10_beginnings_111 : decode cX10_beginnings 111 = .ok (.iadd, 1) := by decide +kernel
theorem dX10_beginnings_112 : decode cX10_beginnings 112 = .ok (.iaload, 1) := by decide +kernel
theorem dX10_beginnings_113 : decode cX10_beginnings 113 = .ok (.iaload, 1) := by decide +kernel
theorem dX10_beginnings_114 : decode cX10_beginnings 114 = .ok (.ior, 1) := by decide +kernel
theorem dX10_beginnings_115 : decode cX10_beginnings 115 = .ok (.istore 5, 2) := by decide +kernel
theorem dX10_beginnings_117 : decode cX10_beginnings 117 = .ok (.aload_n 0, 1) := by decide +kernel
theorem dX10_beginnings_118 : decode cX10_beginnings 118 = .ok (.getfield 44, 3) := by decide +kernel
theorem dX10_beginnings_121 : decode cX10_beginnings 121 = .ok (.aload_n 0, 1) := by decide +kernel
theorem dX10_beginnings_122 : decode cX10_beginnings 122 = .ok (.getfield 13, 3) := by decide +kernel
theorem dX10_beginnings_125 : decode cX10_beginnings 125 = .ok (.iconst 4, 1) := by decide +kernel
theorem dX10_beginnings_126 : decode cX10_beginnings 126 = .ok (.iload_n 2, 1) := by decide +kernel
theorem dX10_beginnings_127 : decode cX10_beginnings 127 = .ok (.imul, 1) := by decide +kernel
theorem dX10_beginnings_128 : decode cX10_beginnings 128 = .ok (.iload 6, 2) := by decide +kernel
theorem dX10_beginnings_130 : decode cX10_beginnings 130 = .ok (.iadd, 1) := by decide +kernel
theorem dX10_beginnings_131 : decode cX10_beginnings 131 = .ok (.iaload, 1) := by decide +kernel
theorem dX10_beginnings_132 : decode cX10_beginnings 132 = .ok (.baload, 1) := by decide +kernel
theorem dX10_beginnings_133 : decode cX10_beginnings 133 = .ok (.istore 4, 2) := by decide +kernel
theorem dX10_beginnings_135 : decode cX10_beginnings 135 = .ok (.iinc 6 1, 3) := by decide +kernel
theorem dX10_beginnings_138 : decode cX10_beginnings 138 = .ok (.goto (-58), 3) := by decide +kernel
theorem dX10_beginnings_141 : decode cX10_beginnings 141 = .ok (.iload 5, 2) := by decide +kernel
theorem dX10_beginnings_143 : decode cX10_beginnings 143 = .ok (.aload_n 0, 1) := by decide +kernel
theorem dX10_beginnings_144 : decode cX10_beginnings 144 = .ok (.getfield 47, 3) := by decide +kernel
theorem dX10_beginnings_147 : decode cX10_beginnings 147 = .ok (.iload_n 3, 1) := by decide +kernel
theorem dX10_beginnings_148 : decode cX10_beginnings 148 = .ok (.iaload, 1) := by decide +kernel
theorem dX10_beginnings_149 : decode cX10_beginnings 149 = .ok (.if_icmp .ne 17, 3) := by decide +kernel
theorem dX10_beginnings_152 : decode cX10_beginnings 152 = .ok (.iload 4, 2) := by decide +kernel
theorem dX10_beginnings_154 : decode cX10_beginnings 154 = .ok (.ifCond .eq 14, 3) := by decide +kernel
theorem dX10_beginnings_157 : decode cX10_beginnings 157 = .ok (.aload_n 0, 1) := by decide +kernel
theorem dX10_beginnings_158 : decode cX10_beginnings 158 = .ok (.getfield 44, 3) := by decide +kernel
theorem dX10_beginnings_161 : decode cX10_beginnings 161 = .ok (.iload_n 3, 1) := by decide +kernel
theorem dX10_beginnings_162 : decode cX10_beginnings 162 = .ok (.baload, 1) := by decide +kernel
theorem dX10_beginnings_163 : decode cX10_beginnings 163 = .ok (.ifCond .ne 5, 3) := by decide +kernel
theorem dX10_beginnings_166 : decode cX10_beginnings 166 = .ok (.iconst 1, 1) := by decide +kernel
theorem dX10_beginnings_167 : decode cX10_beginnings 167 = .ok (.istore_n 1, 1) := by decide +kernel
theorem dX10_beginnings_168 : decode cX10_beginnings 168 = .ok (.aload_n 0, 1) := by decide +kernel
theorem dX10_beginnings_169 : decode cX10_beginnings 169 = .ok (.getfield 47, 3) := by decide +kernel
theorem dX10_beginnings_172 : decode cX10_beginnings 172 = .ok (.iload_n 3, 1) := by decide +kernel
theorem dX10_beginnings_173 : decode cX10_beginnings 173 = .ok (.iload 5, 2) := by decide +kernel
theorem dX10_beginnings_175 : decode cX10_beginnings 175 = .ok (.iastore, 1) := by decide +kernel
theorem dX10_beginnings_176 : decode cX10_beginnings 176 = .ok (.aload_n 0, 1) := by decide +kernel
theorem dX10_beginnings_177 : decode cX10_beginnings 177 = .ok (.getfield 44, 3) := by decide +kernel
theorem dX10_beginnings_180 : decode cX10_beginnings 180 = .ok (.iload_n 3, 1) := by decide +kernel
theorem dX10_beginnings_181 : decode cX10_beginnings 181 = .ok (.aload_n 0, 1) := by decide +kernel
theorem dX10_beginnings_182 : decode cX10_beginnings 182 = .ok (.getfield 44, 3) := by decide +kernel
theorem dX10_beginnings_185 : decode cX10_beginnings 185 = .ok (.iload_n 3, 1) := by decide +kernel
theorem dX10_beginnings_186 : decode cX10_beginnings 186 = .ok (.baload, 1) := by decide +kernel
theorem dX10_beginnings_187 : decode cX10_beginnings 187 = .ok (.ifCond .ne 8, 3) := by decide +kernel
theorem dX10_beginnings_190 : decode cX10_beginnings 190 = .ok (.iload 4, 2) := by decide +kernel
theorem dX10_beginnings_192 : decode cX10_beginnings 192 = .ok (.ifCond .eq 7, 3) := by decide +kernel
theorem dX10_beginnings_195 : decode cX10_beginnings 195 = .ok (.iconst 1, 1) := by decide +kernel
theorem dX10_beginnings_196 : decode cX10_beginnings 196 = .ok (.goto 4, 3) := by decide +kernel
theorem dX10_beginnings_199 : decode cX10_beginnings 199 = .ok (.iconst 0, 1) := by decide +kernel
theorem dX10_beginnings_200 : decode cX10_beginnings 200 = .ok (.bastore, 1) := by decide +kernel
theorem dX10_beginnings_201 : decode cX10_beginnings 201 = .ok (.iinc 2 1, 3) := by decide +kernel
theorem dX10_beginnings_204 : decode cX10_beginnings 204 = .ok (.goto (-153), 3) := by decide +kernel
theorem dX10_beginnings_207 : decode cX10_beginnings 207 = .ok (.goto (-164), 3) := by decide +kernel
theorem dX10_beginnings_210 : decode cX10_beginnings 210 = .ok (.return_, 1) := by decide +kernel
theorem dX10_first_0 : decode cX10_first 0 = .ok (.aload_n 0, 1) := by decide +kernel
theorem dX10_first_1 : decode cX10_first 1 = .ok (.iload_n 1, 1) := by decide +kernel
theorem dX10_first_2 : decode cX10_first 2 = .ok (.invokestatic 138, 3) := by decide +kernel
theorem dX10_first_5 : decode cX10_first 5 = .ok (.iconst 1, 1) := by decide +kernel
theorem dX10_first_6 : decode cX10_first 6 = .ok (.invokevirtual 141, 3) := by decide +kernel
theorem dX10_first_9 : decode cX10_first 9 = .ok (.ifCond .ne 5, 3) := by decide +kernel
theorem dX10_first_12 : decode cX10_first 12 = .ok (.iconst 0, 1) := by decide +kernel
theorem dX10_first_13 : decode cX10_first 13 = .ok (.ireturn, 1) := by decide +kernel
theorem dX10_first_14 : decode cX10_first 14 = .ok (.aload_n 0, 1) := by decide +kernel
theorem dX10_first_15 : decode cX10_first 15 = .ok (.invokevirtual 163, 3) := by decide +kernel
theorem dX10_first_18 : decode cX10_first 18 = .ok (.aload_n 0, 1) := by decide +kernel
theorem dX10_first_19 : decode cX10_first 19 = .ok (.getfield 47, 3) := by decide +kernel
theorem dX10_first_22 : decode cX10_first 22 = .ok (.iload_n 1, 1) := by decide +kernel
theorem dX10_first_23 : decode cX10_first 23 = .ok (.iaload, 1) := by decide +kernel
theorem dX10_first_24 : decode cX10_first 24 = .ok (.aload_n 0, 1) := by decide +kernel
theorem dX10_first_25 : decode cX10_first 25 = .ok (.getfield 44, 3) := by decide +kernel
theorem dX10_first_28 : decode cX10_first 28 = .ok (.iload_n 1, 1) := by decide +kernel
theorem dX10_first_29 : decode cX10_first 29 = .ok (.baload, 1) := by decide +kernel
theorem dX10_first_30 : decode cX10_first 30 = .ok (.ifCond .eq 7, 3) := by decide +kernel
theorem dX10_first_33 : decode cX10_first 33 = .ok (.iconst 1, 1) := by decide +kernel
theorem dX10_first_34 : decode cX10_first 34 = .ok (.goto 4, 3) := by decide +kernel
theorem dX10_first_37 : decode cX10_first 37 = .ok (.iconst 0, 1) := by decide +kernel
theorem dX10_first_38 : decode cX10_first 38 = .ok (.iadd, 1) := by decide +kernel
theorem dX10_first_39 : decode cX10_first 39 = .ok (.ireturn, 1) := by decide +kernel
theorem dX10_behind_0 : decode cX10_behind 0 = .ok (.iload_n 1, 1) := by decide +kernel
theorem dX10_behind_1 : decode cX10_behind 1 = .ok (.iconst 5, 1) := by decide +kernel
theorem dX10_behind_2 : decode cX10_behind 2 = .ok (.idiv, 1) := by decide +kernel
theorem dX10_behind_3 : decode cX10_behind 3 = .ok (.istore_n 2, 1) := by decide +kernel
theorem dX10_behind_4 : decode cX10_behind 4 = .ok (.iload_n 1, 1) := by decide +kernel
theorem dX10_behind_5 : decode cX10_behind 5 = .ok (.iconst 5, 1) := by decide +kernel
theorem dX10_behind_6 : decode cX10_behind 6 = .ok (.irem, 1) := by decide +kernel
theorem dX10_behind_7 : decode cX10_behind 7 = .ok (.istore_n 3, 1) := by decide +kernel
theorem dX10_behind_8 : decode cX10_behind 8 = .ok (.iload_n 3, 1) := by decide +kernel
theorem dX10_behind_9 : decode cX10_behind 9 = .ok (.aload_n 0, 1) := by decide +kernel
theorem dX10_behind_10 : decode cX10_behind 10 = .ok (.getfield 16, 3) := by decide +kernel
theorem dX10_behind_13 : decode cX10_behind 13 = .ok (.iload_n 2, 1) := by decide +kernel
theorem dX10_behind_14 : decode cX10_behind 14 = .ok (.iaload, 1) := by decide +kernel
theorem dX10_behind_15 : decode cX10_behind 15 = .ok (.if_icmp .ge 16, 3) := by decide +kernel
theorem dX10_behind_18 : decode cX10_behind 18 = .ok (.aload_n 0, 1) := by decide +kernel
theorem dX10_behind_19 : decode cX10_behind 19 = .ok (.getfield 13, 3) := by decide +kernel
theorem dX10_behind_22 : decode cX10_behind 22 = .ok (.iconst 4, 1) := by decide +kernel
theorem dX10_behind_23 : decode cX10_behind 23 = .ok (.iload_n 2, 1) := by decide +kernel
theorem dX10_behind_24 : decode cX10_behind 24 = .ok (.imul, 1) := by decide +kernel
theorem dX10_behind_25 : decode cX10_behind 25 = .ok (.iload_n 3, 1) := by decide +kernel
theorem dX10_behind_26 : decode cX10_behind 26 = .ok (.iadd, 1) := by decide +kernel
theorem dX10_behind_27 : decode cX10_behind 27 = .ok (.iaload, 1) := by decide +kernel
theorem dX10_behind_28 : decode cX10_behind 28 = .ok (.goto 4, 3) := by decide +kernel
theorem dX10_behind_31 : decode cX10_behind 31 = .ok (.iconst 0, 1) := by decide +kernel
theorem dX10_behind_32 : decode cX10_behind 32 = .ok (.ireturn, 1) := by decide +kernel
theorem dX10_complete_0 : decode cX10_complete 0 = .ok (.iconst 1, 1) := by decide +kernel
theorem dX10_complete_1 : decode cX10_complete 1 = .ok (.istore_n 1, 1) := by decide +kernel
theorem dX10_complete_2 : decode cX10_complete 2 = .ok (.iload_n 1, 1) := by decide +kernel
theorem dX10_complete_3 : decode cX10_complete 3 = .ok (.ifCond .eq 94, 3) := by decide +kernel
theorem dX10_complete_6 : decode cX10_complete 6 = .ok (.iconst 0, 1) := by decide +kernel
theorem dX10_complete_7 : decode cX10_complete 7 = .ok (.istore_n 1, 1) := by decide +kernel
theorem dX10_complete_8 : decode cX10_complete 8 = .ok (.iconst 0, 1) := by decide +kernel
theorem dX10_complete_9 : decode cX10_complete 9 = .ok (.istore_n 2, 1) := by decide +kernel
theorem dX10_complete_10 : decode cX10_complete 10 = .ok (.iload_n 2, 1) := by decide +kernel
theorem dX10_complete_11 : decode cX10_complete 11 = .ok (.bipush 75, 2) := by decide +kernel
theorem dX10_complete_13 : decode cX10_complete 13 = .ok (.if_icmp .ge 81, 3) := by decide +kernel
theorem dX10_complete_16 : decode cX10_complete 16 = .ok (.aload_n 0, 1) := by decide +kernel
theorem dX10_complete_17 : decode cX10_complete 17 = .ok (.getfield 38, 3) := by decide +kernel
theorem dX10_complete_20 : decode cX10_complete 20 = .ok (.iload_n 2, 1) := by decide +kernel
theorem dX10_complete_21 : decode cX10_complete 21 = .ok (.baload, 1) := by decide +kernel
theorem dX10_complete_22 : decode cX10_complete 22 = .ok (.ifCond .eq 66, 3) := by decide +kernel
theorem dX10_complete_25 : decode cX10_complete 25 = .ok (.aload_n 0, 1) := by decide +kernel
theorem dX10_complete_26 : decode cX10_complete 26 = .ok (.iload_n 2, 1) := by decide +kernel
theorem dX10_complete_27 : decode cX10_complete 27 = .ok (.invokevirtual 166, 3) := by decide +kernel
theorem dX10_complete_30 : decode cX10_complete 30 = .ok (.invokestatic 135, 3) := by decide +kernel
theorem dX10_complete_33 : decode cX10_complete 33 = .ok (.ifCond .eq 55, 3) := by decide +kernel
theorem dX10_complete_36 : decode cX10_complete 36 = .ok (.iconst 0, 1) := by decide +kernel
theorem dX10_complete_37 : decode cX10_complete 37 = .ok (.istore_n 3, 1) := by decide +kernel
theorem dX10_complete_38 : decode cX10_complete 38 = .ok (.iload_n 3, 1) := by decide +kernel
theorem dX10_complete_39 : decode cX10_complete 39 = .ok (.aload_n 0, 1) := by decide +kernel
theorem dX10_complete_40 : decode cX10_complete 40 = .ok (.getfield 145, 3) := by decide +kernel
theorem dX10_complete_43 : decode cX10_complete 43 = .ok (.if_icmp .ge 45, 3) := by decide +kernel
theorem dX10_complete_46 : decode cX10_complete 46 = .ok (.aload_n 0, 1) := by decide +kernel
theorem dX10_complete_47 : decode cX10_complete 47 = .ok (.getfield 7, 3) := by decide +kernel
theorem dX10_complete_50 : decode cX10_complete 50 = .ok (.iload_n 3, 1) := by decide +kernel
theorem dX10_complete_51 : decode cX10_complete 51 = .ok (.iaload, 1) := by decide +kernel
theorem dX10_complete_52 : decode cX10_complete 52 = .ok (.aload_n 0, 1) := by decide +kernel
theorem dX10_complete_53 : decode cX10_complete 53 = .ok (.iload_n 2, 1) := by decide +kernel
theorem dX10_complete_54 : decode cX10_complete 54 = .ok (.invokevirtual 166, 3) := by decide +kernel
theorem dX10_complete_57 : decode cX10_complete 57 = .ok (.if_icmp .ne 25, 3) := by decide +kernel
theorem dX10_complete_60 : decode cX10_complete 60 = .ok (.aload_n 0, 1) := by decide +kernel
theorem dX10_complete_61 : decode cX10_complete 61 = .ok (.getfield 38, 3) := by decide +kernel
theorem dX10_complete_64 : decode cX10_complete 64 = .ok (.iconst 5, 1) := by decide +kernel
theorem dX10_complete_65 : decode cX10_complete 65 = .ok (.iload_n 3, 1) := by decide +kernel
theorem dX10_complete_66 : decode cX10_complete 66 = .ok (.imul, 1) := by decide +kernel
theorem dX10_complete_67 : decode cX10_complete 67 = .ok (.baload, 1) := by decide +kernel
theorem dX10_complete_68 : decode cX10_complete 68 = .ok (.ifCond .ne 14, 3) := by decide +kernel
theorem dX10_complete_71 : decode cX10_complete 71 = .ok (.aload_n 0, 1) := by decide +kernel
theorem dX10_complete_72 : decode cX10_complete 72 = .ok (.getfield 38, 3) := by decide +kernel
theorem dX10_complete_75 : decode cX10_complete 75 = .ok (.iconst 5, 1) := by decide +kernel
theorem dX10_complete_76 : decode cX10_complete 76 = .ok (.iload_n 3, 1) := by decide +kernel
theorem dX10_complete_77 : decode cX10_complete 77 = .ok (.imul, 1) := by decide +kernel
theorem dX10_complete_78 : decode cX10_complete 78 = .ok (.iconst 1, 1) := by decide +kernel
theorem dX10_complete_79 : decode cX10_complete 79 = .ok (.bastore, 1) := by decide +kernel
theorem dX10_complete_80 : decode cX10_complete 80 = .ok (.iconst 1, 1) := by decide +kernel
theorem dX10_complete_81 : decode cX10_complete 81 = .ok (.istore_n 1, 1) := by decide +kernel
theorem dX10_complete_82 : decode cX10_complete 82 = .ok (.iinc 3 1, 3) := by decide +kernel
theorem dX10_complete_85 : decode cX10_complete 85 = .ok (.goto (-47), 3) := by decide +kernel
theorem dX10_complete_88 : decode cX10_complete 88 = .ok (.iinc 2 1, 3) := by decide +kernel
theorem dX10_complete_91 : decode cX10_complete 91 = .ok (.goto (-81), 3) := by decide +kernel
theorem dX10_complete_94 : decode cX10_complete 94 = .ok (.goto (-92), 3) := by decide +kernel
theorem dX10_complete_97 : decode cX10_complete 97 = .ok (.return_, 1) := by decide +kernel
theorem dX10_find_0 : decode cX10_find 0 = .ok (.aload_n 0, 1) := by decide +kernel
theorem dX10_find_1 : decode cX10_find 1 = .ok (.getfield 170, 3) := by decide +kernel
theorem dX10_find_4 : decode cX10_find 4 = .ok (.istore_n 1, 1) := by decide +kernel
theorem dX10_find_5 : decode cX10_find 5 = .ok (.aload_n 0, 1) := by decide +kernel
theorem dX10_find_6 : decode cX10_find 6 = .ok (.getfield 170, 3) := by decide +kernel
theorem dX10_find_9 : decode cX10_find 9 = .ok (.iconst 1, 1) := by decide +kernel
theorem dX10_find_10 : decode cX10_find 10 = .ok (.isub, 1) := by decide +kernel
theorem dX10_find_11 : decode cX10_find 11 = .ok (.istore_n 2, 1) := by decide +kernel
theorem dX10_find_12 : decode cX10_find 12 = .ok (.iload_n 2, 1) := by decide +kernel
theorem dX10_find_13 : decode cX10_find 13 = .ok (.ifCond .lt 57, 3) := by decide +kernel
theorem dX10_find_16 : decode cX10_find 16 = .ok (.iconst 1, 1) := by decide +kernel
theorem dX10_find_17 : decode cX10_find 17 = .ok (.istore_n 3, 1) := by decide +kernel
theorem dX10_find_18 : decode cX10_find 18 = .ok (.iconst 0, 1) := by decide +kernel
theorem dX10_find_19 : decode cX10_find 19 = .ok (.istore 4, 2) := by decide +kernel
theorem dX10_find_21 : decode cX10_find 21 = .ok (.iload 4, 2) := by decide +kernel
theorem dX10_find_23 : decode cX10_find 23 = .ok (.bipush 75, 2) := by decide +kernel
theorem dX10_find_25 : decode cX10_find 25 = .ok (.if_icmp .ge 33, 3) := by decide +kernel
theorem dX10_find_28 : decode cX10_find 28 = .ok (.aload_n 0, 1) := by decide +kernel
theorem dX10_find_29 : decode cX10_find 29 = .ok (.getfield 34, 3) := by decide +kernel
theorem dX10_find_32 : decode cX10_find 32 = .ok (.bipush 75, 2) := by decide +kernel
theorem dX10_find_34 : decode cX10_find 34 = .ok (.iload_n 2, 1) := by decide +kernel
theorem dX10_find_35 : decode cX10_find 35 = .ok (.imul, 1) := by decide +kernel
theorem dX10_find_36 : decode cX10_find 36 = .ok (.iload 4, 2) := by decide +kernel
theorem dX10_find_38 : decode cX10_find 38 = .ok (.iadd, 1) := by decide +kernel
theorem dX10_find_39 : decode cX10_find 39 = .ok (.baload, 1) := by decide +kernel
theorem dX10_find_40 : decode cX10_find 40 = .ok (.aload_n 0, 1) := by decide +kernel
theorem dX10_find_41 : decode cX10_find 41 = .ok (.getfield 38, 3) := by decide +kernel
theorem dX10_find_44 : decode cX10_find 44 = .ok (.iload 4, 2) := by decide +kernel
theorem dX10_find_46 : decode cX10_find 46 = .ok (.baload, 1) := by decide +kernel
theorem dX10_find_47 : decode cX10_find 47 = .ok (.if_icmp .eq 5, 3) := by decide +kernel
theorem dX10_find_50 : decode cX10_find 50 = .ok (.iconst 0, 1) := by decide +kernel
theorem dX10_find_51 : decode cX10_find 51 = .ok (.istore_n 3, 1) := by decide +kernel
theorem dX10_find_52 : decode cX10_find 52 = .ok (.iinc 4 1, 3) := by decide +kernel
theorem dX10_find_55 : decode cX10_find 55 = .ok (.goto (-34), 3) := by decide +kernel
theorem dX10_find_58 : decode cX10_find 58 = .ok (.iload_n 3, 1) := by decide +kernel
theorem dX10_find_59 : decode cX10_find 59 = .ok (.ifCond .eq 5, 3) := by decide +kernel
theorem dX10_find_62 : decode cX10_find 62 = .ok (.iload_n 2, 1) := by decide +kernel
theorem dX10_find_63 : decode cX10_find 63 = .ok (.istore_n 1, 1) := by decide +kernel
theorem dX10_find_64 : decode cX10_find 64 = .ok (.iinc 2 (-1), 3) := by decide +kernel
theorem dX10_find_67 : decode cX10_find 67 = .ok (.goto (-55), 3) := by decide +kernel
theorem dX10_find_70 : decode cX10_find 70 = .ok (.iload_n 1, 1) := by decide +kernel
theorem dX10_find_71 : decode cX10_find 71 = .ok (.ireturn, 1) := by decide +kernel
theorem dX10_keep_0 : decode cX10_keep 0 = .ok (.iconst 0, 1) := by decide +kernel
theorem dX10_keep_1 : decode cX10_keep 1 = .ok (.istore_n 1, 1) := by decide +kernel
theorem dX10_keep_2 : decode cX10_keep 2 = .ok (.iload_n 1, 1) := by decide +kernel
theorem dX10_keep_3 : decode cX10_keep 3 = .ok (.bipush 75, 2) := by decide +kernel
theorem dX10_keep_5 : decode cX10_keep 5 = .ok (.if_icmp .ge 29, 3) := by decide +kernel
theorem dX10_keep_8 : decode cX10_keep 8 = .ok (.aload_n 0, 1) := by decide +kernel
theorem dX10_keep_9 : decode cX10_keep 9 = .ok (.getfield 34, 3) := by decide +kernel
theorem dX10_keep_12 : decode cX10_keep 12 = .ok (.bipush 75, 2) := by decide +kernel
theorem dX10_keep_14 : decode cX10_keep 14 = .ok (.aload_n 0, 1) := by decide +kernel
theorem dX10_keep_15 : decode cX10_keep 15 = .ok (.getfield 170, 3) := by decide +kernel
theorem dX10_keep_18 : decode cX10_keep 18 = .ok (.imul, 1) := by decide +kernel
theorem dX10_keep_19 : decode cX10_keep 19 = .ok (.iload_n 1, 1) := by decide +kernel
theorem dX10_keep_20 : decode cX10_keep 20 = .ok (.iadd, 1) := by decide +kernel
theorem dX10_keep_21 : decode cX10_keep 21 = .ok (.aload_n 0, 1) := by decide +kernel
theorem dX10_keep_22 : decode cX10_keep 22 = .ok (.getfield 38, 3) := by decide +kernel
theorem dX10_keep_25 : decode cX10_keep 25 = .ok (.iload_n 1, 1) := by decide +kernel
theorem dX10_keep_26 : decode cX10_keep 26 = .ok (.baload, 1) := by decide +kernel
theorem dX10_keep_27 : decode cX10_keep 27 = .ok (.bastore, 1) := by decide +kernel
theorem dX10_keep_28 : decode cX10_keep 28 = .ok (.iinc 1 1, 3) := by decide +kernel
theorem dX10_keep_31 : decode cX10_keep 31 = .ok (.goto (-29), 3) := by decide +kernel
theorem dX10_keep_34 : decode cX10_keep 34 = .ok (.iconst 0, 1) := by decide +kernel
theorem dX10_keep_35 : decode cX10_keep 35 = .ok (.istore_n 1, 1) := by decide +kernel
theorem dX10_keep_36 : decode cX10_keep 36 = .ok (.iload_n 1, 1) := by decide +kernel
theorem dX10_keep_37 : decode cX10_keep 37 = .ok (.bipush 14, 2) := by decide +kernel
theorem dX10_keep_39 : decode cX10_keep 39 = .ok (.if_icmp .ge 24, 3) := by decide +kernel
theorem dX10_keep_42 : decode cX10_keep 42 = .ok (.aload_n 0, 1) := by decide +kernel
theorem dX10_keep_43 : decode cX10_keep 43 = .ok (.getfield 41, 3) := by decide +kernel
theorem dX10_keep_46 : decode cX10_keep 46 = .ok (.bipush 14, 2) := by decide +kernel
theorem dX10_keep_48 : decode cX10_keep 48 = .ok (.aload_n 0, 1) := by decide +kernel
theorem dX10_keep_49 : decode cX10_keep 49 = .ok (.getfield 170, 3) := by decide +kernel
theorem dX10_keep_52 : decode cX10_keep 52 = .ok (.imul, 1) := by decide +kernel
theorem dX10_keep_53 : decode cX10_keep 53 = .ok (.iload_n 1, 1) := by decide +kernel
theorem dX10_keep_54 : decode cX10_keep 54 = .ok (.iadd, 1) := by decide +kernel
theorem dX10_keep_55 : decode cX10_keep 55 = .ok (.iconst 0, 1) := by decide +kernel
theorem dX10_keep_56 : decode cX10_keep 56 = .ok (.iastore, 1) := by decide +kernel
theorem dX10_keep_57 : decode cX10_keep 57 = .ok (.iinc 1 1, 3) := by decide +kernel
theorem dX10_keep_60 : decode cX10_keep 60 = .ok (.goto (-24), 3) := by decide +kernel
theorem dX10_keep_63 : decode cX10_keep 63 = .ok (.aload_n 0, 1) := by decide +kernel
theorem dX10_keep_64 : decode cX10_keep 64 = .ok (.dup, 1) := by decide +kernel
theorem dX10_keep_65 : decode cX10_keep 65 = .ok (.getfield 170, 3) := by decide +kernel
theorem dX10_keep_68 : decode cX10_keep 68 = .ok (.iconst 1, 1) := by decide +kernel
theorem dX10_keep_69 : decode cX10_keep 69 = .ok (.iadd, 1) := by decide +kernel
theorem dX10_keep_70 : decode cX10_keep 70 = .ok (.putfield 170, 3) := by decide +kernel
theorem dX10_keep_73 : decode cX10_keep 73 = .ok (.return_, 1) := by decide +kernel
theorem dX10_makeStates_0 : decode cX10_makeStates 0 = .ok (.aload_n 0, 1) := by decide +kernel
theorem dX10_makeStates_1 : decode cX10_makeStates 1 = .ok (.iconst 0, 1) := by decide +kernel
theorem dX10_makeStates_2 : decode cX10_makeStates 2 = .ok (.putfield 170, 3) := by decide +kernel
theorem dX10_makeStates_5 : decode cX10_makeStates 5 = .ok (.iconst 0, 1) := by decide +kernel
theorem dX10_makeStates_6 : decode cX10_makeStates 6 = .ok (.istore_n 1, 1) := by decide +kernel
theorem dX10_makeStates_7 : decode cX10_makeStates 7 = .ok (.iload_n 1, 1) := by decide +kernel
theorem dX10_makeStates_8 : decode cX10_makeStates 8 = .ok (.bipush 75, 2) := by decide +kernel
theorem dX10_makeStates_10 : decode cX10_makeStates 10 = .ok (.if_icmp .ge 26, 3) := by decide +kernel
theorem dX10_makeStates_13 : decode cX10_makeStates 13 = .ok (.aload_n 0, 1) := by decide +kernel
theorem dX10_makeStates_14 : decode cX10_makeStates 14 = .ok (.getfield 38, 3) := by decide +kernel
theorem dX10_makeStates_17 : decode cX10_makeStates 17 = .ok (.iload_n 1, 1) := by decide +kernel
theorem dX10_makeStates_18 : decode cX10_makeStates 18 = .ok (.iload_n 1, 1) := by decide +kernel
theorem dX10_makeStates_19 : decode cX10_makeStates 19 = .ok (.bipush 70, 2) := by decide +kernel
theorem dX10_makeStates_21 : decode cX10_makeStates 21 = .ok (.if_icmp .ne 7, 3) := by decide +kernel
theorem dX10_makeStates_24 : decode cX10_makeStates 24 = .ok (.iconst 1, 1) := by decide +kernel
theorem dX10_makeStates_25 : decode cX10_makeStates 25 = .ok (.goto 4, 3) := by decide +kernel
theorem dX10_makeStates_28 : decode cX10_makeStates 28 = .ok (.iconst 0, 1) := by decide +kernel
theorem dX10_makeStates_29 : decode cX10_makeStates 29 = .ok (.bastore, 1) := by decide +kernel
theorem dX10_makeStates_30 : decode cX10_makeStates 30 = .ok (.iinc 1 1, 3) := by decide +kernel
theorem dX10_makeStates_33 : decode cX10_makeStates 33 = .ok (.goto (-26), 3) := by decide +kernel
theorem dX10_makeStates_36 : decode cX10_makeStates 36 = .ok (.aload_n 0, 1) := by decide +kernel
theorem dX10_makeStates_37 : decode cX10_makeStates 37 = .ok (.invokevirtual 173, 3) := by decide +kernel
theorem dX10_makeStates_40 : decode cX10_makeStates 40 = .ok (.aload_n 0, 1) := by decide +kernel
theorem dX10_makeStates_41 : decode cX10_makeStates 41 = .ok (.invokevirtual 176, 3) := by decide +kernel
theorem dX10_makeStates_44 : decode cX10_makeStates 44 = .ok (.iconst 0, 1) := by decide +kernel
theorem dX10_makeStates_45 : decode cX10_makeStates 45 = .ok (.istore_n 1, 1) := by decide +kernel
theorem dX10_makeStates_46 : decode cX10_makeStates 46 = .ok (.iload_n 1, 1) := by decide +kernel
theorem dX10_makeStates_47 : decode cX10_makeStates 47 = .ok (.aload_n 0, 1) := by decide +kernel
theorem dX10_makeStates_48 : decode cX10_makeStates 48 = .ok (.getfield 170, 3) := by decide +kernel
theorem dX10_makeStates_51 : decode cX10_makeStates 51 = .ok (.if_icmp .ge 151, 3) := by decide +kernel
theorem dX10_makeStates_54 : decode cX10_makeStates 54 = .ok (.iconst 1, 1) := by decide +kernel
theorem dX10_makeStates_55 : decode cX10_makeStates 55 = .ok (.istore_n 2, 1) := by decide +kernel
theorem dX10_makeStates_56 : decode cX10_makeStates 56 = .ok (.iload_n 2, 1) := by decide +kernel
theorem dX10_makeStates_57 : decode cX10_makeStates 57 = .ok (.bipush 14, 2) := by decide +kernel
theorem dX10_makeStates_59 : decode cX10_makeStates 59 = .ok (.if_icmp .ge 137, 3) := by decide +kernel
theorem dX10_makeStates_62 : decode cX10_makeStates 62 = .ok (.iconst 0, 1) := by decide +kernel
theorem dX10_makeStates_63 : decode cX10_makeStates 63 = .ok (.istore_n 3, 1) := by decide +kernel
theorem dX10_makeStates_64 : decode cX10_makeStates 64 = .ok (.iconst 0, 1) := by decide +kernel
theorem dX10_makeStates_65 : decode cX10_makeStates 65 = .ok (.istore 4, 2) := by decide +kernel
theorem dX10_makeStates_67 : decode cX10_makeStates 67 = .ok (.iload 4, 2) := by decide +kernel
theorem dX10_makeStates_69 : decode cX10_makeStates 69 = .ok (.bipush 75, 2) := by decide +kernel
theorem dX10_makeStates_71 : decode cX10_makeStates 71 = .ok (.if_icmp .ge 17, 3) := by decide +kernel
theorem dX10_makeStates_74 : decode cX10_makeStates 74 = .ok (.aload_n 0, 1) := by decide +kernel
theorem dX10_makeStates_75 : decode cX10_makeStates 75 = .ok (.getfield 38, 3) := by decide +kernel
theorem dX10_makeStates_78 : decode cX10_makeStates 78 = .ok (.iload 4, 2) := by decide +kernel
theorem dX10_makeStates_80 : decode cX10_makeStates 80 = .ok (.iconst 0, 1) := by decide +kernel
theorem dX10_makeStates_81 : decode cX10_makeStates 81 = .ok (.bastore, 1) := by decide +kernel
theorem dX10_makeStates_82 : decode cX10_makeStates 82 = .ok (.iinc 4 1, 3) := by decide +kernel
theorem dX10_makeStates_85 : decode cX10_makeStates 85 = .ok (.goto (-18), 3) := by decide +kernel
theorem dX10_makeStates_88 : decode cX10_makeStates 88 = .ok (.iconst 0, 1) := by decide +kernel
theorem dX10_makeStates_89 : decode cX10_makeStates 89 = .ok (.istore 4, 2) := by decide +kernel
theorem dX10_makeStates_91 : decode cX10_makeStates 91 = .ok (.iload 4, 2) := by decide +kernel
theorem dX10_makeStates_93 : decode cX10_makeStates 93 = .ok (.bipush 75, 2) := by decide +kernel
theorem dX10_makeStates_95 : decode cX10_makeStates 95 = .ok (.if_icmp .ge 46, 3) := by decide +kernel
theorem dX10_makeStates_98 : decode cX10_makeStates 98 = .ok (.aload_n 0, 1) := by decide +kernel
theorem dX10_makeStates_99 : decode cX10_makeStates 99 = .ok (.getfield 34, 3) := by decide +kernel
theorem dX10_makeStates_102 : decode cX10_makeStates 102 = .ok (.bipush 75, 2) := by decide +kernel
theorem dX10_makeStates_104 : decode cX10_makeStates 104 = .ok (.iload_n 1, 1) := by decide +kernel
theorem dX10_makeStates_105 : decode cX10_makeStates 105 = .ok (.imul, 1) := by decide +kernel
theorem dX10_makeStates_106 : decode cX10_makeStates 106 = .ok (.iload 4, 2) := by decide +kernel
theorem dX10_makeStates_108 : decode cX10_makeStates 108 = .ok (.iadd, 1) := by decide +kernel
theorem dX10_makeStates_109 : decode cX10_makeStates 109 = .ok (.baload, 1) := by decide +kernel
theorem dX10_makeStates_110 : decode cX10_makeStates 110 = .ok (.ifCond .eq 25, 3) := by decide +kernel
theorem dX10_makeStates_113 : decode cX10_makeStates 113 = .ok (.aload_n 0, 1) := by decide +kernel
theorem dX10_makeStates_114 : decode cX10_makeStates 114 = .ok (.iload 4, 2) := by decide +kernel
theorem dX10_makeStates_116 : decode cX10_makeStates 116 = .ok (.invokevirtual 166, 3) := by decide +kernel
theorem dX10_makeStates_119 : decode cX10_makeStates 119 = .ok (.iload_n 2, 1) := by decide +kernel
theorem dX10_makeStates_120 : decode cX10_makeStates 120 = .ok (.if_icmp .ne 15, 3) := by decide +kernel
theorem dX10_makeStates_123 : decode cX10_makeStates 123 = .ok (.aload_n 0, 1) := by decide +kernel
theorem dX10_makeStates_124 : decode cX10_makeStates 124 = .ok (.getfield 38, 3) := by decide +kernel
theorem dX10_makeStates_127 : decode cX10_makeStates 127 = .ok (.iload 4, 2) := by decide +kernel
theorem dX10_makeStates_129 : decode cX10_makeStates 129 = .ok (.iconst 1, 1) := by decide +kernel
theorem dX10_makeStates_130 : decode cX10_makeStates 130 = .ok (.iadd, 1) := by decide +kernel
theorem dX10_makeStates_131 : decode cX10_makeStates 131 = .ok (.iconst 1, 1) := by decide +kernel
theorem dX10_makeStates_132 : decode cX10_makeStates 132 = .ok (.bastore, 1) := by decide +kernel
theorem dX10_makeStates_133 : decode cX10_makeStates 133 = .ok (.iconst 1, 1) := by decide +kernel
theorem dX10_makeStates_134 : decode cX10_makeStates 134 = .ok (.istore_n 3, 1) := by decide +kernel
theorem dX10_makeStates_135 : decode cX10_makeStates 135 = .ok (.iinc 4 1, 3) := by decide +kernel
theorem dX10_makeStates_138 : decode cX10_makeStates 138 = .ok (.goto (-47), 3) := by decide +kernel
theorem dX10_makeStates_141 : decode cX10_makeStates 141 = .ok (.iload_n 3, 1) := by decide +kernel
theorem dX10_makeStates_142 : decode cX10_makeStates 142 = .ok (.ifCond .eq 48, 3) := by decide +kernel
theorem dX10_makeStates_145 : decode cX10_makeStates 145 = .ok (.aload_n 0, 1) := by decide +kernel
theorem dX10_makeStates_146 : decode cX10_makeStates 146 = .ok (.invokevirtual 173, 3) := by decide +kernel
theorem dX10_makeStates_149 : decode cX10_makeStates 149 = .ok (.aload_n 0, 1) := by decide +kernel
theorem dX10_makeStates_150 : decode cX10_makeStates 150 = .ok (.invokevirtual 179, 3) := by decide +kernel
theorem dX10_makeStates_153 : decode cX10_makeStates 153 = .ok (.istore 4, 2) := by decide +kernel
theorem dX10_makeStates_155 : decode cX10_makeStates 155 = .ok (.iload 4, 2) := by decide +kernel
theorem dX10_makeStates_157 : decode cX10_makeStates 157 = .ok (.bipush 50, 2) := by decide +kernel
theorem dX10_makeStates_159 : decode cX10_makeStates 159 = .ok (.if_icmp .ne 5, 3) := by decide +kernel
theorem dX10_makeStates_162 : decode cX10_makeStates 162 = .ok (.iconst 0, 1) := by decide +kernel
theorem dX10_makeStates_163 : decode cX10_makeStates 163 = .ok (.ireturn, 1) := by decide +kernel
theorem dX10_makeStates_164 : decode cX10_makeStates 164 = .ok (.iload 4, 2) := by decide +kernel
theorem dX10_makeStates_166 : decode cX10_makeStates 166 = .ok (.aload_n 0, 1) := by decide +kernel
theorem dX10_makeStates_167 : decode cX10_makeStates 167 = .ok (.getfield 170, 3) := by decide +kernel
theorem dX10_makeStates_170 : decode cX10_makeStates 170 = .ok (.if_icmp .ne 7, 3) := by decide +kernel
theorem dX10_makeStates_173 : decode cX10_makeStates 173 = .ok (.aload_n 0, 1) := by decide +kernel
theorem dX10_makeStates_174 : decode cX10_makeStates 174 = .ok (.invokevirtual 176, 3) := by decide +kernel
theorem dX10_makeStates_177 : decode cX10_makeStates 177 = .ok (.aload_n 0, 1) := by decide +kernel
theorem dX10_makeStates_178 : decode cX10_makeStates 178 = .ok (.getfield 41, 3) := by decide +kernel
theorem dX10_makeStates_181 : decode cX10_makeStates 181 = .ok (.bipush 14, 2) := by decide +kernel
theorem dX10_makeStates_183 : decode cX10_makeStates 183 = .ok (.iload_n 1, 1) := by decide +kernel
theorem dX10_makeStates_184 : decode cX10_makeStates 184 = .ok (.imul, 1) := by decide +kernel
theorem dX10_makeStates_185 : decode cX10_makeStates 185 = .ok (.iload_n 2, 1) := by decide +kernel
theorem dX10_makeStates_186 : decode cX10_makeStates 186 = .ok (.iadd, 1) := by decide +kernel
theorem dX10_makeStates_187 : decode cX10_makeStates 187 = .ok (.iload 4, 2) := by decide +kernel
theorem dX10_makeStates_189 : decode cX10_makeStates 189 = .ok (.iastore, 1) := by decide +kernel
theorem dX10_makeStates_190 : decode cX10_makeStates 190 = .ok (.iinc 2 1, 3) := by decide +kernel
theorem dX10_makeStates_193 : decode cX10_makeStates 193 = .ok (.goto (-137), 3) := by decide +kernel
theorem dX10_makeStates_196 : decode cX10_makeStates 196 = .ok (.iinc 1 1, 3) := by decide +kernel
theorem dX10_makeStates_199 : decode cX10_makeStates 199 = .ok (.goto (-153), 3) := by decide +kernel
theorem dX10_makeStates_202 : decode cX10_makeStates 202 = .ok (.iconst 1, 1) := by decide +kernel
theorem dX10_makeStates_203 : decode cX10_makeStates 203 = .ok (.ireturn, 1) := by decide +kernel
theorem dX10_reads_0 : decode cX10_reads 0 = .ok (.iconst 0, 1) := by decide +kernel
theorem dX10_reads_1 : decode cX10_reads 1 = .ok (.istore_n 1, 1) := by decide +kernel
theorem dX10_reads_2 : decode cX10_reads 2 = .ok (.iload_n 1, 1) := by decide +kernel
theorem dX10_reads_3 : decode cX10_reads 3 = .ok (.bipush 14, 2) := by decide +kernel
theorem dX10_reads_5 : decode cX10_reads 5 = .ok (.aload_n 0, 1) := by decide +kernel
theorem dX10_reads_6 : decode cX10_reads 6 = .ok (.getfield 170, 3) := by decide +kernel
theorem dX10_reads_9 : decode cX10_reads 9 = .ok (.imul, 1) := by decide +kernel
theorem dX10_reads_10 : decode cX10_reads 10 = .ok (.if_icmp .ge 97, 3) := by decide +kernel
theorem dX10_reads_13 : decode cX10_reads 13 = .ok (.aload_n 0, 1) := by decide +kernel
theorem dX10_reads_14 : decode cX10_reads 14 = .ok (.getfield 50, 3) := by decide +kernel
theorem dX10_reads_17 : decode cX10_reads 17 = .ok (.iload_n 1, 1) := by decide +kernel
theorem dX10_reads_18 : decode cX10_reads 18 = .ok (.iconst 0, 1) := by decide +kernel
theorem dX10_reads_19 : decode cX10_reads 19 = .ok (.iastore, 1) := by decide +kernel
theorem dX10_reads_20 : decode cX10_reads 20 = .ok (.aload_n 0, 1) := by decide +kernel
theorem dX10_reads_21 : decode cX10_reads 21 = .ok (.getfield 41, 3) := by decide +kernel
theorem dX10_reads_24 : decode cX10_reads 24 = .ok (.iload_n 1, 1) := by decide +kernel
theorem dX10_reads_25 : decode cX10_reads 25 = .ok (.iaload, 1) := by decide +kernel
theorem dX10_reads_26 : decode cX10_reads 26 = .ok (.istore_n 2, 1) := by decide +kernel
theorem dX10_reads_27 : decode cX10_reads 27 = .ok (.iload_n 1, 1) := by decide +kernel
theorem dX10_reads_28 : decode cX10_reads 28 = .ok (.bipush 14, 2) := by decide +kernel
theorem dX10_reads_30 : decode cX10_reads 30 = .ok (.irem, 1) := by decide +kernel
theorem dX10_reads_31 : decode cX10_reads 31 = .ok (.invokestatic 135, 3) := by decide +kernel
theorem dX10_reads_34 : decode cX10_reads 34 = .ok (.ifCond .eq 67, 3) := by decide +kernel
theorem dX10_reads_37 : decode cX10_reads 37 = .ok (.iload_n 2, 1) := by decide +kernel
theorem dX10_reads_38 : decode cX10_reads 38 = .ok (.ifCond .le 63, 3) := by decide +kernel
theorem dX10_reads_41 : decode cX10_reads 41 = .ok (.iconst 1, 1) := by decide +kernel
theorem dX10_reads_42 : decode cX10_reads 42 = .ok (.istore_n 3, 1) := by decide +kernel
theorem dX10_reads_43 : decode cX10_reads 43 = .ok (.iload_n 3, 1) := by decide +kernel
theorem dX10_reads_44 : decode cX10_reads 44 = .ok (.bipush 7, 2) := by decide +kernel
theorem dX10_reads_46 : decode cX10_reads 46 = .ok (.if_icmp .ge 35, 3) := by decide +kernel
theorem dX10_reads_49 : decode cX10_reads 49 = .ok (.aload_n 0, 1) := by decide +kernel
theorem dX10_reads_50 : decode cX10_reads 50 = .ok (.getfield 41, 3) := by decide +kernel
theorem dX10_reads_53 : decode cX10_reads 53 = .ok (.bipush 14, 2) := by decide +kernel
theorem dX10_reads_55 : decode cX10_reads 55 = .ok (.iload_n 2, 1) := by decide +kernel
theorem dX10_reads_56 : decode cX10_reads 56 = .ok (.imul, 1) := by decide +kernel
theorem dX10_reads_57 : decode cX10_reads 57 = .ok (.iload_n 3, 1) := by decide +kernel
theorem dX10_reads_58 : decode cX10_reads 58 = .ok (.iadd, 1) := by decide +kernel
theorem dX10_reads_59 : decode cX10_reads 59 = .ok (.iaload, 1) := by decide +kernel
theorem dX10_reads_60 : decode cX10_reads 60 = .ok (.ifCond .le 15, 3) := by decide +kernel
theorem dX10_reads_63 : decode cX10_reads 63 = .ok (.aload_n 0, 1) := by decide +kernel
theorem dX10_reads_64 : decode cX10_reads 64 = .ok (.getfield 50, 3) := by decide +kernel
theorem dX10_reads_67 : decode cX10_reads 67 = .ok (.iload_n 1, 1) := by decide +kernel
theorem dX10_reads_68 : decode cX10_reads 68 = .ok (.dup2, 1) := by decide +kernel
theorem dX10_reads_69 : decode cX10_reads 69 = .ok (.iaload, 1) := by decide +kernel
theorem dX10_reads_70 : decode cX10_reads 70 = .ok (.iconst 1, 1) := by decide +kernel
theorem dX10_reads_71 : decode cX10_reads 71 = .ok (.iload_n 3, 1) := by decide +kernel
theorem dX10_reads_72 : decode cX10_reads 72 = .ok (.ishl, 1) := by decide +kernel
theorem dX10_reads_73 : decode cX10_reads 73 = .ok (.ior, 1) := by decide +kernel
theorem dX10_reads_74 : decode cX10_reads 74 = .ok (.iastore, 1) := by decide +kernel
theorem dX10_reads_75 : decode cX10_reads 75 = .ok (.iinc 3 1, 3) := by decide +kernel
theorem dX10_reads_78 : decode cX10_reads 78 = .ok (.goto (-35), 3) := by decide +kernel
theorem dX10_reads_81 : decode cX10_reads 81 = .ok (.iload_n 1, 1) := by decide +kernel
theorem dX10_reads_82 : decode cX10_reads 82 = .ok (.aload_n 0, 1) := by decide +kernel
theorem dX10_reads_83 : decode cX10_reads 83 = .ok (.getfield 7, 3) := by decide +kernel
theorem dX10_reads_86 : decode cX10_reads 86 = .ok (.iconst 0, 1) := by decide +kernel
theorem dX10_reads_87 : decode cX10_reads 87 = .ok (.iaload, 1) := by decide +kernel
theorem dX10_reads_88 : decode cX10_reads 88 = .ok (.if_icmp .ne 13, 3) := by decide +kernel
theorem dX10_reads_91 : decode cX10_reads 91 = .ok (.aload_n 0, 1) := by decide +kernel
theorem dX10_reads_92 : decode cX10_reads 92 = .ok (.getfield 50, 3) := by decide +kernel
theorem dX10_reads_95 : decode cX10_reads 95 = .ok (.iload_n 1, 1) := by decide +kernel
theorem dX10_reads_96 : decode cX10_reads 96 = .ok (.dup2, 1) := by decide +kernel
theorem dX10_reads_97 : decode cX10_reads 97 = .ok (.iaload, 1) := by decide +kernel
theorem dX10_reads_98 : decode cX10_reads 98 = .ok (.iconst 1, 1) := by decide +kernel
theorem dX10_reads_99 : decode cX10_reads 99 = .ok (.ior, 1) := by decide +kernel
theorem dX10_reads_100 : decode cX10_reads 100 = .ok (.iastore, 1) := by decide +kernel
theorem dX10_reads_101 : decode cX10_reads 101 = .ok (.iinc 1 1, 3) := by decide +kernel
theorem dX10_reads_104 : decode cX10_reads 104 = .ok (.goto (-102), 3) := by decide +kernel
theorem dX10_reads_107 : decode cX10_reads 107 = .ok (.iconst 1, 1) := by decide +kernel
theorem dX10_reads_108 : decode cX10_reads 108 = .ok (.istore_n 1, 1) := by decide +kernel
theorem dX10_reads_109 : decode cX10_reads 109 = .ok (.iload_n 1, 1) := by decide +kernel
theorem dX10_reads_110 : decode cX10_reads 110 = .ok (.ifCond .eq 132, 3) := by decide +kernel
theorem dX10_reads_113 : decode cX10_reads 113 = .ok (.iconst 0, 1) := by decide +kernel
theorem dX10_reads_114 : decode cX10_reads 114 = .ok (.istore_n 1, 1) := by decide +kernel
theorem dX10_reads_115 : decode cX10_reads 115 = .ok (.iconst 0, 1) := by decide +kernel
theorem dX10_reads_116 : decode cX10_reads 116 = .ok (.istore_n 2, 1) := by decide +kernel
theorem dX10_reads_117 : decode cX10_reads 117 = .ok (.iload_n 2, 1) := by decide +kernel
theorem dX10_reads_118 : decode cX10_reads 118 = .ok (.bipush 14, 2) := by decide +kernel
theorem dX10_reads_120 : decode cX10_reads 120 = .ok (.aload_n 0, 1) := by decide +kernel
theorem dX10_reads_121 : decode cX10_reads 121 = .ok (.getfield 170, 3) := by decide +kernel
theorem dX10_reads_124 : decode cX10_reads 124 = .ok (.imul, 1) := by decide +kernel
theorem dX10_reads_125 : decode cX10_reads 125 = .ok (.if_icmp .ge 114, 3) := by decide +kernel
theorem dX10_reads_128 : decode cX10_reads 128 = .ok (.aload_n 0, 1) := by decide +kernel
theorem dX10_reads_129 : decode cX10_reads 129 = .ok (.getfield 41, 3) := by decide +kernel
theorem dX10_reads_132 : decode cX10_reads 132 = .ok (.iload_n 2, 1) := by decide +kernel
theorem dX10_reads_133 : decode cX10_reads 133 = .ok (.iaload, 1) := by decide +kernel
theorem dX10_reads_134 : decode cX10_reads 134 = .ok (.istore_n 3, 1) := by decide +kernel
theorem dX10_reads_135 : decode cX10_reads 135 = .ok (.bipush 8, 2) := by decide +kernel
theorem dX10_reads_137 : decode cX10_reads 137 = .ok (.istore 4, 2) := by decide +kernel
theorem dX10_reads_139 : decode cX10_reads 139 = .ok (.iload 4, 2) := by decide +kernel
theorem dX10_reads_141 : decode cX10_reads 141 = .ok (.bipush 14, 2) := by decide +kernel
theorem dX10_reads_143 : decode cX10_reads 143 = .ok (.if_icmp .ge 90, 3) := by decide +kernel
theorem dX10_reads_146 : decode cX10_reads 146 = .ok (.iload_n 2, 1) := by decide +kernel
theorem dX10_reads_147 : decode cX10_reads 147 = .ok (.bipush 14, 2) := by decide +kernel
theorem dX10_reads_149 : decode cX10_reads 149 = .ok (.irem, 1) := by decide +kernel
theorem dX10_reads_150 : decode cX10_reads 150 = .ok (.invokestatic 135, 3) := by decide +kernel
theorem dX10_reads_153 : decode cX10_reads 153 = .ok (.ifCond .eq 80, 3) := by decide +kernel
theorem dX10_reads_156 : decode cX10_reads 156 = .ok (.iload_n 3, 1) := by decide +kernel
theorem dX10_reads_157 : decode cX10_reads 157 = .ok (.ifCond .le 76, 3) := by decide +kernel
theorem dX10_reads_160 : decode cX10_reads 160 = .ok (.aload_n 0, 1) := by decide +kernel
theorem dX10_reads_161 : decode cX10_reads 161 = .ok (.getfield 44, 3) := by decide +kernel
theorem dX10_reads_164 : decode cX10_reads 164 = .ok (.iload 4, 2) := by decide +kernel
theorem dX10_reads_166 : decode cX10_reads 166 = .ok (.baload, 1) := by decide +kernel
theorem dX10_reads_167 : decode cX10_reads 167 = .ok (.ifCond .eq 60, 3) := by decide +kernel
theorem dX10_reads_170 : decode cX10_reads 170 = .ok (.aload_n 0, 1) := by decide +kernel
theorem dX10_reads_171 : decode cX10_reads 171 = .ok (.getfield 41, 3) := by decide +kernel
theorem dX10_reads_174 : decode cX10_reads 174 = .ok (.bipush 14, 2) := by decide +kernel
theorem dX10_reads_176 : decode cX10_reads 176 = .ok (.iload_n 3, 1) := by decide +kernel
theorem dX10_reads_177 : decode cX10_reads 177 = .ok (.imul, 1) := by decide +kernel
theorem dX10_reads_178 : decode cX10_reads 178 = .ok (.iload 4, 2) := by decide +kernel
theorem dX10_reads_180 : decode cX10_reads 180 = .ok (.iadd, 1) := by decide +kernel
theorem dX10_reads_181 : decode cX10_reads 181 = .ok (.iaload, 1) := by decide +kernel
theorem dX10_reads_182 : decode cX10_reads 182 = .ok (.ifCond .le 45, 3) := by decide +kernel
theorem dX10_reads_185 : decode cX10_reads 185 = .ok (.aload_n 0, 1) := by decide +kernel
theorem dX10_reads_186 : decode cX10_reads 186 = .ok (.getfield 50, 3) := by decide +kernel
theorem dX10_reads_189 : decode cX10_reads 189 = .ok (.iload_n 2, 1) := by decide +kernel
theorem dX10_reads_190 : decode cX10_reads 190 = .ok (.iaload, 1) := by decide +kernel
theorem dX10_reads_191 : decode cX10_reads 191 = .ok (.aload_n 0, 1) := by decide +kernel
theorem dX10_reads_192 : decode cX10_reads 192 = .ok (.getfield 50, 3) := by decide +kernel
theorem dX10_reads_195 : decode cX10_reads 195 = .ok (.bipush 14, 2) := by decide +kernel
theorem dX10_reads_197 : decode cX10_reads 197 = .ok (.iload_n 3, 1) := by decide +kernel
theorem dX10_reads_198 : decode cX10_reads 198 = .ok (.imul, 1) := by decide +kernel
theorem dX10_reads_199 : decode cX10_reads 199 = .ok (.iload 4, 2) := by decide +kernel
theorem dX10_reads_201 : decode cX10_reads 201 = .ok (.iadd, 1) := by decide +kernel
theorem dX10_reads_202 : decode cX10_reads 202 = .ok (.iaload, 1) := by decide +kernel
theorem dX10_reads_203 : decode cX10_reads 203 = .ok (.ior, 1) := by decide +kernel
theorem dX10_reads_204 : decode cX10_reads 204 = .ok (.istore 5, 2) := by decide +kernel
theorem dX10_reads_206 : decode cX10_reads 206 = .ok (.iload 5, 2) := by decide +kernel
theorem dX10_reads_208 : decode cX10_reads 208 = .ok (.aload_n 0, 1) := by decide +kernel
theorem dX10_reads_209 : decode cX10_reads 209 = .ok (.getfield 50, 3) := by decide +kernel
theorem dX10_reads_212 : decode cX10_reads 212 = .ok (.iload_n 2, 1) := by decide +kernel
theorem dX10_reads_213 : decode cX10_reads 213 = .ok (.iaload, 1) := by decide +kernel
theorem dX10_reads_214 : decode cX10_reads 214 = .ok (.if_icmp .eq 5, 3) := by decide +kernel
theorem dX10_reads_217 : decode cX10_reads 217 = .ok (.iconst 1, 1) := by decide +kernel
theorem dX10_reads_218 : decode cX10_reads 218 = .ok (.istore_n 1, 1) := by decide +kernel
theorem dX10_reads_219 : decode cX10_reads 219 = .ok (.aload_n 0, 1) := by decide +kernel
theorem dX10_reads_220 : decode cX10_reads 220 = .ok (.getfield 50, 3) := by decide +kernel
theorem dX10_reads_223 : decode cX10_reads 223 = .ok (.iload_n 2, 1) := by decide +kernel
theorem dX10_reads_224 : decode cX10_reads 224 = .ok (.iload 5, 2) := by decide +kernel
theorem dX10_reads_226 : decode cX10_reads 226 = .ok (.iastore, 1) := by decide +kernel
theorem dX10_reads_227 : decode cX10_reads 227 = .ok (.iinc 4 1, 3) := by decide +kernel
theorem dX10_reads_230 : decode cX10_reads 230 = .ok (.goto (-91), 3) := by decide +kernel
theorem dX10_reads_233 : decode cX10_reads 233 = .ok (.iinc 2 1, 3) := by decide +kernel
theorem dX10_reads_236 : decode cX10_reads 236 = .ok (.goto (-119), 3) := by decide +kernel
theorem dX10_reads_239 : decode cX10_reads 239 = .ok (.goto (-130), 3) := by decide +kernel
theorem dX10_reads_242 : decode cX10_reads 242 = .ok (.return_, 1) := by decide +kernel
theorem dX10_restEmpty_0 : decode cX10_restEmpty 0 = .ok (.iconst 1, 1) := by decide +kernel
theorem dX10_restEmpty_1 : decode cX10_restEmpty 1 = .ok (.istore_n 3, 1) := by decide +kernel
theorem dX10_restEmpty_2 : decode cX10_restEmpty 2 = .ok (.iload_n 2, 1) := by decide +kernel
theorem dX10_restEmpty_3 : decode cX10_restEmpty 3 = .ok (.istore 4, 2) := by decide +kernel
theorem dX10_restEmpty_5 : decode cX10_restEmpty 5 = .ok (.iload 4, 2) := by decide +kernel
theorem dX10_restEmpty_7 : decode cX10_restEmpty 7 = .ok (.aload_n 0, 1) := by decide +kernel
theorem dX10_restEmpty_8 : decode cX10_restEmpty 8 = .ok (.getfield 16, 3) := by decide +kernel
theorem dX10_restEmpty_11 : decode cX10_restEmpty 11 = .ok (.iload_n 1, 1) := by decide +kernel
theorem dX10_restEmpty_12 : decode cX10_restEmpty 12 = .ok (.iaload, 1) := by decide +kernel
theorem dX10_restEmpty_13 : decode cX10_restEmpty 13 = .ok (.if_icmp .ge 38, 3) := by decide +kernel
theorem dX10_restEmpty_16 : decode cX10_restEmpty 16 = .ok (.iload_n 3, 1) := by decide +kernel
theorem dX10_restEmpty_17 : decode cX10_restEmpty 17 = .ok (.ifCond .eq 26, 3) := by decide +kernel
theorem dX10_restEmpty_20 : decode cX10_restEmpty 20 = .ok (.aload_n 0, 1) := by decide +kernel
theorem dX10_restEmpty_21 : decode cX10_restEmpty 21 = .ok (.getfield 44, 3) := by decide +kernel
theorem dX10_restEmpty_24 : decode cX10_restEmpty 24 = .ok (.aload_n 0, 1) := by decide +kernel
theorem dX10_restEmpty_25 : decode cX10_restEmpty 25 = .ok (.getfield 13, 3) := by decide +kernel
theorem dX10_restEmpty_28 : decode cX10_restEmpty 28 = .ok (.iconst 4, 1) := by decide +kernel
theorem dX10_restEmpty_29 : decode cX10_restEmpty 29 = .ok (.iload_n 1, 1) := by decide +kernel
theorem dX10_restEmpty_30 : decode cX10_restEmpty 30 = .ok (.imul, 1) := by decide +kernel
theorem dX10_restEmpty_31 : decode cX10_restEmpty 31 = .ok (.iload 4, 2) := by decide +kernel
theorem dX10_restEmpty_33 : decode cX10_restEmpty 33 = .ok (.iadd, 1) := by decide +kernel
theorem dX10_restEmpty_34 : decode cX10_restEmpty 34 = .ok (.iaload, 1) := by decide +kernel
theorem dX10_restEmpty_35 : decode cX10_restEmpty 35 = .ok (.baload, 1) := by decide +kernel
theorem dX10_restEmpty_36 : decode cX10_restEmpty 36 = .ok (.ifCond .eq 7, 3) := by decide +kernel
theorem dX10_restEmpty_39 : decode cX10_restEmpty 39 = .ok (.iconst 1, 1) := by decide +kernel
theorem dX10_restEmpty_40 : decode cX10_restEmpty 40 = .ok (.goto 4, 3) := by decide +kernel
theorem dX10_restEmpty_43 : decode cX10_restEmpty 43 = .ok (.iconst 0, 1) := by decide +kernel
theorem dX10_restEmpty_44 : decode cX10_restEmpty 44 = .ok (.istore_n 3, 1) := by decide +kernel
theorem dX10_restEmpty_45 : decode cX10_restEmpty 45 = .ok (.iinc 4 1, 3) := by decide +kernel
theorem dX10_restEmpty_48 : decode cX10_restEmpty 48 = .ok (.goto (-43), 3) := by decide +kernel
theorem dX10_restEmpty_51 : decode cX10_restEmpty 51 = .ok (.iload_n 3, 1) := by decide +kernel
theorem dX10_restEmpty_52 : decode cX10_restEmpty 52 = .ok (.ireturn, 1) := by decide +kernel
theorem dX10_follows_0 : decode cX10_follows 0 = .ok (.iconst 0, 1) := by decide +kernel
theorem dX10_follows_1 : decode cX10_follows 1 = .ok (.istore_n 1, 1) := by decide +kernel
theorem dX10_follows_2 : decode cX10_follows 2 = .ok (.iload_n 1, 1) := by decide +kernel
theorem dX10_follows_3 : decode cX10_follows 3 = .ok (.bipush 14, 2) := by decide +kernel
theorem dX10_follows_5 : decode cX10_follows 5 = .ok (.aload_n 0, 1) := by decide +kernel
theorem dX10_follows_6 : decode cX10_follows 6 = .ok (.getfield 170, 3) := by decide +kernel
theorem dX10_follows_9 : decode cX10_follows 9 = .ok (.imul, 1) := by decide +kernel
theorem dX10_follows_10 : decode cX10_follows 10 = .ok (.if_icmp .ge 21, 3) := by decide +kernel
theorem dX10_follows_13 : decode cX10_follows 13 = .ok (.aload_n 0, 1) := by decide +kernel
theorem dX10_follows_14 : decode cX10_follows 14 = .ok (.getfield 53, 3) := by decide +kernel
theorem dX10_follows_17 : decode cX10_follows 17 = .ok (.iload_n 1, 1) := by decide +kernel
theorem dX10_follows_18 : decode cX10_follows 18 = .ok (.aload_n 0, 1) := by decide +kernel
theorem dX10_follows_19 : decode cX10_follows 19 = .ok (.getfield 50, 3) := by decide +kernel
theorem dX10_follows_22 : decode cX10_follows 22 = .ok (.iload_n 1, 1) := by decide +kernel
theorem dX10_follows_23 : decode cX10_follows 23 = .ok (.iaload, 1) := by decide +kernel
theorem dX10_follows_24 : decode cX10_follows 24 = .ok (.iastore, 1) := by decide +kernel
theorem dX10_follows_25 : decode cX10_follows 25 = .ok (.iinc 1 1, 3) := by decide +kernel
theorem dX10_follows_28 : decode cX10_follows 28 = .ok (.goto (-26), 3) := by decide +kernel
theorem dX10_follows_31 : decode cX10_follows 31 = .ok (.iconst 1, 1) := by decide +kernel
theorem dX10_follows_32 : decode cX10_follows 32 = .ok (.istore_n 1, 1) := by decide +kernel
theorem dX10_follows_33 : decode cX10_follows 33 = .ok (.iload_n 1, 1) := by decide +kernel
theorem dX10_follows_34 : decode cX10_follows 34 = .ok (.ifCond .eq 186, 3) := by decide +kernel
theorem dX10_follows_37 : decode cX10_follows 37 = .ok (.iconst 0, 1) := by decide +kernel
theorem dX10_follows_38 : decode cX10_follows 38 = .ok (.istore_n 1, 1) := by decide +kernel
theorem dX10_follows_39 : decode cX10_follows 39 = .ok (.iconst 0, 1) := by decide +kernel
theorem dX10_follows_40 : decode cX10_follows 40 = .ok (.istore_n 2, 1) := by decide +kernel
theorem dX10_follows_41 : decode cX10_follows 41 = .ok (.iload_n 2, 1) := by decide +kernel
theorem dX10_follows_42 : decode cX10_follows 42 = .ok (.aload_n 0, 1) := by decide +kernel
theorem dX10_follows_43 : decode cX10_follows 43 = .ok (.getfield 170, 3) := by decide +kernel
theorem dX10_follows_46 : decode cX10_follows 46 = .ok (.if_icmp .ge 171, 3) := by decide +kernel
theorem dX10_follows_49 : decode cX10_follows 49 = .ok (.iconst 0, 1) := by decide +kernel
theorem dX10_follows_50 : decode cX10_follows 50 = .ok (.istore_n 3, 1) := by decide +kernel
theorem dX10_follows_51 : decode cX10_follows 51 = .ok (.iload_n 3, 1) := by decide +kernel
theorem dX10_follows_52 : decode cX10_follows 52 = .ok (.aload_n 0, 1) := by decide +kernel
theorem dX10_follows_53 : decode cX10_follows 53 = .ok (.getfield 145, 3) := by decide +kernel
theorem dX10_follows_56 : decode cX10_follows 56 = .ok (.if_icmp .ge 155, 3) := by decide +kernel
theorem dX10_follows_59 : decode cX10_follows 59 = .ok (.aload_n 0, 1) := by decide +kernel
theorem dX10_follows_60 : decode cX10_follows 60 = .ok (.getfield 53, 3) := by decide +kernel
theorem dX10_follows_63 : decode cX10_follows 63 = .ok (.bipush 14, 2) := by decide +kernel
theorem dX10_follows_65 : decode cX10_follows 65 = .ok (.iload_n 2, 1) := by decide +kernel
theorem dX10_follows_66 : decode cX10_follows 66 = .ok (.imul, 1) := by decide +kernel
theorem dX10_follows_67 : decode cX10_follows 67 = .ok (.aload_n 0, 1) := by decide +kernel
theorem dX10_follows_68 : decode cX10_follows 68 = .ok (.getfield 7, 3) := by decide +kernel
theorem dX10_follows_71 : decode cX10_follows 71 = .ok (.iload_n 3, 1) := by decide +kernel
theorem dX10_follows_72 : decode cX10_follows 72 = .ok (.iaload, 1) := by decide +kernel
theorem dX10_follows_73 : decode cX10_follows 73 = .ok (.iadd, 1) := by decide +kernel
theorem dX10_follows_74 : decode cX10_follows 74 = .ok (.iaload, 1) := by decide +kernel
theorem dX10_follows_75 : decode cX10_follows 75 = .ok (.istore 4, 2) := by decide +kernel
theorem dX10_follows_77 : decode cX10_follows 77 = .ok (.iload_n 2, 1) := by decide +kernel
theorem dX10_follows_78 : decode cX10_follows 78 = .ok (.istore 5, 2) := by decide +kernel
theorem dX10_follows_80 : decode cX10_follows 80 = .ok (.iconst 0, 1) := by decide +kernel
theorem dX10_follows_81 : decode cX10_follows 81 = .ok (.istore 6, 2) := by decide +kernel
theorem dX10_follows_83 : decode cX10_follows 83 = .ok (.iload 6, 2) := by decide +kernel
theorem dX10_follows_85 : decode cX10_follows 85 = .ok (.aload_n 0, 1) := by decide +kernel
theorem dX10_follows_86 : decode cX10_follows 86 = .ok (.getfield 16, 3) := by decide +kernel
theorem dX10_follows_89 : decode cX10_follows 89 = .ok (.iload_n 3, 1) := by decide +kernel
theorem dX10_follows_90 : decode cX10_follows 90 = .ok (.iaload, 1) := by decide +kernel
theorem dX10_follows_91 : decode cX10_follows 91 = .ok (.if_icmp .ge 114, 3) := by decide +kernel
theorem dX10_follows_94 : decode cX10_follows 94 = .ok (.aload_n 0, 1) := by decide +kernel
theorem dX10_follows_95 : decode cX10_follows 95 = .ok (.getfield 41, 3) := by decide +kernel
theorem dX10_follows_98 : decode cX10_follows 98 = .ok (.bipush 14, 2) := by decide +kernel
theorem dX10_follows_100 : decode cX10_follows 100 = .ok (.iload_n 2, 1) := by decide +kernel
theorem dX10_follows_101 : decode cX10_follows 101 = .ok (.imul, 1) := by decide +kernel
theorem dX10_follows_102 : decode cX10_follows 102 = .ok (.aload_n 0, 1) := by decide +kernel
theorem dX10_follows_103 : decode cX10_follows 103 = .ok (.getfield 7, 3) := by decide +kernel
theorem dX10_follows_106 : decode cX10_follows 106 = .ok (.iload_n 3, 1) := by decide +kernel
theorem dX10_follows_107 : decode cX10_follows 107 = .ok (.iaload, 1) := by decide +kernel
theorem dX10_follows_108 : decode cX10_follows 108 = .ok (.iadd, 1) := by decide +kernel
theorem dX10_follows_109 : decode cX10_follows 109 = .ok (.iaload, 1) := by decide +kernel
theorem dX10_follows_110 : decode cX10_follows 110 = .ok (.ifCond .le 95, 3) := by decide +kernel
theorem dX10_follows_113 : decode cX10_follows 113 = .ok (.aload_n 0, 1) := by decide +kernel
theorem dX10_follows_114 : decode cX10_follows 114 = .ok (.getfield 13, 3) := by decide +kernel
theorem dX10_follows_117 : decode cX10_follows 117 = .ok (.iconst 4, 1) := by decide +kernel
theorem dX10_follows_118 : decode cX10_follows 118 = .ok (.iload_n 3, 1) := by decide +kernel
theorem dX10_follows_119 : decode cX10_follows 119 = .ok (.imul, 1) := by decide +kernel
theorem dX10_follows_120 : decode cX10_follows 120 = .ok (.iload 6, 2) := by decide +kernel
theorem dX10_follows_122 : decode cX10_follows 122 = .ok (.iadd, 1) := by decide +kernel
theorem dX10_follows_123 : decode cX10_follows 123 = .ok (.iaload, 1) := by decide +kernel
theorem dX10_follows_124 : decode cX10_follows 124 = .ok (.istore 7, 2) := by decide +kernel
theorem dX10_follows_126 : decode cX10_follows 126 = .ok (.bipush 14, 2) := by decide +kernel
theorem dX10_follows_128 : decode cX10_follows 128 = .ok (.iload 5, 2) := by decide +kernel
theorem dX10_follows_130 : decode cX10_follows 130 = .ok (.imul, 1) := by decide +kernel
theorem dX10_follows_131 : decode cX10_follows 131 = .ok (.iload 7, 2) := by decide +kernel
theorem dX10_follows_133 : decode cX10_follows 133 = .ok (.iadd, 1) := by decide +kernel
theorem dX10_follows_134 : decode cX10_follows 134 = .ok (.istore 8, 2) := by decide +kernel
theorem dX10_follows_136 : decode cX10_follows 136 = .ok (.iload 7, 2) := by decide +kernel
theorem dX10_follows_138 : decode cX10_follows 138 = .ok (.invokestatic 135, 3) := by decide +kernel
theorem dX10_follows_141 : decode cX10_follows 141 = .ok (.ifCond .eq 49, 3) := by decide +kernel
theorem dX10_follows_144 : decode cX10_follows 144 = .ok (.aload_n 0, 1) := by decide +kernel
theorem dX10_follows_145 : decode cX10_follows 145 = .ok (.iload_n 3, 1) := by decide +kernel
theorem dX10_follows_146 : decode cX10_follows 146 = .ok (.iload 6, 2) := by decide +kernel
theorem dX10_follows_148 : decode cX10_follows 148 = .ok (.iconst 1, 1) := by decide +kernel
theorem dX10_follows_149 : decode cX10_follows 149 = .ok (.iadd, 1) := by decide +kernel
theorem dX10_follows_150 : decode cX10_follows 150 = .ok (.invokevirtual 183, 3) := by decide +kernel
theorem dX10_follows_153 : decode cX10_follows 153 = .ok (.ifCond .eq 37, 3) := by decide +kernel
theorem dX10_follows_156 : decode cX10_follows 156 = .ok (.aload_n 0, 1) := by decide +kernel
theorem dX10_follows_157 : decode cX10_follows 157 = .ok (.getfield 53, 3) := by decide +kernel
theorem dX10_follows_160 : decode cX10_follows 160 = .ok (.iload 8, 2) := by decide +kernel
theorem dX10_follows_162 : decode cX10_follows 162 = .ok (.iaload, 1) := by decide +kernel
theorem dX10_follows_163 : decode cX10_follows 163 = .ok (.iload 4, 2) := by decide +kernel
theorem dX10_follows_165 : decode cX10_follows 165 = .ok (.ior, 1) := by decide +kernel
theorem dX10_follows_166 : decode cX10_follows 166 = .ok (.aload_n 0, 1) := by decide +kernel
theorem dX10_follows_167 : decode cX10_follows 167 = .ok (.getfield 53, 3) := by decide +kernel
theorem dX10_follows_170 : decode cX10_follows 170 = .ok (.iload 8, 2) := by decide +kernel
theorem dX10_follows_172 : decode cX10_follows 172 = .ok (.iaload, 1) := by decide +kernel
theorem dX10_follows_173 : decode cX10_follows 173 = .ok (.if_icmp .eq 17, 3) := by decide +kernel
theorem dX10_follows_176 : decode cX10_follows 176 = .ok (.aload_n 0, 1) := by decide +kernel
theorem dX10_follows_177 : decode cX10_follows 177 = .ok (.getfield 53, 3) := by decide +kernel
theorem dX10_follows_180 : decode cX10_follows 180 = .ok (.iload 8, 2) := by decide +kernel
theorem dX10_follows_182 : decode cX10_follows 182 = .ok (.dup2, 1) := by decide +kernel
theorem dX10_follows_183 : decode cX10_follows 183 = .ok (.iaload, 1) := by decide +kernel
theorem dX10_follows_184 : decode cX10_follows 184 = .ok (.iload 4, 2) := by decide +kernel
theorem dX10_follows_186 : decode cX10_follows 186 = .ok (.ior, 1) := by decide +kernel
theorem dX10_follows_187 : decode cX10_follows 187 = .ok (.iastore, 1) := by decide +kernel
theorem dX10_follows_188 : decode cX10_follows 188 = .ok (.iconst 1, 1) := by decide +kernel
theorem dX10_follows_189 : decode cX10_follows 189 = .ok (.istore_n 1, 1) := by decide +kernel
theorem dX10_follows_190 : decode cX10_follows 190 = .ok (.aload_n 0, 1) := by decide +kernel
theorem dX10_follows_191 : decode cX10_follows 191 = .ok (.getfield 41, 3) := by decide +kernel
theorem dX10_follows_194 : decode cX10_follows 194 = .ok (.iload 8, 2) := by decide +kernel
theorem dX10_follows_196 : decode cX10_follows 196 = .ok (.iaload, 1) := by decide +kernel
theorem dX10_follows_197 : decode cX10_follows 197 = .ok (.istore 5, 2) := by decide +kernel
theorem dX10_follows_199 : decode cX10_follows 199 = .ok (.iinc 6 1, 3) := by decide +kernel
theorem dX10_follows_202 : decode cX10_follows 202 = .ok (.goto (-119), 3) := by decide +kernel
theorem dX10_follows_205 : decode cX10_follows 205 = .ok (.iinc 3 1, 3) := by decide +kernel
theorem dX10_follows_208 : decode cX10_follows 208 = .ok (.goto (-157), 3) := by decide +kernel
theorem dX10_follows_211 : decode cX10_follows 211 = .ok (.iinc 2 1, 3) := by decide +kernel
theorem dX10_follows_214 : decode cX10_follows 214 = .ok (.goto (-173), 3) := by decide +kernel
theorem dX10_follows_217 : decode cX10_follows 217 = .ok (.goto (-184), 3) := by decide +kernel
theorem dX10_follows_220 : decode cX10_follows 220 = .ok (.return_, 1) := by decide +kernel
theorem dX10_lookback_0 : decode cX10_lookback 0 = .ok (.iconst 0, 1) := by decide +kernel
theorem dX10_lookback_1 : decode cX10_lookback 1 = .ok (.istore_n 1, 1) := by decide +kernel
theorem dX10_lookback_2 : decode cX10_lookback 2 = .ok (.iload_n 1, 1) := by decide +kernel
theorem dX10_lookback_3 : decode cX10_lookback 3 = .ok (.bipush 14, 2) := by decide +kernel
theorem dX10_lookback_5 : decode cX10_lookback 5 = .ok (.aload_n 0, 1) := by decide +kernel
theorem dX10_lookback_6 : decode cX10_lookback 6 = .ok (.getfield 170, 3) := by decide +kernel
theorem dX10_lookback_9 : decode cX10_lookback 9 = .ok (.imul, 1) := by decide +kernel
theorem dX10_lookback_10 : decode cX10_lookback 10 = .ok (.if_icmp .ge 16, 3) := by decide +kernel
theorem dX10_lookback_13 : decode cX10_lookback 13 = .ok (.aload_n 0, 1) := by decide +kernel
theorem dX10_lookback_14 : decode cX10_lookback 14 = .ok (.getfield 56, 3) := by decide +kernel
theorem dX10_lookback_17 : decode cX10_lookback 17 = .ok (.iload_n 1, 1) := by decide +kernel
theorem dX10_lookback_18 : decode cX10_lookback 18 = .ok (.iconst 0, 1) := by decide +kernel
theorem dX10_lookback_19 : decode cX10_lookback 19 = .ok (.iastore, 1) := by decide +kernel
theorem dX10_lookback_20 : decode cX10_lookback 20 = .ok (.iinc 1 1, 3) := by decide +kernel
theorem dX10_lookback_23 : decode cX10_lookback 23 = .ok (.goto (-21), 3) := by decide +kernel
theorem dX10_lookback_26 : decode cX10_lookback 26 = .ok (.iconst 0, 1) := by decide +kernel
theorem dX10_lookback_27 : decode cX10_lookback 27 = .ok (.istore_n 1, 1) := by decide +kernel
theorem dX10_lookback_28 : decode cX10_lookback 28 = .ok (.iload_n 1, 1) := by decide +kernel
theorem dX10_lookback_29 : decode cX10_lookback 29 = .ok (.aload_n 0, 1) := by decide +kernel
theorem dX10_lookback_30 : decode cX10_lookback 30 = .ok (.getfield 170, 3) := by decide +kernel
theorem dX10_lookback_33 : decode cX10_lookback 33 = .ok (.if_icmp .ge 118, 3) := by decide +kernel
theorem dX10_lookback_36 : decode cX10_lookback 36 = .ok (.iconst 0, 1) := by decide +kernel
theorem dX10_lookback_37 : decode cX10_lookback 37 = .ok (.istore_n 2, 1) := by decide +kernel
theorem dX10_lookback_38 : decode cX10_lookback 38 = .ok (.iload_n 2, 1) := by decide +kernel
theorem dX10_lookback_39 : decode cX10_lookback 39 = .ok (.aload_n 0, 1) := by decide +kernel
theorem dX10_lookback_40 : decode cX10_lookback 40 = .ok (.getfield 145, 3) := by decide +kernel
theorem dX10_lookback_43 : decode cX10_lookback 43 = .ok (.if_icmp .ge 102, 3) := by decide +kernel
theorem dX10_lookback_46 : decode cX10_lookback 46 = .ok (.aload_n 0, 1) := by decide +kernel
theorem dX10_lookback_47 : decode cX10_lookback 47 = .ok (.getfield 41, 3) := by decide +kernel
theorem dX10_lookback_50 : decode cX10_lookback 50 = .ok (.bipush 14, 2) := by decide +kernel
theorem dX10_lookback_52 : decode cX10_lookback 52 = .ok (.iload_n 1, 1) := by decide +kernel
theorem dX10_lookback_53 : decode cX10_lookback 53 = .ok (.imul, 1) := by decide +kernel
theorem dX10_lookback_54 : decode cX10_lookback 54 = .ok (.aload_n 0, 1) := by decide +kernel
theorem dX10_lookback_55 : decode cX10_lookback 55 = .ok (.getfield 7, 3) := by decide +kernel
theorem dX10_lookback_58 : decode cX10_lookback 58 = .ok (.iload_n 2, 1) := by decide +kernel
theorem dX10_lookback_59 : decode cX10_lookback 59 = .ok (.iaload, 1) := by decide +kernel
theorem dX10_lookback_60 : decode cX10_lookback 60 = .ok (.iadd, 1) := by decide +kernel
theorem dX10_lookback_61 : decode cX10_lookback 61 = .ok (.iaload, 1) := by decide +kernel
theorem dX10_lookback_62 : decode cX10_lookback 62 = .ok (.ifCond .le 77, 3) := by decide +kernel
theorem dX10_lookback_65 : decode cX10_lookback 65 = .ok (.iload_n 1, 1) := by decide +kernel
theorem dX10_lookback_66 : decode cX10_lookback 66 = .ok (.istore_n 3, 1) := by decide +kernel
theorem dX10_lookback_67 : decode cX10_lookback 67 = .ok (.iconst 0, 1) := by decide +kernel
theorem dX10_lookback_68 : decode cX10_lookback 68 = .ok (.istore 4, 2) := by decide +kernel
theorem dX10_lookback_70 : decode cX10_lookback 70 = .ok (.iload 4, 2) := by decide +kernel
theorem dX10_lookback_72 : decode cX10_lookback 72 = .ok (.aload_n 0, 1) := by decide +kernel
theorem dX10_lookback_73 : decode cX10_lookback 73 = .ok (.getfield 16, 3) := by decide +kernel
theorem dX10_lookback_76 : decode cX10_lookback 76 = .ok (.iload_n 2, 1) := by decide +kernel
theorem dX10_lookback_77 : decode cX10_lookback 77 = .ok (.iaload, 1) := by decide +kernel
theorem dX10_lookback_78 : decode cX10_lookback 78 = .ok (.if_icmp .ge 31, 3) := by decide +kernel
theorem dX10_lookback_81 : decode cX10_lookback 81 = .ok (.aload_n 0, 1) := by decide +kernel
theorem dX10_lookback_82 : decode cX10_lookback 82 = .ok (.getfield 41, 3) := by decide +kernel
theorem dX10_lookback_85 : decode cX10_lookback 85 = .ok (.bipush 14, 2) := by decide +kernel
theorem dX10_lookback_87 : decode cX10_lookback 87 = .ok (.iload_n 3, 1) := by decide +kernel
theorem dX10_lookback_88 : decode cX10_lookback 88 = .ok (.imul, 1) := by decide +kernel
theorem dX10_lookback_89 : decode cX10_lookback 89 = .ok (.aload_n 0, 1) := by decide +kernel
theorem dX10_lookback_90 : decode cX10_lookback 90 = .ok (.getfield 13, 3) := by decide +kernel
theorem dX10_lookback_93 : decode cX10_lookback 93 = .ok (.iconst 4, 1) := by decide +kernel
theorem dX10_lookback_94 : decode cX10_lookback 94 = .ok (.iload_n 2, 1) := by decide +kernel
theorem dX10_lookback_95 : decode cX10_lookback 95 = .ok (.imul, 1) := by decide +kernel
theorem dX10_lookback_96 : decode cX10_lookback 96 = .ok (.iload 4, 2) := by decide +kernel
theorem dX10_lookback_98 : decode cX10_lookback 98 = .ok (.iadd, 1) := by decide +kernel
theorem dX10_lookback_99 : decode cX10_lookback 99 = .ok (.iaload, 1) := by decide +kernel
theorem dX10_lookback_100 : decode cX10_lookback 100 = .ok (.iadd, 1) := by decide +kernel
theorem dX10_lookback_101 : decode cX10_lookback 101 = .ok (.iaload, 1) := by decide +kernel
theorem dX10_lookback_102 : decode cX10_lookback 102 = .ok (.istore_n 3, 1) := by decide +kernel
theorem dX10_lookback_103 : decode cX10_lookback 103 = .ok (.iinc 4 1, 3) := by decide +kernel
theorem dX10_lookback_106 : decode cX10_lookback 106 = .ok (.goto (-36), 3) := by decide +kernel
theorem dX10_lookback_109 : decode cX10_lookback 109 = .ok (.aload_n 0, 1) := by decide +kernel
theorem dX10_lookback_110 : decode cX10_lookback 110 = .ok (.getfield 56, 3) := by decide +kernel
theorem dX10_lookback_113 : decode cX10_lookback 113 = .ok (.bipush 14, 2) := by decide +kernel
theorem dX10_lookback_115 : decode cX10_lookback 115 = .ok (.iload_n 3, 1) := by decide +kernel
theorem dX10_lookback_116 : decode cX10_lookback 116 = .ok (.imul, 1) := by decide +kernel
theorem dX10_lookback_117 : decode cX10_lookback 117 = .ok (.iload_n 2, 1) := by decide +kernel
theorem dX10_lookback_118 : decode cX10_lookback 118 = .ok (.iadd, 1) := by decide +kernel
theorem dX10_lookback_119 : decode cX10_lookback 119 = .ok (.dup2, 1) := by decide +kernel
theorem dX10_lookback_120 : decode cX10_lookback 120 = .ok (.iaload, 1) := by decide +kernel
theorem dX10_lookback_121 : decode cX10_lookback 121 = .ok (.aload_n 0, 1) := by decide +kernel
theorem dX10_lookback_122 : decode cX10_lookback 122 = .ok (.getfield 53, 3) := by decide +kernel
theorem dX10_lookback_125 : decode cX10_lookback 125 = .ok (.bipush 14, 2) := by decide +kernel
theorem dX10_lookback_127 : decode cX10_lookback 127 = .ok (.iload_n 1, 1) := by decide +kernel
theorem dX10_lookback_128 : decode cX10_lookback 128 = .ok (.imul, 1) := by decide +kernel
theorem dX10_lookback_129 : decode cX10_lookback 129 = .ok (.aload_n 0, 1) := by decide +kernel
theorem dX10_lookback_130 : decode cX10_lookback 130 = .ok (.getfield 7, 3) := by decide +kernel
theorem dX10_lookback_133 : decode cX10_lookback 133 = .ok (.iload_n 2, 1) := by decide +kernel
theorem dX10_lookback_134 : decode cX10_lookback 134 = .ok (.iaload, 1) := by decide +kernel
theorem dX10_lookback_135 : decode cX10_lookback 135 = .ok (.iadd, 1) := by decide +kernel
theorem dX10_lookback_136 : decode cX10_lookback 136 = .ok (.iaload, 1) := by decide +kernel
theorem dX10_lookback_137 : decode cX10_lookback 137 = .ok (.ior, 1) := by decide +kernel
theorem dX10_lookback_138 : decode cX10_lookback 138 = .ok (.iastore, 1) := by decide +kernel
theorem dX10_lookback_139 : decode cX10_lookback 139 = .ok (.iinc 2 1, 3) := by decide +kernel
theorem dX10_lookback_142 : decode cX10_lookback 142 = .ok (.goto (-104), 3) := by decide +kernel
theorem dX10_lookback_145 : decode cX10_lookback 145 = .ok (.iinc 1 1, 3) := by decide +kernel
theorem dX10_lookback_148 : decode cX10_lookback 148 = .ok (.goto (-120), 3) := by decide +kernel
theorem dX10_lookback_151 : decode cX10_lookback 151 = .ok (.return_, 1) := by decide +kernel
theorem dX10_ruleLevel_0 : decode cX10_ruleLevel 0 = .ok (.iconst 0, 1) := by decide +kernel
theorem dX10_ruleLevel_1 : decode cX10_ruleLevel 1 = .ok (.istore_n 2, 1) := by decide +kernel
theorem dX10_ruleLevel_2 : decode cX10_ruleLevel 2 = .ok (.iconst 0, 1) := by decide +kernel
theorem dX10_ruleLevel_3 : decode cX10_ruleLevel 3 = .ok (.istore_n 3, 1) := by decide +kernel
theorem dX10_ruleLevel_4 : decode cX10_ruleLevel 4 = .ok (.iload_n 3, 1) := by decide +kernel
theorem dX10_ruleLevel_5 : decode cX10_ruleLevel 5 = .ok (.aload_n 0, 1) := by decide +kernel
theorem dX10_ruleLevel_6 : decode cX10_ruleLevel 6 = .ok (.getfield 16, 3) := by decide +kernel
theorem dX10_ruleLevel_9 : decode cX10_ruleLevel 9 = .ok (.iload_n 1, 1) := by decide +kernel
theorem dX10_ruleLevel_10 : decode cX10_ruleLevel 10 = .ok (.iaload, 1) := by decide +kernel
theorem dX10_ruleLevel_11 : decode cX10_ruleLevel 11 = .ok (.if_icmp .ge 41, 3) := by decide +kernel
theorem dX10_ruleLevel_14 : decode cX10_ruleLevel 14 = .ok (.aload_n 0, 1) := by decide +kernel
theorem dX10_ruleLevel_15 : decode cX10_ruleLevel 15 = .ok (.getfield 13, 3) := by decide +kernel
theorem dX10_ruleLevel_18 : decode cX10_ruleLevel 18 = .ok (.iconst 4, 1) := by decide +kernel
theorem dX10_ruleLevel_19 : decode cX10_ruleLevel 19 = .ok (.iload_n 1, 1) := by decide +kernel
theorem dX10_ruleLevel_20 : decode cX10_ruleLevel 20 = .ok (.imul, 1) := by decide +kernel
theorem dX10_ruleLevel_21 : decode cX10_ruleLevel 21 = .ok (.iload_n 3, 1) := by decide +kernel
theorem dX10_ruleLevel_22 : decode cX10_ruleLevel 22 = .ok (.iadd, 1) := by decide +kernel
theorem dX10_ruleLevel_23 : decode cX10_ruleLevel 23 = .ok (.iaload, 1) := by decide +kernel
theorem dX10_ruleLevel_24 : decode cX10_ruleLevel 24 = .ok (.invokestatic 131, 3) := by decide +kernel
theorem dX10_ruleLevel_27 : decode cX10_ruleLevel 27 = .ok (.ifCond .eq 19, 3) := by decide +kernel
theorem dX10_ruleLevel_30 : decode cX10_ruleLevel 30 = .ok (.aload_n 0, 1) := by decide +kernel
theorem dX10_ruleLevel_31 : decode cX10_ruleLevel 31 = .ok (.getfield 19, 3) := by decide +kernel
theorem dX10_ruleLevel_34 : decode cX10_ruleLevel 34 = .ok (.aload_n 0, 1) := by decide +kernel
theorem dX10_ruleLevel_35 : decode cX10_ruleLevel 35 = .ok (.getfield 13, 3) := by decide +kernel
theorem dX10_ruleLevel_38 : decode cX10_ruleLevel 38 = .ok (.iconst 4, 1) := by decide +kernel
theorem dX10_ruleLevel_39 : decode cX10_ruleLevel 39 = .ok (.iload_n 1, 1) := by decide +kernel
theorem dX10_ruleLevel_40 : decode cX10_ruleLevel 40 = .ok (.imul, 1) := by decide +kernel
theorem dX10_ruleLevel_41 : decode cX10_ruleLevel 41 = .ok (.iload_n 3, 1) := by decide +kernel
theorem dX10_ruleLevel_42 : decode cX10_ruleLevel 42 = .ok (.iadd, 1) := by decide +kernel
theorem dX10_ruleLevel_43 : decode cX10_ruleLevel 43 = .ok (.iaload, 1) := by decide +kernel
theorem dX10_ruleLevel_44 : decode cX10_ruleLevel 44 = .ok (.iaload, 1) := by decide +kernel
theorem dX10_ruleLevel_45 : decode cX10_ruleLevel 45 = .ok (.istore_n 2, 1) := by decide +kernel
theorem dX10_ruleLevel_46 : decode cX10_ruleLevel 46 = .ok (.iinc 3 1, 3) := by decide +kernel
theorem dX10_ruleLevel_49 : decode cX10_ruleLevel 49 = .ok (.goto (-45), 3) := by decide +kernel
theorem dX10_ruleLevel_52 : decode cX10_ruleLevel 52 = .ok (.iload_n 2, 1) := by decide +kernel
theorem dX10_ruleLevel_53 : decode cX10_ruleLevel 53 = .ok (.ireturn, 1) := by decide +kernel
theorem dX10_settle_0 : decode cX10_settle 0 = .ok (.iload_n 2, 1) := by decide +kernel
theorem dX10_settle_1 : decode cX10_settle 1 = .ok (.ifCond .le 17, 3) := by decide +kernel
theorem dX10_settle_4 : decode cX10_settle 4 = .ok (.aload_n 0, 1) := by decide +kernel
theorem dX10_settle_5 : decode cX10_settle 5 = .ok (.getfield 41, 3) := by decide +kernel
theorem dX10_settle_8 : decode cX10_settle 8 = .ok (.bipush 14, 2) := by decide +kernel
theorem dX10_settle_10 : decode cX10_settle 10 = .ok (.iload_n 1, 1) := by decide +kernel
theorem dX10_settle_11 : decode cX10_settle 11 = .ok (.imul, 1) := by decide +kernel
theorem dX10_settle_12 : decode cX10_settle 12 = .ok (.iload_n 2, 1) := by decide +kernel
theorem dX10_settle_13 : decode cX10_settle 13 = .ok (.iadd, 1) := by decide +kernel
theorem dX10_settle_14 : decode cX10_settle 14 = .ok (.iaload, 1) := by decide +kernel
theorem dX10_settle_15 : decode cX10_settle 15 = .ok (.goto 4, 3) := by decide +kernel
theorem dX10_settle_18 : decode cX10_settle 18 = .ok (.iconst 0, 1) := by decide +kernel
theorem dX10_settle_19 : decode cX10_settle 19 = .ok (.istore_n 3, 1) := by decide +kernel
theorem dX10_settle_20 : decode cX10_settle 20 = .ok (.iload_n 3, 1) := by decide +kernel
theorem dX10_settle_21 : decode cX10_settle 21 = .ok (.ifCond .le 7, 3) := by decide +kernel
theorem dX10_settle_24 : decode cX10_settle 24 = .ok (.iconst 1, 1) := by decide +kernel
theorem dX10_settle_25 : decode cX10_settle 25 = .ok (.goto 4, 3) := by decide +kernel
theorem dX10_settle_28 : decode cX10_settle 28 = .ok (.iconst 0, 1) := by decide +kernel
theorem dX10_settle_29 : decode cX10_settle 29 = .ok (.istore 4, 2) := by decide +kernel
theorem dX10_settle_31 : decode cX10_settle 31 = .ok (.iconst (-1), 1) := by decide +kernel
theorem dX10_settle_32 : decode cX10_settle 32 = .ok (.istore 5, 2) := by decide +kernel
theorem dX10_settle_34 : decode cX10_settle 34 = .ok (.iconst 0, 1) := by decide +kernel
theorem dX10_settle_35 : decode cX10_settle 35 = .ok (.istore 6, 2) := by decide +kernel
theorem dX10_settle_37 : decode cX10_settle 37 = .ok (.iload 6, 2) := by decide +kernel
theorem dX10_settle_39 : decode cX10_settle 39 = .ok (.aload_n 0, 1) := by decide +kernel
theorem dX10_settle_40 : decode cX10_settle 40 = .ok (.getfield 145, 3) := by decide +kernel
theorem dX10_settle_43 : decode cX10_settle 43 = .ok (.if_icmp .ge 61, 3) := by decide +kernel
theorem dX10_settle_46 : decode cX10_settle 46 = .ok (.aload_n 0, 1) := by decide +kernel
theorem dX10_settle_47 : decode cX10_settle 47 = .ok (.getfield 34, 3) := by decide +kernel
theorem dX10_settle_50 : decode cX10_settle 50 = .ok (.bipush 75, 2) := by decide +kernel
theorem dX10_settle_52 : decode cX10_settle 52 = .ok (.iload_n 1, 1) := by decide +kernel
theorem dX10_settle_53 : decode cX10_settle 53 = .ok (.imul, 1) := by decide +kernel
theorem dX10_settle_54 : decode cX10_settle 54 = .ok (.iconst 5, 1) := by decide +kernel
theorem dX10_settle_55 : decode cX10_settle 55 = .ok (.iload 6, 2) := by decide +kernel
theorem dX10_settle_57 : decode cX10_settle 57 = .ok (.imul, 1) := by decide +kernel
theorem dX10_settle_58 : decode cX10_settle 58 = .ok (.iadd, 1) := by decide +kernel
theorem dX10_settle_59 : decode cX10_settle 59 = .ok (.aload_n 0, 1) := by decide +kernel
theorem dX10_settle_60 : decode cX10_settle 60 = .ok (.getfield 16, 3) := by decide +kernel
theorem dX10_settle_63 : decode cX10_settle 63 = .ok (.iload 6, 2) := by decide +kernel
theorem dX10_settle_65 : decode cX10_settle 65 = .ok (.iaload, 1) := by decide +kernel
theorem dX10_settle_66 : decode cX10_settle 66 = .ok (.iadd, 1) := by decide +kernel
theorem dX10_settle_67 : decode cX10_settle 67 = .ok (.baload, 1) := by decide +kernel
theorem dX10_settle_68 : decode cX10_settle 68 = .ok (.ifCond .eq 30, 3) := by decide +kernel
theorem dX10_settle_71 : decode cX10_settle 71 = .ok (.aload_n 0, 1) := by decide +kernel
theorem dX10_settle_72 : decode cX10_settle 72 = .ok (.getfield 56, 3) := by decide +kernel
theorem dX10_settle_75 : decode cX10_settle 75 = .ok (.bipush 14, 2) := by decide +kernel
theorem dX10_settle_77 : decode cX10_settle 77 = .ok (.iload_n 1, 1) := by decide +kernel
theorem dX10_settle_78 : decode cX10_settle 78 = .ok (.imul, 1) := by decide +kernel
theorem dX10_settle_79 : decode cX10_settle 79 = .ok (.iload 6, 2) := by decide +kernel
theorem dX10_settle_81 : decode cX10_settle 81 = .ok (.iadd, 1) := by decide +kernel
theorem dX10_settle_82 : decode cX10_settle 82 = .ok (.iaload, 1) := by decide +kernel
theorem dX10_settle_83 : decode cX10_settle 83 = .ok (.iload_n 2, 1) := by decide +kernel
theorem dX10_settle_84 : decode cX10_settle 84 = .ok (.ishr, 1) := by decide +kernel
theorem dX10_settle_85 : decode cX10_settle 85 = .ok (.iconst 1, 1) := by decide +kernel
theorem dX10_settle_86 : decode cX10_settle 86 = .ok (.iand, 1) := by decide +kernel
theorem dX10_settle_87 : decode cX10_settle 87 = .ok (.iconst 1, 1) := by decide +kernel
theorem dX10_settle_88 : decode cX10_settle 88 = .ok (.if_icmp .ne 10, 3) := by decide +kernel
theorem dX10_settle_91 : decode cX10_settle 91 = .ok (.iinc 4 1, 3) := by decide +kernel
theorem dX10_settle_94 : decode cX10_settle 94 = .ok (.iload 6, 2) := by decide +kernel
theorem dX10_settle_96 : decode cX10_settle 96 = .ok (.istore 5, 2) := by decide +kernel
theorem dX10_settle_98 : decode cX10_settle 98 = .ok (.iinc 6 1, 3) := by decide +kernel
theorem dX10_settle_101 : decode cX10_settle 101 = .ok (.goto (-64), 3) := by decide +kernel
theorem dX10_settle_104 : decode cX10_settle 104 = .ok (.iload_n 2, 1) := by decide +kernel
theorem dX10_settle_105 : decode cX10_settle 105 = .ok (.ifCond .ne 22, 3) := by decide +kernel
theorem dX10_settle_108 : decode cX10_settle 108 = .ok (.aload_n 0, 1) := by decide +kernel
theorem dX10_settle_109 : decode cX10_settle 109 = .ok (.getfield 34, 3) := by decide +kernel
theorem dX10_settle_112 : decode cX10_settle 112 = .ok (.bipush 75, 2) := by decide +kernel
theorem dX10_settle_114 : decode cX10_settle 114 = .ok (.iload_n 1, 1) := by decide +kernel
theorem dX10_settle_115 : decode cX10_settle 115 = .ok (.imul, 1) := by decide +kernel
theorem dX10_settle_116 : decode cX10_settle 116 = .ok (.bipush 71, 2) := by decide +kernel
theorem dX10_settle_118 : decode cX10_settle 118 = .ok (.iadd, 1) := by decide +kernel
theorem dX10_settle_119 : decode cX10_settle 119 = .ok (.baload, 1) := by decide +kernel
theorem dX10_settle_120 : decode cX10_settle 120 = .ok (.ifCond .eq 7, 3) := by decide +kernel
theorem dX10_settle_123 : decode cX10_settle 123 = .ok (.iconst 1, 1) := by decide +kernel
theorem dX10_settle_124 : decode cX10_settle 124 = .ok (.goto 4, 3) := by decide +kernel
theorem dX10_settle_127 : decode cX10_settle 127 = .ok (.iconst 0, 1) := by decide +kernel
theorem dX10_settle_128 : decode cX10_settle 128 = .ok (.istore 6, 2) := by decide +kernel
theorem dX10_settle_130 : decode cX10_settle 130 = .ok (.iload 6, 2) := by decide +kernel
theorem dX10_settle_132 : decode cX10_settle 132 = .ok (.ifCond .eq 6, 3) := by decide +kernel
theorem dX10_settle_135 : decode cX10_settle 135 = .ok (.iinc 4 1, 3) := by decide +kernel
theorem dX10_settle_138 : decode cX10_settle 138 = .ok (.iload 4, 2) := by decide +kernel
theorem dX10_settle_140 : decode cX10_settle 140 = .ok (.iconst 2, 1) := by decide +kernel
theorem dX10_settle_141 : decode cX10_settle 141 = .ok (.if_icmp .ne 89, 3) := by decide +kernel
theorem dX10_settle_144 : decode cX10_settle 144 = .ok (.iload_n 3, 1) := by decide +kernel
theorem dX10_settle_145 : decode cX10_settle 145 = .ok (.ifCond .le 85, 3) := by decide +kernel
theorem dX10_settle_148 : decode cX10_settle 148 = .ok (.iload 5, 2) := by decide +kernel
theorem dX10_settle_150 : decode cX10_settle 150 = .ok (.ifCond .lt 80, 3) := by decide +kernel
theorem dX10_settle_153 : decode cX10_settle 153 = .ok (.aload_n 0, 1) := by decide +kernel
theorem dX10_settle_154 : decode cX10_settle 154 = .ok (.iload 5, 2) := by decide +kernel
theorem dX10_settle_156 : decode cX10_settle 156 = .ok (.invokevirtual 186, 3) := by decide +kernel
theorem dX10_settle_159 : decode cX10_settle 159 = .ok (.istore 7, 2) := by decide +kernel
theorem dX10_settle_161 : decode cX10_settle 161 = .ok (.aload_n 0, 1) := by decide +kernel
theorem dX10_settle_162 : decode cX10_settle 162 = .ok (.getfield 19, 3) := by decide +kernel
theorem dX10_settle_165 : decode cX10_settle 165 = .ok (.iload_n 2, 1) := by decide +kernel
theorem dX10_settle_166 : decode cX10_settle 166 = .ok (.iaload, 1) := by decide +kernel
theorem dX10_settle_167 : decode cX10_settle 167 = .ok (.istore 8, 2) := by decide +kernel
theorem dX10_settle_169 : decode cX10_settle 169 = .ok (.iload 7, 2) := by decide +kernel
theorem dX10_settle_171 : decode cX10_settle 171 = .ok (.ifCond .le 59, 3) := by decide +kernel
theorem dX10_settle_174 : decode cX10_settle 174 = .ok (.iload 8, 2) := by decide +kernel
theorem dX10_settle_176 : decode cX10_settle 176 = .ok (.ifCond .le 54, 3) := by decide +kernel
theorem dX10_settle_179 : decode cX10_settle 179 = .ok (.iload 7, 2) := by decide +kernel
theorem dX10_settle_181 : decode cX10_settle 181 = .ok (.iload 8, 2) := by decide +kernel
theorem dX10_settle_183 : decode cX10_settle 183 = .ok (.if_icmp .gt 19, 3) := by decide +kernel
theorem dX10_settle_186 : decode cX10_settle 186 = .ok (.iload 7, 2) := by decide +kernel
theorem dX10_settle_188 : decode cX10_settle 188 = .ok (.iload 8, 2) := by decide +kernel
theorem dX10_settle_190 : decode cX10_settle 190 = .ok (.if_icmp .ne 17, 3) := by decide +kernel
theorem dX10_settle_193 : decode cX10_settle 193 = .ok (.aload_n 0, 1) := by decide +kernel
theorem dX10_settle_194 : decode cX10_settle 194 = .ok (.getfield 22, 3) := by decide +kernel
theorem dX10_settle_197 : decode cX10_settle 197 = .ok (.iload_n 2, 1) := by decide +kernel
theorem dX10_settle_198 : decode cX10_settle 198 = .ok (.iaload, 1) := by decide +kernel
theorem dX10_settle_199 : decode cX10_settle 199 = .ok (.ifCond .ne 8, 3) := by decide +kernel
theorem dX10_settle_202 : decode cX10_settle 202 = .ok (.iconst (-1), 1) := by decide +kernel
theorem dX10_settle_203 : decode cX10_settle 203 = .ok (.iload 5, 2) := by decide +kernel
theorem dX10_settle_205 : decode cX10_settle 205 = .ok (.isub, 1) := by decide +kernel
theorem dX10_settle_206 : decode cX10_settle 206 = .ok (.ireturn, 1) := by decide +kernel
theorem dX10_settle_207 : decode cX10_settle 207 = .ok (.iload 7, 2) := by decide +kernel
theorem dX10_settle_209 : decode cX10_settle 209 = .ok (.iload 8, 2) := by decide +kernel
theorem dX10_settle_211 : decode cX10_settle 211 = .ok (.if_icmp .lt 13, 3) := by decide +kernel
theorem dX10_settle_214 : decode cX10_settle 214 = .ok (.aload_n 0, 1) := by decide +kernel
theorem dX10_settle_215 : decode cX10_settle 215 = .ok (.getfield 22, 3) := by decide +kernel
theorem dX10_settle_218 : decode cX10_settle 218 = .ok (.iload_n 2, 1) := by decide +kernel
theorem dX10_settle_219 : decode cX10_settle 219 = .ok (.iaload, 1) := by decide +kernel
theorem dX10_settle_220 : decode cX10_settle 220 = .ok (.iconst 1, 1) := by decide +kernel
theorem dX10_settle_221 : decode cX10_settle 221 = .ok (.if_icmp .ne 7, 3) := by decide +kernel
theorem dX10_settle_224 : decode cX10_settle 224 = .ok (.iload_n 3, 1) := by decide +kernel
theorem dX10_settle_225 : decode cX10_settle 225 = .ok (.goto 4, 3) := by decide +kernel
theorem dX10_settle_228 : decode cX10_settle 228 = .ok (.iconst 0, 1) := by decide +kernel
theorem dX10_settle_229 : decode cX10_settle 229 = .ok (.ireturn, 1) := by decide +kernel
theorem dX10_settle_230 : decode cX10_settle 230 = .ok (.iload 4, 2) := by decide +kernel
theorem dX10_settle_232 : decode cX10_settle 232 = .ok (.ifCond .ne 7, 3) := by decide +kernel
theorem dX10_settle_235 : decode cX10_settle 235 = .ok (.iconst 0, 1) := by decide +kernel
theorem dX10_settle_236 : decode cX10_settle 236 = .ok (.goto 39, 3) := by decide +kernel
theorem dX10_settle_239 : decode cX10_settle 239 = .ok (.iload 4, 2) := by decide +kernel
theorem dX10_settle_241 : decode cX10_settle 241 = .ok (.iconst 1, 1) := by decide +kernel
theorem dX10_settle_242 : decode cX10_settle 242 = .ok (.if_icmp .le 9, 3) := by decide +kernel
theorem dX10_settle_245 : decode cX10_settle 245 = .ok (.sipush 1001, 3) := by decide +kernel
theorem dX10_settle_248 : decode cX10_settle 248 = .ok (.goto 27, 3) := by decide +kernel
theorem dX10_settle_251 : decode cX10_settle 251 = .ok (.iload 6, 2) := by decide +kernel
theorem dX10_settle_253 : decode cX10_settle 253 = .ok (.ifCond .eq 9, 3) := by decide +kernel
theorem dX10_settle_256 : decode cX10_settle 256 = .ok (.sipush 1000, 3) := by decide +kernel
theorem dX10_settle_259 : decode cX10_settle 259 = .ok (.goto 16, 3) := by decide +kernel
theorem dX10_settle_262 : decode cX10_settle 262 = .ok (.iload 5, 2) := by decide +kernel
theorem dX10_settle_264 : decode cX10_settle 264 = .ok (.ifCond .lt 10, 3) := by decide +kernel
theorem dX10_settle_267 : decode cX10_settle 267 = .ok (.iconst (-1), 1) := by decide +kernel
theorem dX10_settle_268 : decode cX10_settle 268 = .ok (.iload 5, 2) := by decide +kernel
theorem dX10_settle_270 : decode cX10_settle 270 = .ok (.isub, 1) := by decide +kernel
theorem dX10_settle_271 : decode cX10_settle 271 = .ok (.goto 4, 3) := by decide +kernel
theorem dX10_settle_274 : decode cX10_settle 274 = .ok (.iload_n 3, 1) := by decide +kernel
theorem dX10_settle_275 : decode cX10_settle 275 = .ok (.ireturn, 1) := by decide +kernel
theorem dX10_hang_0 : decode cX10_hang 0 = .ok (.aload_n 0, 1) := by decide +kernel
theorem dX10_hang_1 : decode cX10_hang 1 = .ok (.getfield 65, 3) := by decide +kernel
theorem dX10_hang_4 : decode cX10_hang 4 = .ok (.iload_n 1, 1) := by decide +kernel
theorem dX10_hang_5 : decode cX10_hang 5 = .ok (.dup2, 1) := by decide +kernel
theorem dX10_hang_6 : decode cX10_hang 6 = .ok (.iaload, 1) := by decide +kernel
theorem dX10_hang_7 : decode cX10_hang 7 = .ok (.iconst 1, 1) := by decide +kernel
theorem dX10_hang_8 : decode cX10_hang 8 = .ok (.iload_n 2, 1) := by decide +kernel
theorem dX10_hang_9 : decode cX10_hang 9 = .ok (.ishl, 1) := by decide +kernel
theorem dX10_hang_10 : decode cX10_hang 10 = .ok (.ior, 1) := by decide +kernel
theorem dX10_hang_11 : decode cX10_hang 11 = .ok (.iastore, 1) := by decide +kernel
theorem dX10_hang_12 : decode cX10_hang 12 = .ok (.return_, 1) := by decide +kernel
theorem dX10_ring_0 : decode cX10_ring 0 = .ok (.iconst 0, 1) := by decide +kernel
theorem dX10_ring_1 : decode cX10_ring 1 = .ok (.istore_n 2, 1) := by decide +kernel
theorem dX10_ring_2 : decode cX10_ring 2 = .ok (.iload_n 2, 1) := by decide +kernel
theorem dX10_ring_3 : decode cX10_ring 3 = .ok (.bipush 15, 2) := by decide +kernel
theorem dX10_ring_5 : decode cX10_ring 5 = .ok (.if_icmp .ge 16, 3) := by decide +kernel
theorem dX10_ring_8 : decode cX10_ring 8 = .ok (.aload_n 0, 1) := by decide +kernel
theorem dX10_ring_9 : decode cX10_ring 9 = .ok (.getfield 65, 3) := by decide +kernel
theorem dX10_ring_12 : decode cX10_ring 12 = .ok (.iload_n 2, 1) := by decide +kernel
theorem dX10_ring_13 : decode cX10_ring 13 = .ok (.iconst 0, 1) := by decide +kernel
theorem dX10_ring_14 : decode cX10_ring 14 = .ok (.iastore, 1) := by decide +kernel
theorem dX10_ring_15 : decode cX10_ring 15 = .ok (.iinc 2 1, 3) := by decide +kernel
theorem dX10_ring_18 : decode cX10_ring 18 = .ok (.goto (-16), 3) := by decide +kernel
theorem dX10_ring_21 : decode cX10_ring 21 = .ok (.iconst 0, 1) := by decide +kernel
theorem dX10_ring_22 : decode cX10_ring 22 = .ok (.istore_n 2, 1) := by decide +kernel
theorem dX10_ring_23 : decode cX10_ring 23 = .ok (.iload_n 2, 1) := by decide +kernel
theorem dX10_ring_24 : decode cX10_ring 24 = .ok (.bipush 15, 2) := by decide +kernel
theorem dX10_ring_26 : decode cX10_ring 26 = .ok (.if_icmp .ge 87, 3) := by decide +kernel
theorem dX10_ring_29 : decode cX10_ring 29 = .ok (.bipush 15, 2) := by decide +kernel
theorem dX10_ring_31 : decode cX10_ring 31 = .ok (.iload_n 1, 1) := by decide +kernel
theorem dX10_ring_32 : decode cX10_ring 32 = .ok (.imul, 1) := by decide +kernel
theorem dX10_ring_33 : decode cX10_ring 33 = .ok (.iload_n 2, 1) := by decide +kernel
theorem dX10_ring_34 : decode cX10_ring 34 = .ok (.iadd, 1) := by decide +kernel
theorem dX10_ring_35 : decode cX10_ring 35 = .ok (.istore_n 3, 1) := by decide +kernel
theorem dX10_ring_36 : decode cX10_ring 36 = .ok (.aload_n 0, 1) := by decide +kernel
theorem dX10_ring_37 : decode cX10_ring 37 = .ok (.getfield 25, 3) := by decide +kernel
theorem dX10_ring_40 : decode cX10_ring 40 = .ok (.iload_n 3, 1) := by decide +kernel
theorem dX10_ring_41 : decode cX10_ring 41 = .ok (.iaload, 1) := by decide +kernel
theorem dX10_ring_42 : decode cX10_ring 42 = .ok (.ifCond .le 29, 3) := by decide +kernel
theorem dX10_ring_45 : decode cX10_ring 45 = .ok (.aload_n 0, 1) := by decide +kernel
theorem dX10_ring_46 : decode cX10_ring 46 = .ok (.iload_n 2, 1) := by decide +kernel
theorem dX10_ring_47 : decode cX10_ring 47 = .ok (.aload_n 0, 1) := by decide +kernel
theorem dX10_ring_48 : decode cX10_ring 48 = .ok (.getfield 28, 3) := by decide +kernel
theorem dX10_ring_51 : decode cX10_ring 51 = .ok (.iload_n 3, 1) := by decide +kernel
theorem dX10_ring_52 : decode cX10_ring 52 = .ok (.iaload, 1) := by decide +kernel
theorem dX10_ring_53 : decode cX10_ring 53 = .ok (.bipush 10, 2) := by decide +kernel
theorem dX10_ring_55 : decode cX10_ring 55 = .ok (.idiv, 1) := by decide +kernel
theorem dX10_ring_56 : decode cX10_ring 56 = .ok (.iconst 3, 1) := by decide +kernel
theorem dX10_ring_57 : decode cX10_ring 57 = .ok (.imul, 1) := by decide +kernel
theorem dX10_ring_58 : decode cX10_ring 58 = .ok (.aload_n 0, 1) := by decide +kernel
theorem dX10_ring_59 : decode cX10_ring 59 = .ok (.getfield 28, 3) := by decide +kernel
theorem dX10_ring_62 : decode cX10_ring 62 = .ok (.iload_n 3, 1) := by decide +kernel
theorem dX10_ring_63 : decode cX10_ring 63 = .ok (.iaload, 1) := by decide +kernel
theorem dX10_ring_64 : decode cX10_ring 64 = .ok (.bipush 10, 2) := by decide +kernel
theorem dX10_ring_66 : decode cX10_ring 66 = .ok (.irem, 1) := by decide +kernel
theorem dX10_ring_67 : decode cX10_ring 67 = .ok (.iadd, 1) := by decide +kernel
theorem dX10_ring_68 : decode cX10_ring 68 = .ok (.invokevirtual 189, 3) := by decide +kernel
theorem dX10_ring_71 : decode cX10_ring 71 = .ok (.aload_n 0, 1) := by decide +kernel
theorem dX10_ring_72 : decode cX10_ring 72 = .ok (.getfield 25, 3) := by decide +kernel
theorem dX10_ring_75 : decode cX10_ring 75 = .ok (.iload_n 3, 1) := by decide +kernel
theorem dX10_ring_76 : decode cX10_ring 76 = .ok (.iaload, 1) := by decide +kernel
theorem dX10_ring_77 : decode cX10_ring 77 = .ok (.iconst 1, 1) := by decide +kernel
theorem dX10_ring_78 : decode cX10_ring 78 = .ok (.if_icmp .le 29, 3) := by decide +kernel
theorem dX10_ring_81 : decode cX10_ring 81 = .ok (.aload_n 0, 1) := by decide +kernel
theorem dX10_ring_82 : decode cX10_ring 82 = .ok (.iload_n 2, 1) := by decide +kernel
theorem dX10_ring_83 : decode cX10_ring 83 = .ok (.aload_n 0, 1) := by decide +kernel
theorem dX10_ring_84 : decode cX10_ring 84 = .ok (.getfield 31, 3) := by decide +kernel
theorem dX10_ring_87 : decode cX10_ring 87 = .ok (.iload_n 3, 1) := by decide +kernel
theorem dX10_ring_88 : decode cX10_ring 88 = .ok (.iaload, 1) := by decide +kernel
theorem dX10_ring_89 : decode cX10_ring 89 = .ok (.bipush 10, 2) := by decide +kernel
theorem dX10_ring_91 : decode cX10_ring 91 = .ok (.idiv, 1) := by decide +kernel
theorem dX10_ring_92 : decode cX10_ring 92 = .ok (.iconst 3, 1) := by decide +kernel
theorem dX10_ring_93 : decode cX10_ring 93 = .ok (.imul, 1) := by decide +kernel
theorem dX10_ring_94 : decode cX10_ring 94 = .ok (.aload_n 0, 1) := by decide +kernel
theorem dX10_ring_95 : decode cX10_ring 95 = .ok (.getfield 31, 3) := by decide +kernel
theorem dX10_ring_98 : decode cX10_ring 98 = .ok (.iload_n 3, 1) := by decide +kernel
theorem dX10_ring_99 : decode cX10_ring 99 = .ok (.iaload, 1) := by decide +kernel
theorem dX10_ring_100 : decode cX10_ring 100 = .ok (.bipush 10, 2) := by decide +kernel
theorem dX10_ring_102 : decode cX10_ring 102 = .ok (.irem, 1) := by decide +kernel
theorem dX10_ring_103 : decode cX10_ring 103 = .ok (.iadd, 1) := by decide +kernel
theorem dX10_ring_104 : decode cX10_ring 104 = .ok (.invokevirtual 189, 3) := by decide +kernel
theorem dX10_ring_107 : decode cX10_ring 107 = .ok (.iinc 2 1, 3) := by decide +kernel
theorem dX10_ring_110 : decode cX10_ring 110 = .ok (.goto (-87), 3) := by decide +kernel
theorem dX10_ring_113 : decode cX10_ring 113 = .ok (.iconst 1, 1) := by decide +kernel
theorem dX10_ring_114 : decode cX10_ring 114 = .ok (.istore_n 2, 1) := by decide +kernel
theorem dX10_ring_115 : decode cX10_ring 115 = .ok (.iload_n 2, 1) := by decide +kernel
theorem dX10_ring_116 : decode cX10_ring 116 = .ok (.aload_n 0, 1) := by decide +kernel
theorem dX10_ring_117 : decode cX10_ring 117 = .ok (.getfield 16, 3) := by decide +kernel
theorem dX10_ring_120 : decode cX10_ring 120 = .ok (.iload_n 1, 1) := by decide +kernel
theorem dX10_ring_121 : decode cX10_ring 121 = .ok (.iaload, 1) := by decide +kernel
theorem dX10_ring_122 : decode cX10_ring 122 = .ok (.if_icmp .gt 57, 3) := by decide +kernel
theorem dX10_ring_125 : decode cX10_ring 125 = .ok (.aload_n 0, 1) := by decide +kernel
theorem dX10_ring_126 : decode cX10_ring 126 = .ok (.getfield 68, 3) := by decide +kernel
theorem dX10_ring_129 : decode cX10_ring 129 = .ok (.iload_n 2, 1) := by decide +kernel
theorem dX10_ring_130 : decode cX10_ring 130 = .ok (.iaload, 1) := by decide +kernel
theorem dX10_ring_131 : decode cX10_ring 131 = .ok (.iconst 1, 1) := by decide +kernel
theorem dX10_ring_132 : decode cX10_ring 132 = .ok (.iand, 1) := by decide +kernel
theorem dX10_ring_133 : decode cX10_ring 133 = .ok (.ifCond .eq 15, 3) := by decide +kernel
theorem dX10_ring_136 : decode cX10_ring 136 = .ok (.aload_n 0, 1) := by decide +kernel
theorem dX10_ring_137 : decode cX10_ring 137 = .ok (.iconst 3, 1) := by decide +kernel
theorem dX10_ring_138 : decode cX10_ring 138 = .ok (.iload_n 2, 1) := by decide +kernel
theorem dX10_ring_139 : decode cX10_ring 139 = .ok (.imul, 1) := by decide +kernel
theorem dX10_ring_140 : decode cX10_ring 140 = .ok (.iconst 3, 1) := by decide +kernel
theorem dX10_ring_141 : decode cX10_ring 141 = .ok (.iload_n 2, 1) := by decide +kernel
theorem dX10_ring_142 : decode cX10_ring 142 = .ok (.imul, 1) := by decide +kernel
theorem dX10_ring_143 : decode cX10_ring 143 = .ok (.iconst 2, 1) := by decide +kernel
theorem dX10_ring_144 : decode cX10_ring 144 = .ok (.iadd, 1) := by decide +kernel
theorem dX10_ring_145 : decode cX10_ring 145 = .ok (.invokevirtual 189, 3) := by decide +kernel
theorem dX10_ring_148 : decode cX10_ring 148 = .ok (.aload_n 0, 1) := by decide +kernel
theorem dX10_ring_149 : decode cX10_ring 149 = .ok (.getfield 68, 3) := by decide +kernel
theorem dX10_ring_152 : decode cX10_ring 152 = .ok (.iload_n 2, 1) := by decide +kernel
theorem dX10_ring_153 : decode cX10_ring 153 = .ok (.iaload, 1) := by decide +kernel
theorem dX10_ring_154 : decode cX10_ring 154 = .ok (.iconst 2, 1) := by decide +kernel
theorem dX10_ring_155 : decode cX10_ring 155 = .ok (.iand, 1) := by decide +kernel
theorem dX10_ring_156 : decode cX10_ring 156 = .ok (.ifCond .eq 17, 3) := by decide +kernel
theorem dX10_ring_159 : decode cX10_ring 159 = .ok (.aload_n 0, 1) := by decide +kernel
theorem dX10_ring_160 : decode cX10_ring 160 = .ok (.iconst 3, 1) := by decide +kernel
theorem dX10_ring_161 : decode cX10_ring 161 = .ok (.iload_n 2, 1) := by decide +kernel
theorem dX10_ring_162 : decode cX10_ring 162 = .ok (.imul, 1) := by decide +kernel
theorem dX10_ring_163 : decode cX10_ring 163 = .ok (.iconst 1, 1) := by decide +kernel
theorem dX10_ring_164 : decode cX10_ring 164 = .ok (.iadd, 1) := by decide +kernel
theorem dX10_ring_165 : decode cX10_ring 165 = .ok (.iconst 3, 1) := by decide +kernel
theorem dX10_ring_166 : decode cX10_ring 166 = .ok (.iload_n 2, 1) := by decide +kernel
theorem dX10_ring_167 : decode cX10_ring 167 = .ok (.imul, 1) := by decide +kernel
theorem dX10_ring_168 : decode cX10_ring 168 = .ok (.iconst 2, 1) := by decide +kernel
theorem dX10_ring_169 : decode cX10_ring 169 = .ok (.iadd, 1) := by decide +kernel
theorem dX10_ring_170 : decode cX10_ring 170 = .ok (.invokevirtual 189, 3) := by decide +kernel
theorem dX10_ring_173 : decode cX10_ring 173 = .ok (.iinc 2 1, 3) := by decide +kernel
theorem dX10_ring_176 : decode cX10_ring 176 = .ok (.goto (-61), 3) := by decide +kernel
theorem dX10_ring_179 : decode cX10_ring 179 = .ok (.iconst 0, 1) := by decide +kernel
theorem dX10_ring_180 : decode cX10_ring 180 = .ok (.istore_n 2, 1) := by decide +kernel
theorem dX10_ring_181 : decode cX10_ring 181 = .ok (.iload_n 2, 1) := by decide +kernel
theorem dX10_ring_182 : decode cX10_ring 182 = .ok (.bipush 15, 2) := by decide +kernel
theorem dX10_ring_184 : decode cX10_ring 184 = .ok (.if_icmp .ge 52, 3) := by decide +kernel
theorem dX10_ring_187 : decode cX10_ring 187 = .ok (.iconst 0, 1) := by decide +kernel
theorem dX10_ring_188 : decode cX10_ring 188 = .ok (.istore_n 3, 1) := by decide +kernel
theorem dX10_ring_189 : decode cX10_ring 189 = .ok (.iload_n 3, 1) := by decide +kernel
theorem dX10_ring_190 : decode cX10_ring 190 = .ok (.bipush 15, 2) := by decide +kernel
theorem dX10_ring_192 : decode cX10_ring 192 = .ok (.if_icmp .ge 38, 3) := by decide +kernel
theorem dX10_ring_195 : decode cX10_ring 195 = .ok (.aload_n 0, 1) := by decide +kernel
theorem dX10_ring_196 : decode cX10_ring 196 = .ok (.getfield 65, 3) := by decide +kernel
theorem dX10_ring_199 : decode cX10_ring 199 = .ok (.iload_n 3, 1) := by decide +kernel
theorem dX10_ring_200 : decode cX10_ring 200 = .ok (.iaload, 1) := by decide +kernel
theorem dX10_ring_201 : decode cX10_ring 201 = .ok (.iload_n 2, 1) := by decide +kernel
theorem dX10_ring_202 : decode cX10_ring 202 = .ok (.ishr, 1) := by decide +kernel
theorem dX10_ring_203 : decode cX10_ring 203 = .ok (.iconst 1, 1) := by decide +kernel
theorem dX10_ring_204 : decode cX10_ring 204 = .ok (.iand, 1) := by decide +kernel
theorem dX10_ring_205 : decode cX10_ring 205 = .ok (.iconst 1, 1) := by decide +kernel
theorem dX10_ring_206 : decode cX10_ring 206 = .ok (.if_icmp .ne 18, 3) := by decide +kernel
theorem dX10_ring_209 : decode cX10_ring 209 = .ok (.aload_n 0, 1) := by decide +kernel
theorem dX10_ring_210 : decode cX10_ring 210 = .ok (.getfield 65, 3) := by decide +kernel
theorem dX10_ring_213 : decode cX10_ring 213 = .ok (.iload_n 3, 1) := by decide +kernel
theorem dX10_ring_214 : decode cX10_ring 214 = .ok (.dup2, 1) := by decide +kernel
theorem dX10_ring_215 : decode cX10_ring 215 = .ok (.iaload, 1) := by decide +kernel
theorem dX10_ring_216 : decode cX10_ring 216 = .ok (.aload_n 0, 1) := by decide +kernel
theorem dX10_ring_217 : decode cX10_ring 217 = .ok (.getfield 65, 3) := by decide +kernel
theorem dX10_ring_220 : decode cX10_ring 220 = .ok (.iload_n 2, 1) := by decide +kernel
theorem dX10_ring_221 : decode cX10_ring 221 = .ok (.iaload, 1) := by decide +kernel
theorem dX10_ring_222 : decode cX10_ring 222 = .ok (.ior, 1) := by decide +kernel
theorem dX10_ring_223 : decode cX10_ring 223 = .ok (.iastore, 1) := by decide +kernel
theorem dX10_ring_224 : decode cX10_ring 224 = .ok (.iinc 3 1, 3) := by decide +kernel
theorem dX10_ring_227 : decode cX10_ring 227 = .ok (.goto (-38), 3) := by decide +kernel
theorem dX10_ring_230 : decode cX10_ring 230 = .ok (.iinc 2 1, 3) := by decide +kernel
theorem dX10_ring_233 : decode cX10_ring 233 = .ok (.goto (-52), 3) := by decide +kernel
theorem dX10_ring_236 : decode cX10_ring 236 = .ok (.iconst 0, 1) := by decide +kernel
theorem dX10_ring_237 : decode cX10_ring 237 = .ok (.istore_n 2, 1) := by decide +kernel
theorem dX10_ring_238 : decode cX10_ring 238 = .ok (.iconst 0, 1) := by decide +kernel
theorem dX10_ring_239 : decode cX10_ring 239 = .ok (.istore_n 3, 1) := by decide +kernel
theorem dX10_ring_240 : decode cX10_ring 240 = .ok (.iload_n 3, 1) := by decide +kernel
theorem dX10_ring_241 : decode cX10_ring 241 = .ok (.bipush 15, 2) := by decide +kernel
theorem dX10_ring_243 : decode cX10_ring 243 = .ok (.if_icmp .ge 25, 3) := by decide +kernel
theorem dX10_ring_246 : decode cX10_ring 246 = .ok (.aload_n 0, 1) := by decide +kernel
theorem dX10_ring_247 : decode cX10_ring 247 = .ok (.getfield 65, 3) := by decide +kernel
theorem dX10_ring_250 : decode cX10_ring 250 = .ok (.iload_n 3, 1) := by decide +kernel
theorem dX10_ring_251 : decode cX10_ring 251 = .ok (.iaload, 1) := by decide +kernel
theorem dX10_ring_252 : decode cX10_ring 252 = .ok (.iload_n 3, 1) := by decide +kernel
theorem dX10_ring_253 : decode cX10_ring 253 = .ok (.ishr, 1) := by decide +kernel
theorem dX10_ring_254 : decode cX10_ring 254 = .ok (.iconst 1, 1) := by decide +kernel
theorem dX10_ring_255 : decode cX10_ring 255 = .ok (.iand, 1) := by decide +kernel
theorem dX10_ring_256 : decode cX10_ring 256 = .ok (.iconst 1, 1) := by decide +kernel
theorem dX10_ring_257 : decode cX10_ring 257 = .ok (.if_icmp .ne 5, 3) := by decide +kernel
theorem dX10_ring_260 : decode cX10_ring 260 = .ok (.iconst 1, 1) := by decide +kernel
theorem dX10_ring_261 : decode cX10_ring 261 = .ok (.istore_n 2, 1) := by decide +kernel
theorem dX10_ring_262 : decode cX10_ring 262 = .ok (.iinc 3 1, 3) := by decide +kernel
theorem dX10_ring_265 : decode cX10_ring 265 = .ok (.goto (-25), 3) := by decide +kernel
theorem dX10_ring_268 : decode cX10_ring 268 = .ok (.iload_n 2, 1) := by decide +kernel
theorem dX10_ring_269 : decode cX10_ring 269 = .ok (.ireturn, 1) := by decide +kernel
theorem dX10_possible_0 : decode cX10_possible 0 = .ok (.iconst 1, 1) := by decide +kernel
theorem dX10_possible_1 : decode cX10_possible 1 = .ok (.istore_n 3, 1) := by decide +kernel
theorem dX10_possible_2 : decode cX10_possible 2 = .ok (.iconst 1, 1) := by decide +kernel
theorem dX10_possible_3 : decode cX10_possible 3 = .ok (.istore 4, 2) := by decide +kernel
theorem dX10_possible_5 : decode cX10_possible 5 = .ok (.iload 4, 2) := by decide +kernel
theorem dX10_possible_7 : decode cX10_possible 7 = .ok (.iconst 4, 1) := by decide +kernel
theorem dX10_possible_8 : decode cX10_possible 8 = .ok (.if_icmp .gt 99, 3) := by decide +kernel
theorem dX10_possible_11 : decode cX10_possible 11 = .ok (.aload_n 0, 1) := by decide +kernel
theorem dX10_possible_12 : decode cX10_possible 12 = .ok (.getfield 68, 3) := by decide +kernel
theorem dX10_possible_15 : decode cX10_possible 15 = .ok (.iload 4, 2) := by decide +kernel
theorem dX10_possible_17 : decode cX10_possible 17 = .ok (.iload_n 2, 1) := by decide +kernel
theorem dX10_possible_18 : decode cX10_possible 18 = .ok (.iconst 2, 1) := by decide +kernel
theorem dX10_possible_19 : decode cX10_possible 19 = .ok (.iload 4, 2) := by decide +kernel
theorem dX10_possible_21 : decode cX10_possible 21 = .ok (.iconst 1, 1) := by decide +kernel
theorem dX10_possible_22 : decode cX10_possible 22 = .ok (.isub, 1) := by decide +kernel
theorem dX10_possible_23 : decode cX10_possible 23 = .ok (.imul, 1) := by decide +kernel
theorem dX10_possible_24 : decode cX10_possible 24 = .ok (.ishr, 1) := by decide +kernel
theorem dX10_possible_25 : decode cX10_possible 25 = .ok (.iconst 3, 1) := by decide +kernel
theorem dX10_possible_26 : decode cX10_possible 26 = .ok (.iand, 1) := by decide +kernel
theorem dX10_possible_27 : decode cX10_possible 27 = .ok (.iastore, 1) := by decide +kernel
theorem dX10_possible_28 : decode cX10_possible 28 = .ok (.iload 4, 2) := by decide +kernel
theorem dX10_possible_30 : decode cX10_possible 30 = .ok (.aload_n 0, 1) := by decide +kernel
theorem dX10_possible_31 : decode cX10_possible 31 = .ok (.getfield 16, 3) := by decide +kernel
theorem dX10_possible_34 : decode cX10_possible 34 = .ok (.iload_n 1, 1) := by decide +kernel
theorem dX10_possible_35 : decode cX10_possible 35 = .ok (.iaload, 1) := by decide +kernel
theorem dX10_possible_36 : decode cX10_possible 36 = .ok (.if_icmp .gt 19, 3) := by decide +kernel
theorem dX10_possible_39 : decode cX10_possible 39 = .ok (.aload_n 0, 1) := by decide +kernel
theorem dX10_possible_40 : decode cX10_possible 40 = .ok (.getfield 13, 3) := by decide +kernel
theorem dX10_possible_43 : decode cX10_possible 43 = .ok (.iconst 4, 1) := by decide +kernel
theorem dX10_possible_44 : decode cX10_possible 44 = .ok (.iload_n 1, 1) := by decide +kernel
theorem dX10_possible_45 : decode cX10_possible 45 = .ok (.imul, 1) := by decide +kernel
theorem dX10_possible_46 : decode cX10_possible 46 = .ok (.iload 4, 2) := by decide +kernel
theorem dX10_possible_48 : decode cX10_possible 48 = .ok (.iadd, 1) := by decide +kernel
theorem dX10_possible_49 : decode cX10_possible 49 = .ok (.iconst 1, 1) := by decide +kernel
theorem dX10_possible_50 : decode cX10_possible 50 = .ok (.isub, 1) := by decide +kernel
theorem dX10_possible_51 : decode cX10_possible 51 = .ok (.iaload, 1) := by decide +kernel
theorem dX10_possible_52 : decode cX10_possible 52 = .ok (.goto 4, 3) := by decide +kernel
theorem dX10_possible_55 : decode cX10_possible 55 = .ok (.iconst 0, 1) := by decide +kernel
theorem dX10_possible_56 : decode cX10_possible 56 = .ok (.istore 5, 2) := by decide +kernel
theorem dX10_possible_58 : decode cX10_possible 58 = .ok (.iload 5, 2) := by decide +kernel
theorem dX10_possible_60 : decode cX10_possible 60 = .ok (.invokestatic 135, 3) := by decide +kernel
theorem dX10_possible_63 : decode cX10_possible 63 = .ok (.ifCond .eq 26, 3) := by decide +kernel
theorem dX10_possible_66 : decode cX10_possible 66 = .ok (.aload_n 0, 1) := by decide +kernel
theorem dX10_possible_67 : decode cX10_possible 67 = .ok (.getfield 62, 3) := by decide +kernel
theorem dX10_possible_70 : decode cX10_possible 70 = .ok (.iconst 4, 1) := by decide +kernel
theorem dX10_possible_71 : decode cX10_possible 71 = .ok (.iload 5, 2) := by decide +kernel
theorem dX10_possible_73 : decode cX10_possible 73 = .ok (.imul, 1) := by decide +kernel
theorem dX10_possible_74 : decode cX10_possible 74 = .ok (.aload_n 0, 1) := by decide +kernel
theorem dX10_possible_75 : decode cX10_possible 75 = .ok (.getfield 68, 3) := by decide +kernel
theorem dX10_possible_78 : decode cX10_possible 78 = .ok (.iload 4, 2) := by decide +kernel
theorem dX10_possible_80 : decode cX10_possible 80 = .ok (.iaload, 1) := by decide +kernel
theorem dX10_possible_81 : decode cX10_possible 81 = .ok (.iadd, 1) := by decide +kernel
theorem dX10_possible_82 : decode cX10_possible 82 = .ok (.baload, 1) := by decide +kernel
theorem dX10_possible_83 : decode cX10_possible 83 = .ok (.ifCond .ne 18, 3) := by decide +kernel
theorem dX10_possible_86 : decode cX10_possible 86 = .ok (.goto 13, 3) := by decide +kernel
theorem dX10_possible_89 : decode cX10_possible 89 = .ok (.aload_n 0, 1) := by decide +kernel
theorem dX10_possible_90 : decode cX10_possible 90 = .ok (.getfield 68, 3) := by decide +kernel
theorem dX10_possible_93 : decode cX10_possible 93 = .ok (.iload 4, 2) := by decide +kernel
theorem dX10_possible_95 : decode cX10_possible 95 = .ok (.iaload, 1) := by decide +kernel
theorem dX10_possible_96 : decode cX10_possible 96 = .ok (.ifCond .eq 5, 3) := by decide +kernel
theorem dX10_possible_99 : decode cX10_possible 99 = .ok (.iconst 0, 1) := by decide +kernel
theorem dX10_possible_100 : decode cX10_possible 100 = .ok (.istore_n 3, 1) := by decide +kernel
theorem dX10_possible_101 : decode cX10_possible 101 = .ok (.iinc 4 1, 3) := by decide +kernel
theorem dX10_possible_104 : decode cX10_possible 104 = .ok (.goto (-99), 3) := by decide +kernel
theorem dX10_possible_107 : decode cX10_possible 107 = .ok (.iload_n 3, 1) := by decide +kernel
theorem dX10_possible_108 : decode cX10_possible 108 = .ok (.ireturn, 1) := by decide +kernel
theorem dX10_rings_0 : decode cX10_rings 0 = .ok (.aload_n 0, 1) := by decide +kernel
theorem dX10_rings_1 : decode cX10_rings 1 = .ok (.iconst 0, 1) := by decide +kernel
theorem dX10_rings_2 : decode cX10_rings 2 = .ok (.putfield 193, 3) := by decide +kernel
theorem dX10_rings_5 : decode cX10_rings 5 = .ok (.iconst 0, 1) := by decide +kernel
theorem dX10_rings_6 : decode cX10_rings 6 = .ok (.istore_n 1, 1) := by decide +kernel
theorem dX10_rings_7 : decode cX10_rings 7 = .ok (.iload_n 1, 1) := by decide +kernel
theorem dX10_rings_8 : decode cX10_rings 8 = .ok (.bipush 56, 2) := by decide +kernel
theorem dX10_rings_10 : decode cX10_rings 10 = .ok (.if_icmp .ge 16, 3) := by decide +kernel
theorem dX10_rings_13 : decode cX10_rings 13 = .ok (.aload_n 0, 1) := by decide +kernel
theorem dX10_rings_14 : decode cX10_rings 14 = .ok (.getfield 62, 3) := by decide +kernel
theorem dX10_rings_17 : decode cX10_rings 17 = .ok (.iload_n 1, 1) := by decide +kernel
theorem dX10_rings_18 : decode cX10_rings 18 = .ok (.iconst 0, 1) := by decide +kernel
theorem dX10_rings_19 : decode cX10_rings 19 = .ok (.bastore, 1) := by decide +kernel
theorem dX10_rings_20 : decode cX10_rings 20 = .ok (.iinc 1 1, 3) := by decide +kernel
theorem dX10_rings_23 : decode cX10_rings 23 = .ok (.goto (-16), 3) := by decide +kernel
theorem dX10_rings_26 : decode cX10_rings 26 = .ok (.iconst 1, 1) := by decide +kernel
theorem dX10_rings_27 : decode cX10_rings 27 = .ok (.istore_n 1, 1) := by decide +kernel
theorem dX10_rings_28 : decode cX10_rings 28 = .ok (.iload_n 1, 1) := by decide +kernel
theorem dX10_rings_29 : decode cX10_rings 29 = .ok (.ifCond .eq 115, 3) := by decide +kernel
theorem dX10_rings_32 : decode cX10_rings 32 = .ok (.iconst 0, 1) := by decide +kernel
theorem dX10_rings_33 : decode cX10_rings 33 = .ok (.istore_n 1, 1) := by decide +kernel
theorem dX10_rings_34 : decode cX10_rings 34 = .ok (.iconst 0, 1) := by decide +kernel
theorem dX10_rings_35 : decode cX10_rings 35 = .ok (.istore_n 2, 1) := by decide +kernel
theorem dX10_rings_36 : decode cX10_rings 36 = .ok (.iload_n 2, 1) := by decide +kernel
theorem dX10_rings_37 : decode cX10_rings 37 = .ok (.aload_n 0, 1) := by decide +kernel
theorem dX10_rings_38 : decode cX10_rings 38 = .ok (.getfield 145, 3) := by decide +kernel
theorem dX10_rings_41 : decode cX10_rings 41 = .ok (.if_icmp .ge 100, 3) := by decide +kernel
theorem dX10_rings_44 : decode cX10_rings 44 = .ok (.iconst 0, 1) := by decide +kernel
theorem dX10_rings_45 : decode cX10_rings 45 = .ok (.istore_n 3, 1) := by decide +kernel
theorem dX10_rings_46 : decode cX10_rings 46 = .ok (.iload_n 3, 1) := by decide +kernel
theorem dX10_rings_47 : decode cX10_rings 47 = .ok (.sipush 256, 3) := by decide +kernel
theorem dX10_rings_50 : decode cX10_rings 50 = .ok (.if_icmp .ge 85, 3) := by decide +kernel
theorem dX10_rings_53 : decode cX10_rings 53 = .ok (.aload_n 0, 1) := by decide +kernel
theorem dX10_rings_54 : decode cX10_rings 54 = .ok (.iload_n 2, 1) := by decide +kernel
theorem dX10_rings_55 : decode cX10_rings 55 = .ok (.iload_n 3, 1) := by decide +kernel
theorem dX10_rings_56 : decode cX10_rings 56 = .ok (.invokevirtual 196, 3) := by decide +kernel
theorem dX10_rings_59 : decode cX10_rings 59 = .ok (.ifCond .eq 70, 3) := by decide +kernel
theorem dX10_rings_62 : decode cX10_rings 62 = .ok (.aload_n 0, 1) := by decide +kernel
theorem dX10_rings_63 : decode cX10_rings 63 = .ok (.iload_n 2, 1) := by decide +kernel
theorem dX10_rings_64 : decode cX10_rings 64 = .ok (.invokevirtual 199, 3) := by decide +kernel
theorem dX10_rings_67 : decode cX10_rings 67 = .ok (.ifCond .eq 8, 3) := by decide +kernel
theorem dX10_rings_70 : decode cX10_rings 70 = .ok (.aload_n 0, 1) := by decide +kernel
theorem dX10_rings_71 : decode cX10_rings 71 = .ok (.iconst 1, 1) := by decide +kernel
theorem dX10_rings_72 : decode cX10_rings 72 = .ok (.putfield 193, 3) := by decide +kernel
theorem dX10_rings_75 : decode cX10_rings 75 = .ok (.iconst 4, 1) := by decide +kernel
theorem dX10_rings_76 : decode cX10_rings 76 = .ok (.aload_n 0, 1) := by decide +kernel
theorem dX10_rings_77 : decode cX10_rings 77 = .ok (.getfield 7, 3) := by decide +kernel
theorem dX10_rings_80 : decode cX10_rings 80 = .ok (.iload_n 2, 1) := by decide +kernel
theorem dX10_rings_81 : decode cX10_rings 81 = .ok (.iaload, 1) := by decide +kernel
theorem dX10_rings_82 : decode cX10_rings 82 = .ok (.imul, 1) := by decide +kernel
theorem dX10_rings_83 : decode cX10_rings 83 = .ok (.aload_n 0, 1) := by decide +kernel
theorem dX10_rings_84 : decode cX10_rings 84 = .ok (.getfield 65, 3) := by decide +kernel
theorem dX10_rings_87 : decode cX10_rings 87 = .ok (.iconst 0, 1) := by decide +kernel
theorem dX10_rings_88 : decode cX10_rings 88 = .ok (.iaload, 1) := by decide +kernel
theorem dX10_rings_89 : decode cX10_rings 89 = .ok (.iconst 2, 1) := by decide +kernel
theorem dX10_rings_90 : decode cX10_rings 90 = .ok (.ishr, 1) := by decide +kernel
theorem dX10_rings_91 : decode cX10_rings 91 = .ok (.iconst 1, 1) := by decide +kernel
theorem dX10_rings_92 : decode cX10_rings 92 = .ok (.iand, 1) := by decide +kernel
theorem dX10_rings_93 : decode cX10_rings 93 = .ok (.iadd, 1) := by decide +kernel
theorem dX10_rings_94 : decode cX10_rings 94 = .ok (.iconst 2, 1) := by decide +kernel
theorem dX10_rings_95 : decode cX10_rings 95 = .ok (.aload_n 0, 1) := by decide +kernel
theorem dX10_rings_96 : decode cX10_rings 96 = .ok (.getfield 65, 3) := by decide +kernel
theorem dX10_rings_99 : decode cX10_rings 99 = .ok (.iconst 1, 1) := by decide +kernel
theorem dX10_rings_100 : decode cX10_rings 100 = .ok (.iaload, 1) := by decide +kernel
theorem dX10_rings_101 : decode cX10_rings 101 = .ok (.iconst 2, 1) := by decide +kernel
theorem dX10_rings_102 : decode cX10_rings 102 = .ok (.ishr, 1) := by decide +kernel
theorem dX10_rings_103 : decode cX10_rings 103 = .ok (.iconst 1, 1) := by decide +kernel
theorem dX10_rings_104 : decode cX10_rings 104 = .ok (.iand, 1) := by decide +kernel
theorem dX10_rings_105 : decode cX10_rings 105 = .ok (.imul, 1) := by decide +kernel
theorem dX10_rings_106 : decode cX10_rings 106 = .ok (.iadd, 1) := by decide +kernel
theorem dX10_rings_107 : decode cX10_rings 107 = .ok (.istore 4, 2) := by decide +kernel
theorem dX10_rings_109 : decode cX10_rings 109 = .ok (.aload_n 0, 1) := by decide +kernel
theorem dX10_rings_110 : decode cX10_rings 110 = .ok (.getfield 62, 3) := by decide +kernel
theorem dX10_rings_113 : decode cX10_rings 113 = .ok (.iload 4, 2) := by decide +kernel
theorem dX10_rings_115 : decode cX10_rings 115 = .ok (.baload, 1) := by decide +kernel
theorem dX10_rings_116 : decode cX10_rings 116 = .ok (.ifCond .ne 5, 3) := by decide +kernel
theorem dX10_rings_119 : decode cX10_rings 119 = .ok (.iconst 1, 1) := by decide +kernel
theorem dX10_rings_120 : decode cX10_rings 120 = .ok (.istore_n 1, 1) := by decide +kernel
theorem dX10_rings_121 : decode cX10_rings 121 = .ok (.aload_n 0, 1) := by decide +kernel
theorem dX10_rings_122 : decode cX10_rings 122 = .ok (.getfield 62, 3) := by decide +kernel
theorem dX10_rings_125 : decode cX10_rings 125 = .ok (.iload 4, 2) := by decide +kernel
theorem dX10_rings_127 : decode cX10_rings 127 = .ok (.iconst 1, 1) := by decide +kernel
theorem dX10_rings_128 : decode cX10_rings 128 = .ok (.bastore, 1) := by decide +kernel
theorem dX10_rings_129 : decode cX10_rings 129 = .ok (.iinc 3 1, 3) := by decide +kernel
theorem dX10_rings_132 : decode cX10_rings 132 = .ok (.goto (-86), 3) := by decide +kernel
theorem dX10_rings_135 : decode cX10_rings 135 = .ok (.iinc 2 1, 3) := by decide +kernel
theorem dX10_rings_138 : decode cX10_rings 138 = .ok (.goto (-102), 3) := by decide +kernel
theorem dX10_rings_141 : decode cX10_rings 141 = .ok (.goto (-113), 3) := by decide +kernel
theorem dX10_rings_144 : decode cX10_rings 144 = .ok (.return_, 1) := by decide +kernel
theorem dX10_build_0 : decode cX10_build 0 = .ok (.aload_n 0, 1) := by decide +kernel
theorem dX10_build_1 : decode cX10_build 1 = .ok (.iconst 0, 1) := by decide +kernel
theorem dX10_build_2 : decode cX10_build 2 = .ok (.putfield 148, 3) := by decide +kernel
theorem dX10_build_5 : decode cX10_build 5 = .ok (.aload_n 0, 1) := by decide +kernel
theorem dX10_build_6 : decode cX10_build 6 = .ok (.aload_n 0, 1) := by decide +kernel
theorem dX10_build_7 : decode cX10_build 7 = .ok (.getfield 145, 3) := by decide +kernel
theorem dX10_build_10 : decode cX10_build 10 = .ok (.ifCond .le 7, 3) := by decide +kernel
theorem dX10_build_13 : decode cX10_build 13 = .ok (.iconst 1, 1) := by decide +kernel
theorem dX10_build_14 : decode cX10_build 14 = .ok (.goto 4, 3) := by decide +kernel
theorem dX10_build_17 : decode cX10_build 17 = .ok (.iconst 0, 1) := by decide +kernel
theorem dX10_build_18 : decode cX10_build 18 = .ok (.iconst 1, 1) := by decide +kernel
theorem dX10_build_19 : decode cX10_build 19 = .ok (.invokevirtual 141, 3) := by decide +kernel
theorem dX10_build_22 : decode cX10_build 22 = .ok (.ifCond .ne 5, 3) := by decide +kernel
theorem dX10_build_25 : decode cX10_build 25 = .ok (.iconst 0, 1) := by decide +kernel
theorem dX10_build_26 : decode cX10_build 26 = .ok (.ireturn, 1) := by decide +kernel
theorem dX10_build_27 : decode cX10_build 27 = .ok (.aload_n 0, 1) := by decide +kernel
theorem dX10_build_28 : decode cX10_build 28 = .ok (.getfield 7, 3) := by decide +kernel
theorem dX10_build_31 : decode cX10_build 31 = .ok (.bipush 14, 2) := by decide +kernel
theorem dX10_build_33 : decode cX10_build 33 = .ok (.bipush 7, 2) := by decide +kernel
theorem dX10_build_35 : decode cX10_build 35 = .ok (.iastore, 1) := by decide +kernel
theorem dX10_build_36 : decode cX10_build 36 = .ok (.aload_n 0, 1) := by decide +kernel
theorem dX10_build_37 : decode cX10_build 37 = .ok (.getfield 13, 3) := by decide +kernel
theorem dX10_build_40 : decode cX10_build 40 = .ok (.bipush 56, 2) := by decide +kernel
theorem dX10_build_42 : decode cX10_build 42 = .ok (.aload_n 0, 1) := by decide +kernel
theorem dX10_build_43 : decode cX10_build 43 = .ok (.getfield 7, 3) := by decide +kernel
theorem dX10_build_46 : decode cX10_build 46 = .ok (.iconst 0, 1) := by decide +kernel
theorem dX10_build_47 : decode cX10_build 47 = .ok (.iaload, 1) := by decide +kernel
theorem dX10_build_48 : decode cX10_build 48 = .ok (.iastore, 1) := by decide +kernel
theorem dX10_build_49 : decode cX10_build 49 = .ok (.aload_n 0, 1) := by decide +kernel
theorem dX10_build_50 : decode cX10_build 50 = .ok (.getfield 16, 3) := by decide +kernel
theorem dX10_build_53 : decode cX10_build 53 = .ok (.bipush 14, 2) := by decide +kernel
theorem dX10_build_55 : decode cX10_build 55 = .ok (.iconst 1, 1) := by decide +kernel
theorem dX10_build_56 : decode cX10_build 56 = .ok (.iastore, 1) := by decide +kernel
theorem dX10_build_57 : decode cX10_build 57 = .ok (.aload_n 0, 1) := by decide +kernel
theorem dX10_build_58 : decode cX10_build 58 = .ok (.aload_n 0, 1) := by decide +kernel
theorem dX10_build_59 : decode cX10_build 59 = .ok (.invokevirtual 202, 3) := by decide +kernel
theorem dX10_build_62 : decode cX10_build 62 = .ok (.iconst 2, 1) := by decide +kernel
theorem dX10_build_63 : decode cX10_build 63 = .ok (.invokevirtual 141, 3) := by decide +kernel
theorem dX10_build_66 : decode cX10_build 66 = .ok (.ifCond .ne 5, 3) := by decide +kernel
theorem dX10_build_69 : decode cX10_build 69 = .ok (.iconst 0, 1) := by decide +kernel
theorem dX10_build_70 : decode cX10_build 70 = .ok (.ireturn, 1) := by decide +kernel
theorem dX10_build_71 : decode cX10_build 71 = .ok (.aload_n 0, 1) := by decide +kernel
theorem dX10_build_72 : decode cX10_build 72 = .ok (.invokevirtual 163, 3) := by decide +kernel
theorem dX10_build_75 : decode cX10_build 75 = .ok (.aload_n 0, 1) := by decide +kernel
theorem dX10_build_76 : decode cX10_build 76 = .ok (.invokevirtual 206, 3) := by decide +kernel
theorem dX10_build_79 : decode cX10_build 79 = .ok (.aload_n 0, 1) := by decide +kernel
theorem dX10_build_80 : decode cX10_build 80 = .ok (.invokevirtual 209, 3) := by decide +kernel
theorem dX10_build_83 : decode cX10_build 83 = .ok (.aload_n 0, 1) := by decide +kernel
theorem dX10_build_84 : decode cX10_build 84 = .ok (.invokevirtual 212, 3) := by decide +kernel
theorem dX10_build_87 : decode cX10_build 87 = .ok (.aload_n 0, 1) := by decide +kernel
theorem dX10_build_88 : decode cX10_build 88 = .ok (.iconst 0, 1) := by decide +kernel
theorem dX10_build_89 : decode cX10_build 89 = .ok (.putfield 215, 3) := by decide +kernel
theorem dX10_build_92 : decode cX10_build 92 = .ok (.iconst 0, 1) := by decide +kernel
theorem dX10_build_93 : decode cX10_build 93 = .ok (.istore_n 1, 1) := by decide +kernel
theorem dX10_build_94 : decode cX10_build 94 = .ok (.iload_n 1, 1) := by decide +kernel
theorem dX10_build_95 : decode cX10_build 95 = .ok (.bipush 7, 2) := by decide +kernel
theorem dX10_build_97 : decode cX10_build 97 = .ok (.aload_n 0, 1) := by decide +kernel
theorem dX10_build_98 : decode cX10_build 98 = .ok (.getfield 170, 3) := by decide +kernel
theorem dX10_build_101 : decode cX10_build 101 = .ok (.imul, 1) := by decide +kernel
theorem dX10_build_102 : decode cX10_build 102 = .ok (.if_icmp .ge 49, 3) := by decide +kernel
theorem dX10_build_105 : decode cX10_build 105 = .ok (.aload_n 0, 1) := by decide +kernel
theorem dX10_build_106 : decode cX10_build 106 = .ok (.getfield 59, 3) := by decide +kernel
theorem dX10_build_109 : decode cX10_build 109 = .ok (.iload_n 1, 1) := by decide +kernel
theorem dX10_build_110 : decode cX10_build 110 = .ok (.aload_n 0, 1) := by decide +kernel
theorem dX10_build_111 : decode cX10_build 111 = .ok (.iload_n 1, 1) := by decide +kernel
theorem dX10_build_112 : decode cX10_build 112 = .ok (.bipush 7, 2) := by decide +kernel
theorem dX10_build_114 : decode cX10_build 114 = .ok (.idiv, 1) := by decide +kernel
theorem dX10_build_115 : decode cX10_build 115 = .ok (.iload_n 1, 1) := by decide +kernel
theorem dX10_build_116 : decode cX10_build 116 = .ok (.bipush 7, 2) := by decide +kernel
theorem dX10_build_118 : decode cX10_build 118 = .ok (.irem, 1) := by decide +kernel
theorem dX10_build_119 : decode cX10_build 119 = .ok (.invokevirtual 218, 3) := by decide +kernel
theorem dX10_build_122 : decode cX10_build 122 = .ok (.iastore, 1) := by decide +kernel
theorem dX10_build_123 : decode cX10_build 123 = .ok (.aload_n 0, 1) := by decide +kernel
theorem dX10_build_124 : decode cX10_build 124 = .ok (.getfield 59, 3) := by decide +kernel
theorem dX10_build_127 : decode cX10_build 127 = .ok (.iload_n 1, 1) := by decide +kernel
theorem dX10_build_128 : decode cX10_build 128 = .ok (.iaload, 1) := by decide +kernel
theorem dX10_build_129 : decode cX10_build 129 = .ok (.sipush 1001, 3) := by decide +kernel
theorem dX10_build_132 : decode cX10_build 132 = .ok (.if_icmp .ne 13, 3) := by decide +kernel
theorem dX10_build_135 : decode cX10_build 135 = .ok (.aload_n 0, 1) := by decide +kernel
theorem dX10_build_136 : decode cX10_build 136 = .ok (.dup, 1) := by decide +kernel
theorem dX10_build_137 : decode cX10_build 137 = .ok (.getfield 215, 3) := by decide +kernel
theorem dX10_build_140 : decode cX10_build 140 = .ok (.iconst 1, 1) := by decide +kernel
theorem dX10_build_141 : decode cX10_build 141 = .ok (.iadd, 1) := by decide +kernel
theorem dX10_build_142 : decode cX10_build 142 = .ok (.putfield 215, 3) := by decide +kernel
theorem dX10_build_145 : decode cX10_build 145 = .ok (.iinc 1 1, 3) := by decide +kernel
theorem dX10_build_148 : decode cX10_build 148 = .ok (.goto (-54), 3) := by decide +kernel
theorem dX10_build_151 : decode cX10_build 151 = .ok (.aload_n 0, 1) := by decide +kernel
theorem dX10_build_152 : decode cX10_build 152 = .ok (.invokevirtual 221, 3) := by decide +kernel
theorem dX10_build_155 : decode cX10_build 155 = .ok (.aload_n 0, 1) := by decide +kernel
theorem dX10_build_156 : decode cX10_build 156 = .ok (.iconst 1, 1) := by decide +kernel
theorem dX10_build_157 : decode cX10_build 157 = .ok (.putfield 148, 3) := by decide +kernel
theorem dX10_build_160 : decode cX10_build 160 = .ok (.aload_n 0, 1) := by decide +kernel
theorem dX10_build_161 : decode cX10_build 161 = .ok (.getfield 170, 3) := by decide +kernel
theorem dX10_build_164 : decode cX10_build 164 = .ok (.ireturn, 1) := by decide +kernel
theorem dX10_action_0 : decode cX10_action 0 = .ok (.aload_n 0, 1) := by decide +kernel
theorem dX10_action_1 : decode cX10_action 1 = .ok (.aload_n 0, 1) := by decide +kernel
theorem dX10_action_2 : decode cX10_action 2 = .ok (.getfield 148, 3) := by decide +kernel
theorem dX10_action_5 : decode cX10_action 5 = .ok (.iconst 1, 1) := by decide +kernel
theorem dX10_action_6 : decode cX10_action 6 = .ok (.invokevirtual 141, 3) := by decide +kernel
theorem dX10_action_9 : decode cX10_action 9 = .ok (.ifCond .eq 40, 3) := by decide +kernel
theorem dX10_action_12 : decode cX10_action 12 = .ok (.aload_n 0, 1) := by decide +kernel
theorem dX10_action_13 : decode cX10_action 13 = .ok (.iload_n 1, 1) := by decide +kernel
theorem dX10_action_14 : decode cX10_action 14 = .ok (.iconst 0, 1) := by decide +kernel
theorem dX10_action_15 : decode cX10_action 15 = .ok (.aload_n 0, 1) := by decide +kernel
theorem dX10_action_16 : decode cX10_action 16 = .ok (.getfield 170, 3) := by decide +kernel
theorem dX10_action_19 : decode cX10_action 19 = .ok (.iconst 1, 1) := by decide +kernel
theorem dX10_action_20 : decode cX10_action 20 = .ok (.isub, 1) := by decide +kernel
theorem dX10_action_21 : decode cX10_action 21 = .ok (.invokestatic 127, 3) := by decide +kernel
theorem dX10_action_24 : decode cX10_action 24 = .ok (.ifCond .eq 17, 3) := by decide +kernel
theorem dX10_action_27 : decode cX10_action 27 = .ok (.iload_n 2, 1) := by decide +kernel
theorem dX10_action_28 : decode cX10_action 28 = .ok (.iconst 0, 1) := by decide +kernel
theorem dX10_action_29 : decode cX10_action 29 = .ok (.bipush 6, 2) := by decide +kernel
theorem dX10_action_31 : decode cX10_action 31 = .ok (.invokestatic 127, 3) := by decide +kernel
theorem dX10_action_34 : decode cX10_action 34 = .ok (.ifCond .eq 7, 3) := by decide +kernel
theorem dX10_action_37 : decode cX10_action 37 = .ok (.iconst 1, 1) := by decide +kernel
theorem dX10_action_38 : decode cX10_action 38 = .ok (.goto 4, 3) := by decide +kernel
theorem dX10_action_41 : decode cX10_action 41 = .ok (.iconst 0, 1) := by decide +kernel
theorem dX10_action_42 : decode cX10_action 42 = .ok (.iconst 2, 1) := by decide +kernel
theorem dX10_action_43 : decode cX10_action 43 = .ok (.invokevirtual 141, 3) := by decide +kernel
theorem dX10_action_46 : decode cX10_action 46 = .ok (.ifCond .ne 5, 3) := by decide +kernel
theorem dX10_action_49 : decode cX10_action 49 = .ok (.iconst 0, 1) := by decide +kernel
theorem dX10_action_50 : decode cX10_action 50 = .ok (.ireturn, 1) := by decide +kernel
theorem dX10_action_51 : decode cX10_action 51 = .ok (.aload_n 0, 1) := by decide +kernel
theorem dX10_action_52 : decode cX10_action 52 = .ok (.getfield 59, 3) := by decide +kernel
theorem dX10_action_55 : decode cX10_action 55 = .ok (.bipush 7, 2) := by decide +kernel
theorem dX10_action_57 : decode cX10_action 57 = .ok (.iload_n 1, 1) := by decide +kernel
theorem dX10_action_58 : decode cX10_action 58 = .ok (.imul, 1) := by decide +kernel
theorem dX10_action_59 : decode cX10_action 59 = .ok (.iload_n 2, 1) := by decide +kernel
theorem dX10_action_60 : decode cX10_action 60 = .ok (.iadd, 1) := by decide +kernel
theorem dX10_action_61 : decode cX10_action 61 = .ok (.iaload, 1) := by decide +kernel
theorem dX10_action_62 : decode cX10_action 62 = .ok (.ireturn, 1) := by decide +kernel
theorem dX10_go_0 : decode cX10_go 0 = .ok (.aload_n 0, 1) := by decide +kernel
theorem dX10_go_1 : decode cX10_go 1 = .ok (.aload_n 0, 1) := by decide +kernel
theorem dX10_go_2 : decode cX10_go 2 = .ok (.getfield 148, 3) := by decide +kernel
theorem dX10_go_5 : decode cX10_go 5 = .ok (.iconst 1, 1) := by decide +kernel
theorem dX10_go_6 : decode cX10_go 6 = .ok (.invokevirtual 141, 3) := by decide +kernel
theorem dX10_go_9 : decode cX10_go 9 = .ok (.ifCond .eq 41, 3) := by decide +kernel
theorem dX10_go_12 : decode cX10_go 12 = .ok (.aload_n 0, 1) := by decide +kernel
theorem dX10_go_13 : decode cX10_go 13 = .ok (.iload_n 1, 1) := by decide +kernel
theorem dX10_go_14 : decode cX10_go 14 = .ok (.iconst 0, 1) := by decide +kernel
theorem dX10_go_15 : decode cX10_go 15 = .ok (.aload_n 0, 1) := by decide +kernel
theorem dX10_go_16 : decode cX10_go 16 = .ok (.getfield 170, 3) := by decide +kernel
theorem dX10_go_19 : decode cX10_go 19 = .ok (.iconst 1, 1) := by decide +kernel
theorem dX10_go_20 : decode cX10_go 20 = .ok (.isub, 1) := by decide +kernel
theorem dX10_go_21 : decode cX10_go 21 = .ok (.invokestatic 127, 3) := by decide +kernel
theorem dX10_go_24 : decode cX10_go 24 = .ok (.ifCond .eq 18, 3) := by decide +kernel
theorem dX10_go_27 : decode cX10_go 27 = .ok (.iload_n 2, 1) := by decide +kernel
theorem dX10_go_28 : decode cX10_go 28 = .ok (.bipush 8, 2) := by decide +kernel
theorem dX10_go_30 : decode cX10_go 30 = .ok (.bipush 13, 2) := by decide +kernel
theorem dX10_go_32 : decode cX10_go 32 = .ok (.invokestatic 127, 3) := by decide +kernel
theorem dX10_go_35 : decode cX10_go 35 = .ok (.ifCond .eq 7, 3) := by decide +kernel
theorem dX10_go_38 : decode cX10_go 38 = .ok (.iconst 1, 1) := by decide +kernel
theorem dX10_go_39 : decode cX10_go 39 = .ok (.goto 4, 3) := by decide +kernel
theorem dX10_go_42 : decode cX10_go 42 = .ok (.iconst 0, 1) := by decide +kernel
theorem dX10_go_43 : decode cX10_go 43 = .ok (.iconst 2, 1) := by decide +kernel
theorem dX10_go_44 : decode cX10_go 44 = .ok (.invokevirtual 141, 3) := by decide +kernel
theorem dX10_go_47 : decode cX10_go 47 = .ok (.ifCond .ne 5, 3) := by decide +kernel
theorem dX10_go_50 : decode cX10_go 50 = .ok (.iconst 0, 1) := by decide +kernel
theorem dX10_go_51 : decode cX10_go 51 = .ok (.ireturn, 1) := by decide +kernel
theorem dX10_go_52 : decode cX10_go 52 = .ok (.aload_n 0, 1) := by decide +kernel
theorem dX10_go_53 : decode cX10_go 53 = .ok (.getfield 41, 3) := by decide +kernel
theorem dX10_go_56 : decode cX10_go 56 = .ok (.bipush 14, 2) := by decide +kernel
theorem dX10_go_58 : decode cX10_go 58 = .ok (.iload_n 1, 1) := by decide +kernel
theorem dX10_go_59 : decode cX10_go 59 = .ok (.imul, 1) := by decide +kernel
theorem dX10_go_60 : decode cX10_go 60 = .ok (.iload_n 2, 1) := by decide +kernel
theorem dX10_go_61 : decode cX10_go 61 = .ok (.iadd, 1) := by decide +kernel
theorem dX10_go_62 : decode cX10_go 62 = .ok (.iaload, 1) := by decide +kernel
theorem dX10_go_63 : decode cX10_go 63 = .ok (.ireturn, 1) := by decide +kernel
theorem dX10_lookaheads_0 : decode cX10_lookaheads 0 = .ok (.aload_n 0, 1) := by decide +kernel
theorem dX10_lookaheads_1 : decode cX10_lookaheads 1 = .ok (.aload_n 0, 1) := by decide +kernel
theorem dX10_lookaheads_2 : decode cX10_lookaheads 2 = .ok (.getfield 148, 3) := by decide +kernel
theorem dX10_lookaheads_5 : decode cX10_lookaheads 5 = .ok (.iconst 1, 1) := by decide +kernel
theorem dX10_lookaheads_6 : decode cX10_lookaheads 6 = .ok (.invokevirtual 141, 3) := by decide +kernel
theorem dX10_lookaheads_9 : decode cX10_lookaheads 9 = .ok (.ifCond .eq 22, 3) := by decide +kernel
theorem dX10_lookaheads_12 : decode cX10_lookaheads 12 = .ok (.aload_n 0, 1) := by decide +kernel
theorem dX10_lookaheads_13 : decode cX10_lookaheads 13 = .ok (.iload_n 1, 1) := by decide +kernel
theorem dX10_lookaheads_14 : decode cX10_lookaheads 14 = .ok (.iconst 0, 1) := by decide +kernel
theorem dX10_lookaheads_15 : decode cX10_lookaheads 15 = .ok (.aload_n 0, 1) := by decide +kernel
theorem dX10_lookaheads_16 : decode cX10_lookaheads 16 = .ok (.getfield 170, 3) := by decide +kernel
theorem dX10_lookaheads_19 : decode cX10_lookaheads 19 = .ok (.iconst 1, 1) := by decide +kernel
theorem dX10_lookaheads_20 : decode cX10_lookaheads 20 = .ok (.isub, 1) := by decide +kernel
theorem dX10_lookaheads_21 : decode cX10_lookaheads 21 = .ok (.invokestatic 127, 3) := by decide +kernel
theorem dX10_lookaheads_24 : decode cX10_lookaheads 24 = .ok (.iconst 2, 1) := by decide +kernel
theorem dX10_lookaheads_25 : decode cX10_lookaheads 25 = .ok (.invokevirtual 141, 3) := by decide +kernel
theorem dX10_lookaheads_28 : decode cX10_lookaheads 28 = .ok (.ifCond .ne 5, 3) := by decide +kernel
theorem dX10_lookaheads_31 : decode cX10_lookaheads 31 = .ok (.iconst 0, 1) := by decide +kernel
theorem dX10_lookaheads_32 : decode cX10_lookaheads 32 = .ok (.ireturn, 1) := by decide +kernel
theorem dX10_lookaheads_33 : decode cX10_lookaheads 33 = .ok (.aload_n 0, 1) := by decide +kernel
theorem dX10_lookaheads_34 : decode cX10_lookaheads 34 = .ok (.iload_n 2, 1) := by decide +kernel
theorem dX10_lookaheads_35 : decode cX10_lookaheads 35 = .ok (.iconst 0, 1) := by decide +kernel
theorem dX10_lookaheads_36 : decode cX10_lookaheads 36 = .ok (.aload_n 0, 1) := by decide +kernel
theorem dX10_lookaheads_37 : decode cX10_lookaheads 37 = .ok (.getfield 145, 3) := by decide +kernel
theorem dX10_lookaheads_40 : decode cX10_lookaheads 40 = .ok (.iconst 1, 1) := by decide +kernel
theorem dX10_lookaheads_41 : decode cX10_lookaheads 41 = .ok (.isub, 1) := by decide +kernel
theorem dX10_lookaheads_42 : decode cX10_lookaheads 42 = .ok (.invokestatic 127, 3) := by decide +kernel
theorem dX10_lookaheads_45 : decode cX10_lookaheads 45 = .ok (.ifCond .eq 30, 3) := by decide +kernel
theorem dX10_lookaheads_48 : decode cX10_lookaheads 48 = .ok (.aload_n 0, 1) := by decide +kernel
theorem dX10_lookaheads_49 : decode cX10_lookaheads 49 = .ok (.getfield 34, 3) := by decide +kernel
theorem dX10_lookaheads_52 : decode cX10_lookaheads 52 = .ok (.bipush 75, 2) := by decide +kernel
theorem dX10_lookaheads_54 : decode cX10_lookaheads 54 = .ok (.iload_n 1, 1) := by decide +kernel
theorem dX10_lookaheads_55 : decode cX10_lookaheads 55 = .ok (.imul, 1) := by decide +kernel
theorem dX10_lookaheads_56 : decode cX10_lookaheads 56 = .ok (.iconst 5, 1) := by decide +kernel
theorem dX10_lookaheads_57 : decode cX10_lookaheads 57 = .ok (.iload_n 2, 1) := by decide +kernel
theorem dX10_lookaheads_58 : decode cX10_lookaheads 58 = .ok (.imul, 1) := by decide +kernel
theorem dX10_lookaheads_59 : decode cX10_lookaheads 59 = .ok (.iadd, 1) := by decide +kernel
theorem dX10_lookaheads_60 : decode cX10_lookaheads 60 = .ok (.aload_n 0, 1) := by decide +kernel
theorem dX10_lookaheads_61 : decode cX10_lookaheads 61 = .ok (.getfield 16, 3) := by decide +kernel
theorem dX10_lookaheads_64 : decode cX10_lookaheads 64 = .ok (.iload_n 2, 1) := by decide +kernel
theorem dX10_lookaheads_65 : decode cX10_lookaheads 65 = .ok (.iaload, 1) := by decide +kernel
theorem dX10_lookaheads_66 : decode cX10_lookaheads 66 = .ok (.iadd, 1) := by decide +kernel
theorem dX10_lookaheads_67 : decode cX10_lookaheads 67 = .ok (.baload, 1) := by decide +kernel
theorem dX10_lookaheads_68 : decode cX10_lookaheads 68 = .ok (.ifCond .eq 7, 3) := by decide +kernel
theorem dX10_lookaheads_71 : decode cX10_lookaheads 71 = .ok (.iconst 1, 1) := by decide +kernel
theorem dX10_lookaheads_72 : decode cX10_lookaheads 72 = .ok (.goto 4, 3) := by decide +kernel
theorem dX10_lookaheads_75 : decode cX10_lookaheads 75 = .ok (.iconst 0, 1) := by decide +kernel
theorem dX10_lookaheads_76 : decode cX10_lookaheads 76 = .ok (.iconst 3, 1) := by decide +kernel
theorem dX10_lookaheads_77 : decode cX10_lookaheads 77 = .ok (.invokevirtual 141, 3) := by decide +kernel
theorem dX10_lookaheads_80 : decode cX10_lookaheads 80 = .ok (.ifCond .ne 5, 3) := by decide +kernel
theorem dX10_lookaheads_83 : decode cX10_lookaheads 83 = .ok (.iconst 0, 1) := by decide +kernel
theorem dX10_lookaheads_84 : decode cX10_lookaheads 84 = .ok (.ireturn, 1) := by decide +kernel
theorem dX10_lookaheads_85 : decode cX10_lookaheads 85 = .ok (.aload_n 0, 1) := by decide +kernel
theorem dX10_lookaheads_86 : decode cX10_lookaheads 86 = .ok (.getfield 56, 3) := by decide +kernel
theorem dX10_lookaheads_89 : decode cX10_lookaheads 89 = .ok (.bipush 14, 2) := by decide +kernel
theorem dX10_lookaheads_91 : decode cX10_lookaheads 91 = .ok (.iload_n 1, 1) := by decide +kernel
theorem dX10_lookaheads_92 : decode cX10_lookaheads 92 = .ok (.imul, 1) := by decide +kernel
theorem dX10_lookaheads_93 : decode cX10_lookaheads 93 = .ok (.iload_n 2, 1) := by decide +kernel
theorem dX10_lookaheads_94 : decode cX10_lookaheads 94 = .ok (.iadd, 1) := by decide +kernel
theorem dX10_lookaheads_95 : decode cX10_lookaheads 95 = .ok (.iaload, 1) := by decide +kernel
theorem dX10_lookaheads_96 : decode cX10_lookaheads 96 = .ok (.ireturn, 1) := by decide +kernel
theorem dX10_token_0 : decode cX10_token 0 = .ok (.aload_n 0, 1) := by decide +kernel
theorem dX10_token_1 : decode cX10_token 1 = .ok (.iload_n 1, 1) := by decide +kernel
theorem dX10_token_2 : decode cX10_token 2 = .ok (.iconst 1, 1) := by decide +kernel
theorem dX10_token_3 : decode cX10_token 3 = .ok (.bipush 6, 2) := by decide +kernel
theorem dX10_token_5 : decode cX10_token 5 = .ok (.invokestatic 127, 3) := by decide +kernel
theorem dX10_token_8 : decode cX10_token 8 = .ok (.iconst 1, 1) := by decide +kernel
theorem dX10_token_9 : decode cX10_token 9 = .ok (.invokevirtual 141, 3) := by decide +kernel
theorem dX10_token_12 : decode cX10_token 12 = .ok (.ifCond .eq 25, 3) := by decide +kernel
theorem dX10_token_15 : decode cX10_token 15 = .ok (.aload_n 0, 1) := by decide +kernel
theorem dX10_token_16 : decode cX10_token 16 = .ok (.aload_n 0, 1) := by decide +kernel
theorem dX10_token_17 : decode cX10_token 17 = .ok (.getfield 224, 3) := by decide +kernel
theorem dX10_token_20 : decode cX10_token 20 = .ok (.bipush 40, 2) := by decide +kernel
theorem dX10_token_22 : decode cX10_token 22 = .ok (.if_icmp .ge 7, 3) := by decide +kernel
theorem dX10_token_25 : decode cX10_token 25 = .ok (.iconst 1, 1) := by decide +kernel
theorem dX10_token_26 : decode cX10_token 26 = .ok (.goto 4, 3) := by decide +kernel
theorem dX10_token_29 : decode cX10_token 29 = .ok (.iconst 0, 1) := by decide +kernel
theorem dX10_token_30 : decode cX10_token 30 = .ok (.iconst 2, 1) := by decide +kernel
theorem dX10_token_31 : decode cX10_token 31 = .ok (.invokevirtual 141, 3) := by decide +kernel
theorem dX10_token_34 : decode cX10_token 34 = .ok (.ifCond .ne 5, 3) := by decide +kernel
theorem dX10_token_37 : decode cX10_token 37 = .ok (.iconst 0, 1) := by decide +kernel
theorem dX10_token_38 : decode cX10_token 38 = .ok (.ireturn, 1) := by decide +kernel
theorem dX10_token_39 : decode cX10_token 39 = .ok (.aload_n 0, 1) := by decide +kernel
theorem dX10_token_40 : decode cX10_token 40 = .ok (.getfield 71, 3) := by decide +kernel
theorem dX10_token_43 : decode cX10_token 43 = .ok (.aload_n 0, 1) := by decide +kernel
theorem dX10_token_44 : decode cX10_token 44 = .ok (.getfield 224, 3) := by decide +kernel
theorem dX10_token_47 : decode cX10_token 47 = .ok (.iload_n 1, 1) := by decide +kernel
theorem dX10_token_48 : decode cX10_token 48 = .ok (.iastore, 1) := by decide +kernel
theorem dX10_token_49 : decode cX10_token 49 = .ok (.aload_n 0, 1) := by decide +kernel
theorem dX10_token_50 : decode cX10_token 50 = .ok (.getfield 74, 3) := by decide +kernel
theorem dX10_token_53 : decode cX10_token 53 = .ok (.aload_n 0, 1) := by decide +kernel
theorem dX10_token_54 : decode cX10_token 54 = .ok (.getfield 224, 3) := by decide +kernel
theorem dX10_token_57 : decode cX10_token 57 = .ok (.iload_n 2, 1) := by decide +kernel
theorem dX10_token_58 : decode cX10_token 58 = .ok (.iastore, 1) := by decide +kernel
theorem dX10_token_59 : decode cX10_token 59 = .ok (.aload_n 0, 1) := by decide +kernel
theorem dX10_token_60 : decode cX10_token 60 = .ok (.dup, 1) := by decide +kernel
theorem dX10_token_61 : decode cX10_token 61 = .ok (.getfield 224, 3) := by decide +kernel
theorem dX10_token_64 : decode cX10_token 64 = .ok (.iconst 1, 1) := by decide +kernel
theorem dX10_token_65 : decode cX10_token 65 = .ok (.iadd, 1) := by decide +kernel
theorem dX10_token_66 : decode cX10_token 66 = .ok (.putfield 224, 3) := by decide +kernel
theorem dX10_token_69 : decode cX10_token 69 = .ok (.aload_n 0, 1) := by decide +kernel
theorem dX10_token_70 : decode cX10_token 70 = .ok (.getfield 224, 3) := by decide +kernel
theorem dX10_token_73 : decode cX10_token 73 = .ok (.ireturn, 1) := by decide +kernel
theorem dX10_make_0 : decode cX10_make 0 = .ok (.aload_n 0, 1) := by decide +kernel
theorem dX10_make_1 : decode cX10_make 1 = .ok (.getfield 83, 3) := by decide +kernel
theorem dX10_make_4 : decode cX10_make 4 = .ok (.aload_n 0, 1) := by decide +kernel
theorem dX10_make_5 : decode cX10_make 5 = .ok (.getfield 227, 3) := by decide +kernel
theorem dX10_make_8 : decode cX10_make 8 = .ok (.iload_n 1, 1) := by decide +kernel
theorem dX10_make_9 : decode cX10_make 9 = .ok (.iastore, 1) := by decide +kernel
theorem dX10_make_10 : decode cX10_make 10 = .ok (.aload_n 0, 1) := by decide +kernel
theorem dX10_make_11 : decode cX10_make 11 = .ok (.getfield 86, 3) := by decide +kernel
theorem dX10_make_14 : decode cX10_make 14 = .ok (.aload_n 0, 1) := by decide +kernel
theorem dX10_make_15 : decode cX10_make 15 = .ok (.getfield 227, 3) := by decide +kernel
theorem dX10_make_18 : decode cX10_make 18 = .ok (.iload_n 2, 1) := by decide +kernel
theorem dX10_make_19 : decode cX10_make 19 = .ok (.iastore, 1) := by decide +kernel
theorem dX10_make_20 : decode cX10_make 20 = .ok (.aload_n 0, 1) := by decide +kernel
theorem dX10_make_21 : decode cX10_make 21 = .ok (.getfield 95, 3) := by decide +kernel
theorem dX10_make_24 : decode cX10_make 24 = .ok (.aload_n 0, 1) := by decide +kernel
theorem dX10_make_25 : decode cX10_make 25 = .ok (.getfield 227, 3) := by decide +kernel
theorem dX10_make_28 : decode cX10_make 28 = .ok (.iload_n 3, 1) := by decide +kernel
theorem dX10_make_29 : decode cX10_make 29 = .ok (.iastore, 1) := by decide +kernel
theorem dX10_make_30 : decode cX10_make 30 = .ok (.aload_n 0, 1) := by decide +kernel
theorem dX10_make_31 : decode cX10_make 31 = .ok (.getfield 89, 3) := by decide +kernel
theorem dX10_make_34 : decode cX10_make 34 = .ok (.aload_n 0, 1) := by decide +kernel
theorem dX10_make_35 : decode cX10_make 35 = .ok (.getfield 227, 3) := by decide +kernel
theorem dX10_make_38 : decode cX10_make 38 = .ok (.iconst (-1), 1) := by decide +kernel
theorem dX10_make_39 : decode cX10_make 39 = .ok (.iastore, 1) := by decide +kernel
theorem dX10_make_40 : decode cX10_make 40 = .ok (.aload_n 0, 1) := by decide +kernel
theorem dX10_make_41 : decode cX10_make 41 = .ok (.getfield 92, 3) := by decide +kernel
theorem dX10_make_44 : decode cX10_make 44 = .ok (.aload_n 0, 1) := by decide +kernel
theorem dX10_make_45 : decode cX10_make 45 = .ok (.getfield 227, 3) := by decide +kernel
theorem dX10_make_48 : decode cX10_make 48 = .ok (.iconst 0, 1) := by decide +kernel
theorem dX10_make_49 : decode cX10_make 49 = .ok (.iastore, 1) := by decide +kernel
theorem dX10_make_50 : decode cX10_make 50 = .ok (.aload_n 0, 1) := by decide +kernel
theorem dX10_make_51 : decode cX10_make 51 = .ok (.dup, 1) := by decide +kernel
theorem dX10_make_52 : decode cX10_make 52 = .ok (.getfield 227, 3) := by decide +kernel
theorem dX10_make_55 : decode cX10_make 55 = .ok (.iconst 1, 1) := by decide +kernel
theorem dX10_make_56 : decode cX10_make 56 = .ok (.iadd, 1) := by decide +kernel
theorem dX10_make_57 : decode cX10_make 57 = .ok (.putfield 227, 3) := by decide +kernel
theorem dX10_make_60 : decode cX10_make 60 = .ok (.return_, 1) := by decide +kernel
theorem dX10_shifts_0 : decode cX10_shifts 0 = .ok (.iconst 0, 1) := by decide +kernel
theorem dX10_shifts_1 : decode cX10_shifts 1 = .ok (.istore_n 1, 1) := by decide +kernel
theorem dX10_shifts_2 : decode cX10_shifts 2 = .ok (.iconst 0, 1) := by decide +kernel
theorem dX10_shifts_3 : decode cX10_shifts 3 = .ok (.istore_n 2, 1) := by decide +kernel
theorem dX10_shifts_4 : decode cX10_shifts 4 = .ok (.aload_n 0, 1) := by decide +kernel
theorem dX10_shifts_5 : decode cX10_shifts 5 = .ok (.getfield 77, 3) := by decide +kernel
theorem dX10_shifts_8 : decode cX10_shifts 8 = .ok (.iconst 0, 1) := by decide +kernel
theorem dX10_shifts_9 : decode cX10_shifts 9 = .ok (.iconst 0, 1) := by decide +kernel
theorem dX10_shifts_10 : decode cX10_shifts 10 = .ok (.iastore, 1) := by decide +kernel
theorem dX10_shifts_11 : decode cX10_shifts 11 = .ok (.aload_n 0, 1) := by decide +kernel
theorem dX10_shifts_12 : decode cX10_shifts 12 = .ok (.iconst 0, 1) := by decide +kernel
theorem dX10_shifts_13 : decode cX10_shifts 13 = .ok (.putfield 227, 3) := by decide +kernel
theorem dX10_shifts_16 : decode cX10_shifts 16 = .ok (.aload_n 0, 1) := by decide +kernel
theorem dX10_shifts_17 : decode cX10_shifts 17 = .ok (.getfield 59, 3) := by decide +kernel
theorem dX10_shifts_20 : decode cX10_shifts 20 = .ok (.bipush 7, 2) := by decide +kernel
theorem dX10_shifts_22 : decode cX10_shifts 22 = .ok (.aload_n 0, 1) := by decide +kernel
theorem dX10_shifts_23 : decode cX10_shifts 23 = .ok (.getfield 77, 3) := by decide +kernel
theorem dX10_shifts_26 : decode cX10_shifts 26 = .ok (.iload_n 1, 1) := by decide +kernel
theorem dX10_shifts_27 : decode cX10_shifts 27 = .ok (.iaload, 1) := by decide +kernel
theorem dX10_shifts_28 : decode cX10_shifts 28 = .ok (.imul, 1) := by decide +kernel
theorem dX10_shifts_29 : decode cX10_shifts 29 = .ok (.iload_n 2, 1) := by decide +kernel
theorem dX10_shifts_30 : decode cX10_shifts 30 = .ok (.aload_n 0, 1) := by decide +kernel
theorem dX10_shifts_31 : decode cX10_shifts 31 = .ok (.getfield 224, 3) := by decide +kernel
theorem dX10_shifts_34 : decode cX10_shifts 34 = .ok (.if_icmp .ge 12, 3) := by decide +kernel
theorem dX10_shifts_37 : decode cX10_shifts 37 = .ok (.aload_n 0, 1) := by decide +kernel
theorem dX10_shifts_38 : decode cX10_shifts 38 = .ok (.getfield 71, 3) := by decide +kernel
theorem dX10_shifts_41 : decode cX10_shifts 41 = .ok (.iload_n 2, 1) := by decide +kernel
theorem dX10_shifts_42 : decode cX10_shifts 42 = .ok (.iaload, 1) := by decide +kernel
theorem dX10_shifts_43 : decode cX10_shifts 43 = .ok (.goto 4, 3) := by decide +kernel
theorem dX10_shifts_46 : decode cX10_shifts 46 = .ok (.iconst 0, 1) := by decide +kernel
theorem dX10_shifts_47 : decode cX10_shifts 47 = .ok (.iadd, 1) := by decide +kernel
theorem dX10_shifts_48 : decode cX10_shifts 48 = .ok (.iaload, 1) := by decide +kernel
theorem dX10_shifts_49 : decode cX10_shifts 49 = .ok (.istore_n 3, 1) := by decide +kernel
theorem dX10_shifts_50 : decode cX10_shifts 50 = .ok (.iload_n 3, 1) := by decide +kernel
theorem dX10_shifts_51 : decode cX10_shifts 51 = .ok (.sipush 1000, 3) := by decide +kernel
theorem dX10_shifts_54 : decode cX10_shifts 54 = .ok (.if_icmp .ne 5, 3) := by decide +kernel
theorem dX10_shifts_57 : decode cX10_shifts 57 = .ok (.iconst 0, 1) := by decide +kernel
theorem dX10_shifts_58 : decode cX10_shifts 58 = .ok (.ireturn, 1) := by decide +kernel
theorem dX10_shifts_59 : decode cX10_shifts 59 = .ok (.iload_n 3, 1) := by decide +kernel
theorem dX10_shifts_60 : decode cX10_shifts 60 = .ok (.ifCond .ne 10, 3) := by decide +kernel
theorem dX10_shifts_63 : decode cX10_shifts 63 = .ok (.aload_n 0, 1) := by decide +kernel
theorem dX10_shifts_64 : decode cX10_shifts 64 = .ok (.iload_n 2, 1) := by decide +kernel
theorem dX10_shifts_65 : decode cX10_shifts 65 = .ok (.putfield 120, 3) := by decide +kernel
theorem dX10_shifts_68 : decode cX10_shifts 68 = .ok (.iconst 3, 1) := by decide +kernel
theorem dX10_shifts_69 : decode cX10_shifts 69 = .ok (.ireturn, 1) := by decide +kernel
theorem dX10_shifts_70 : decode cX10_shifts 70 = .ok (.aload_n 0, 1) := by decide +kernel
theorem dX10_shifts_71 : decode cX10_shifts 71 = .ok (.getfield 227, 3) := by decide +kernel
theorem dX10_shifts_74 : decode cX10_shifts 74 = .ok (.sipush 150, 3) := by decide +kernel
theorem dX10_shifts_77 : decode cX10_shifts 77 = .ok (.if_icmp .ne 5, 3) := by decide +kernel
theorem dX10_shifts_80 : decode cX10_shifts 80 = .ok (.iconst 2, 1) := by decide +kernel
theorem dX10_shifts_81 : decode cX10_shifts 81 = .ok (.ireturn, 1) := by decide +kernel
theorem dX10_shifts_82 : decode cX10_shifts 82 = .ok (.iload_n 3, 1) := by decide +kernel
theorem dX10_shifts_83 : decode cX10_shifts 83 = .ok (.ifCond .le 31, 3) := by decide +kernel
theorem dX10_shifts_86 : decode cX10_shifts 86 = .ok (.aload_n 0, 1) := by decide +kernel
theorem dX10_shifts_87 : decode cX10_shifts 87 = .ok (.aload_n 0, 1) := by decide +kernel
theorem dX10_shifts_88 : decode cX10_shifts 88 = .ok (.getfield 71, 3) := by decide +kernel
theorem dX10_shifts_91 : decode cX10_shifts 91 = .ok (.iload_n 2, 1) := by decide +kernel
theorem dX10_shifts_92 : decode cX10_shifts 92 = .ok (.iaload, 1) := by decide +kernel
theorem dX10_shifts_93 : decode cX10_shifts 93 = .ok (.iconst (-1), 1) := by decide +kernel
theorem dX10_shifts_94 : decode cX10_shifts 94 = .ok (.iload_n 2, 1) := by decide +kernel
theorem dX10_shifts_95 : decode cX10_shifts 95 = .ok (.invokevirtual 230, 3) := by decide +kernel
theorem dX10_shifts_98 : decode cX10_shifts 98 = .ok (.iinc 2 1, 3) := by decide +kernel
theorem dX10_shifts_101 : decode cX10_shifts 101 = .ok (.iinc 1 1, 3) := by decide +kernel
theorem dX10_shifts_104 : decode cX10_shifts 104 = .ok (.aload_n 0, 1) := by decide +kernel
theorem dX10_shifts_105 : decode cX10_shifts 105 = .ok (.getfield 77, 3) := by decide +kernel
theorem dX10_shifts_108 : decode cX10_shifts 108 = .ok (.iload_n 1, 1) := by decide +kernel
theorem dX10_shifts_109 : decode cX10_shifts 109 = .ok (.iload_n 3, 1) := by decide +kernel
theorem dX10_shifts_110 : decode cX10_shifts 110 = .ok (.iastore, 1) := by decide +kernel
theorem dX10_shifts_111 : decode cX10_shifts 111 = .ok (.goto 122, 3) := by decide +kernel
theorem dX10_shifts_114 : decode cX10_shifts 114 = .ok (.iconst (-1), 1) := by decide +kernel
theorem dX10_shifts_115 : decode cX10_shifts 115 = .ok (.iload_n 3, 1) := by decide +kernel
theorem dX10_shifts_116 : decode cX10_shifts 116 = .ok (.isub, 1) := by decide +kernel
theorem dX10_shifts_117 : decode cX10_shifts 117 = .ok (.istore 4, 2) := by decide +kernel
theorem dX10_shifts_119 : decode cX10_shifts 119 = .ok (.aload_n 0, 1) := by decide +kernel
theorem dX10_shifts_120 : decode cX10_shifts 120 = .ok (.aload_n 0, 1) := by decide +kernel
theorem dX10_shifts_121 : decode cX10_shifts 121 = .ok (.getfield 7, 3) := by decide +kernel
theorem dX10_shifts_124 : decode cX10_shifts 124 = .ok (.iload 4, 2) := by decide +kernel
theorem dX10_shifts_126 : decode cX10_shifts 126 = .ok (.iaload, 1) := by decide +kernel
theorem dX10_shifts_127 : decode cX10_shifts 127 = .ok (.iload 4, 2) := by decide +kernel
theorem dX10_shifts_129 : decode cX10_shifts 129 = .ok (.iconst (-1), 1) := by decide +kernel
theorem dX10_shifts_130 : decode cX10_shifts 130 = .ok (.invokevirtual 230, 3) := by decide +kernel
theorem dX10_shifts_133 : decode cX10_shifts 133 = .ok (.iload_n 1, 1) := by decide +kernel
theorem dX10_shifts_134 : decode cX10_shifts 134 = .ok (.aload_n 0, 1) := by decide +kernel
theorem dX10_shifts_135 : decode cX10_shifts 135 = .ok (.getfield 16, 3) := by decide +kernel
theorem dX10_shifts_138 : decode cX10_shifts 138 = .ok (.iload 4, 2) := by decide +kernel
theorem dX10_shifts_140 : decode cX10_shifts 140 = .ok (.iaload, 1) := by decide +kernel
theorem dX10_shifts_141 : decode cX10_shifts 141 = .ok (.isub, 1) := by decide +kernel
theorem dX10_shifts_142 : decode cX10_shifts 142 = .ok (.istore_n 1, 1) := by decide +kernel
theorem dX10_shifts_143 : decode cX10_shifts 143 = .ok (.iconst 1, 1) := by decide +kernel
theorem dX10_shifts_144 : decode cX10_shifts 144 = .ok (.istore 5, 2) := by decide +kernel
theorem dX10_shifts_146 : decode cX10_shifts 146 = .ok (.iload 5, 2) := by decide +kernel
theorem dX10_shifts_148 : decode cX10_shifts 148 = .ok (.aload_n 0, 1) := by decide +kernel
theorem dX10_shifts_149 : decode cX10_shifts 149 = .ok (.getfield 16, 3) := by decide +kernel
theorem dX10_shifts_152 : decode cX10_shifts 152 = .ok (.iload 4, 2) := by decide +kernel
theorem dX10_shifts_154 : decode cX10_shifts 154 = .ok (.iaload, 1) := by decide +kernel
theorem dX10_shifts_155 : decode cX10_shifts 155 = .ok (.if_icmp .gt 45, 3) := by decide +kernel
theorem dX10_shifts_158 : decode cX10_shifts 158 = .ok (.aload_n 0, 1) := by decide +kernel
theorem dX10_shifts_159 : decode cX10_shifts 159 = .ok (.getfield 89, 3) := by decide +kernel
theorem dX10_shifts_162 : decode cX10_shifts 162 = .ok (.aload_n 0, 1) := by decide +kernel
theorem dX10_shifts_163 : decode cX10_shifts 163 = .ok (.getfield 80, 3) := by decide +kernel
theorem dX10_shifts_166 : decode cX10_shifts 166 = .ok (.iload_n 1, 1) := by decide +kernel
theorem dX10_shifts_167 : decode cX10_shifts 167 = .ok (.iload 5, 2) := by decide +kernel
theorem dX10_shifts_169 : decode cX10_shifts 169 = .ok (.iadd, 1) := by decide +kernel
theorem dX10_shifts_170 : decode cX10_shifts 170 = .ok (.iaload, 1) := by decide +kernel
theorem dX10_shifts_171 : decode cX10_shifts 171 = .ok (.aload_n 0, 1) := by decide +kernel
theorem dX10_shifts_172 : decode cX10_shifts 172 = .ok (.getfield 227, 3) := by decide +kernel
theorem dX10_shifts_175 : decode cX10_shifts 175 = .ok (.iconst 1, 1) := by decide +kernel
theorem dX10_shifts_176 : decode cX10_shifts 176 = .ok (.isub, 1) := by decide +kernel
theorem dX10_shifts_177 : decode cX10_shifts 177 = .ok (.iastore, 1) := by decide +kernel
theorem dX10_shifts_178 : decode cX10_shifts 178 = .ok (.aload_n 0, 1) := by decide +kernel
theorem dX10_shifts_179 : decode cX10_shifts 179 = .ok (.getfield 92, 3) := by decide +kernel
theorem dX10_shifts_182 : decode cX10_shifts 182 = .ok (.aload_n 0, 1) := by decide +kernel
theorem dX10_shifts_183 : decode cX10_shifts 183 = .ok (.getfield 80, 3) := by decide +kernel
theorem dX10_shifts_186 : decode cX10_shifts 186 = .ok (.iload_n 1, 1) := by decide +kernel
theorem dX10_shifts_187 : decode cX10_shifts 187 = .ok (.iload 5, 2) := by decide +kernel
theorem dX10_shifts_189 : decode cX10_shifts 189 = .ok (.iadd, 1) := by decide +kernel
theorem dX10_shifts_190 : decode cX10_shifts 190 = .ok (.iaload, 1) := by decide +kernel
theorem dX10_shifts_191 : decode cX10_shifts 191 = .ok (.iload 5, 2) := by decide +kernel
theorem dX10_shifts_193 : decode cX10_shifts 193 = .ok (.iastore, 1) := by decide +kernel
theorem dX10_shifts_194 : decode cX10_shifts 194 = .ok (.iinc 5 1, 3) := by decide +kernel
theorem dX10_shifts_197 : decode cX10_shifts 197 = .ok (.goto (-51), 3) := by decide +kernel
theorem dX10_shifts_200 : decode cX10_shifts 200 = .ok (.iinc 1 1, 3) := by decide +kernel
theorem dX10_shifts_203 : decode cX10_shifts 203 = .ok (.aload_n 0, 1) := by decide +kernel
theorem dX10_shifts_204 : decode cX10_shifts 204 = .ok (.getfield 77, 3) := by decide +kernel
theorem dX10_shifts_207 : decode cX10_shifts 207 = .ok (.iload_n 1, 1) := by decide +kernel
theorem dX10_shifts_208 : decode cX10_shifts 208 = .ok (.aload_n 0, 1) := by decide +kernel
theorem dX10_shifts_209 : decode cX10_shifts 209 = .ok (.getfield 41, 3) := by decide +kernel
theorem dX10_shifts_212 : decode cX10_shifts 212 = .ok (.bipush 14, 2) := by decide +kernel
theorem dX10_shifts_214 : decode cX10_shifts 214 = .ok (.aload_n 0, 1) := by decide +kernel
theorem dX10_shifts_215 : decode cX10_shifts 215 = .ok (.getfield 77, 3) := by decide +kernel
theorem dX10_shifts_218 : decode cX10_shifts 218 = .ok (.iload_n 1, 1) := by decide +kernel
theorem dX10_shifts_219 : decode cX10_shifts 219 = .ok (.iconst 1, 1) := by decide +kernel
theorem dX10_shifts_220 : decode cX10_shifts 220 = .ok (.isub, 1) := by decide +kernel
theorem dX10_shifts_221 : decode cX10_shifts 221 = .ok (.iaload, 1) := by decide +kernel
theorem dX10_shifts_222 : decode cX10_shifts 222 = .ok (.imul, 1) := by decide +kernel
theorem dX10_shifts_223 : decode cX10_shifts 223 = .ok (.aload_n 0, 1) := by decide +kernel
theorem dX10_shifts_224 : decode cX10_shifts 224 = .ok (.getfield 7, 3) := by decide +kernel
theorem dX10_shifts_227 : decode cX10_shifts 227 = .ok (.iload 4, 2) := by decide +kernel
theorem dX10_shifts_229 : decode cX10_shifts 229 = .ok (.iaload, 1) := by decide +kernel
theorem dX10_shifts_230 : decode cX10_shifts 230 = .ok (.iadd, 1) := by decide +kernel
theorem dX10_shifts_231 : decode cX10_shifts 231 = .ok (.iaload, 1) := by decide +kernel
theorem dX10_shifts_232 : decode cX10_shifts 232 = .ok (.iastore, 1) := by decide +kernel
theorem dX10_shifts_233 : decode cX10_shifts 233 = .ok (.aload_n 0, 1) := by decide +kernel
theorem dX10_shifts_234 : decode cX10_shifts 234 = .ok (.getfield 80, 3) := by decide +kernel
theorem dX10_shifts_237 : decode cX10_shifts 237 = .ok (.iload_n 1, 1) := by decide +kernel
theorem dX10_shifts_238 : decode cX10_shifts 238 = .ok (.aload_n 0, 1) := by decide +kernel
theorem dX10_shifts_239 : decode cX10_shifts 239 = .ok (.getfield 227, 3) := by decide +kernel
theorem dX10_shifts_242 : decode cX10_shifts 242 = .ok (.iconst 1, 1) := by decide +kernel
theorem dX10_shifts_243 : decode cX10_shifts 243 = .ok (.isub, 1) := by decide +kernel
theorem dX10_shifts_244 : decode cX10_shifts 244 = .ok (.iastore, 1) := by decide +kernel
theorem dX10_shifts_245 : decode cX10_shifts 245 = .ok (.goto (-229), 3) := by decide +kernel
theorem dX10_copy_0 : decode cX10_copy 0 = .ok (.aload_n 0, 1) := by decide +kernel
theorem dX10_copy_1 : decode cX10_copy 1 = .ok (.aload_n 0, 1) := by decide +kernel
theorem dX10_copy_2 : decode cX10_copy 2 = .ok (.getfield 227, 3) := by decide +kernel
theorem dX10_copy_5 : decode cX10_copy 5 = .ok (.putfield 234, 3) := by decide +kernel
theorem dX10_copy_8 : decode cX10_copy 8 = .ok (.iconst 0, 1) := by decide +kernel
theorem dX10_copy_9 : decode cX10_copy 9 = .ok (.istore_n 1, 1) := by decide +kernel
theorem dX10_copy_10 : decode cX10_copy 10 = .ok (.iload_n 1, 1) := by decide +kernel
theorem dX10_copy_11 : decode cX10_copy 11 = .ok (.sipush 600, 3) := by decide +kernel
theorem dX10_copy_14 : decode cX10_copy 14 = .ok (.if_icmp .ge 16, 3) := by decide +kernel
theorem dX10_copy_17 : decode cX10_copy 17 = .ok (.aload_n 0, 1) := by decide +kernel
theorem dX10_copy_18 : decode cX10_copy 18 = .ok (.getfield 110, 3) := by decide +kernel
theorem dX10_copy_21 : decode cX10_copy 21 = .ok (.iload_n 1, 1) := by decide +kernel
theorem dX10_copy_22 : decode cX10_copy 22 = .ok (.iconst (-1), 1) := by decide +kernel
theorem dX10_copy_23 : decode cX10_copy 23 = .ok (.iastore, 1) := by decide +kernel
theorem dX10_copy_24 : decode cX10_copy 24 = .ok (.iinc 1 1, 3) := by decide +kernel
theorem dX10_copy_27 : decode cX10_copy 27 = .ok (.goto (-17), 3) := by decide +kernel
theorem dX10_copy_30 : decode cX10_copy 30 = .ok (.iconst 0, 1) := by decide +kernel
theorem dX10_copy_31 : decode cX10_copy 31 = .ok (.istore_n 1, 1) := by decide +kernel
theorem dX10_copy_32 : decode cX10_copy 32 = .ok (.iload_n 1, 1) := by decide +kernel
theorem dX10_copy_33 : decode cX10_copy 33 = .ok (.aload_n 0, 1) := by decide +kernel
theorem dX10_copy_34 : decode cX10_copy 34 = .ok (.getfield 234, 3) := by decide +kernel
theorem dX10_copy_37 : decode cX10_copy 37 = .ok (.if_icmp .ge 183, 3) := by decide +kernel
theorem dX10_copy_40 : decode cX10_copy 40 = .ok (.aload_n 0, 1) := by decide +kernel
theorem dX10_copy_41 : decode cX10_copy 41 = .ok (.getfield 98, 3) := by decide +kernel
theorem dX10_copy_44 : decode cX10_copy 44 = .ok (.iload_n 1, 1) := by decide +kernel
theorem dX10_copy_45 : decode cX10_copy 45 = .ok (.aload_n 0, 1) := by decide +kernel
theorem dX10_copy_46 : decode cX10_copy 46 = .ok (.getfield 83, 3) := by decide +kernel
theorem dX10_copy_49 : decode cX10_copy 49 = .ok (.iload_n 1, 1) := by decide +kernel
theorem dX10_copy_50 : decode cX10_copy 50 = .ok (.iaload, 1) := by decide +kernel
theorem dX10_copy_51 : decode cX10_copy 51 = .ok (.iastore, 1) := by decide +kernel
theorem dX10_copy_52 : decode cX10_copy 52 = .ok (.aload_n 0, 1) := by decide +kernel
theorem dX10_copy_53 : decode cX10_copy 53 = .ok (.getfield 101, 3) := by decide +kernel
theorem dX10_copy_56 : decode cX10_copy 56 = .ok (.iload_n 1, 1) := by decide +kernel
theorem dX10_copy_57 : decode cX10_copy 57 = .ok (.aload_n 0, 1) := by decide +kernel
theorem dX10_copy_58 : decode cX10_copy 58 = .ok (.getfield 86, 3) := by decide +kernel
theorem dX10_copy_61 : decode cX10_copy 61 = .ok (.iload_n 1, 1) := by decide +kernel
theorem dX10_copy_62 : decode cX10_copy 62 = .ok (.iaload, 1) := by decide +kernel
theorem dX10_copy_63 : decode cX10_copy 63 = .ok (.iastore, 1) := by decide +kernel
theorem dX10_copy_64 : decode cX10_copy 64 = .ok (.aload_n 0, 1) := by decide +kernel
theorem dX10_copy_65 : decode cX10_copy 65 = .ok (.getfield 104, 3) := by decide +kernel
theorem dX10_copy_68 : decode cX10_copy 68 = .ok (.iload_n 1, 1) := by decide +kernel
theorem dX10_copy_69 : decode cX10_copy 69 = .ok (.aload_n 0, 1) := by decide +kernel
theorem dX10_copy_70 : decode cX10_copy 70 = .ok (.getfield 89, 3) := by decide +kernel
theorem dX10_copy_73 : decode cX10_copy 73 = .ok (.iload_n 1, 1) := by decide +kernel
theorem dX10_copy_74 : decode cX10_copy 74 = .ok (.iaload, 1) := by decide +kernel
theorem dX10_copy_75 : decode cX10_copy 75 = .ok (.iastore, 1) := by decide +kernel
theorem dX10_copy_76 : decode cX10_copy 76 = .ok (.aload_n 0, 1) := by decide +kernel
theorem dX10_copy_77 : decode cX10_copy 77 = .ok (.getfield 107, 3) := by decide +kernel
theorem dX10_copy_80 : decode cX10_copy 80 = .ok (.iload_n 1, 1) := by decide +kernel
theorem dX10_copy_81 : decode cX10_copy 81 = .ok (.aload_n 0, 1) := by decide +kernel
theorem dX10_copy_82 : decode cX10_copy 82 = .ok (.getfield 92, 3) := by decide +kernel
theorem dX10_copy_85 : decode cX10_copy 85 = .ok (.iload_n 1, 1) := by decide +kernel
theorem dX10_copy_86 : decode cX10_copy 86 = .ok (.iaload, 1) := by decide +kernel
theorem dX10_copy_87 : decode cX10_copy 87 = .ok (.iastore, 1) := by decide +kernel
theorem dX10_copy_88 : decode cX10_copy 88 = .ok (.aload_n 0, 1) := by decide +kernel
theorem dX10_copy_89 : decode cX10_copy 89 = .ok (.getfield 104, 3) := by decide +kernel
theorem dX10_copy_92 : decode cX10_copy 92 = .ok (.iload_n 1, 1) := by decide +kernel
theorem dX10_copy_93 : decode cX10_copy 93 = .ok (.iaload, 1) := by decide +kernel
theorem dX10_copy_94 : decode cX10_copy 94 = .ok (.ifCond .lt 26, 3) := by decide +kernel
theorem dX10_copy_97 : decode cX10_copy 97 = .ok (.aload_n 0, 1) := by decide +kernel
theorem dX10_copy_98 : decode cX10_copy 98 = .ok (.getfield 110, 3) := by decide +kernel
theorem dX10_copy_101 : decode cX10_copy 101 = .ok (.iconst 4, 1) := by decide +kernel
theorem dX10_copy_102 : decode cX10_copy 102 = .ok (.aload_n 0, 1) := by decide +kernel
theorem dX10_copy_103 : decode cX10_copy 103 = .ok (.getfield 104, 3) := by decide +kernel
theorem dX10_copy_106 : decode cX10_copy 106 = .ok (.iload_n 1, 1) := by decide +kernel
theorem dX10_copy_107 : decode cX10_copy 107 = .ok (.iaload, 1) := by decide +kernel
theorem dX10_copy_108 : decode cX10_copy 108 = .ok (.imul, 1) := by decide +kernel
theorem dX10_copy_109 : decode cX10_copy 109 = .ok (.aload_n 0, 1) := by decide +kernel
theorem dX10_copy_110 : decode cX10_copy 110 = .ok (.getfield 107, 3) := by decide +kernel
theorem dX10_copy_113 : decode cX10_copy 113 = .ok (.iload_n 1, 1) := by decide +kernel
theorem dX10_copy_114 : decode cX10_copy 114 = .ok (.iaload, 1) := by decide +kernel
theorem dX10_copy_115 : decode cX10_copy 115 = .ok (.iadd, 1) := by decide +kernel
theorem dX10_copy_116 : decode cX10_copy 116 = .ok (.iconst 1, 1) := by decide +kernel
theorem dX10_copy_117 : decode cX10_copy 117 = .ok (.isub, 1) := by decide +kernel
theorem dX10_copy_118 : decode cX10_copy 118 = .ok (.iload_n 1, 1) := by decide +kernel
theorem dX10_copy_119 : decode cX10_copy 119 = .ok (.iastore, 1) := by decide +kernel
theorem dX10_copy_120 : decode cX10_copy 120 = .ok (.iconst 0, 1) := by decide +kernel
theorem dX10_copy_121 : decode cX10_copy 121 = .ok (.istore_n 2, 1) := by decide +kernel
theorem dX10_copy_122 : decode cX10_copy 122 = .ok (.iload_n 2, 1) := by decide +kernel
theorem dX10_copy_123 : decode cX10_copy 123 = .ok (.iconst 3, 1) := by decide +kernel
theorem dX10_copy_124 : decode cX10_copy 124 = .ok (.if_icmp .ge 44, 3) := by decide +kernel
theorem dX10_copy_127 : decode cX10_copy 127 = .ok (.aload_n 0, 1) := by decide +kernel
theorem dX10_copy_128 : decode cX10_copy 128 = .ok (.getfield 117, 3) := by decide +kernel
theorem dX10_copy_131 : decode cX10_copy 131 = .ok (.iconst 3, 1) := by decide +kernel
theorem dX10_copy_132 : decode cX10_copy 132 = .ok (.iload_n 1, 1) := by decide +kernel
theorem dX10_copy_133 : decode cX10_copy 133 = .ok (.imul, 1) := by decide +kernel
theorem dX10_copy_134 : decode cX10_copy 134 = .ok (.iload_n 2, 1) := by decide +kernel
theorem dX10_copy_135 : decode cX10_copy 135 = .ok (.iadd, 1) := by decide +kernel
theorem dX10_copy_136 : decode cX10_copy 136 = .ok (.aload_n 0, 1) := by decide +kernel
theorem dX10_copy_137 : decode cX10_copy 137 = .ok (.getfield 101, 3) := by decide +kernel
theorem dX10_copy_140 : decode cX10_copy 140 = .ok (.iload_n 1, 1) := by decide +kernel
theorem dX10_copy_141 : decode cX10_copy 141 = .ok (.iaload, 1) := by decide +kernel
theorem dX10_copy_142 : decode cX10_copy 142 = .ok (.ifCond .ge 7, 3) := by decide +kernel
theorem dX10_copy_145 : decode cX10_copy 145 = .ok (.iconst 1, 1) := by decide +kernel
theorem dX10_copy_146 : decode cX10_copy 146 = .ok (.goto 4, 3) := by decide +kernel
theorem dX10_copy_149 : decode cX10_copy 149 = .ok (.iconst 0, 1) := by decide +kernel
theorem dX10_copy_150 : decode cX10_copy 150 = .ok (.bastore, 1) := by decide +kernel
theorem dX10_copy_151 : decode cX10_copy 151 = .ok (.aload_n 0, 1) := by decide +kernel
theorem dX10_copy_152 : decode cX10_copy 152 = .ok (.getfield 113, 3) := by decide +kernel
theorem dX10_copy_155 : decode cX10_copy 155 = .ok (.iconst 3, 1) := by decide +kernel
theorem dX10_copy_156 : decode cX10_copy 156 = .ok (.iload_n 1, 1) := by decide +kernel
theorem dX10_copy_157 : decode cX10_copy 157 = .ok (.imul, 1) := by decide +kernel
theorem dX10_copy_158 : decode cX10_copy 158 = .ok (.iload_n 2, 1) := by decide +kernel
theorem dX10_copy_159 : decode cX10_copy 159 = .ok (.iadd, 1) := by decide +kernel
theorem dX10_copy_160 : decode cX10_copy 160 = .ok (.lconst 0, 1) := by decide +kernel
theorem dX10_copy_161 : decode cX10_copy 161 = .ok (.lastore, 1) := by decide +kernel
theorem dX10_copy_162 : decode cX10_copy 162 = .ok (.iinc 2 1, 3) := by decide +kernel
theorem dX10_copy_165 : decode cX10_copy 165 = .ok (.goto (-43), 3) := by decide +kernel
theorem dX10_copy_168 : decode cX10_copy 168 = .ok (.aload_n 0, 1) := by decide +kernel
theorem dX10_copy_169 : decode cX10_copy 169 = .ok (.getfield 101, 3) := by decide +kernel
theorem dX10_copy_172 : decode cX10_copy 172 = .ok (.iload_n 1, 1) := by decide +kernel
theorem dX10_copy_173 : decode cX10_copy 173 = .ok (.iaload, 1) := by decide +kernel
theorem dX10_copy_174 : decode cX10_copy 174 = .ok (.ifCond .ge 40, 3) := by decide +kernel
theorem dX10_copy_177 : decode cX10_copy 177 = .ok (.aload_n 0, 1) := by decide +kernel
theorem dX10_copy_178 : decode cX10_copy 178 = .ok (.getfield 113, 3) := by decide +kernel
theorem dX10_copy_181 : decode cX10_copy 181 = .ok (.iconst 3, 1) := by decide +kernel
theorem dX10_copy_182 : decode cX10_copy 182 = .ok (.iload_n 1, 1) := by decide +kernel
theorem dX10_copy_183 : decode cX10_copy 183 = .ok (.imul, 1) := by decide +kernel
theorem dX10_copy_184 : decode cX10_copy 184 = .ok (.aload_n 0, 1) := by decide +kernel
theorem dX10_copy_185 : decode cX10_copy 185 = .ok (.getfield 74, 3) := by decide +kernel
theorem dX10_copy_188 : decode cX10_copy 188 = .ok (.aload_n 0, 1) := by decide +kernel
theorem dX10_copy_189 : decode cX10_copy 189 = .ok (.getfield 95, 3) := by decide +kernel
theorem dX10_copy_192 : decode cX10_copy 192 = .ok (.iload_n 1, 1) := by decide +kernel
theorem dX10_copy_193 : decode cX10_copy 193 = .ok (.iaload, 1) := by decide +kernel
theorem dX10_copy_194 : decode cX10_copy 194 = .ok (.iaload, 1) := by decide +kernel
theorem dX10_copy_195 : decode cX10_copy 195 = .ok (.i2l, 1) := by decide +kernel
theorem dX10_copy_196 : decode cX10_copy 196 = .ok (.lastore, 1) := by decide +kernel
theorem dX10_copy_197 : decode cX10_copy 197 = .ok (.aload_n 0, 1) := by decide +kernel
theorem dX10_copy_198 : decode cX10_copy 198 = .ok (.getfield 113, 3) := by decide +kernel
theorem dX10_copy_201 : decode cX10_copy 201 = .ok (.iconst 3, 1) := by decide +kernel
theorem dX10_copy_202 : decode cX10_copy 202 = .ok (.iload_n 1, 1) := by decide +kernel
theorem dX10_copy_203 : decode cX10_copy 203 = .ok (.imul, 1) := by decide +kernel
theorem dX10_copy_204 : decode cX10_copy 204 = .ok (.iconst 1, 1) := by decide +kernel
theorem dX10_copy_205 : decode cX10_copy 205 = .ok (.iadd, 1) := by decide +kernel
theorem dX10_copy_206 : decode cX10_copy 206 = .ok (.aload_n 0, 1) := by decide +kernel
theorem dX10_copy_207 : decode cX10_copy 207 = .ok (.getfield 95, 3) := by decide +kernel
theorem dX10_copy_210 : decode cX10_copy 210 = .ok (.iload_n 1, 1) := by decide +kernel
theorem dX10_copy_211 : decode cX10_copy 211 = .ok (.iaload, 1) := by decide +kernel
theorem dX10_copy_212 : decode cX10_copy 212 = .ok (.i2l, 1) := by decide +kernel
theorem dX10_copy_213 : decode cX10_copy 213 = .ok (.lastore, 1) := by decide +kernel
theorem dX10_copy_214 : decode cX10_copy 214 = .ok (.iinc 1 1, 3) := by decide +kernel
theorem dX10_copy_217 : decode cX10_copy 217 = .ok (.goto (-185), 3) := by decide +kernel
theorem dX10_copy_220 : decode cX10_copy 220 = .ok (.return_, 1) := by decide +kernel
theorem dX10_reckon_0 : decode cX10_reckon 0 = .ok (.iload_n 0, 1) := by decide +kernel
theorem dX10_reckon_1 : decode cX10_reckon 1 = .ok (.iconst 1, 1) := by decide +kernel
theorem dX10_reckon_2 : decode cX10_reckon 2 = .ok (.if_icmp .ne 5, 3) := by decide +kernel
theorem dX10_reckon_5 : decode cX10_reckon 5 = .ok (.lload_n 1, 1) := by decide +kernel
theorem dX10_reckon_6 : decode cX10_reckon 6 = .ok (.lreturn, 1) := by decide +kernel
theorem dX10_reckon_7 : decode cX10_reckon 7 = .ok (.iload_n 0, 1) := by decide +kernel
theorem dX10_reckon_8 : decode cX10_reckon 8 = .ok (.iconst 2, 1) := by decide +kernel
theorem dX10_reckon_9 : decode cX10_reckon 9 = .ok (.if_icmp .ne 7, 3) := by decide +kernel
theorem dX10_reckon_12 : decode cX10_reckon 12 = .ok (.lload_n 1, 1) := by decide +kernel
theorem dX10_reckon_13 : decode cX10_reckon 13 = .ok (.lload_n 3, 1) := by decide +kernel
theorem dX10_reckon_14 : decode cX10_reckon 14 = .ok (.ladd, 1) := by decide +kernel
theorem dX10_reckon_15 : decode cX10_reckon 15 = .ok (.lreturn, 1) := by decide +kernel
theorem dX10_reckon_16 : decode cX10_reckon 16 = .ok (.iload_n 0, 1) := by decide +kernel
theorem dX10_reckon_17 : decode cX10_reckon 17 = .ok (.iconst 3, 1) := by decide +kernel
theorem dX10_reckon_18 : decode cX10_reckon 18 = .ok (.if_icmp .ne 7, 3) := by decide +kernel
theorem dX10_reckon_21 : decode cX10_reckon 21 = .ok (.lload_n 1, 1) := by decide +kernel
theorem dX10_reckon_22 : decode cX10_reckon 22 = .ok (.lload_n 3, 1) := by decide +kernel
theorem dX10_reckon_23 : decode cX10_reckon 23 = .ok (.lsub, 1) := by decide +kernel
theorem dX10_reckon_24 : decode cX10_reckon 24 = .ok (.lreturn, 1) := by decide +kernel
theorem dX10_reckon_25 : decode cX10_reckon 25 = .ok (.iload_n 0, 1) := by decide +kernel
theorem dX10_reckon_26 : decode cX10_reckon 26 = .ok (.iconst 4, 1) := by decide +kernel
theorem dX10_reckon_27 : decode cX10_reckon 27 = .ok (.if_icmp .ne 7, 3) := by decide +kernel
theorem dX10_reckon_30 : decode cX10_reckon 30 = .ok (.lload_n 1, 1) := by decide +kernel
theorem dX10_reckon_31 : decode cX10_reckon 31 = .ok (.lload_n 3, 1) := by decide +kernel
theorem dX10_reckon_32 : decode cX10_reckon 32 = .ok (.lmul, 1) := by decide +kernel
theorem dX10_reckon_33 : decode cX10_reckon 33 = .ok (.lreturn, 1) := by decide +kernel
theorem dX10_reckon_34 : decode cX10_reckon 34 = .ok (.iload_n 0, 1) := by decide +kernel
theorem dX10_reckon_35 : decode cX10_reckon 35 = .ok (.iconst 5, 1) := by decide +kernel
theorem dX10_reckon_36 : decode cX10_reckon 36 = .ok (.if_icmp .ne 15, 3) := by decide +kernel
theorem dX10_reckon_39 : decode cX10_reckon 39 = .ok (.lload_n 1, 1) := by decide +kernel
theorem dX10_reckon_40 : decode cX10_reckon 40 = .ok (.lload_n 3, 1) := by decide +kernel
theorem dX10_reckon_41 : decode cX10_reckon 41 = .ok (.lcmp, 1) := by decide +kernel
theorem dX10_reckon_42 : decode cX10_reckon 42 = .ok (.ifCond .ge 7, 3) := by decide +kernel
theorem dX10_reckon_45 : decode cX10_reckon 45 = .ok (.lconst 1, 1) := by decide +kernel
theorem dX10_reckon_46 : decode cX10_reckon 46 = .ok (.goto 4, 3) := by decide +kernel
theorem dX10_reckon_49 : decode cX10_reckon 49 = .ok (.lconst 0, 1) := by decide +kernel
theorem dX10_reckon_50 : decode cX10_reckon 50 = .ok (.lreturn, 1) := by decide +kernel
theorem dX10_reckon_51 : decode cX10_reckon 51 = .ok (.iload_n 0, 1) := by decide +kernel
theorem dX10_reckon_52 : decode cX10_reckon 52 = .ok (.bipush 6, 2) := by decide +kernel
theorem dX10_reckon_54 : decode cX10_reckon 54 = .ok (.if_icmp .ne 15, 3) := by decide +kernel
theorem dX10_reckon_57 : decode cX10_reckon 57 = .ok (.lload_n 1, 1) := by decide +kernel
theorem dX10_reckon_58 : decode cX10_reckon 58 = .ok (.lload_n 3, 1) := by decide +kernel
theorem dX10_reckon_59 : decode cX10_reckon 59 = .ok (.lcmp, 1) := by decide +kernel
theorem dX10_reckon_60 : decode cX10_reckon 60 = .ok (.ifCond .le 7, 3) := by decide +kernel
theorem dX10_reckon_63 : decode cX10_reckon 63 = .ok (.lload_n 1, 1) := by decide +kernel
theorem dX10_reckon_64 : decode cX10_reckon 64 = .ok (.goto 4, 3) := by decide +kernel
theorem dX10_reckon_67 : decode cX10_reckon 67 = .ok (.lload_n 3, 1) := by decide +kernel
theorem dX10_reckon_68 : decode cX10_reckon 68 = .ok (.lreturn, 1) := by decide +kernel
theorem dX10_reckon_69 : decode cX10_reckon 69 = .ok (.lload_n 3, 1) := by decide +kernel
theorem dX10_reckon_70 : decode cX10_reckon 70 = .ok (.lconst 0, 1) := by decide +kernel
theorem dX10_reckon_71 : decode cX10_reckon 71 = .ok (.lcmp, 1) := by decide +kernel
theorem dX10_reckon_72 : decode cX10_reckon 72 = .ok (.ifCond .eq 7, 3) := by decide +kernel
theorem dX10_reckon_75 : decode cX10_reckon 75 = .ok (.lload_n 1, 1) := by decide +kernel
theorem dX10_reckon_76 : decode cX10_reckon 76 = .ok (.goto 4, 3) := by decide +kernel
theorem dX10_reckon_79 : decode cX10_reckon 79 = .ok (.lconst 0, 1) := by decide +kernel
theorem dX10_reckon_80 : decode cX10_reckon 80 = .ok (.lreturn, 1) := by decide +kernel
theorem dX10_lies_0 : decode cX10_lies 0 = .ok (.iload_n 2, 1) := by decide +kernel
theorem dX10_lies_1 : decode cX10_lies 1 = .ok (.bipush 10, 2) := by decide +kernel
theorem dX10_lies_3 : decode cX10_lies 3 = .ok (.if_icmp .ge 11, 3) := by decide +kernel
theorem dX10_lies_6 : decode cX10_lies 6 = .ok (.iconst 3, 1) := by decide +kernel
theorem dX10_lies_7 : decode cX10_lies 7 = .ok (.iload_n 1, 1) := by decide +kernel
theorem dX10_lies_8 : decode cX10_lies 8 = .ok (.imul, 1) := by decide +kernel
theorem dX10_lies_9 : decode cX10_lies 9 = .ok (.iload_n 2, 1) := by decide +kernel
theorem dX10_lies_10 : decode cX10_lies 10 = .ok (.iadd, 1) := by decide +kernel
theorem dX10_lies_11 : decode cX10_lies 11 = .ok (.goto 25, 3) := by decide +kernel
theorem dX10_lies_14 : decode cX10_lies 14 = .ok (.iconst 3, 1) := by decide +kernel
theorem dX10_lies_15 : decode cX10_lies 15 = .ok (.aload_n 0, 1) := by decide +kernel
theorem dX10_lies_16 : decode cX10_lies 16 = .ok (.getfield 110, 3) := by decide +kernel
theorem dX10_lies_19 : decode cX10_lies 19 = .ok (.iconst 4, 1) := by decide +kernel
theorem dX10_lies_20 : decode cX10_lies 20 = .ok (.iload_n 1, 1) := by decide +kernel
theorem dX10_lies_21 : decode cX10_lies 21 = .ok (.imul, 1) := by decide +kernel
theorem dX10_lies_22 : decode cX10_lies 22 = .ok (.iload_n 2, 1) := by decide +kernel
theorem dX10_lies_23 : decode cX10_lies 23 = .ok (.bipush 10, 2) := by decide +kernel
theorem dX10_lies_25 : decode cX10_lies 25 = .ok (.idiv, 1) := by decide +kernel
theorem dX10_lies_26 : decode cX10_lies 26 = .ok (.iadd, 1) := by decide +kernel
theorem dX10_lies_27 : decode cX10_lies 27 = .ok (.iconst 1, 1) := by decide +kernel
theorem dX10_lies_28 : decode cX10_lies 28 = .ok (.isub, 1) := by decide +kernel
theorem dX10_lies_29 : decode cX10_lies 29 = .ok (.iaload, 1) := by decide +kernel
theorem dX10_lies_30 : decode cX10_lies 30 = .ok (.imul, 1) := by decide +kernel
theorem dX10_lies_31 : decode cX10_lies 31 = .ok (.iload_n 2, 1) := by decide +kernel
theorem dX10_lies_32 : decode cX10_lies 32 = .ok (.bipush 10, 2) := by decide +kernel
theorem dX10_lies_34 : decode cX10_lies 34 = .ok (.irem, 1) := by decide +kernel
theorem dX10_lies_35 : decode cX10_lies 35 = .ok (.iadd, 1) := by decide +kernel
theorem dX10_lies_36 : decode cX10_lies 36 = .ok (.ireturn, 1) := by decide +kernel
theorem dX10_work_0 : decode cX10_work 0 = .ok (.iload_n 2, 1) := by decide +kernel
theorem dX10_work_1 : decode cX10_work 1 = .ok (.iconst 2, 1) := by decide +kernel
theorem dX10_work_2 : decode cX10_work 2 = .ok (.if_icmp .ge 7, 3) := by decide +kernel
theorem dX10_work_5 : decode cX10_work 5 = .ok (.iload_n 1, 1) := by decide +kernel
theorem dX10_work_6 : decode cX10_work 6 = .ok (.goto 9, 3) := by decide +kernel
theorem dX10_work_9 : decode cX10_work 9 = .ok (.aload_n 0, 1) := by decide +kernel
theorem dX10_work_10 : decode cX10_work 10 = .ok (.getfield 104, 3) := by decide +kernel
theorem dX10_work_13 : decode cX10_work 13 = .ok (.iload_n 1, 1) := by decide +kernel
theorem dX10_work_14 : decode cX10_work 14 = .ok (.iaload, 1) := by decide +kernel
theorem dX10_work_15 : decode cX10_work 15 = .ok (.istore_n 3, 1) := by decide +kernel
theorem dX10_work_16 : decode cX10_work 16 = .ok (.iload_n 3, 1) := by decide +kernel
theorem dX10_work_17 : decode cX10_work 17 = .ok (.ifCond .ge 7, 3) := by decide +kernel
theorem dX10_work_20 : decode cX10_work 20 = .ok (.iconst (-1), 1) := by decide +kernel
theorem dX10_work_21 : decode cX10_work 21 = .ok (.goto 32, 3) := by decide +kernel
theorem dX10_work_24 : decode cX10_work 24 = .ok (.bipush 15, 2) := by decide +kernel
theorem dX10_work_26 : decode cX10_work 26 = .ok (.aload_n 0, 1) := by decide +kernel
theorem dX10_work_27 : decode cX10_work 27 = .ok (.getfield 101, 3) := by decide +kernel
theorem dX10_work_30 : decode cX10_work 30 = .ok (.iload_n 3, 1) := by decide +kernel
theorem dX10_work_31 : decode cX10_work 31 = .ok (.iaload, 1) := by decide +kernel
theorem dX10_work_32 : decode cX10_work 32 = .ok (.imul, 1) := by decide +kernel
theorem dX10_work_33 : decode cX10_work 33 = .ok (.iload_n 2, 1) := by decide +kernel
theorem dX10_work_34 : decode cX10_work 34 = .ok (.iconst 2, 1) := by decide +kernel
theorem dX10_work_35 : decode cX10_work 35 = .ok (.if_icmp .ge 7, 3) := by decide +kernel
theorem dX10_work_38 : decode cX10_work 38 = .ok (.iload_n 2, 1) := by decide +kernel
theorem dX10_work_39 : decode cX10_work 39 = .ok (.goto 13, 3) := by decide +kernel
theorem dX10_work_42 : decode cX10_work 42 = .ok (.iconst 3, 1) := by decide +kernel
theorem dX10_work_43 : decode cX10_work 43 = .ok (.aload_n 0, 1) := by decide +kernel
theorem dX10_work_44 : decode cX10_work 44 = .ok (.getfield 107, 3) := by decide +kernel
theorem dX10_work_47 : decode cX10_work 47 = .ok (.iload_n 1, 1) := by decide +kernel
theorem dX10_work_48 : decode cX10_work 48 = .ok (.iaload, 1) := by decide +kernel
theorem dX10_work_49 : decode cX10_work 49 = .ok (.imul, 1) := by decide +kernel
theorem dX10_work_50 : decode cX10_work 50 = .ok (.iconst 2, 1) := by decide +kernel
theorem dX10_work_51 : decode cX10_work 51 = .ok (.iadd, 1) := by decide +kernel
theorem dX10_work_52 : decode cX10_work 52 = .ok (.iadd, 1) := by decide +kernel
theorem dX10_work_53 : decode cX10_work 53 = .ok (.istore 4, 2) := by decide +kernel
theorem dX10_work_55 : decode cX10_work 55 = .ok (.iconst 3, 1) := by decide +kernel
theorem dX10_work_56 : decode cX10_work 56 = .ok (.iload_n 1, 1) := by decide +kernel
theorem dX10_work_57 : decode cX10_work 57 = .ok (.imul, 1) := by decide +kernel
theorem dX10_work_58 : decode cX10_work 58 = .ok (.iload_n 2, 1) := by decide +kernel
theorem dX10_work_59 : decode cX10_work 59 = .ok (.iadd, 1) := by decide +kernel
theorem dX10_work_60 : decode cX10_work 60 = .ok (.istore 5, 2) := by decide +kernel
theorem dX10_work_62 : decode cX10_work 62 = .ok (.iload 4, 2) := by decide +kernel
theorem dX10_work_64 : decode cX10_work 64 = .ok (.ifCond .lt 13, 3) := by decide +kernel
theorem dX10_work_67 : decode cX10_work 67 = .ok (.aload_n 0, 1) := by decide +kernel
theorem dX10_work_68 : decode cX10_work 68 = .ok (.getfield 25, 3) := by decide +kernel
theorem dX10_work_71 : decode cX10_work 71 = .ok (.iload 4, 2) := by decide +kernel
theorem dX10_work_73 : decode cX10_work 73 = .ok (.iaload, 1) := by decide +kernel
theorem dX10_work_74 : decode cX10_work 74 = .ok (.ifCond .ge 13, 3) := by decide +kernel
theorem dX10_work_77 : decode cX10_work 77 = .ok (.aload_n 0, 1) := by decide +kernel
theorem dX10_work_78 : decode cX10_work 78 = .ok (.getfield 117, 3) := by decide +kernel
theorem dX10_work_81 : decode cX10_work 81 = .ok (.iload 5, 2) := by decide +kernel
theorem dX10_work_83 : decode cX10_work 83 = .ok (.iconst 1, 1) := by decide +kernel
theorem dX10_work_84 : decode cX10_work 84 = .ok (.bastore, 1) := by decide +kernel
theorem dX10_work_85 : decode cX10_work 85 = .ok (.iconst 1, 1) := by decide +kernel
theorem dX10_work_86 : decode cX10_work 86 = .ok (.ireturn, 1) := by decide +kernel
theorem dX10_work_87 : decode cX10_work 87 = .ok (.aload_n 0, 1) := by decide +kernel
theorem dX10_work_88 : decode cX10_work 88 = .ok (.getfield 25, 3) := by decide +kernel
theorem dX10_work_91 : decode cX10_work 91 = .ok (.iload 4, 2) := by decide +kernel
theorem dX10_work_93 : decode cX10_work 93 = .ok (.iaload, 1) := by decide +kernel
theorem dX10_work_94 : decode cX10_work 94 = .ok (.istore 6, 2) := by decide +kernel
theorem dX10_work_96 : decode cX10_work 96 = .ok (.iload 6, 2) := by decide +kernel
theorem dX10_work_98 : decode cX10_work 98 = .ok (.ifCond .le 23, 3) := by decide +kernel
theorem dX10_work_101 : decode cX10_work 101 = .ok (.aload_n 0, 1) := by decide +kernel
theorem dX10_work_102 : decode cX10_work 102 = .ok (.getfield 117, 3) := by decide +kernel
theorem dX10_work_105 : decode cX10_work 105 = .ok (.aload_n 0, 1) := by decide +kernel
theorem dX10_work_106 : decode cX10_work 106 = .ok (.iload_n 3, 1) := by decide +kernel
theorem dX10_work_107 : decode cX10_work 107 = .ok (.aload_n 0, 1) := by decide +kernel
theorem dX10_work_108 : decode cX10_work 108 = .ok (.getfield 28, 3) := by decide +kernel
theorem dX10_work_111 : decode cX10_work 111 = .ok (.iload 4, 2) := by decide +kernel
theorem dX10_work_113 : decode cX10_work 113 = .ok (.iaload, 1) := by decide +kernel
theorem dX10_work_114 : decode cX10_work 114 = .ok (.invokevirtual 237, 3) := by decide +kernel
theorem dX10_work_117 : decode cX10_work 117 = .ok (.baload, 1) := by decide +kernel
theorem dX10_work_118 : decode cX10_work 118 = .ok (.ifCond .eq 29, 3) := by decide +kernel
theorem dX10_work_121 : decode cX10_work 121 = .ok (.iload 6, 2) := by decide +kernel
theorem dX10_work_123 : decode cX10_work 123 = .ok (.iconst 1, 1) := by decide +kernel
theorem dX10_work_124 : decode cX10_work 124 = .ok (.if_icmp .le 25, 3) := by decide +kernel
theorem dX10_work_127 : decode cX10_work 127 = .ok (.aload_n 0, 1) := by decide +kernel
theorem dX10_work_128 : decode cX10_work 128 = .ok (.getfield 117, 3) := by decide +kernel
theorem dX10_work_131 : decode cX10_work 131 = .ok (.aload_n 0, 1) := by decide +kernel
theorem dX10_work_132 : decode cX10_work 132 = .ok (.iload_n 3, 1) := by decide +kernel
theorem dX10_work_133 : decode cX10_work 133 = .ok (.aload_n 0, 1) := by decide +kernel
theorem dX10_work_134 : decode cX10_work 134 = .ok (.getfield 31, 3) := by decide +kernel
theorem dX10_work_137 : decode cX10_work 137 = .ok (.iload 4, 2) := by decide +kernel
theorem dX10_work_139 : decode cX10_work 139 = .ok (.iaload, 1) := by decide +kernel
theorem dX10_work_140 : decode cX10_work 140 = .ok (.invokevirtual 237, 3) := by decide +kernel
theorem dX10_work_143 : decode cX10_work 143 = .ok (.baload, 1) := by decide +kernel
theorem dX10_work_144 : decode cX10_work 144 = .ok (.ifCond .ne 5, 3) := by decide +kernel
theorem dX10_work_147 : decode cX10_work 147 = .ok (.iconst 0, 1) := by decide +kernel
theorem dX10_work_148 : decode cX10_work 148 = .ok (.ireturn, 1) := by decide +kernel
theorem dX10_work_149 : decode cX10_work 149 = .ok (.aload_n 0, 1) := by decide +kernel
theorem dX10_work_150 : decode cX10_work 150 = .ok (.getfield 113, 3) := by decide +kernel
theorem dX10_work_153 : decode cX10_work 153 = .ok (.iload 5, 2) := by decide +kernel
theorem dX10_work_155 : decode cX10_work 155 = .ok (.iload 6, 2) := by decide +kernel
theorem dX10_work_157 : decode cX10_work 157 = .ok (.ifCond .ne 14, 3) := by decide +kernel
theorem dX10_work_160 : decode cX10_work 160 = .ok (.aload_n 0, 1) := by decide +kernel
theorem dX10_work_161 : decode cX10_work 161 = .ok (.getfield 28, 3) := by decide +kernel
theorem dX10_work_164 : decode cX10_work 164 = .ok (.iload 4, 2) := by decide +kernel
theorem dX10_work_166 : decode cX10_work 166 = .ok (.iaload, 1) := by decide +kernel
theorem dX10_work_167 : decode cX10_work 167 = .ok (.i2l, 1) := by decide +kernel
theorem dX10_work_168 : decode cX10_work 168 = .ok (.goto 52, 3) := by decide +kernel
theorem dX10_work_171 : decode cX10_work 171 = .ok (.iload 6, 2) := by decide +kernel
theorem dX10_work_173 : decode cX10_work 173 = .ok (.aload_n 0, 1) := by decide +kernel
theorem dX10_work_174 : decode cX10_work 174 = .ok (.getfield 113, 3) := by decide +kernel
theorem dX10_work_177 : decode cX10_work 177 = .ok (.aload_n 0, 1) := by decide +kernel
theorem dX10_work_178 : decode cX10_work 178 = .ok (.iload_n 3, 1) := by decide +kernel
theorem dX10_work_179 : decode cX10_work 179 = .ok (.aload_n 0, 1) := by decide +kernel
theorem dX10_work_180 : decode cX10_work 180 = .ok (.getfield 28, 3) := by decide +kernel
theorem dX10_work_183 : decode cX10_work 183 = .ok (.iload 4, 2) := by decide +kernel
theorem dX10_work_185 : decode cX10_work 185 = .ok (.iaload, 1) := by decide +kernel
theorem dX10_work_186 : decode cX10_work 186 = .ok (.invokevirtual 237, 3) := by decide +kernel
theorem dX10_work_189 : decode cX10_work 189 = .ok (.laload, 1) := by decide +kernel
theorem dX10_work_190 : decode cX10_work 190 = .ok (.iload 6, 2) := by decide +kernel
theorem dX10_work_192 : decode cX10_work 192 = .ok (.iconst 1, 1) := by decide +kernel
theorem dX10_work_193 : decode cX10_work 193 = .ok (.if_icmp .le 23, 3) := by decide +kernel
theorem dX10_work_196 : decode cX10_work 196 = .ok (.aload_n 0, 1) := by decide +kernel
theorem dX10_work_197 : decode cX10_work 197 = .ok (.getfield 113, 3) := by decide +kernel
theorem dX10_work_200 : decode cX10_work 200 = .ok (.aload_n 0, 1) := by decide +kernel
theorem dX10_work_201 : decode cX10_work 201 = .ok (.iload_n 3, 1) := by decide +kernel
theorem dX10_work_202 : decode cX10_work 202 = .ok (.aload_n 0, 1) := by decide +kernel
theorem dX10_work_203 : decode cX10_work 203 = .ok (.getfield 31, 3) := by decide +kernel
theorem dX10_work_206 : decode cX10_work 206 = .ok (.iload 4, 2) := by decide +kernel
theorem dX10_work_208 : decode cX10_work 208 = .ok (.iaload, 1) := by decide +kernel
theorem dX10_work_209 : decode cX10_work 209 = .ok (.invokevirtual 237, 3) := by decide +kernel
theorem dX10_work_212 : decode cX10_work 212 = .ok (.laload, 1) := by decide +kernel
theorem dX10_work_213 : decode cX10_work 213 = .ok (.goto 4, 3) := by decide +kernel
theorem dX10_work_216 : decode cX10_work 216 = .ok (.lconst 0, 1) := by decide +kernel
theorem dX10_work_217 : decode cX10_work 217 = .ok (.invokestatic 240, 3) := by decide +kernel
theorem dX10_work_220 : decode cX10_work 220 = .ok (.lastore, 1) := by decide +kernel
theorem dX10_work_221 : decode cX10_work 221 = .ok (.aload_n 0, 1) := by decide +kernel
theorem dX10_work_222 : decode cX10_work 222 = .ok (.getfield 117, 3) := by decide +kernel
theorem dX10_work_225 : decode cX10_work 225 = .ok (.iload 5, 2) := by decide +kernel
theorem dX10_work_227 : decode cX10_work 227 = .ok (.iconst 1, 1) := by decide +kernel
theorem dX10_work_228 : decode cX10_work 228 = .ok (.bastore, 1) := by decide +kernel
theorem dX10_work_229 : decode cX10_work 229 = .ok (.iconst 1, 1) := by decide +kernel
theorem dX10_work_230 : decode cX10_work 230 = .ok (.ireturn, 1) := by decide +kernel
theorem dX10_attributes_0 : decode cX10_attributes 0 = .ok (.iconst 1, 1) := by decide +kernel
theorem dX10_attributes_1 : decode cX10_attributes 1 = .ok (.istore_n 1, 1) := by decide +kernel
theorem dX10_attributes_2 : decode cX10_attributes 2 = .ok (.iload_n 1, 1) := by decide +kernel
theorem dX10_attributes_3 : decode cX10_attributes 3 = .ok (.ifCond .eq 50, 3) := by decide +kernel
theorem dX10_attributes_6 : decode cX10_attributes 6 = .ok (.iconst 0, 1) := by decide +kernel
theorem dX10_attributes_7 : decode cX10_attributes 7 = .ok (.istore_n 1, 1) := by decide +kernel
theorem dX10_attributes_8 : decode cX10_attributes 8 = .ok (.iconst 0, 1) := by decide +kernel
theorem dX10_attributes_9 : decode cX10_attributes 9 = .ok (.istore_n 2, 1) := by decide +kernel
theorem dX10_attributes_10 : decode cX10_attributes 10 = .ok (.iload_n 2, 1) := by decide +kernel
theorem dX10_attributes_11 : decode cX10_attributes 11 = .ok (.iconst 3, 1) := by decide +kernel
theorem dX10_attributes_12 : decode cX10_attributes 12 = .ok (.aload_n 0, 1) := by decide +kernel
theorem dX10_attributes_13 : decode cX10_attributes 13 = .ok (.getfield 234, 3) := by decide +kernel
theorem dX10_attributes_16 : decode cX10_attributes 16 = .ok (.imul, 1) := by decide +kernel
theorem dX10_attributes_17 : decode cX10_attributes 17 = .ok (.if_icmp .ge 33, 3) := by decide +kernel
theorem dX10_attributes_20 : decode cX10_attributes 20 = .ok (.aload_n 0, 1) := by decide +kernel
theorem dX10_attributes_21 : decode cX10_attributes 21 = .ok (.getfield 117, 3) := by decide +kernel
theorem dX10_attributes_24 : decode cX10_attributes 24 = .ok (.iload_n 2, 1) := by decide +kernel
theorem dX10_attributes_25 : decode cX10_attributes 25 = .ok (.baload, 1) := by decide +kernel
theorem dX10_attributes_26 : decode cX10_attributes 26 = .ok (.ifCond .ne 18, 3) := by decide +kernel
theorem dX10_attributes_29 : decode cX10_attributes 29 = .ok (.aload_n 0, 1) := by decide +kernel
theorem dX10_attributes_30 : decode cX10_attributes 30 = .ok (.iload_n 2, 1) := by decide +kernel
theorem dX10_attributes_31 : decode cX10_attributes 31 = .ok (.iconst 3, 1) := by decide +kernel
theorem dX10_attributes_32 : decode cX10_attributes 32 = .ok (.idiv, 1) := by decide +kernel
theorem dX10_attributes_33 : decode cX10_attributes 33 = .ok (.iload_n 2, 1) := by decide +kernel
theorem dX10_attributes_34 : decode cX10_attributes 34 = .ok (.iconst 3, 1) := by decide +kernel
theorem dX10_attributes_35 : decode cX10_attributes 35 = .ok (.irem, 1) := by decide +kernel
theorem dX10_attributes_36 : decode cX10_attributes 36 = .ok (.invokevirtual 244, 3) := by decide +kernel
theorem dX10_attributes_39 : decode cX10_attributes 39 = .ok (.ifCond .eq 5, 3) := by decide +kernel
theorem dX10_attributes_42 : decode cX10_attributes 42 = .ok (.iconst 1, 1) := by decide +kernel
theorem dX10_attributes_43 : decode cX10_attributes 43 = .ok (.istore_n 1, 1) := by decide +kernel
theorem dX10_attributes_44 : decode cX10_attributes 44 = .ok (.iinc 2 1, 3) := by decide +kernel
theorem dX10_attributes_47 : decode cX10_attributes 47 = .ok (.goto (-37), 3) := by decide +kernel
theorem dX10_attributes_50 : decode cX10_attributes 50 = .ok (.goto (-48), 3) := by decide +kernel
theorem dX10_attributes_53 : decode cX10_attributes 53 = .ok (.return_, 1) := by decide +kernel
theorem dX10_parse_0 : decode cX10_parse 0 = .ok (.aload_n 0, 1) := by decide +kernel
theorem dX10_parse_1 : decode cX10_parse 1 = .ok (.aload_n 0, 1) := by decide +kernel
theorem dX10_parse_2 : decode cX10_parse 2 = .ok (.getfield 148, 3) := by decide +kernel
theorem dX10_parse_5 : decode cX10_parse 5 = .ok (.ifCond .eq 21, 3) := by decide +kernel
theorem dX10_parse_8 : decode cX10_parse 8 = .ok (.aload_n 0, 1) := by decide +kernel
theorem dX10_parse_9 : decode cX10_parse 9 = .ok (.getfield 215, 3) := by decide +kernel
theorem dX10_parse_12 : decode cX10_parse 12 = .ok (.ifCond .ne 14, 3) := by decide +kernel
theorem dX10_parse_15 : decode cX10_parse 15 = .ok (.aload_n 0, 1) := by decide +kernel
theorem dX10_parse_16 : decode cX10_parse 16 = .ok (.getfield 193, 3) := by decide +kernel
theorem dX10_parse_19 : decode cX10_parse 19 = .ok (.ifCond .ne 7, 3) := by decide +kernel
theorem dX10_parse_22 : decode cX10_parse 22 = .ok (.iconst 1, 1) := by decide +kernel
theorem dX10_parse_23 : decode cX10_parse 23 = .ok (.goto 4, 3) := by decide +kernel
theorem dX10_parse_26 : decode cX10_parse 26 = .ok (.iconst 0, 1) := by decide +kernel
theorem dX10_parse_27 : decode cX10_parse 27 = .ok (.iconst 1, 1) := by decide +kernel
theorem dX10_parse_28 : decode cX10_parse 28 = .ok (.invokevirtual 141, 3) := by decide +kernel
theorem dX10_parse_31 : decode cX10_parse 31 = .ok (.ifCond .ne 5, 3) := by decide +kernel
theorem dX10_parse_34 : decode cX10_parse 34 = .ok (.iconst 0, 1) := by decide +kernel
theorem dX10_parse_35 : decode cX10_parse 35 = .ok (.ireturn, 1) := by decide +kernel
theorem dX10_parse_36 : decode cX10_parse 36 = .ok (.aload_n 0, 1) := by decide +kernel
theorem dX10_parse_37 : decode cX10_parse 37 = .ok (.iconst (-1), 1) := by decide +kernel
theorem dX10_parse_38 : decode cX10_parse 38 = .ok (.putfield 120, 3) := by decide +kernel
theorem dX10_parse_41 : decode cX10_parse 41 = .ok (.aload_n 0, 1) := by decide +kernel
theorem dX10_parse_42 : decode cX10_parse 42 = .ok (.aload_n 0, 1) := by decide +kernel
theorem dX10_parse_43 : decode cX10_parse 43 = .ok (.invokevirtual 247, 3) := by decide +kernel
theorem dX10_parse_46 : decode cX10_parse 46 = .ok (.putfield 124, 3) := by decide +kernel
theorem dX10_parse_49 : decode cX10_parse 49 = .ok (.aload_n 0, 1) := by decide +kernel
theorem dX10_parse_50 : decode cX10_parse 50 = .ok (.getfield 124, 3) := by decide +kernel
theorem dX10_parse_53 : decode cX10_parse 53 = .ok (.ifCond .ne 11, 3) := by decide +kernel
theorem dX10_parse_56 : decode cX10_parse 56 = .ok (.aload_n 0, 1) := by decide +kernel
theorem dX10_parse_57 : decode cX10_parse 57 = .ok (.invokevirtual 250, 3) := by decide +kernel
theorem dX10_parse_60 : decode cX10_parse 60 = .ok (.aload_n 0, 1) := by decide +kernel
theorem dX10_parse_61 : decode cX10_parse 61 = .ok (.invokevirtual 253, 3) := by decide +kernel
theorem dX10_parse_64 : decode cX10_parse 64 = .ok (.aload_n 0, 1) := by decide +kernel
theorem dX10_parse_65 : decode cX10_parse 65 = .ok (.iconst 0, 1) := by decide +kernel
theorem dX10_parse_66 : decode cX10_parse 66 = .ok (.putfield 224, 3) := by decide +kernel
theorem dX10_parse_69 : decode cX10_parse 69 = .ok (.aload_n 0, 1) := by decide +kernel
theorem dX10_parse_70 : decode cX10_parse 70 = .ok (.getfield 124, 3) := by decide +kernel
theorem dX10_parse_73 : decode cX10_parse 73 = .ok (.ifCond .ne 10, 3) := by decide +kernel
theorem dX10_parse_76 : decode cX10_parse 76 = .ok (.aload_n 0, 1) := by decide +kernel
theorem dX10_parse_77 : decode cX10_parse 77 = .ok (.getfield 234, 3) := by decide +kernel
theorem dX10_parse_80 : decode cX10_parse 80 = .ok (.goto 4, 3) := by decide +kernel
theorem dX10_parse_83 : decode cX10_parse 83 = .ok (.iconst 0, 1) := by decide +kernel
theorem dX10_parse_84 : decode cX10_parse 84 = .ok (.ireturn, 1) := by decide +kernel
theorem dX10_fault_0 : decode cX10_fault 0 = .ok (.aload_n 0, 1) := by decide +kernel
theorem dX10_fault_1 : decode cX10_fault 1 = .ok (.iconst 0, 1) := by decide +kernel
theorem dX10_fault_2 : decode cX10_fault 2 = .ok (.putfield 124, 3) := by decide +kernel
theorem dX10_fault_5 : decode cX10_fault 5 = .ok (.aload_n 0, 1) := by decide +kernel
theorem dX10_fault_6 : decode cX10_fault 6 = .ok (.getfield 120, 3) := by decide +kernel
theorem dX10_fault_9 : decode cX10_fault 9 = .ok (.ireturn, 1) := by decide +kernel
theorem dX10_node_0 : decode cX10_node 0 = .ok (.aload_n 0, 1) := by decide +kernel
theorem dX10_node_1 : decode cX10_node 1 = .ok (.iload_n 1, 1) := by decide +kernel
theorem dX10_node_2 : decode cX10_node 2 = .ok (.iconst 0, 1) := by decide +kernel
theorem dX10_node_3 : decode cX10_node 3 = .ok (.aload_n 0, 1) := by decide +kernel
theorem dX10_node_4 : decode cX10_node 4 = .ok (.getfield 234, 3) := by decide +kernel
theorem dX10_node_7 : decode cX10_node 7 = .ok (.iconst 1, 1) := by decide +kernel
theorem dX10_node_8 : decode cX10_node 8 = .ok (.isub, 1) := by decide +kernel
theorem dX10_node_9 : decode cX10_node 9 = .ok (.invokestatic 127, 3) := by decide +kernel
theorem dX10_node_12 : decode cX10_node 12 = .ok (.iconst 1, 1) := by decide +kernel
theorem dX10_node_13 : decode cX10_node 13 = .ok (.invokevirtual 141, 3) := by decide +kernel
theorem dX10_node_16 : decode cX10_node 16 = .ok (.ifCond .eq 17, 3) := by decide +kernel
theorem dX10_node_19 : decode cX10_node 19 = .ok (.aload_n 0, 1) := by decide +kernel
theorem dX10_node_20 : decode cX10_node 20 = .ok (.iload_n 2, 1) := by decide +kernel
theorem dX10_node_21 : decode cX10_node 21 = .ok (.iconst 0, 1) := by decide +kernel
theorem dX10_node_22 : decode cX10_node 22 = .ok (.iconst 3, 1) := by decide +kernel
theorem dX10_node_23 : decode cX10_node 23 = .ok (.invokestatic 127, 3) := by decide +kernel
theorem dX10_node_26 : decode cX10_node 26 = .ok (.iconst 2, 1) := by decide +kernel
theorem dX10_node_27 : decode cX10_node 27 = .ok (.invokevirtual 141, 3) := by decide +kernel
theorem dX10_node_30 : decode cX10_node 30 = .ok (.ifCond .ne 5, 3) := by decide +kernel
theorem dX10_node_33 : decode cX10_node 33 = .ok (.iconst 0, 1) := by decide +kernel
theorem dX10_node_34 : decode cX10_node 34 = .ok (.ireturn, 1) := by decide +kernel
theorem dX10_node_35 : decode cX10_node 35 = .ok (.iload_n 2, 1) := by decide +kernel
theorem dX10_node_36 : decode cX10_node 36 = .ok (.ifCond .ne 12, 3) := by decide +kernel
theorem dX10_node_39 : decode cX10_node 39 = .ok (.aload_n 0, 1) := by decide +kernel
theorem dX10_node_40 : decode cX10_node 40 = .ok (.getfield 98, 3) := by decide +kernel
theorem dX10_node_43 : decode cX10_node 43 = .ok (.iload_n 1, 1) := by decide +kernel
theorem dX10_node_44 : decode cX10_node 44 = .ok (.iaload, 1) := by decide +kernel
theorem dX10_node_45 : decode cX10_node 45 = .ok (.goto 37, 3) := by decide +kernel
theorem dX10_node_48 : decode cX10_node 48 = .ok (.iload_n 2, 1) := by decide +kernel
theorem dX10_node_49 : decode cX10_node 49 = .ok (.iconst 1, 1) := by decide +kernel
theorem dX10_node_50 : decode cX10_node 50 = .ok (.if_icmp .ne 12, 3) := by decide +kernel
theorem dX10_node_53 : decode cX10_node 53 = .ok (.aload_n 0, 1) := by decide +kernel
theorem dX10_node_54 : decode cX10_node 54 = .ok (.getfield 101, 3) := by decide +kernel
theorem dX10_node_57 : decode cX10_node 57 = .ok (.iload_n 1, 1) := by decide +kernel
theorem dX10_node_58 : decode cX10_node 58 = .ok (.iaload, 1) := by decide +kernel
theorem dX10_node_59 : decode cX10_node 59 = .ok (.goto 23, 3) := by decide +kernel
theorem dX10_node_62 : decode cX10_node 62 = .ok (.iload_n 2, 1) := by decide +kernel
theorem dX10_node_63 : decode cX10_node 63 = .ok (.iconst 2, 1) := by decide +kernel
theorem dX10_node_64 : decode cX10_node 64 = .ok (.if_icmp .ne 12, 3) := by decide +kernel
theorem dX10_node_67 : decode cX10_node 67 = .ok (.aload_n 0, 1) := by decide +kernel
theorem dX10_node_68 : decode cX10_node 68 = .ok (.getfield 104, 3) := by decide +kernel
theorem dX10_node_71 : decode cX10_node 71 = .ok (.iload_n 1, 1) := by decide +kernel
theorem dX10_node_72 : decode cX10_node 72 = .ok (.iaload, 1) := by decide +kernel
theorem dX10_node_73 : decode cX10_node 73 = .ok (.goto 9, 3) := by decide +kernel
theorem dX10_node_76 : decode cX10_node 76 = .ok (.aload_n 0, 1) := by decide +kernel
theorem dX10_node_77 : decode cX10_node 77 = .ok (.getfield 107, 3) := by decide +kernel
theorem dX10_node_80 : decode cX10_node 80 = .ok (.iload_n 1, 1) := by decide +kernel
theorem dX10_node_81 : decode cX10_node 81 = .ok (.iaload, 1) := by decide +kernel
theorem dX10_node_82 : decode cX10_node 82 = .ok (.ireturn, 1) := by decide +kernel
theorem dX10_attribute_0 : decode cX10_attribute 0 = .ok (.aload_n 0, 1) := by decide +kernel
theorem dX10_attribute_1 : decode cX10_attribute 1 = .ok (.iload_n 1, 1) := by decide +kernel
theorem dX10_attribute_2 : decode cX10_attribute 2 = .ok (.iconst 0, 1) := by decide +kernel
theorem dX10_attribute_3 : decode cX10_attribute 3 = .ok (.aload_n 0, 1) := by decide +kernel
theorem dX10_attribute_4 : decode cX10_attribute 4 = .ok (.getfield 234, 3) := by decide +kernel
theorem dX10_attribute_7 : decode cX10_attribute 7 = .ok (.iconst 1, 1) := by decide +kernel
theorem dX10_attribute_8 : decode cX10_attribute 8 = .ok (.isub, 1) := by decide +kernel
theorem dX10_attribute_9 : decode cX10_attribute 9 = .ok (.invokestatic 127, 3) := by decide +kernel
theorem dX10_attribute_12 : decode cX10_attribute 12 = .ok (.iconst 1, 1) := by decide +kernel
theorem dX10_attribute_13 : decode cX10_attribute 13 = .ok (.invokevirtual 141, 3) := by decide +kernel
theorem dX10_attribute_16 : decode cX10_attribute 16 = .ok (.ifCond .eq 17, 3) := by decide +kernel
theorem dX10_attribute_19 : decode cX10_attribute 19 = .ok (.aload_n 0, 1) := by decide +kernel
theorem dX10_attribute_20 : decode cX10_attribute 20 = .ok (.iload_n 2, 1) := by decide +kernel
theorem dX10_attribute_21 : decode cX10_attribute 21 = .ok (.iconst 0, 1) := by decide +kernel
theorem dX10_attribute_22 : decode cX10_attribute 22 = .ok (.iconst 2, 1) := by decide +kernel
theorem dX10_attribute_23 : decode cX10_attribute 23 = .ok (.invokestatic 127, 3) := by decide +kernel
theorem dX10_attribute_26 : decode cX10_attribute 26 = .ok (.iconst 2, 1) := by decide +kernel
theorem dX10_attribute_27 : decode cX10_attribute 27 = .ok (.invokevirtual 141, 3) := by decide +kernel
theorem dX10_attribute_30 : decode cX10_attribute 30 = .ok (.ifCond .ne 5, 3) := by decide +kernel
theorem dX10_attribute_33 : decode cX10_attribute 33 = .ok (.lconst 0, 1) := by decide +kernel
theorem dX10_attribute_34 : decode cX10_attribute 34 = .ok (.lreturn, 1) := by decide +kernel
theorem dX10_attribute_35 : decode cX10_attribute 35 = .ok (.aload_n 0, 1) := by decide +kernel
theorem dX10_attribute_36 : decode cX10_attribute 36 = .ok (.getfield 113, 3) := by decide +kernel
theorem dX10_attribute_39 : decode cX10_attribute 39 = .ok (.iconst 3, 1) := by decide +kernel
theorem dX10_attribute_40 : decode cX10_attribute 40 = .ok (.iload_n 1, 1) := by decide +kernel
theorem dX10_attribute_41 : decode cX10_attribute 41 = .ok (.imul, 1) := by decide +kernel
theorem dX10_attribute_42 : decode cX10_attribute 42 = .ok (.iload_n 2, 1) := by decide +kernel
theorem dX10_attribute_43 : decode cX10_attribute 43 = .ok (.iadd, 1) := by decide +kernel
theorem dX10_attribute_44 : decode cX10_attribute 44 = .ok (.laload, 1) := by decide +kernel
theorem dX10_attribute_45 : decode cX10_attribute 45 = .ok (.lreturn, 1) := by decide +kernel
theorem dX10_clear_0 : decode cX10_clear 0 = .ok (.aload_n 0, 1) := by decide +kernel
theorem dX10_clear_1 : decode cX10_clear 1 = .ok (.iconst 0, 1) := by decide +kernel
theorem dX10_clear_2 : decode cX10_clear 2 = .ok (.putfield 124, 3) := by decide +kernel
theorem dX10_clear_5 : decode cX10_clear 5 = .ok (.aload_n 0, 1) := by decide +kernel
theorem dX10_clear_6 : decode cX10_clear 6 = .ok (.getfield 145, 3) := by decide +kernel
theorem dX10_clear_9 : decode cX10_clear 9 = .ok (.istore_n 1, 1) := by decide +kernel
theorem dX10_clear_10 : decode cX10_clear 10 = .ok (.aload_n 0, 1) := by decide +kernel
theorem dX10_clear_11 : decode cX10_clear 11 = .ok (.iconst 0, 1) := by decide +kernel
theorem dX10_clear_12 : decode cX10_clear 12 = .ok (.putfield 145, 3) := by decide +kernel
theorem dX10_clear_15 : decode cX10_clear 15 = .ok (.aload_n 0, 1) := by decide +kernel
theorem dX10_clear_16 : decode cX10_clear 16 = .ok (.iconst 0, 1) := by decide +kernel
theorem dX10_clear_17 : decode cX10_clear 17 = .ok (.putfield 224, 3) := by decide +kernel
theorem dX10_clear_20 : decode cX10_clear 20 = .ok (.aload_n 0, 1) := by decide +kernel
theorem dX10_clear_21 : decode cX10_clear 21 = .ok (.iconst 0, 1) := by decide +kernel
theorem dX10_clear_22 : decode cX10_clear 22 = .ok (.putfield 148, 3) := by decide +kernel
theorem dX10_clear_25 : decode cX10_clear 25 = .ok (.iconst 0, 1) := by decide +kernel
theorem dX10_clear_26 : decode cX10_clear 26 = .ok (.istore_n 2, 1) := by decide +kernel
theorem dX10_clear_27 : decode cX10_clear 27 = .ok (.iload_n 2, 1) := by decide +kernel
theorem dX10_clear_28 : decode cX10_clear 28 = .ok (.sipush 210, 3) := by decide +kernel
theorem dX10_clear_31 : decode cX10_clear 31 = .ok (.if_icmp .ge 16, 3) := by decide +kernel
theorem dX10_clear_34 : decode cX10_clear 34 = .ok (.aload_n 0, 1) := by decide +kernel
theorem dX10_clear_35 : decode cX10_clear 35 = .ok (.getfield 25, 3) := by decide +kernel
theorem dX10_clear_38 : decode cX10_clear 38 = .ok (.iload_n 2, 1) := by decide +kernel
theorem dX10_clear_39 : decode cX10_clear 39 = .ok (.iconst (-1), 1) := by decide +kernel
theorem dX10_clear_40 : decode cX10_clear 40 = .ok (.iastore, 1) := by decide +kernel
theorem dX10_clear_41 : decode cX10_clear 41 = .ok (.iinc 2 1, 3) := by decide +kernel
theorem dX10_clear_44 : decode cX10_clear 44 = .ok (.goto (-17), 3) := by decide +kernel
theorem dX10_clear_47 : decode cX10_clear 47 = .ok (.iconst 0, 1) := by decide +kernel
theorem dX10_clear_48 : decode cX10_clear 48 = .ok (.istore_n 2, 1) := by decide +kernel
theorem dX10_clear_49 : decode cX10_clear 49 = .ok (.iload_n 2, 1) := by decide +kernel
theorem dX10_clear_50 : decode cX10_clear 50 = .ok (.bipush 7, 2) := by decide +kernel
theorem dX10_clear_52 : decode cX10_clear 52 = .ok (.if_icmp .ge 23, 3) := by decide +kernel
theorem dX10_clear_55 : decode cX10_clear 55 = .ok (.aload_n 0, 1) := by decide +kernel
theorem dX10_clear_56 : decode cX10_clear 56 = .ok (.getfield 19, 3) := by decide +kernel
theorem dX10_clear_59 : decode cX10_clear 59 = .ok (.iload_n 2, 1) := by decide +kernel
theorem dX10_clear_60 : decode cX10_clear 60 = .ok (.iconst 0, 1) := by decide +kernel
theorem dX10_clear_61 : decode cX10_clear 61 = .ok (.iastore, 1) := by decide +kernel
theorem dX10_clear_62 : decode cX10_clear 62 = .ok (.aload_n 0, 1) := by decide +kernel
theorem dX10_clear_63 : decode cX10_clear 63 = .ok (.getfield 22, 3) := by decide +kernel
theorem dX10_clear_66 : decode cX10_clear 66 = .ok (.iload_n 2, 1) := by decide +kernel
theorem dX10_clear_67 : decode cX10_clear 67 = .ok (.iconst 0, 1) := by decide +kernel
theorem dX10_clear_68 : decode cX10_clear 68 = .ok (.iastore, 1) := by decide +kernel
theorem dX10_clear_69 : decode cX10_clear 69 = .ok (.iinc 2 1, 3) := by decide +kernel
theorem dX10_clear_72 : decode cX10_clear 72 = .ok (.goto (-23), 3) := by decide +kernel
theorem dX10_clear_75 : decode cX10_clear 75 = .ok (.iload_n 1, 1) := by decide +kernel
theorem dX10_clear_76 : decode cX10_clear 76 = .ok (.ireturn, 1) := by decide +kernel
theorem dX10_count_0 : decode cX10_count 0 = .ok (.aload_n 0, 1) := by decide +kernel
theorem dX10_count_1 : decode cX10_count 1 = .ok (.iload_n 1, 1) := by decide +kernel
theorem dX10_count_2 : decode cX10_count 2 = .ok (.iconst 0, 1) := by decide +kernel
theorem dX10_count_3 : decode cX10_count 3 = .ok (.bipush 6, 2) := by decide +kernel
theorem dX10_count_5 : decode cX10_count 5 = .ok (.invokestatic 127, 3) := by decide +kernel
theorem dX10_count_8 : decode cX10_count 8 = .ok (.iconst 1, 1) := by decide +kernel
theorem dX10_count_9 : decode cX10_count 9 = .ok (.invokevirtual 141, 3) := by decide +kernel
theorem dX10_count_12 : decode cX10_count 12 = .ok (.ifCond .ne 5, 3) := by decide +kernel
theorem dX10_count_15 : decode cX10_count 15 = .ok (.iconst 0, 1) := by decide +kernel
theorem dX10_count_16 : decode cX10_count 16 = .ok (.ireturn, 1) := by decide +kernel
theorem dX10_count_17 : decode cX10_count 17 = .ok (.iconst 0, 1) := by decide +kernel
theorem dX10_count_18 : decode cX10_count 18 = .ok (.istore_n 2, 1) := by decide +kernel
theorem dX10_count_19 : decode cX10_count 19 = .ok (.iconst 0, 1) := by decide +kernel
theorem dX10_count_20 : decode cX10_count 20 = .ok (.istore_n 3, 1) := by decide +kernel
theorem dX10_count_21 : decode cX10_count 21 = .ok (.iload_n 3, 1) := by decide +kernel
theorem dX10_count_22 : decode cX10_count 22 = .ok (.sipush 210, 3) := by decide +kernel
theorem dX10_count_25 : decode cX10_count 25 = .ok (.if_icmp .ge 21, 3) := by decide +kernel
theorem dX10_count_28 : decode cX10_count 28 = .ok (.aload_n 0, 1) := by decide +kernel
theorem dX10_count_29 : decode cX10_count 29 = .ok (.getfield 25, 3) := by decide +kernel
theorem dX10_count_32 : decode cX10_count 32 = .ok (.iload_n 3, 1) := by decide +kernel
theorem dX10_count_33 : decode cX10_count 33 = .ok (.iaload, 1) := by decide +kernel
theorem dX10_count_34 : decode cX10_count 34 = .ok (.ifCond .lt 6, 3) := by decide +kernel
theorem dX10_count_37 : decode cX10_count 37 = .ok (.iinc 2 1, 3) := by decide +kernel
theorem dX10_count_40 : decode cX10_count 40 = .ok (.iinc 3 1, 3) := by decide +kernel
theorem dX10_count_43 : decode cX10_count 43 = .ok (.goto (-22), 3) := by decide +kernel
theorem dX10_count_46 : decode cX10_count 46 = .ok (.iload_n 1, 1) := by decide +kernel
theorem dX10_count_47 : decode cX10_count 47 = .ok (.iconst 1, 1) := by decide +kernel
theorem dX10_count_48 : decode cX10_count 48 = .ok (.if_icmp .le 17, 3) := by decide +kernel
theorem dX10_count_51 : decode cX10_count 51 = .ok (.iload_n 1, 1) := by decide +kernel
theorem dX10_count_52 : decode cX10_count 52 = .ok (.iconst 5, 1) := by decide +kernel
theorem dX10_count_53 : decode cX10_count 53 = .ok (.if_icmp .ge 12, 3) := by decide +kernel
theorem dX10_count_56 : decode cX10_count 56 = .ok (.aload_n 0, 1) := by decide +kernel
theorem dX10_count_57 : decode cX10_count 57 = .ok (.getfield 148, 3) := by decide +kernel
theorem dX10_count_60 : decode cX10_count 60 = .ok (.ifCond .ne 5, 3) := by decide +kernel
theorem dX10_count_63 : decode cX10_count 63 = .ok (.iconst 0, 1) := by decide +kernel
theorem dX10_count_64 : decode cX10_count 64 = .ok (.ireturn, 1) := by decide +kernel
theorem dX10_count_65 : decode cX10_count 65 = .ok (.iload_n 1, 1) := by decide +kernel
theorem dX10_count_66 : decode cX10_count 66 = .ok (.ifCond .ne 10, 3) := by decide +kernel
theorem dX10_count_69 : decode cX10_count 69 = .ok (.aload_n 0, 1) := by decide +kernel
theorem dX10_count_70 : decode cX10_count 70 = .ok (.getfield 145, 3) := by decide +kernel
theorem dX10_count_73 : decode cX10_count 73 = .ok (.goto 72, 3) := by decide +kernel
theorem dX10_count_76 : decode cX10_count 76 = .ok (.iload_n 1, 1) := by decide +kernel
theorem dX10_count_77 : decode cX10_count 77 = .ok (.iconst 1, 1) := by decide +kernel
theorem dX10_count_78 : decode cX10_count 78 = .ok (.if_icmp .ne 7, 3) := by decide +kernel
theorem dX10_count_81 : decode cX10_count 81 = .ok (.iload_n 2, 1) := by decide +kernel
theorem dX10_count_82 : decode cX10_count 82 = .ok (.goto 63, 3) := by decide +kernel
theorem dX10_count_85 : decode cX10_count 85 = .ok (.iload_n 1, 1) := by decide +kernel
theorem dX10_count_86 : decode cX10_count 86 = .ok (.iconst 2, 1) := by decide +kernel
theorem dX10_count_87 : decode cX10_count 87 = .ok (.if_icmp .ne 10, 3) := by decide +kernel
theorem dX10_count_90 : decode cX10_count 90 = .ok (.aload_n 0, 1) := by decide +kernel
theorem dX10_count_91 : decode cX10_count 91 = .ok (.getfield 170, 3) := by decide +kernel
theorem dX10_count_94 : decode cX10_count 94 = .ok (.goto 51, 3) := by decide +kernel
theorem dX10_count_97 : decode cX10_count 97 = .ok (.iload_n 1, 1) := by decide +kernel
theorem dX10_count_98 : decode cX10_count 98 = .ok (.iconst 3, 1) := by decide +kernel
theorem dX10_count_99 : decode cX10_count 99 = .ok (.if_icmp .ne 10, 3) := by decide +kernel
theorem dX10_count_102 : decode cX10_count 102 = .ok (.aload_n 0, 1) := by decide +kernel
theorem dX10_count_103 : decode cX10_count 103 = .ok (.getfield 215, 3) := by decide +kernel
theorem dX10_count_106 : decode cX10_count 106 = .ok (.goto 39, 3) := by decide +kernel
theorem dX10_count_109 : decode cX10_count 109 = .ok (.iload_n 1, 1) := by decide +kernel
theorem dX10_count_110 : decode cX10_count 110 = .ok (.iconst 4, 1) := by decide +kernel
theorem dX10_count_111 : decode cX10_count 111 = .ok (.if_icmp .ne 18, 3) := by decide +kernel
theorem dX10_count_114 : decode cX10_count 114 = .ok (.aload_n 0, 1) := by decide +kernel
theorem dX10_count_115 : decode cX10_count 115 = .ok (.getfield 193, 3) := by decide +kernel
theorem dX10_count_118 : decode cX10_count 118 = .ok (.ifCond .eq 7, 3) := by decide +kernel
theorem dX10_count_121 : decode cX10_count 121 = .ok (.iconst 1, 1) := by decide +kernel
theorem dX10_count_122 : decode cX10_count 122 = .ok (.goto 23, 3) := by decide +kernel
theorem dX10_count_125 : decode cX10_count 125 = .ok (.iconst 0, 1) := by decide +kernel
theorem dX10_count_126 : decode cX10_count 126 = .ok (.goto 19, 3) := by decide +kernel
theorem dX10_count_129 : decode cX10_count 129 = .ok (.iload_n 1, 1) := by decide +kernel
theorem dX10_count_130 : decode cX10_count 130 = .ok (.iconst 5, 1) := by decide +kernel
theorem dX10_count_131 : decode cX10_count 131 = .ok (.if_icmp .ne 10, 3) := by decide +kernel
theorem dX10_count_134 : decode cX10_count 134 = .ok (.aload_n 0, 1) := by decide +kernel
theorem dX10_count_135 : decode cX10_count 135 = .ok (.getfield 234, 3) := by decide +kernel
theorem dX10_count_138 : decode cX10_count 138 = .ok (.goto 7, 3) := by decide +kernel
theorem dX10_count_141 : decode cX10_count 141 = .ok (.aload_n 0, 1) := by decide +kernel
theorem dX10_count_142 : decode cX10_count 142 = .ok (.getfield 224, 3) := by decide +kernel
theorem dX10_count_145 : decode cX10_count 145 = .ok (.ireturn, 1) := by decide +kernel
theorem dL_rule_0 : decode cL_rule 0 = .ok (.aload 6, 2) := by decide +kernel
theorem dL_rule_2 : decode cL_rule 2 = .ok (.iconst 0, 1) := by decide +kernel
theorem dL_rule_3 : decode cL_rule 3 = .ok (.aload_n 0, 1) := by decide +kernel
theorem dL_rule_4 : decode cL_rule 4 = .ok (.iload_n 1, 1) := by decide +kernel
theorem dL_rule_5 : decode cL_rule 5 = .ok (.iload_n 2, 1) := by decide +kernel
theorem dL_rule_6 : decode cL_rule 6 = .ok (.iload_n 3, 1) := by decide +kernel
theorem dL_rule_7 : decode cL_rule 7 = .ok (.iload 4, 2) := by decide +kernel
theorem dL_rule_9 : decode cL_rule 9 = .ok (.iload 5, 2) := by decide +kernel
theorem dL_rule_11 : decode cL_rule 11 = .ok (.invokevirtual 7, 3) := by decide +kernel
theorem dL_rule_14 : decode cL_rule 14 = .ok (.i2l, 1) := by decide +kernel
theorem dL_rule_15 : decode cL_rule 15 = .ok (.lastore, 1) := by decide +kernel
theorem dL_rule_16 : decode cL_rule 16 = .ok (.goto 11, 3) := by decide +kernel
theorem dL_rule_19 : decode cL_rule 19 = .ok (.astore 7, 2) := by decide +kernel
theorem dL_rule_21 : decode cL_rule 21 = .ok (.iconst 1, 1) := by decide +kernel
theorem dL_rule_22 : decode cL_rule 22 = .ok (.ireturn, 1) := by decide +kernel
theorem dL_rule_23 : decode cL_rule 23 = .ok (.astore 7, 2) := by decide +kernel
theorem dL_rule_25 : decode cL_rule 25 = .ok (.iconst 2, 1) := by decide +kernel
theorem dL_rule_26 : decode cL_rule 26 = .ok (.ireturn, 1) := by decide +kernel
theorem dL_rule_27 : decode cL_rule 27 = .ok (.iconst 0, 1) := by decide +kernel
theorem dL_rule_28 : decode cL_rule 28 = .ok (.ireturn, 1) := by decide +kernel
theorem dL_level_0 : decode cL_level 0 = .ok (.aload 4, 2) := by decide +kernel
theorem dL_level_2 : decode cL_level 2 = .ok (.iconst 0, 1) := by decide +kernel
theorem dL_level_3 : decode cL_level 3 = .ok (.aload_n 0, 1) := by decide +kernel
theorem dL_level_4 : decode cL_level 4 = .ok (.iload_n 1, 1) := by decide +kernel
theorem dL_level_5 : decode cL_level 5 = .ok (.iload_n 2, 1) := by decide +kernel
theorem dL_level_6 : decode cL_level 6 = .ok (.iload_n 3, 1) := by decide +kernel
theorem dL_level_7 : decode cL_level 7 = .ok (.invokevirtual 17, 3) := by decide +kernel
theorem dL_level_10 : decode cL_level 10 = .ok (.i2l, 1) := by decide +kernel
theorem dL_level_11 : decode cL_level 11 = .ok (.lastore, 1) := by decide +kernel
theorem dL_level_12 : decode cL_level 12 = .ok (.goto 7, 3) := by decide +kernel
theorem dL_level_15 : decode cL_level 15 = .ok (.astore 5, 2) := by decide +kernel
theorem dL_level_17 : decode cL_level 17 = .ok (.iconst 1, 1) := by decide +kernel
theorem dL_level_18 : decode cL_level 18 = .ok (.ireturn, 1) := by decide +kernel
theorem dL_level_19 : decode cL_level 19 = .ok (.iconst 0, 1) := by decide +kernel
theorem dL_level_20 : decode cL_level 20 = .ok (.ireturn, 1) := by decide +kernel
theorem dL_equation_0 : decode cL_equation 0 = .ok (.aload 6, 2) := by decide +kernel
theorem dL_equation_2 : decode cL_equation 2 = .ok (.iconst 0, 1) := by decide +kernel
theorem dL_equation_3 : decode cL_equation 3 = .ok (.aload_n 0, 1) := by decide +kernel
theorem dL_equation_4 : decode cL_equation 4 = .ok (.iload_n 1, 1) := by decide +kernel
theorem dL_equation_5 : decode cL_equation 5 = .ok (.iload_n 2, 1) := by decide +kernel
theorem dL_equation_6 : decode cL_equation 6 = .ok (.iload_n 3, 1) := by decide +kernel
theorem dL_equation_7 : decode cL_equation 7 = .ok (.iload 4, 2) := by decide +kernel
theorem dL_equation_9 : decode cL_equation 9 = .ok (.iload 5, 2) := by decide +kernel
theorem dL_equation_11 : decode cL_equation 11 = .ok (.invokevirtual 21, 3) := by decide +kernel
theorem dL_equation_14 : decode cL_equation 14 = .ok (.i2l, 1) := by decide +kernel
theorem dL_equation_15 : decode cL_equation 15 = .ok (.lastore, 1) := by decide +kernel
theorem dL_equation_16 : decode cL_equation 16 = .ok (.goto 11, 3) := by decide +kernel
theorem dL_equation_19 : decode cL_equation 19 = .ok (.astore 7, 2) := by decide +kernel
theorem dL_equation_21 : decode cL_equation 21 = .ok (.iconst 1, 1) := by decide +kernel
theorem dL_equation_22 : decode cL_equation 22 = .ok (.ireturn, 1) := by decide +kernel
theorem dL_equation_23 : decode cL_equation 23 = .ok (.astore 7, 2) := by decide +kernel
theorem dL_equation_25 : decode cL_equation 25 = .ok (.iconst 2, 1) := by decide +kernel
theorem dL_equation_26 : decode cL_equation 26 = .ok (.ireturn, 1) := by decide +kernel
theorem dL_equation_27 : decode cL_equation 27 = .ok (.iconst 0, 1) := by decide +kernel
theorem dL_equation_28 : decode cL_equation 28 = .ok (.ireturn, 1) := by decide +kernel
theorem dL_build_0 : decode cL_build 0 = .ok (.aload_n 1, 1) := by decide +kernel
theorem dL_build_1 : decode cL_build 1 = .ok (.iconst 0, 1) := by decide +kernel
theorem dL_build_2 : decode cL_build 2 = .ok (.aload_n 0, 1) := by decide +kernel
theorem dL_build_3 : decode cL_build 3 = .ok (.invokevirtual 26, 3) := by decide +kernel
theorem dL_build_6 : decode cL_build 6 = .ok (.i2l, 1) := by decide +kernel
theorem dL_build_7 : decode cL_build 7 = .ok (.lastore, 1) := by decide +kernel
theorem dL_build_8 : decode cL_build 8 = .ok (.goto 9, 3) := by decide +kernel
theorem dL_build_11 : decode cL_build 11 = .ok (.astore_n 2, 1) := by decide +kernel
theorem dL_build_12 : decode cL_build 12 = .ok (.iconst 1, 1) := by decide +kernel
theorem dL_build_13 : decode cL_build 13 = .ok (.ireturn, 1) := by decide +kernel
theorem dL_build_14 : decode cL_build 14 = .ok (.astore_n 2, 1) := by decide +kernel
theorem dL_build_15 : decode cL_build 15 = .ok (.iconst 2, 1) := by decide +kernel
theorem dL_build_16 : decode cL_build 16 = .ok (.ireturn, 1) := by decide +kernel
theorem dL_build_17 : decode cL_build 17 = .ok (.iconst 0, 1) := by decide +kernel
theorem dL_build_18 : decode cL_build 18 = .ok (.ireturn, 1) := by decide +kernel
theorem dL_first_0 : decode cL_first 0 = .ok (.aload_n 2, 1) := by decide +kernel
theorem dL_first_1 : decode cL_first 1 = .ok (.iconst 0, 1) := by decide +kernel
theorem dL_first_2 : decode cL_first 2 = .ok (.aload_n 0, 1) := by decide +kernel
theorem dL_first_3 : decode cL_first 3 = .ok (.iload_n 1, 1) := by decide +kernel
theorem dL_first_4 : decode cL_first 4 = .ok (.invokevirtual 32, 3) := by decide +kernel
theorem dL_first_7 : decode cL_first 7 = .ok (.i2l, 1) := by decide +kernel
theorem dL_first_8 : decode cL_first 8 = .ok (.lastore, 1) := by decide +kernel
theorem dL_first_9 : decode cL_first 9 = .ok (.goto 6, 3) := by decide +kernel
theorem dL_first_12 : decode cL_first 12 = .ok (.astore_n 3, 1) := by decide +kernel
theorem dL_first_13 : decode cL_first 13 = .ok (.iconst 1, 1) := by decide +kernel
theorem dL_first_14 : decode cL_first 14 = .ok (.ireturn, 1) := by decide +kernel
theorem dL_first_15 : decode cL_first 15 = .ok (.iconst 0, 1) := by decide +kernel
theorem dL_first_16 : decode cL_first 16 = .ok (.ireturn, 1) := by decide +kernel
theorem dL_action_0 : decode cL_action 0 = .ok (.aload_n 3, 1) := by decide +kernel
theorem dL_action_1 : decode cL_action 1 = .ok (.iconst 0, 1) := by decide +kernel
theorem dL_action_2 : decode cL_action 2 = .ok (.aload_n 0, 1) := by decide +kernel
theorem dL_action_3 : decode cL_action 3 = .ok (.iload_n 1, 1) := by decide +kernel
theorem dL_action_4 : decode cL_action 4 = .ok (.iload_n 2, 1) := by decide +kernel
theorem dL_action_5 : decode cL_action 5 = .ok (.invokevirtual 36, 3) := by decide +kernel
theorem dL_action_8 : decode cL_action 8 = .ok (.i2l, 1) := by decide +kernel
theorem dL_action_9 : decode cL_action 9 = .ok (.lastore, 1) := by decide +kernel
theorem dL_action_10 : decode cL_action 10 = .ok (.goto 11, 3) := by decide +kernel
theorem dL_action_13 : decode cL_action 13 = .ok (.astore 4, 2) := by decide +kernel
theorem dL_action_15 : decode cL_action 15 = .ok (.iconst 1, 1) := by decide +kernel
theorem dL_action_16 : decode cL_action 16 = .ok (.ireturn, 1) := by decide +kernel
theorem dL_action_17 : decode cL_action 17 = .ok (.astore 4, 2) := by decide +kernel
theorem dL_action_19 : decode cL_action 19 = .ok (.iconst 2, 1) := by decide +kernel
theorem dL_action_20 : decode cL_action 20 = .ok (.ireturn, 1) := by decide +kernel
theorem dL_action_21 : decode cL_action 21 = .ok (.iconst 0, 1) := by decide +kernel
theorem dL_action_22 : decode cL_action 22 = .ok (.ireturn, 1) := by decide +kernel
theorem dL_go_0 : decode cL_go 0 = .ok (.aload_n 3, 1) := by decide +kernel
theorem dL_go_1 : decode cL_go 1 = .ok (.iconst 0, 1) := by decide +kernel
theorem dL_go_2 : decode cL_go 2 = .ok (.aload_n 0, 1) := by decide +kernel
theorem dL_go_3 : decode cL_go 3 = .ok (.iload_n 1, 1) := by decide +kernel
theorem dL_go_4 : decode cL_go 4 = .ok (.iload_n 2, 1) := by decide +kernel
theorem dL_go_5 : decode cL_go 5 = .ok (.invokevirtual 40, 3) := by decide +kernel
theorem dL_go_8 : decode cL_go 8 = .ok (.i2l, 1) := by decide +kernel
theorem dL_go_9 : decode cL_go 9 = .ok (.lastore, 1) := by decide +kernel
theorem dL_go_10 : decode cL_go 10 = .ok (.goto 11, 3) := by decide +kernel
theorem dL_go_13 : decode cL_go 13 = .ok (.astore 4, 2) := by decide +kernel
theorem dL_go_15 : decode cL_go 15 = .ok (.iconst 1, 1) := by decide +kernel
theorem dL_go_16 : decode cL_go 16 = .ok (.ireturn, 1) := by decide +kernel
theorem dL_go_17 : decode cL_go 17 = .ok (.astore 4, 2) := by decide +kernel
theorem dL_go_19 : decode cL_go 19 = .ok (.iconst 2, 1) := by decide +kernel
theorem dL_go_20 : decode cL_go 20 = .ok (.ireturn, 1) := by decide +kernel
theorem dL_go_21 : decode cL_go 21 = .ok (.iconst 0, 1) := by decide +kernel
theorem dL_go_22 : decode cL_go 22 = .ok (.ireturn, 1) := by decide +kernel
theorem dL_lookaheads_0 : decode cL_lookaheads 0 = .ok (.aload_n 3, 1) := by decide +kernel
theorem dL_lookaheads_1 : decode cL_lookaheads 1 = .ok (.iconst 0, 1) := by decide +kernel
theorem dL_lookaheads_2 : decode cL_lookaheads 2 = .ok (.aload_n 0, 1) := by decide +kernel
theorem dL_lookaheads_3 : decode cL_lookaheads 3 = .ok (.iload_n 1, 1) := by decide +kernel
theorem dL_lookaheads_4 : decode cL_lookaheads 4 = .ok (.iload_n 2, 1) := by decide +kernel
theorem dL_lookaheads_5 : decode cL_lookaheads 5 = .ok (.invokevirtual 43, 3) := by decide +kernel
theorem dL_lookaheads_8 : decode cL_lookaheads 8 = .ok (.i2l, 1) := by decide +kernel
theorem dL_lookaheads_9 : decode cL_lookaheads 9 = .ok (.lastore, 1) := by decide +kernel
theorem dL_lookaheads_10 : decode cL_lookaheads 10 = .ok (.goto 15, 3) := by decide +kernel
theorem dL_lookaheads_13 : decode cL_lookaheads 13 = .ok (.astore 4, 2) := by decide +kernel
theorem dL_lookaheads_15 : decode cL_lookaheads 15 = .ok (.iconst 1, 1) := by decide +kernel
theorem dL_lookaheads_16 : decode cL_lookaheads 16 = .ok (.ireturn, 1) := by decide +kernel
theorem dL_lookaheads_17 : decode cL_lookaheads 17 = .ok (.astore 4, 2) := by decide +kernel
theorem dL_lookaheads_19 : decode cL_lookaheads 19 = .ok (.iconst 2, 1) := by decide +kernel
theorem dL_lookaheads_20 : decode cL_lookaheads 20 = .ok (.ireturn, 1) := by decide +kernel
theorem dL_lookaheads_21 : decode cL_lookaheads 21 = .ok (.astore 4, 2) := by decide +kernel
theorem dL_lookaheads_23 : decode cL_lookaheads 23 = .ok (.iconst 3, 1) := by decide +kernel
theorem dL_lookaheads_24 : decode cL_lookaheads 24 = .ok (.ireturn, 1) := by decide +kernel
theorem dL_lookaheads_25 : decode cL_lookaheads 25 = .ok (.iconst 0, 1) := by decide +kernel
theorem dL_lookaheads_26 : decode cL_lookaheads 26 = .ok (.ireturn, 1) := by decide +kernel
theorem dL_token_0 : decode cL_token 0 = .ok (.aload_n 3, 1) := by decide +kernel
theorem dL_token_1 : decode cL_token 1 = .ok (.iconst 0, 1) := by decide +kernel
theorem dL_token_2 : decode cL_token 2 = .ok (.aload_n 0, 1) := by decide +kernel
theorem dL_token_3 : decode cL_token 3 = .ok (.iload_n 1, 1) := by decide +kernel
theorem dL_token_4 : decode cL_token 4 = .ok (.iload_n 2, 1) := by decide +kernel
theorem dL_token_5 : decode cL_token 5 = .ok (.invokevirtual 46, 3) := by decide +kernel
theorem dL_token_8 : decode cL_token 8 = .ok (.i2l, 1) := by decide +kernel
theorem dL_token_9 : decode cL_token 9 = .ok (.lastore, 1) := by decide +kernel
theorem dL_token_10 : decode cL_token 10 = .ok (.goto 11, 3) := by decide +kernel
theorem dL_token_13 : decode cL_token 13 = .ok (.astore 4, 2) := by decide +kernel
theorem dL_token_15 : decode cL_token 15 = .ok (.iconst 1, 1) := by decide +kernel
theorem dL_token_16 : decode cL_token 16 = .ok (.ireturn, 1) := by decide +kernel
theorem dL_token_17 : decode cL_token 17 = .ok (.astore 4, 2) := by decide +kernel
theorem dL_token_19 : decode cL_token 19 = .ok (.iconst 2, 1) := by decide +kernel
theorem dL_token_20 : decode cL_token 20 = .ok (.ireturn, 1) := by decide +kernel
theorem dL_token_21 : decode cL_token 21 = .ok (.iconst 0, 1) := by decide +kernel
theorem dL_token_22 : decode cL_token 22 = .ok (.ireturn, 1) := by decide +kernel
theorem dL_parse_0 : decode cL_parse 0 = .ok (.aload_n 1, 1) := by decide +kernel
theorem dL_parse_1 : decode cL_parse 1 = .ok (.iconst 0, 1) := by decide +kernel
theorem dL_parse_2 : decode cL_parse 2 = .ok (.aload_n 0, 1) := by decide +kernel
theorem dL_parse_3 : decode cL_parse 3 = .ok (.invokevirtual 49, 3) := by decide +kernel
theorem dL_parse_6 : decode cL_parse 6 = .ok (.i2l, 1) := by decide +kernel
theorem dL_parse_7 : decode cL_parse 7 = .ok (.lastore, 1) := by decide +kernel
theorem dL_parse_8 : decode cL_parse 8 = .ok (.goto 12, 3) := by decide +kernel
theorem dL_parse_11 : decode cL_parse 11 = .ok (.astore_n 2, 1) := by decide +kernel
theorem dL_parse_12 : decode cL_parse 12 = .ok (.iconst 1, 1) := by decide +kernel
theorem dL_parse_13 : decode cL_parse 13 = .ok (.ireturn, 1) := by decide +kernel
theorem dL_parse_14 : decode cL_parse 14 = .ok (.astore_n 2, 1) := by decide +kernel
theorem dL_parse_15 : decode cL_parse 15 = .ok (.iconst 2, 1) := by decide +kernel
theorem dL_parse_16 : decode cL_parse 16 = .ok (.ireturn, 1) := by decide +kernel
theorem dL_parse_17 : decode cL_parse 17 = .ok (.astore_n 2, 1) := by decide +kernel
theorem dL_parse_18 : decode cL_parse 18 = .ok (.iconst 3, 1) := by decide +kernel
theorem dL_parse_19 : decode cL_parse 19 = .ok (.ireturn, 1) := by decide +kernel
theorem dL_parse_20 : decode cL_parse 20 = .ok (.iconst 0, 1) := by decide +kernel
theorem dL_parse_21 : decode cL_parse 21 = .ok (.ireturn, 1) := by decide +kernel
theorem dL_node_0 : decode cL_node 0 = .ok (.aload_n 3, 1) := by decide +kernel
theorem dL_node_1 : decode cL_node 1 = .ok (.iconst 0, 1) := by decide +kernel
theorem dL_node_2 : decode cL_node 2 = .ok (.aload_n 0, 1) := by decide +kernel
theorem dL_node_3 : decode cL_node 3 = .ok (.iload_n 1, 1) := by decide +kernel
theorem dL_node_4 : decode cL_node 4 = .ok (.iload_n 2, 1) := by decide +kernel
theorem dL_node_5 : decode cL_node 5 = .ok (.invokevirtual 52, 3) := by decide +kernel
theorem dL_node_8 : decode cL_node 8 = .ok (.i2l, 1) := by decide +kernel
theorem dL_node_9 : decode cL_node 9 = .ok (.lastore, 1) := by decide +kernel
theorem dL_node_10 : decode cL_node 10 = .ok (.goto 11, 3) := by decide +kernel
theorem dL_node_13 : decode cL_node 13 = .ok (.astore 4, 2) := by decide +kernel
theorem dL_node_15 : decode cL_node 15 = .ok (.iconst 1, 1) := by decide +kernel
theorem dL_node_16 : decode cL_node 16 = .ok (.ireturn, 1) := by decide +kernel
theorem dL_node_17 : decode cL_node 17 = .ok (.astore 4, 2) := by decide +kernel
theorem dL_node_19 : decode cL_node 19 = .ok (.iconst 2, 1) := by decide +kernel
theorem dL_node_20 : decode cL_node 20 = .ok (.ireturn, 1) := by decide +kernel
theorem dL_node_21 : decode cL_node 21 = .ok (.iconst 0, 1) := by decide +kernel
theorem dL_node_22 : decode cL_node 22 = .ok (.ireturn, 1) := by decide +kernel
theorem dL_attribute_0 : decode cL_attribute 0 = .ok (.aload_n 3, 1) := by decide +kernel
theorem dL_attribute_1 : decode cL_attribute 1 = .ok (.iconst 0, 1) := by decide +kernel
theorem dL_attribute_2 : decode cL_attribute 2 = .ok (.aload_n 0, 1) := by decide +kernel
theorem dL_attribute_3 : decode cL_attribute 3 = .ok (.iload_n 1, 1) := by decide +kernel
theorem dL_attribute_4 : decode cL_attribute 4 = .ok (.iload_n 2, 1) := by decide +kernel
theorem dL_attribute_5 : decode cL_attribute 5 = .ok (.invokevirtual 55, 3) := by decide +kernel
theorem dL_attribute_8 : decode cL_attribute 8 = .ok (.lastore, 1) := by decide +kernel
theorem dL_attribute_9 : decode cL_attribute 9 = .ok (.goto 11, 3) := by decide +kernel
theorem dL_attribute_12 : decode cL_attribute 12 = .ok (.astore 4, 2) := by decide +kernel
theorem dL_attribute_14 : decode cL_attribute 14 = .ok (.iconst 1, 1) := by decide +kernel
theorem dL_attribute_15 : decode cL_attribute 15 = .ok (.ireturn, 1) := by decide +kernel
theorem dL_attribute_16 : decode cL_attribute 16 = .ok (.astore 4, 2) := by decide +kernel
theorem dL_attribute_18 : decode cL_attribute 18 = .ok (.iconst 2, 1) := by decide +kernel
theorem dL_attribute_19 : decode cL_attribute 19 = .ok (.ireturn, 1) := by decide +kernel
theorem dL_attribute_20 : decode cL_attribute 20 = .ok (.iconst 0, 1) := by decide +kernel
theorem dL_attribute_21 : decode cL_attribute 21 = .ok (.ireturn, 1) := by decide +kernel
theorem dL_count_0 : decode cL_count 0 = .ok (.aload_n 2, 1) := by decide +kernel
theorem dL_count_1 : decode cL_count 1 = .ok (.iconst 0, 1) := by decide +kernel
theorem dL_count_2 : decode cL_count 2 = .ok (.aload_n 0, 1) := by decide +kernel
theorem dL_count_3 : decode cL_count 3 = .ok (.iload_n 1, 1) := by decide +kernel
theorem dL_count_4 : decode cL_count 4 = .ok (.invokevirtual 59, 3) := by decide +kernel
theorem dL_count_7 : decode cL_count 7 = .ok (.i2l, 1) := by decide +kernel
theorem dL_count_8 : decode cL_count 8 = .ok (.lastore, 1) := by decide +kernel
theorem dL_count_9 : decode cL_count 9 = .ok (.goto 6, 3) := by decide +kernel
theorem dL_count_12 : decode cL_count 12 = .ok (.astore_n 3, 1) := by decide +kernel
theorem dL_count_13 : decode cL_count 13 = .ok (.iconst 1, 1) := by decide +kernel
theorem dL_count_14 : decode cL_count 14 = .ok (.ireturn, 1) := by decide +kernel
theorem dL_count_15 : decode cL_count 15 = .ok (.iconst 0, 1) := by decide +kernel
theorem dL_count_16 : decode cL_count 16 = .ok (.ireturn, 1) := by decide +kernel
theorem dL_law_0 : decode cL_law 0 = .ok (.new 8, 3) := by decide +kernel
theorem dL_law_3 : decode cL_law 3 = .ok (.dup, 1) := by decide +kernel
theorem dL_law_4 : decode cL_law 4 = .ok (.invokespecial 62, 3) := by decide +kernel
theorem dL_law_7 : decode cL_law 7 = .ok (.astore_n 1, 1) := by decide +kernel
theorem dL_law_8 : decode cL_law 8 = .ok (.new 63, 3) := by decide +kernel
theorem dL_law_11 : decode cL_law 11 = .ok (.dup, 1) := by decide +kernel
theorem dL_law_12 : decode cL_law 12 = .ok (.invokespecial 65, 3) := by decide +kernel
theorem dL_law_15 : decode cL_law 15 = .ok (.astore_n 2, 1) := by decide +kernel
theorem dL_law_16 : decode cL_law 16 = .ok (.iconst 1, 1) := by decide +kernel
theorem dL_law_17 : decode cL_law 17 = .ok (.newarray .long, 2) := by decide +kernel
theorem dL_law_19 : decode cL_law 19 = .ok (.astore_n 3, 1) := by decide +kernel
theorem dL_law_20 : decode cL_law 20 = .ok (.iconst 0, 1) := by decide +kernel
theorem dL_law_21 : decode cL_law 21 = .ok (.istore 4, 2) := by decide +kernel
theorem dL_law_23 : decode cL_law 23 = .ok (.iload 4, 2) := by decide +kernel
theorem dL_law_25 : decode cL_law 25 = .ok (.aload_n 0, 1) := by decide +kernel
theorem dL_law_26 : decode cL_law 26 = .ok (.arraylength, 1) := by decide +kernel
theorem dL_law_27 : decode cL_law 27 = .ok (.bipush 6, 2) := by decide +kernel
theorem dL_law_29 : decode cL_law 29 = .ok (.isub, 1) := by decide +kernel
theorem dL_law_30 : decode cL_law 30 = .ok (.if_icmp .gt 1013, 3) := by decide +kernel
theorem dL_law_33 : decode cL_law 33 = .ok (.aload_n 0, 1) := by decide +kernel
theorem dL_law_34 : decode cL_law 34 = .ok (.iload 4, 2) := by decide +kernel
theorem dL_law_36 : decode cL_law 36 = .ok (.iaload, 1) := by decide +kernel
theorem dL_law_37 : decode cL_law 37 = .ok (.bipush 15, 2) := by decide +kernel
theorem dL_law_39 : decode cL_law 39 = .ok (.iand, 1) := by decide +kernel
theorem dL_law_40 : decode cL_law 40 = .ok (.tableswitch 997 0 14 #[76, 180, 260, 364, 408, 464, 532, 600, 668, 736, 780, 793, 861, 928, 941], 76) := by decide +kernel
theorem dL_law_116 : decode cL_law 116 = .ok (.aload_n 1, 1) := by decide +kernel
theorem dL_law_117 : decode cL_law 117 = .ok (.aload_n 0, 1) := by decide +kernel
theorem dL_law_118 : decode cL_law 118 = .ok (.iload 4, 2) := by decide +kernel
theorem dL_law_120 : decode cL_law 120 = .ok (.iconst 1, 1) := by decide +kernel
theorem dL_law_121 : decode cL_law 121 = .ok (.iadd, 1) := by decide +kernel
theorem dL_law_122 : decode cL_law 122 = .ok (.iaload, 1) := by decide +kernel
theorem dL_law_123 : decode cL_law 123 = .ok (.aload_n 0, 1) := by decide +kernel
theorem dL_law_124 : decode cL_law 124 = .ok (.iload 4, 2) := by decide +kernel
theorem dL_law_126 : decode cL_law 126 = .ok (.iconst 2, 1) := by decide +kernel
theorem dL_law_127 : decode cL_law 127 = .ok (.iadd, 1) := by decide +kernel
theorem dL_law_128 : decode cL_law 128 = .ok (.iaload, 1) := by decide +kernel
theorem dL_law_129 : decode cL_law 129 = .ok (.aload_n 0, 1) := by decide +kernel
theorem dL_law_130 : decode cL_law 130 = .ok (.iload 4, 2) := by decide +kernel
theorem dL_law_132 : decode cL_law 132 = .ok (.iconst 3, 1) := by decide +kernel
theorem dL_law_133 : decode cL_law 133 = .ok (.iadd, 1) := by decide +kernel
theorem dL_law_134 : decode cL_law 134 = .ok (.iaload, 1) := by decide +kernel
theorem dL_law_135 : decode cL_law 135 = .ok (.aload_n 0, 1) := by decide +kernel
theorem dL_law_136 : decode cL_law 136 = .ok (.iload 4, 2) := by decide +kernel
theorem dL_law_138 : decode cL_law 138 = .ok (.iconst 4, 1) := by decide +kernel
theorem dL_law_139 : decode cL_law 139 = .ok (.iadd, 1) := by decide +kernel
theorem dL_law_140 : decode cL_law 140 = .ok (.iaload, 1) := by decide +kernel
theorem dL_law_141 : decode cL_law 141 = .ok (.aload_n 0, 1) := by decide +kernel
theorem dL_law_142 : decode cL_law 142 = .ok (.iload 4, 2) := by decide +kernel
theorem dL_law_144 : decode cL_law 144 = .ok (.iconst 5, 1) := by decide +kernel
theorem dL_law_145 : decode cL_law 145 = .ok (.iadd, 1) := by decide +kernel
theorem dL_law_146 : decode cL_law 146 = .ok (.iaload, 1) := by decide +kernel
theorem dL_law_147 : decode cL_law 147 = .ok (.aload_n 3, 1) := by decide +kernel
theorem dL_law_148 : decode cL_law 148 = .ok (.invokestatic 66, 3) := by decide +kernel
theorem dL_law_151 : decode cL_law 151 = .ok (.istore 5, 2) := by decide +kernel
theorem dL_law_153 : decode cL_law 153 = .ok (.aload_n 2, 1) := by decide +kernel
theorem dL_law_154 : decode cL_law 154 = .ok (.aload_n 0, 1) := by decide +kernel
theorem dL_law_155 : decode cL_law 155 = .ok (.iload 4, 2) := by decide +kernel
theorem dL_law_157 : decode cL_law 157 = .ok (.iconst 1, 1) := by decide +kernel
theorem dL_law_158 : decode cL_law 158 = .ok (.iadd, 1) := by decide +kernel
theorem dL_law_159 : decode cL_law 159 = .ok (.iaload, 1) := by decide +kernel
theorem dL_law_160 : decode cL_law 160 = .ok (.aload_n 0, 1) := by decide +kernel
theorem dL_law_161 : decode cL_law 161 = .ok (.iload 4, 2) := by decide +kernel
theorem dL_law_163 : decode cL_law 163 = .ok (.iconst 2, 1) := by decide +kernel
theorem dL_law_164 : decode cL_law 164 = .ok (.iadd, 1) := by decide +kernel
theorem dL_law_165 : decode cL_law 165 = .ok (.iaload, 1) := by decide +kernel
theorem dL_law_166 : decode cL_law 166 = .ok (.aload_n 0, 1) := by decide +kernel
theorem dL_law_167 : decode cL_law 167 = .ok (.iload 4, 2) := by decide +kernel
theorem dL_law_169 : decode cL_law 169 = .ok (.iconst 3, 1) := by decide +kernel
theorem dL_law_170 : decode cL_law 170 = .ok (.iadd, 1) := by decide +kernel
theorem dL_law_171 : decode cL_law 171 = .ok (.iaload, 1) := by decide +kernel
theorem dL_law_172 : decode cL_law 172 = .ok (.aload_n 0, 1) := by decide +kernel
theorem dL_law_173 : decode cL_law 173 = .ok (.iload 4, 2) := by decide +kernel
theorem dL_law_175 : decode cL_law 175 = .ok (.iconst 4, 1) := by decide +kernel
theorem dL_law_176 : decode cL_law 176 = .ok (.iadd, 1) := by decide +kernel
theorem dL_law_177 : decode cL_law 177 = .ok (.iaload, 1) := by decide +kernel
theorem dL_law_178 : decode cL_law 178 = .ok (.aload_n 0, 1) := by decide +kernel
theorem dL_law_179 : decode cL_law 179 = .ok (.iload 4, 2) := by decide +kernel
theorem dL_law_181 : decode cL_law 181 = .ok (.iconst 5, 1) := by decide +kernel
theorem dL_law_182 : decode cL_law 182 = .ok (.iadd, 1) := by decide +kernel
theorem dL_law_183 : decode cL_law 183 = .ok (.iaload, 1) := by decide +kernel
theorem dL_law_184 : decode cL_law 184 = .ok (.invokevirtual 71, 3) := by decide +kernel
theorem dL_law_187 : decode cL_law 187 = .ok (.istore 6, 2) := by decide +kernel
theorem dL_law_189 : decode cL_law 189 = .ok (.aload_n 2, 1) := by decide +kernel
theorem dL_law_190 : decode cL_law 190 = .ok (.invokevirtual 72, 3) := by decide +kernel
theorem dL_law_193 : decode cL_law 193 = .ok (.iload 5, 2) := by decide +kernel
theorem dL_law_195 : decode cL_law 195 = .ok (.if_icmp .eq 5, 3) := by decide +kernel
theorem dL_law_198 : decode cL_law 198 = .ok (.iconst 0, 1) := by decide +kernel
theorem dL_law_199 : decode cL_law 199 = .ok (.ireturn, 1) := by decide +kernel
theorem dL_law_200 : decode cL_law 200 = .ok (.iload 5, 2) := by decide +kernel
theorem dL_law_202 : decode cL_law 202 = .ok (.ifCond .ne 15, 3) := by decide +kernel
theorem dL_law_205 : decode cL_law 205 = .ok (.aload_n 3, 1) := by decide +kernel
theorem dL_law_206 : decode cL_law 206 = .ok (.iconst 0, 1) := by decide +kernel
theorem dL_law_207 : decode cL_law 207 = .ok (.laload, 1) := by decide +kernel
theorem dL_law_208 : decode cL_law 208 = .ok (.iload 6, 2) := by decide +kernel
theorem dL_law_210 : decode cL_law 210 = .ok (.i2l, 1) := by decide +kernel
theorem dL_law_211 : decode cL_law 211 = .ok (.lcmp, 1) := by decide +kernel
theorem dL_law_212 : decode cL_law 212 = .ok (.ifCond .eq 5, 3) := by decide +kernel
theorem dL_law_215 : decode cL_law 215 = .ok (.iconst 0, 1) := by decide +kernel
theorem dL_law_216 : decode cL_law 216 = .ok (.ireturn, 1) := by decide +kernel
theorem dL_law_217 : decode cL_law 217 = .ok (.goto 820, 3) := by decide +kernel
theorem dL_law_220 : decode cL_law 220 = .ok (.aload_n 1, 1) := by decide +kernel
theorem dL_law_221 : decode cL_law 221 = .ok (.aload_n 0, 1) := by decide +kernel
theorem dL_law_222 : decode cL_law 222 = .ok (.iload 4, 2) := by decide +kernel
theorem dL_law_224 : decode cL_law 224 = .ok (.iconst 1, 1) := by decide +kernel
theorem dL_law_225 : decode cL_law 225 = .ok (.iadd, 1) := by decide +kernel
theorem dL_law_226 : decode cL_law 226 = .ok (.iaload, 1) := by decide +kernel
theorem dL_law_227 : decode cL_law 227 = .ok (.aload_n 0, 1) := by decide +kernel
theorem dL_law_228 : decode cL_law 228 = .ok (.iload 4, 2) := by decide +kernel
theorem dL_law_230 : decode cL_law 230 = .ok (.iconst 2, 1) := by decide +kernel
theorem dL_law_231 : decode cL_law 231 = .ok (.iadd, 1) := by decide +kernel
theorem dL_law_232 : decode cL_law 232 = .ok (.iaload, 1) := by decide +kernel
theorem dL_law_233 : decode cL_law 233 = .ok (.aload_n 0, 1) := by decide +kernel
theorem dL_law_234 : decode cL_law 234 = .ok (.iload 4, 2) := by decide +kernel
theorem dL_law_236 : decode cL_law 236 = .ok (.iconst 3, 1) := by decide +kernel
theorem dL_law_237 : decode cL_law 237 = .ok (.iadd, 1) := by decide +kernel
theorem dL_law_238 : decode cL_law 238 = .ok (.iaload, 1) := by decide +kernel
theorem dL_law_239 : decode cL_law 239 = .ok (.aload_n 3, 1) := by decide +kernel
theorem dL_law_240 : decode cL_law 240 = .ok (.invokestatic 75, 3) := by decide +kernel
theorem dL_law_243 : decode cL_law 243 = .ok (.istore 5, 2) := by decide +kernel
theorem dL_law_245 : decode cL_law 245 = .ok (.aload_n 2, 1) := by decide +kernel
theorem dL_law_246 : decode cL_law 246 = .ok (.aload_n 0, 1) := by decide +kernel
theorem dL_law_247 : decode cL_law 247 = .ok (.iload 4, 2) := by decide +kernel
theorem dL_law_249 : decode cL_law 249 = .ok (.iconst 1, 1) := by decide +kernel
theorem dL_law_250 : decode cL_law 250 = .ok (.iadd, 1) := by decide +kernel
theorem dL_law_251 : decode cL_law 251 = .ok (.iaload, 1) := by decide +kernel
theorem dL_law_252 : decode cL_law 252 = .ok (.aload_n 0, 1) := by decide +kernel
theorem dL_law_253 : decode cL_law 253 = .ok (.iload 4, 2) := by decide +kernel
theorem dL_law_255 : decode cL_law 255 = .ok (.iconst 2, 1) := by decide +kernel
theorem dL_law_256 : decode cL_law 256 = .ok (.iadd, 1) := by decide +kernel
theorem dL_law_257 : decode cL_law 257 = .ok (.iaload, 1) := by decide +kernel
theorem dL_law_258 : decode cL_law 258 = .ok (.aload_n 0, 1) := by decide +kernel
theorem dL_law_259 : decode cL_law 259 = .ok (.iload 4, 2) := by decide +kernel
theorem dL_law_261 : decode cL_law 261 = .ok (.iconst 3, 1) := by decide +kernel
theorem dL_law_262 : decode cL_law 262 = .ok (.iadd, 1) := by decide +kernel
theorem dL_law_263 : decode cL_law 263 = .ok (.iaload, 1) := by decide +kernel
theorem dL_law_264 : decode cL_law 264 = .ok (.invokevirtual 78, 3) := by decide +kernel
theorem dL_law_267 : decode cL_law 267 = .ok (.istore 6, 2) := by decide +kernel
theorem dL_law_269 : decode cL_law 269 = .ok (.aload_n 2, 1) := by decide +kernel
theorem dL_law_270 : decode cL_law 270 = .ok (.invokevirtual 72, 3) := by decide +kernel
theorem dL_law_273 : decode cL_law 273 = .ok (.iload 5, 2) := by decide +kernel
theorem dL_law_275 : decode cL_law 275 = .ok (.if_icmp .eq 5, 3) := by decide +kernel
theorem dL_law_278 : decode cL_law 278 = .ok (.iconst 0, 1) := by decide +kernel
theorem dL_law_279 : decode cL_law 279 = .ok (.ireturn, 1) := by decide +kernel
theorem dL_law_280 : decode cL_law 280 = .ok (.iload 5, 2) := by decide +kernel
theorem dL_law_282 : decode cL_law 282 = .ok (.ifCond .ne 15, 3) := by decide +kernel
theorem dL_law_285 : decode cL_law 285 = .ok (.aload_n 3, 1) := by decide +kernel
theorem dL_law_286 : decode cL_law 286 = .ok (.iconst 0, 1) := by decide +kernel
theorem dL_law_287 : decode cL_law 287 = .ok (.laload, 1) := by decide +kernel
theorem dL_law_288 : decode cL_law 288 = .ok (.iload 6, 2) := by decide +kernel
theorem dL_law_290 : decode cL_law 290 = .ok (.i2l, 1) := by decide +kernel
theorem dL_law_291 : decode cL_law 291 = .ok (.lcmp, 1) := by decide +kernel
theorem dL_law_292 : decode cL_law 292 = .ok (.ifCond .eq 5, 3) := by decide +kernel
theorem dL_law_295 : decode cL_law 295 = .ok (.iconst 0, 1) := by decide +kernel
theorem dL_law_296 : decode cL_law 296 = .ok (.ireturn, 1) := by decide +kernel
theorem dL_law_297 : decode cL_law 297 = .ok (.goto 740, 3) := by decide +kernel
theorem dL_law_300 : decode cL_law 300 = .ok (.aload_n 1, 1) := by decide +kernel
theorem dL_law_301 : decode cL_law 301 = .ok (.aload_n 0, 1) := by decide +kernel
theorem dL_law_302 : decode cL_law 302 = .ok (.iload 4, 2) := by decide +kernel
theorem dL_law_304 : decode cL_law 304 = .ok (.iconst 1, 1) := by decide +kernel
theorem dL_law_305 : decode cL_law 305 = .ok (.iadd, 1) := by decide +kernel
theorem dL_law_306 : decode cL_law 306 = .ok (.iaload, 1) := by decide +kernel
theorem dL_law_307 : decode cL_law 307 = .ok (.aload_n 0, 1) := by decide +kernel
theorem dL_law_308 : decode cL_law 308 = .ok (.iload 4, 2) := by decide +kernel
theorem dL_law_310 : decode cL_law 310 = .ok (.iconst 2, 1) := by decide +kernel
theorem dL_law_311 : decode cL_law 311 = .ok (.iadd, 1) := by decide +kernel
theorem dL_law_312 : decode cL_law 312 = .ok (.iaload, 1) := by decide +kernel
theorem dL_law_313 : decode cL_law 313 = .ok (.aload_n 0, 1) := by decide +kernel
theorem dL_law_314 : decode cL_law 314 = .ok (.iload 4, 2) := by decide +kernel
theorem dL_law_316 : decode cL_law 316 = .ok (.iconst 3, 1) := by decide +kernel
theorem dL_law_317 : decode cL_law 317 = .ok (.iadd, 1) := by decide +kernel
theorem dL_law_318 : decode cL_law 318 = .ok (.iaload, 1) := by decide +kernel
theorem dL_law_319 : decode cL_law 319 = .ok (.aload_n 0, 1) := by decide +kernel
theorem dL_law_320 : decode cL_law 320 = .ok (.iload 4, 2) := by decide +kernel
theorem dL_law_322 : decode cL_law 322 = .ok (.iconst 4, 1) := by decide +kernel
theorem dL_law_323 : decode cL_law 323 = .ok (.iadd, 1) := by decide +kernel
theorem dL_law_324 : decode cL_law 324 = .ok (.iaload, 1) := by decide +kernel
theorem dL_law_325 : decode cL_law 325 = .ok (.aload_n 0, 1) := by decide +kernel
theorem dL_law_326 : decode cL_law 326 = .ok (.iload 4, 2) := by decide +kernel
theorem dL_law_328 : decode cL_law 328 = .ok (.iconst 5, 1) := by decide +kernel
theorem dL_law_329 : decode cL_law 329 = .ok (.iadd, 1) := by decide +kernel
theorem dL_law_330 : decode cL_law 330 = .ok (.iaload, 1) := by decide +kernel
theorem dL_law_331 : decode cL_law 331 = .ok (.aload_n 3, 1) := by decide +kernel
theorem dL_law_332 : decode cL_law 332 = .ok (.invokestatic 79, 3) := by decide +kernel
theorem dL_law_335 : decode cL_law 335 = .ok (.istore 5, 2) := by decide +kernel
theorem dL_law_337 : decode cL_law 337 = .ok (.aload_n 2, 1) := by decide +kernel
theorem dL_law_338 : decode cL_law 338 = .ok (.aload_n 0, 1) := by decide +kernel
theorem dL_law_339 : decode cL_law 339 = .ok (.iload 4, 2) := by decide +kernel
theorem dL_law_341 : decode cL_law 341 = .ok (.iconst 1, 1) := by decide +kernel
theorem dL_law_342 : decode cL_law 342 = .ok (.iadd, 1) := by decide +kernel
theorem dL_law_343 : decode cL_law 343 = .ok (.iaload, 1) := by decide +kernel
theorem dL_law_344 : decode cL_law 344 = .ok (.aload_n 0, 1) := by decide +kernel
theorem dL_law_345 : decode cL_law 345 = .ok (.iload 4, 2) := by decide +kernel
theorem dL_law_347 : decode cL_law 347 = .ok (.iconst 2, 1) := by decide +kernel
theorem dL_law_348 : decode cL_law 348 = .ok (.iadd, 1) := by decide +kernel
theorem dL_law_349 : decode cL_law 349 = .ok (.iaload, 1) := by decide +kernel
theorem dL_law_350 : decode cL_law 350 = .ok (.aload_n 0, 1) := by decide +kernel
theorem dL_law_351 : decode cL_law 351 = .ok (.iload 4, 2) := by decide +kernel
theorem dL_law_353 : decode cL_law 353 = .ok (.iconst 3, 1) := by decide +kernel
theorem dL_law_354 : decode cL_law 354 = .ok (.iadd, 1) := by decide +kernel
theorem dL_law_355 : decode cL_law 355 = .ok (.iaload, 1) := by decide +kernel
theorem dL_law_356 : decode cL_law 356 = .ok (.aload_n 0, 1) := by decide +kernel
theorem dL_law_357 : decode cL_law 357 = .ok (.iload 4, 2) := by decide +kernel
theorem dL_law_359 : decode cL_law 359 = .ok (.iconst 4, 1) := by decide +kernel
theorem dL_law_360 : decode cL_law 360 = .ok (.iadd, 1) := by decide +kernel
theorem dL_law_361 : decode cL_law 361 = .ok (.iaload, 1) := by decide +kernel
theorem dL_law_362 : decode cL_law 362 = .ok (.aload_n 0, 1) := by decide +kernel
theorem dL_law_363 : decode cL_law 363 = .ok (.iload 4, 2) := by decide +kernel
theorem dL_law_365 : decode cL_law 365 = .ok (.iconst 5, 1) := by decide +kernel
theorem dL_law_366 : decode cL_law 366 = .ok (.iadd, 1) := by decide +kernel
theorem dL_law_367 : decode cL_law 367 = .ok (.iaload, 1) := by decide +kernel
theorem dL_law_368 : decode cL_law 368 = .ok (.invokevirtual 81, 3) := by decide +kernel
theorem dL_law_371 : decode cL_law 371 = .ok (.istore 6, 2) := by decide +kernel
theorem dL_law_373 : decode cL_law 373 = .ok (.aload_n 2, 1) := by decide +kernel
theorem dL_law_374 : decode cL_law 374 = .ok (.invokevirtual 72, 3) := by decide +kernel
theorem dL_law_377 : decode cL_law 377 = .ok (.iload 5, 2) := by decide +kernel
theorem dL_law_379 : decode cL_law 379 = .ok (.if_icmp .eq 5, 3) := by decide +kernel
theorem dL_law_382 : decode cL_law 382 = .ok (.iconst 0, 1) := by decide +kernel
theorem dL_law_383 : decode cL_law 383 = .ok (.ireturn, 1) := by decide +kernel
theorem dL_law_384 : decode cL_law 384 = .ok (.iload 5, 2) := by decide +kernel
theorem dL_law_386 : decode cL_law 386 = .ok (.ifCond .ne 15, 3) := by decide +kernel
theorem dL_law_389 : decode cL_law 389 = .ok (.aload_n 3, 1) := by decide +kernel
theorem dL_law_390 : decode cL_law 390 = .ok (.iconst 0, 1) := by decide +kernel
theorem dL_law_391 : decode cL_law 391 = .ok (.laload, 1) := by decide +kernel
theorem dL_law_392 : decode cL_law 392 = .ok (.iload 6, 2) := by decide +kernel
theorem dL_law_394 : decode cL_law 394 = .ok (.i2l, 1) := by decide +kernel
theorem dL_law_395 : decode cL_law 395 = .ok (.lcmp, 1) := by decide +kernel
theorem dL_law_396 : decode cL_law 396 = .ok (.ifCond .eq 5, 3) := by decide +kernel
theorem dL_law_399 : decode cL_law 399 = .ok (.iconst 0, 1) := by decide +kernel
theorem dL_law_400 : decode cL_law 400 = .ok (.ireturn, 1) := by decide +kernel
theorem dL_law_401 : decode cL_law 401 = .ok (.goto 636, 3) := by decide +kernel
theorem dL_law_404 : decode cL_law 404 = .ok (.aload_n 1, 1) := by decide +kernel
theorem dL_law_405 : decode cL_law 405 = .ok (.aload_n 3, 1) := by decide +kernel
theorem dL_law_406 : decode cL_law 406 = .ok (.invokestatic 82, 3) := by decide +kernel
theorem dL_law_409 : decode cL_law 409 = .ok (.istore 5, 2) := by decide +kernel
theorem dL_law_411 : decode cL_law 411 = .ok (.aload_n 2, 1) := by decide +kernel
theorem dL_law_412 : decode cL_law 412 = .ok (.invokevirtual 85, 3) := by decide +kernel
theorem dL_law_415 : decode cL_law 415 = .ok (.istore 6, 2) := by decide +kernel
theorem dL_law_417 : decode cL_law 417 = .ok (.aload_n 2, 1) := by decide +kernel
theorem dL_law_418 : decode cL_law 418 = .ok (.invokevirtual 72, 3) := by decide +kernel
theorem dL_law_421 : decode cL_law 421 = .ok (.iload 5, 2) := by decide +kernel
theorem dL_law_423 : decode cL_law 423 = .ok (.if_icmp .eq 5, 3) := by decide +kernel
theorem dL_law_426 : decode cL_law 426 = .ok (.iconst 0, 1) := by decide +kernel
theorem dL_law_427 : decode cL_law 427 = .ok (.ireturn, 1) := by decide +kernel
theorem dL_law_428 : decode cL_law 428 = .ok (.iload 5, 2) := by decide +kernel
theorem dL_law_430 : decode cL_law 430 = .ok (.ifCond .ne 15, 3) := by decide +kernel
theorem dL_law_433 : decode cL_law 433 = .ok (.aload_n 3, 1) := by decide +kernel
theorem dL_law_434 : decode cL_law 434 = .ok (.iconst 0, 1) := by decide +kernel
theorem dL_law_435 : decode cL_law 435 = .ok (.laload, 1) := by decide +kernel
theorem dL_law_436 : decode cL_law 436 = .ok (.iload 6, 2) := by decide +kernel
theorem dL_law_438 : decode cL_law 438 = .ok (.i2l, 1) := by decide +kernel
theorem dL_law_439 : decode cL_law 439 = .ok (.lcmp, 1) := by decide +kernel
theorem dL_law_440 : decode cL_law 440 = .ok (.ifCond .eq 5, 3) := by decide +kernel
theorem dL_law_443 : decode cL_law 443 = .ok (.iconst 0, 1) := by decide +kernel
theorem dL_law_444 : decode cL_law 444 = .ok (.ireturn, 1) := by decide +kernel
theorem dL_law_445 : decode cL_law 445 = .ok (.goto 592, 3) := by decide +kernel
theorem dL_law_448 : decode cL_law 448 = .ok (.aload_n 1, 1) := by decide +kernel
theorem dL_law_449 : decode cL_law 449 = .ok (.aload_n 0, 1) := by decide +kernel
theorem dL_law_450 : decode cL_law 450 = .ok (.iload 4, 2) := by decide +kernel
theorem dL_law_452 : decode cL_law 452 = .ok (.iconst 1, 1) := by decide +kernel
theorem dL_law_453 : decode cL_law 453 = .ok (.iadd, 1) := by decide +kernel
theorem dL_law_454 : decode cL_law 454 = .ok (.iaload, 1) := by decide +kernel
theorem dL_law_455 : decode cL_law 455 = .ok (.aload_n 3, 1) := by decide +kernel
theorem dL_law_456 : decode cL_law 456 = .ok (.invokestatic 86, 3) := by decide +kernel
theorem dL_law_459 : decode cL_law 459 = .ok (.istore 5, 2) := by decide +kernel
theorem dL_law_461 : decode cL_law 461 = .ok (.aload_n 2, 1) := by decide +kernel
theorem dL_law_462 : decode cL_law 462 = .ok (.aload_n 0, 1) := by decide +kernel
theorem dL_law_463 : decode cL_law 463 = .ok (.iload 4, 2) := by decide +kernel
theorem dL_law_465 : decode cL_law 465 = .ok (.iconst 1, 1) := by decide +kernel
theorem dL_law_466 : decode cL_law 466 = .ok (.iadd, 1) := by decide +kernel
theorem dL_law_467 : decode cL_law 467 = .ok (.iaload, 1) := by decide +kernel
theorem dL_law_468 : decode cL_law 468 = .ok (.invokevirtual 89, 3) := by decide +kernel
theorem dL_law_471 : decode cL_law 471 = .ok (.istore 6, 2) := by decide +kernel
theorem dL_law_473 : decode cL_law 473 = .ok (.aload_n 2, 1) := by decide +kernel
theorem dL_law_474 : decode cL_law 474 = .ok (.invokevirtual 72, 3) := by decide +kernel
theorem dL_law_477 : decode cL_law 477 = .ok (.iload 5, 2) := by decide +kernel
theorem dL_law_479 : decode cL_law 479 = .ok (.if_icmp .eq 5, 3) := by decide +kernel
theorem dL_law_482 : decode cL_law 482 = .ok (.iconst 0, 1) := by decide +kernel
theorem dL_law_483 : decode cL_law 483 = .ok (.ireturn, 1) := by decide +kernel
theorem dL_law_484 : decode cL_law 484 = .ok (.iload 5, 2) := by decide +kernel
theorem dL_law_486 : decode cL_law 486 = .ok (.ifCond .ne 15, 3) := by decide +kernel
theorem dL_law_489 : decode cL_law 489 = .ok (.aload_n 3, 1) := by decide +kernel
theorem dL_law_490 : decode cL_law 490 = .ok (.iconst 0, 1) := by decide +kernel
theorem dL_law_491 : decode cL_law 491 = .ok (.laload, 1) := by decide +kernel
theorem dL_law_492 : decode cL_law 492 = .ok (.iload 6, 2) := by decide +kernel
theorem dL_law_494 : decode cL_law 494 = .ok (.i2l, 1) := by decide +kernel
theorem dL_law_495 : decode cL_law 495 = .ok (.lcmp, 1) := by decide +kernel
theorem dL_law_496 : decode cL_law 496 = .ok (.ifCond .eq 5, 3) := by decide +kernel
theorem dL_law_499 : decode cL_law 499 = .ok (.iconst 0, 1) := by decide +kernel
theorem dL_law_500 : decode cL_law 500 = .ok (.ireturn, 1) := by decide +kernel
theorem dL_law_501 : decode cL_law 501 = .ok (.goto 536, 3) := by decide +kernel
theorem dL_law_504 : decode cL_law 504 = .ok (.aload_n 1, 1) := by decide +kernel
theorem dL_law_505 : decode cL_law 505 = .ok (.aload_n 0, 1) := by decide +kernel
theorem dL_law_506 : decode cL_law 506 = .ok (.iload 4, 2) := by decide +kernel
theorem dL_law_508 : decode cL_law 508 = .ok (.iconst 1, 1) := by decide +kernel
theorem dL_law_509 : decode cL_law 509 = .ok (.iadd, 1) := by decide +kernel
theorem dL_law_510 : decode cL_law 510 = .ok (.iaload, 1) := by decide +kernel
theorem dL_law_511 : decode cL_law 511 = .ok (.aload_n 0, 1) := by decide +kernel
theorem dL_law_512 : decode cL_law 512 = .ok (.iload 4, 2) := by decide +kernel
theorem dL_law_514 : decode cL_law 514 = .ok (.iconst 2, 1) := by decide +kernel
theorem dL_law_515 : decode cL_law 515 = .ok (.iadd, 1) := by decide +kernel
theorem dL_law_516 : decode cL_law 516 = .ok (.iaload, 1) := by decide +kernel
theorem dL_law_517 : decode cL_law 517 = .ok (.aload_n 3, 1) := by decide +kernel
theorem dL_law_518 : decode cL_law 518 = .ok (.invokestatic 90, 3) := by decide +kernel
theorem dL_law_521 : decode cL_law 521 = .ok (.istore 5, 2) := by decide +kernel
theorem dL_law_523 : decode cL_law 523 = .ok (.aload_n 2, 1) := by decide +kernel
theorem dL_law_524 : decode cL_law 524 = .ok (.aload_n 0, 1) := by decide +kernel
theorem dL_law_525 : decode cL_law 525 = .ok (.iload 4, 2) := by decide +kernel
theorem dL_law_527 : decode cL_law 527 = .ok (.iconst 1, 1) := by decide +kernel
theorem dL_law_528 : decode cL_law 528 = .ok (.iadd, 1) := by decide +kernel
theorem dL_law_529 : decode cL_law 529 = .ok (.iaload, 1) := by decide +kernel
theorem dL_law_530 : decode cL_law 530 = .ok (.aload_n 0, 1) := by decide +kernel
theorem dL_law_531 : decode cL_law 531 = .ok (.iload 4, 2) := by decide +kernel
theorem dL_law_533 : decode cL_law 533 = .ok (.iconst 2, 1) := by decide +kernel
theorem dL_law_534 : decode cL_law 534 = .ok (.iadd, 1) := by decide +kernel
theorem dL_law_535 : decode cL_law 535 = .ok (.iaload, 1) := by decide +kernel
theorem dL_law_536 : decode cL_law 536 = .ok (.invokevirtual 93, 3) := by decide +kernel
theorem dL_law_539 : decode cL_law 539 = .ok (.istore 6, 2) := by decide +kernel
theorem dL_law_541 : decode cL_law 541 = .ok (.aload_n 2, 1) := by decide +kernel
theorem dL_law_542 : decode cL_law 542 = .ok (.invokevirtual 72, 3) := by decide +kernel
theorem dL_law_545 : decode cL_law 545 = .ok (.iload 5, 2) := by decide +kernel
theorem dL_law_547 : decode cL_law 547 = .ok (.if_icmp .eq 5, 3) := by decide +kernel
theorem dL_law_550 : decode cL_law 550 = .ok (.iconst 0, 1) := by decide +kernel
theorem dL_law_551 : decode cL_law 551 = .ok (.ireturn, 1) := by decide +kernel
theorem dL_law_552 : decode cL_law 552 = .ok (.iload 5, 2) := by decide +kernel
theorem dL_law_554 : decode cL_law 554 = .ok (.ifCond .ne 15, 3) := by decide +kernel
theorem dL_law_557 : decode cL_law 557 = .ok (.aload_n 3, 1) := by decide +kernel
theorem dL_law_558 : decode cL_law 558 = .ok (.iconst 0, 1) := by decide +kernel
theorem dL_law_559 : decode cL_law 559 = .ok (.laload, 1) := by decide +kernel
theorem dL_law_560 : decode cL_law 560 = .ok (.iload 6, 2) := by decide +kernel
theorem dL_law_562 : decode cL_law 562 = .ok (.i2l, 1) := by decide +kernel
theorem dL_law_563 : decode cL_law 563 = .ok (.lcmp, 1) := by decide +kernel
theorem dL_law_564 : decode cL_law 564 = .ok (.ifCond .eq 5, 3) := by decide +kernel
theorem dL_law_567 : decode cL_law 567 = .ok (.iconst 0, 1) := by decide +kernel
theorem dL_law_568 : decode cL_law 568 = .ok (.ireturn, 1) := by decide +kernel
theorem dL_law_569 : decode cL_law 569 = .ok (.goto 468, 3) := by decide +kernel
theorem dL_law_572 : decode cL_law 572 = .ok (.aload_n 1, 1) := by decide +kernel
theorem dL_law_573 : decode cL_law 573 = .ok (.aload_n 0, 1) := by decide +kernel
theorem dL_law_574 : decode cL_law 574 = .ok (.iload 4, 2) := by decide +kernel
theorem dL_law_576 : decode cL_law 576 = .ok (.iconst 1, 1) := by decide +kernel
theorem dL_law_577 : decode cL_law 577 = .ok (.iadd, 1) := by decide +kernel
theorem dL_law_578 : decode cL_law 578 = .ok (.iaload, 1) := by decide +kernel
theorem dL_law_579 : decode cL_law 579 = .ok (.aload_n 0, 1) := by decide +kernel
theorem dL_law_580 : decode cL_law 580 = .ok (.iload 4, 2) := by decide +kernel
theorem dL_law_582 : decode cL_law 582 = .ok (.iconst 2, 1) := by decide +kernel
theorem dL_law_583 : decode cL_law 583 = .ok (.iadd, 1) := by decide +kernel
theorem dL_law_584 : decode cL_law 584 = .ok (.iaload, 1) := by decide +kernel
theorem dL_law_585 : decode cL_law 585 = .ok (.aload_n 3, 1) := by decide +kernel
theorem dL_law_586 : decode cL_law 586 = .ok (.invokestatic 94, 3) := by decide +kernel
theorem dL_law_589 : decode cL_law 589 = .ok (.istore 5, 2) := by decide +kernel
theorem dL_law_591 : decode cL_law 591 = .ok (.aload_n 2, 1) := by decide +kernel
theorem dL_law_592 : decode cL_law 592 = .ok (.aload_n 0, 1) := by decide +kernel
theorem dL_law_593 : decode cL_law 593 = .ok (.iload 4, 2) := by decide +kernel
theorem dL_law_595 : decode cL_law 595 = .ok (.iconst 1, 1) := by decide +kernel
theorem dL_law_596 : decode cL_law 596 = .ok (.iadd, 1) := by decide +kernel
theorem dL_law_597 : decode cL_law 597 = .ok (.iaload, 1) := by decide +kernel
theorem dL_law_598 : decode cL_law 598 = .ok (.aload_n 0, 1) := by decide +kernel
theorem dL_law_599 : decode cL_law 599 = .ok (.iload 4, 2) := by decide +kernel
theorem dL_law_601 : decode cL_law 601 = .ok (.iconst 2, 1) := by decide +kernel
theorem dL_law_602 : decode cL_law 602 = .ok (.iadd, 1) := by decide +kernel
theorem dL_law_603 : decode cL_law 603 = .ok (.iaload, 1) := by decide +kernel
theorem dL_law_604 : decode cL_law 604 = .ok (.invokevirtual 96, 3) := by decide +kernel
theorem dL_law_607 : decode cL_law 607 = .ok (.istore 6, 2) := by decide +kernel
theorem dL_law_609 : decode cL_law 609 = .ok (.aload_n 2, 1) := by decide +kernel
theorem dL_law_610 : decode cL_law 610 = .ok (.invokevirtual 72, 3) := by decide +kernel
theorem dL_law_613 : decode cL_law 613 = .ok (.iload 5, 2) := by decide +kernel
theorem dL_law_615 : decode cL_law 615 = .ok (.if_icmp .eq 5, 3) := by decide +kernel
theorem dL_law_618 : decode cL_law 618 = .ok (.iconst 0, 1) := by decide +kernel
theorem dL_law_619 : decode cL_law 619 = .ok (.ireturn, 1) := by decide +kernel
theorem dL_law_620 : decode cL_law 620 = .ok (.iload 5, 2) := by decide +kernel
theorem dL_law_622 : decode cL_law 622 = .ok (.ifCond .ne 15, 3) := by decide +kernel
theorem dL_law_625 : decode cL_law 625 = .ok (.aload_n 3, 1) := by decide +kernel
theorem dL_law_626 : decode cL_law 626 = .ok (.iconst 0, 1) := by decide +kernel
theorem dL_law_627 : decode cL_law 627 = .ok (.laload, 1) := by decide +kernel
theorem dL_law_628 : decode cL_law 628 = .ok (.iload 6, 2) := by decide +kernel
theorem dL_law_630 : decode cL_law 630 = .ok (.i2l, 1) := by decide +kernel
theorem dL_law_631 : decode cL_law 631 = .ok (.lcmp, 1) := by decide +kernel
theorem dL_law_632 : decode cL_law 632 = .ok (.ifCond .eq 5, 3) := by decide +kernel
theorem dL_law_635 : decode cL_law 635 = .ok (.iconst 0, 1) := by decide +kernel
theorem dL_law_636 : decode cL_law 636 = .ok (.ireturn, 1) := by decide +kernel
theorem dL_law_637 : decode cL_law 637 = .ok (.goto 400, 3) := by decide +kernel
theorem dL_law_640 : decode cL_law 640 = .ok (.aload_n 1, 1) := by decide +kernel
theorem dL_law_641 : decode cL_law 641 = .ok (.aload_n 0, 1) := by decide +kernel
theorem dL_law_642 : decode cL_law 642 = .ok (.iload 4, 2) := by decide +kernel
theorem dL_law_644 : decode cL_law 644 = .ok (.iconst 1, 1) := by decide +kernel
theorem dL_law_645 : decode cL_law 645 = .ok (.iadd, 1) := by decide +kernel
theorem dL_law_646 : decode cL_law 646 = .ok (.iaload, 1) := by decide +kernel
theorem dL_law_647 : decode cL_law 647 = .ok (.aload_n 0, 1) := by decide +kernel
theorem dL_law_648 : decode cL_law 648 = .ok (.iload 4, 2) := by decide +kernel
theorem dL_law_650 : decode cL_law 650 = .ok (.iconst 2, 1) := by decide +kernel
theorem dL_law_651 : decode cL_law 651 = .ok (.iadd, 1) := by decide +kernel
theorem dL_law_652 : decode cL_law 652 = .ok (.iaload, 1) := by decide +kernel
theorem dL_law_653 : decode cL_law 653 = .ok (.aload_n 3, 1) := by decide +kernel
theorem dL_law_654 : decode cL_law 654 = .ok (.invokestatic 97, 3) := by decide +kernel
theorem dL_law_657 : decode cL_law 657 = .ok (.istore 5, 2) := by decide +kernel
theorem dL_law_659 : decode cL_law 659 = .ok (.aload_n 2, 1) := by decide +kernel
theorem dL_law_660 : decode cL_law 660 = .ok (.aload_n 0, 1) := by decide +kernel
theorem dL_law_661 : decode cL_law 661 = .ok (.iload 4, 2) := by decide +kernel
theorem dL_law_663 : decode cL_law 663 = .ok (.iconst 1, 1) := by decide +kernel
theorem dL_law_664 : decode cL_law 664 = .ok (.iadd, 1) := by decide +kernel
theorem dL_law_665 : decode cL_law 665 = .ok (.iaload, 1) := by decide +kernel
theorem dL_law_666 : decode cL_law 666 = .ok (.aload_n 0, 1) := by decide +kernel
theorem dL_law_667 : decode cL_law 667 = .ok (.iload 4, 2) := by decide +kernel
theorem dL_law_669 : decode cL_law 669 = .ok (.iconst 2, 1) := by decide +kernel
theorem dL_law_670 : decode cL_law 670 = .ok (.iadd, 1) := by decide +kernel
theorem dL_law_671 : decode cL_law 671 = .ok (.iaload, 1) := by decide +kernel
theorem dL_law_672 : decode cL_law 672 = .ok (.invokevirtual 99, 3) := by decide +kernel
theorem dL_law_675 : decode cL_law 675 = .ok (.istore 6, 2) := by decide +kernel
theorem dL_law_677 : decode cL_law 677 = .ok (.aload_n 2, 1) := by decide +kernel
theorem dL_law_678 : decode cL_law 678 = .ok (.invokevirtual 72, 3) := by decide +kernel
theorem dL_law_681 : decode cL_law 681 = .ok (.iload 5, 2) := by decide +kernel
theorem dL_law_683 : decode cL_law 683 = .ok (.if_icmp .eq 5, 3) := by decide +kernel
theorem dL_law_686 : decode cL_law 686 = .ok (.iconst 0, 1) := by decide +kernel
theorem dL_law_687 : decode cL_law 687 = .ok (.ireturn, 1) := by decide +kernel
theorem dL_law_688 : decode cL_law 688 = .ok (.iload 5, 2) := by decide +kernel
theorem dL_law_690 : decode cL_law 690 = .ok (.ifCond .ne 15, 3) := by decide +kernel
theorem dL_law_693 : decode cL_law 693 = .ok (.aload_n 3, 1) := by decide +kernel
theorem dL_law_694 : decode cL_law 694 = .ok (.iconst 0, 1) := by decide +kernel
theorem dL_law_695 : decode cL_law 695 = .ok (.laload, 1) := by decide +kernel
theorem dL_law_696 : decode cL_law 696 = .ok (.iload 6, 2) := by decide +kernel
theorem dL_law_698 : decode cL_law 698 = .ok (.i2l, 1) := by decide +kernel
theorem dL_law_699 : decode cL_law 699 = .ok (.lcmp, 1) := by decide +kernel
theorem dL_law_700 : decode cL_law 700 = .ok (.ifCond .eq 5, 3) := by decide +kernel
theorem dL_law_703 : decode cL_law 703 = .ok (.iconst 0, 1) := by decide +kernel
theorem dL_law_704 : decode cL_law 704 = .ok (.ireturn, 1) := by decide +kernel
theorem dL_law_705 : decode cL_law 705 = .ok (.goto 332, 3) := by decide +kernel
theorem dL_law_708 : decode cL_law 708 = .ok (.aload_n 1, 1) := by decide +kernel
theorem dL_law_709 : decode cL_law 709 = .ok (.aload_n 0, 1) := by decide +kernel
theorem dL_law_710 : decode cL_law 710 = .ok (.iload 4, 2) := by decide +kernel
theorem dL_law_712 : decode cL_law 712 = .ok (.iconst 1, 1) := by decide +kernel
theorem dL_law_713 : decode cL_law 713 = .ok (.iadd, 1) := by decide +kernel
theorem dL_law_714 : decode cL_law 714 = .ok (.iaload, 1) := by decide +kernel
theorem dL_law_715 : decode cL_law 715 = .ok (.aload_n 0, 1) := by decide +kernel
theorem dL_law_716 : decode cL_law 716 = .ok (.iload 4, 2) := by decide +kernel
theorem dL_law_718 : decode cL_law 718 = .ok (.iconst 2, 1) := by decide +kernel
theorem dL_law_719 : decode cL_law 719 = .ok (.iadd, 1) := by decide +kernel
theorem dL_law_720 : decode cL_law 720 = .ok (.iaload, 1) := by decide +kernel
theorem dL_law_721 : decode cL_law 721 = .ok (.aload_n 3, 1) := by decide +kernel
theorem dL_law_722 : decode cL_law 722 = .ok (.invokestatic 100, 3) := by decide +kernel
theorem dL_law_725 : decode cL_law 725 = .ok (.istore 5, 2) := by decide +kernel
theorem dL_law_727 : decode cL_law 727 = .ok (.aload_n 2, 1) := by decide +kernel
theorem dL_law_728 : decode cL_law 728 = .ok (.aload_n 0, 1) := by decide +kernel
theorem dL_law_729 : decode cL_law 729 = .ok (.iload 4, 2) := by decide +kernel
theorem dL_law_731 : decode cL_law 731 = .ok (.iconst 1, 1) := by decide +kernel
theorem dL_law_732 : decode cL_law 732 = .ok (.iadd, 1) := by decide +kernel
theorem dL_law_733 : decode cL_law 733 = .ok (.iaload, 1) := by decide +kernel
theorem dL_law_734 : decode cL_law 734 = .ok (.aload_n 0, 1) := by decide +kernel
theorem dL_law_735 : decode cL_law 735 = .ok (.iload 4, 2) := by decide +kernel
theorem dL_law_737 : decode cL_law 737 = .ok (.iconst 2, 1) := by decide +kernel
theorem dL_law_738 : decode cL_law 738 = .ok (.iadd, 1) := by decide +kernel
theorem dL_law_739 : decode cL_law 739 = .ok (.iaload, 1) := by decide +kernel
theorem dL_law_740 : decode cL_law 740 = .ok (.invokevirtual 102, 3) := by decide +kernel
theorem dL_law_743 : decode cL_law 743 = .ok (.istore 6, 2) := by decide +kernel
theorem dL_law_745 : decode cL_law 745 = .ok (.aload_n 2, 1) := by decide +kernel
theorem dL_law_746 : decode cL_law 746 = .ok (.invokevirtual 72, 3) := by decide +kernel
theorem dL_law_749 : decode cL_law 749 = .ok (.iload 5, 2) := by decide +kernel
theorem dL_law_751 : decode cL_law 751 = .ok (.if_icmp .eq 5, 3) := by decide +kernel
theorem dL_law_754 : decode cL_law 754 = .ok (.iconst 0, 1) := by decide +kernel
theorem dL_law_755 : decode cL_law 755 = .ok (.ireturn, 1) := by decide +kernel
theorem dL_law_756 : decode cL_law 756 = .ok (.iload 5, 2) := by decide +kernel
theorem dL_law_758 : decode cL_law 758 = .ok (.ifCond .ne 15, 3) := by decide +kernel
theorem dL_law_761 : decode cL_law 761 = .ok (.aload_n 3, 1) := by decide +kernel
theorem dL_law_762 : decode cL_law 762 = .ok (.iconst 0, 1) := by decide +kernel
theorem dL_law_763 : decode cL_law 763 = .ok (.laload, 1) := by decide +kernel
theorem dL_law_764 : decode cL_law 764 = .ok (.iload 6, 2) := by decide +kernel
theorem dL_law_766 : decode cL_law 766 = .ok (.i2l, 1) := by decide +kernel
theorem dL_law_767 : decode cL_law 767 = .ok (.lcmp, 1) := by decide +kernel
theorem dL_law_768 : decode cL_law 768 = .ok (.ifCond .eq 5, 3) := by decide +kernel
theorem dL_law_771 : decode cL_law 771 = .ok (.iconst 0, 1) := by decide +kernel
theorem dL_law_772 : decode cL_law 772 = .ok (.ireturn, 1) := by decide +kernel
theorem dL_law_773 : decode cL_law 773 = .ok (.goto 264, 3) := by decide +kernel
theorem dL_law_776 : decode cL_law 776 = .ok (.aload_n 1, 1) := by decide +kernel
theorem dL_law_777 : decode cL_law 777 = .ok (.aload_n 3, 1) := by decide +kernel
theorem dL_law_778 : decode cL_law 778 = .ok (.invokestatic 103, 3) := by decide +kernel
theorem dL_law_781 : decode cL_law 781 = .ok (.istore 5, 2) := by decide +kernel
theorem dL_law_783 : decode cL_law 783 = .ok (.aload_n 2, 1) := by decide +kernel
theorem dL_law_784 : decode cL_law 784 = .ok (.invokevirtual 105, 3) := by decide +kernel
theorem dL_law_787 : decode cL_law 787 = .ok (.istore 6, 2) := by decide +kernel
theorem dL_law_789 : decode cL_law 789 = .ok (.aload_n 2, 1) := by decide +kernel
theorem dL_law_790 : decode cL_law 790 = .ok (.invokevirtual 72, 3) := by decide +kernel
theorem dL_law_793 : decode cL_law 793 = .ok (.iload 5, 2) := by decide +kernel
theorem dL_law_795 : decode cL_law 795 = .ok (.if_icmp .eq 5, 3) := by decide +kernel
theorem dL_law_798 : decode cL_law 798 = .ok (.iconst 0, 1) := by decide +kernel
theorem dL_law_799 : decode cL_law 799 = .ok (.ireturn, 1) := by decide +kernel
theorem dL_law_800 : decode cL_law 800 = .ok (.iload 5, 2) := by decide +kernel
theorem dL_law_802 : decode cL_law 802 = .ok (.ifCond .ne 15, 3) := by decide +kernel
theorem dL_law_805 : decode cL_law 805 = .ok (.aload_n 3, 1) := by decide +kernel
theorem dL_law_806 : decode cL_law 806 = .ok (.iconst 0, 1) := by decide +kernel
theorem dL_law_807 : decode cL_law 807 = .ok (.laload, 1) := by decide +kernel
theorem dL_law_808 : decode cL_law 808 = .ok (.iload 6, 2) := by decide +kernel
theorem dL_law_810 : decode cL_law 810 = .ok (.i2l, 1) := by decide +kernel
theorem dL_law_811 : decode cL_law 811 = .ok (.lcmp, 1) := by decide +kernel
theorem dL_law_812 : decode cL_law 812 = .ok (.ifCond .eq 5, 3) := by decide +kernel
theorem dL_law_815 : decode cL_law 815 = .ok (.iconst 0, 1) := by decide +kernel
theorem dL_law_816 : decode cL_law 816 = .ok (.ireturn, 1) := by decide +kernel
theorem dL_law_817 : decode cL_law 817 = .ok (.goto 220, 3) := by decide +kernel
theorem dL_law_820 : decode cL_law 820 = .ok (.aload_n 1, 1) := by decide +kernel
theorem dL_law_821 : decode cL_law 821 = .ok (.invokevirtual 106, 3) := by decide +kernel
theorem dL_law_824 : decode cL_law 824 = .ok (.aload_n 2, 1) := by decide +kernel
theorem dL_law_825 : decode cL_law 825 = .ok (.invokevirtual 109, 3) := by decide +kernel
theorem dL_law_828 : decode cL_law 828 = .ok (.if_icmp .eq 209, 3) := by decide +kernel
theorem dL_law_831 : decode cL_law 831 = .ok (.iconst 0, 1) := by decide +kernel
theorem dL_law_832 : decode cL_law 832 = .ok (.ireturn, 1) := by decide +kernel
theorem dL_law_833 : decode cL_law 833 = .ok (.aload_n 1, 1) := by decide +kernel
theorem dL_law_834 : decode cL_law 834 = .ok (.aload_n 0, 1) := by decide +kernel
theorem dL_law_835 : decode cL_law 835 = .ok (.iload 4, 2) := by decide +kernel
theorem dL_law_837 : decode cL_law 837 = .ok (.iconst 1, 1) := by decide +kernel
theorem dL_law_838 : decode cL_law 838 = .ok (.iadd, 1) := by decide +kernel
theorem dL_law_839 : decode cL_law 839 = .ok (.iaload, 1) := by decide +kernel
theorem dL_law_840 : decode cL_law 840 = .ok (.aload_n 0, 1) := by decide +kernel
theorem dL_law_841 : decode cL_law 841 = .ok (.iload 4, 2) := by decide +kernel
theorem dL_law_843 : decode cL_law 843 = .ok (.iconst 2, 1) := by decide +kernel
theorem dL_law_844 : decode cL_law 844 = .ok (.iadd, 1) := by decide +kernel
theorem dL_law_845 : decode cL_law 845 = .ok (.iaload, 1) := by decide +kernel
theorem dL_law_846 : decode cL_law 846 = .ok (.aload_n 3, 1) := by decide +kernel
theorem dL_law_847 : decode cL_law 847 = .ok (.invokestatic 110, 3) := by decide +kernel
theorem dL_law_850 : decode cL_law 850 = .ok (.istore 5, 2) := by decide +kernel
theorem dL_law_852 : decode cL_law 852 = .ok (.aload_n 2, 1) := by decide +kernel
theorem dL_law_853 : decode cL_law 853 = .ok (.aload_n 0, 1) := by decide +kernel
theorem dL_law_854 : decode cL_law 854 = .ok (.iload 4, 2) := by decide +kernel
theorem dL_law_856 : decode cL_law 856 = .ok (.iconst 1, 1) := by decide +kernel
theorem dL_law_857 : decode cL_law 857 = .ok (.iadd, 1) := by decide +kernel
theorem dL_law_858 : decode cL_law 858 = .ok (.iaload, 1) := by decide +kernel
theorem dL_law_859 : decode cL_law 859 = .ok (.aload_n 0, 1) := by decide +kernel
theorem dL_law_860 : decode cL_law 860 = .ok (.iload 4, 2) := by decide +kernel
theorem dL_law_862 : decode cL_law 862 = .ok (.iconst 2, 1) := by decide +kernel
theorem dL_law_863 : decode cL_law 863 = .ok (.iadd, 1) := by decide +kernel
theorem dL_law_864 : decode cL_law 864 = .ok (.iaload, 1) := by decide +kernel
theorem dL_law_865 : decode cL_law 865 = .ok (.invokevirtual 112, 3) := by decide +kernel
theorem dL_law_868 : decode cL_law 868 = .ok (.istore 6, 2) := by decide +kernel
theorem dL_law_870 : decode cL_law 870 = .ok (.aload_n 2, 1) := by decide +kernel
theorem dL_law_871 : decode cL_law 871 = .ok (.invokevirtual 72, 3) := by decide +kernel
theorem dL_law_874 : decode cL_law 874 = .ok (.iload 5, 2) := by decide +kernel
theorem dL_law_876 : decode cL_law 876 = .ok (.if_icmp .eq 5, 3) := by decide +kernel
theorem dL_law_879 : decode cL_law 879 = .ok (.iconst 0, 1) := by decide +kernel
theorem dL_law_880 : decode cL_law 880 = .ok (.ireturn, 1) := by decide +kernel
theorem dL_law_881 : decode cL_law 881 = .ok (.iload 5, 2) := by decide +kernel
theorem dL_law_883 : decode cL_law 883 = .ok (.ifCond .ne 15, 3) := by decide +kernel
theorem dL_law_886 : decode cL_law 886 = .ok (.aload_n 3, 1) := by decide +kernel
theorem dL_law_887 : decode cL_law 887 = .ok (.iconst 0, 1) := by decide +kernel
theorem dL_law_888 : decode cL_law 888 = .ok (.laload, 1) := by decide +kernel
theorem dL_law_889 : decode cL_law 889 = .ok (.iload 6, 2) := by decide +kernel
theorem dL_law_891 : decode cL_law 891 = .ok (.i2l, 1) := by decide +kernel
theorem dL_law_892 : decode cL_law 892 = .ok (.lcmp, 1) := by decide +kernel
theorem dL_law_893 : decode cL_law 893 = .ok (.ifCond .eq 5, 3) := by decide +kernel
theorem dL_law_896 : decode cL_law 896 = .ok (.iconst 0, 1) := by decide +kernel
theorem dL_law_897 : decode cL_law 897 = .ok (.ireturn, 1) := by decide +kernel
theorem dL_law_898 : decode cL_law 898 = .ok (.goto 139, 3) := by decide +kernel
theorem dL_law_901 : decode cL_law 901 = .ok (.aload_n 1, 1) := by decide +kernel
theorem dL_law_902 : decode cL_law 902 = .ok (.aload_n 0, 1) := by decide +kernel
theorem dL_law_903 : decode cL_law 903 = .ok (.iload 4, 2) := by decide +kernel
theorem dL_law_905 : decode cL_law 905 = .ok (.iconst 1, 1) := by decide +kernel
theorem dL_law_906 : decode cL_law 906 = .ok (.iadd, 1) := by decide +kernel
theorem dL_law_907 : decode cL_law 907 = .ok (.iaload, 1) := by decide +kernel
theorem dL_law_908 : decode cL_law 908 = .ok (.aload_n 0, 1) := by decide +kernel
theorem dL_law_909 : decode cL_law 909 = .ok (.iload 4, 2) := by decide +kernel
theorem dL_law_911 : decode cL_law 911 = .ok (.iconst 2, 1) := by decide +kernel
theorem dL_law_912 : decode cL_law 912 = .ok (.iadd, 1) := by decide +kernel
theorem dL_law_913 : decode cL_law 913 = .ok (.iaload, 1) := by decide +kernel
theorem dL_law_914 : decode cL_law 914 = .ok (.aload_n 3, 1) := by decide +kernel
theorem dL_law_915 : decode cL_law 915 = .ok (.invokestatic 113, 3) := by decide +kernel
theorem dL_law_918 : decode cL_law 918 = .ok (.istore 5, 2) := by decide +kernel
theorem dL_law_920 : decode cL_law 920 = .ok (.aload_n 2, 1) := by decide +kernel
theorem dL_law_921 : decode cL_law 921 = .ok (.aload_n 0, 1) := by decide +kernel
theorem dL_law_922 : decode cL_law 922 = .ok (.iload 4, 2) := by decide +kernel
theorem dL_law_924 : decode cL_law 924 = .ok (.iconst 1, 1) := by decide +kernel
theorem dL_law_925 : decode cL_law 925 = .ok (.iadd, 1) := by decide +kernel
theorem dL_law_926 : decode cL_law 926 = .ok (.iaload, 1) := by decide +kernel
theorem dL_law_927 : decode cL_law 927 = .ok (.aload_n 0, 1) := by decide +kernel
theorem dL_law_928 : decode cL_law 928 = .ok (.iload 4, 2) := by decide +kernel
theorem dL_law_930 : decode cL_law 930 = .ok (.iconst 2, 1) := by decide +kernel
theorem dL_law_931 : decode cL_law 931 = .ok (.iadd, 1) := by decide +kernel
theorem dL_law_932 : decode cL_law 932 = .ok (.iaload, 1) := by decide +kernel
theorem dL_law_933 : decode cL_law 933 = .ok (.invokevirtual 115, 3) := by decide +kernel
theorem dL_law_936 : decode cL_law 936 = .ok (.lstore 6, 2) := by decide +kernel
theorem dL_law_938 : decode cL_law 938 = .ok (.aload_n 2, 1) := by decide +kernel
theorem dL_law_939 : decode cL_law 939 = .ok (.invokevirtual 72, 3) := by decide +kernel
theorem dL_law_942 : decode cL_law 942 = .ok (.iload 5, 2) := by decide +kernel
theorem dL_law_944 : decode cL_law 944 = .ok (.if_icmp .eq 5, 3) := by decide +kernel
theorem dL_law_947 : decode cL_law 947 = .ok (.iconst 0, 1) := by decide +kernel
theorem dL_law_948 : decode cL_law 948 = .ok (.ireturn, 1) := by decide +kernel
theorem dL_law_949 : decode cL_law 949 = .ok (.iload 5, 2) := by decide +kernel
theorem dL_law_951 : decode cL_law 951 = .ok (.ifCond .ne 14, 3) := by decide +kernel
theorem dL_law_954 : decode cL_law 954 = .ok (.aload_n 3, 1) := by decide +kernel
theorem dL_law_955 : decode cL_law 955 = .ok (.iconst 0, 1) := by decide +kernel
theorem dL_law_956 : decode cL_law 956 = .ok (.laload, 1) := by decide +kernel
theorem dL_law_957 : decode cL_law 957 = .ok (.lload 6, 2) := by decide +kernel
theorem dL_law_959 : decode cL_law 959 = .ok (.lcmp, 1) := by decide +kernel
theorem dL_law_960 : decode cL_law 960 = .ok (.ifCond .eq 5, 3) := by decide +kernel
theorem dL_law_963 : decode cL_law 963 = .ok (.iconst 0, 1) := by decide +kernel
theorem dL_law_964 : decode cL_law 964 = .ok (.ireturn, 1) := by decide +kernel
theorem dL_law_965 : decode cL_law 965 = .ok (.goto 72, 3) := by decide +kernel
theorem dL_law_968 : decode cL_law 968 = .ok (.aload_n 1, 1) := by decide +kernel
theorem dL_law_969 : decode cL_law 969 = .ok (.invokevirtual 116, 3) := by decide +kernel
theorem dL_law_972 : decode cL_law 972 = .ok (.aload_n 2, 1) := by decide +kernel
theorem dL_law_973 : decode cL_law 973 = .ok (.invokevirtual 119, 3) := by decide +kernel
theorem dL_law_976 : decode cL_law 976 = .ok (.if_icmp .eq 61, 3) := by decide +kernel
theorem dL_law_979 : decode cL_law 979 = .ok (.iconst 0, 1) := by decide +kernel
theorem dL_law_980 : decode cL_law 980 = .ok (.ireturn, 1) := by decide +kernel
theorem dL_law_981 : decode cL_law 981 = .ok (.aload_n 1, 1) := by decide +kernel
theorem dL_law_982 : decode cL_law 982 = .ok (.aload_n 0, 1) := by decide +kernel
theorem dL_law_983 : decode cL_law 983 = .ok (.iload 4, 2) := by decide +kernel
theorem dL_law_985 : decode cL_law 985 = .ok (.iconst 1, 1) := by decide +kernel
theorem dL_law_986 : decode cL_law 986 = .ok (.iadd, 1) := by decide +kernel
theorem dL_law_987 : decode cL_law 987 = .ok (.iaload, 1) := by decide +kernel
theorem dL_law_988 : decode cL_law 988 = .ok (.aload_n 3, 1) := by decide +kernel
theorem dL_law_989 : decode cL_law 989 = .ok (.invokestatic 120, 3) := by decide +kernel
theorem dL_law_992 : decode cL_law 992 = .ok (.istore 5, 2) := by decide +kernel
theorem dL_law_994 : decode cL_law 994 = .ok (.aload_n 2, 1) := by decide +kernel
theorem dL_law_995 : decode cL_law 995 = .ok (.aload_n 0, 1) := by decide +kernel
theorem dL_law_996 : decode cL_law 996 = .ok (.iload 4, 2) := by decide +kernel
theorem dL_law_998 : decode cL_law 998 = .ok (.iconst 1, 1) := by decide +kernel
theorem dL_law_999 : decode cL_law 999 = .ok (.iadd, 1) := by decide +kernel
theorem dL_law_1000 : decode cL_law 1000 = .ok (.iaload, 1) := by decide +kernel
theorem dL_law_1001 : decode cL_law 1001 = .ok (.invokevirtual 122, 3) := by decide +kernel
theorem dL_law_1004 : decode cL_law 1004 = .ok (.istore 6, 2) := by decide +kernel
theorem dL_law_1006 : decode cL_law 1006 = .ok (.aload_n 2, 1) := by decide +kernel
theorem dL_law_1007 : decode cL_law 1007 = .ok (.invokevirtual 72, 3) := by decide +kernel
theorem dL_law_1010 : decode cL_law 1010 = .ok (.iload 5, 2) := by decide +kernel
theorem dL_law_1012 : decode cL_law 1012 = .ok (.if_icmp .eq 5, 3) := by decide +kernel
theorem dL_law_1015 : decode cL_law 1015 = .ok (.iconst 0, 1) := by decide +kernel
theorem dL_law_1016 : decode cL_law 1016 = .ok (.ireturn, 1) := by decide +kernel
theorem dL_law_1017 : decode cL_law 1017 = .ok (.iload 5, 2) := by decide +kernel
theorem dL_law_1019 : decode cL_law 1019 = .ok (.ifCond .ne 15, 3) := by decide +kernel
theorem dL_law_1022 : decode cL_law 1022 = .ok (.aload_n 3, 1) := by decide +kernel
theorem dL_law_1023 : decode cL_law 1023 = .ok (.iconst 0, 1) := by decide +kernel
theorem dL_law_1024 : decode cL_law 1024 = .ok (.laload, 1) := by decide +kernel
theorem dL_law_1025 : decode cL_law 1025 = .ok (.iload 6, 2) := by decide +kernel
theorem dL_law_1027 : decode cL_law 1027 = .ok (.i2l, 1) := by decide +kernel
theorem dL_law_1028 : decode cL_law 1028 = .ok (.lcmp, 1) := by decide +kernel
theorem dL_law_1029 : decode cL_law 1029 = .ok (.ifCond .eq 5, 3) := by decide +kernel
theorem dL_law_1032 : decode cL_law 1032 = .ok (.iconst 0, 1) := by decide +kernel
theorem dL_law_1033 : decode cL_law 1033 = .ok (.ireturn, 1) := by decide +kernel
theorem dL_law_1034 : decode cL_law 1034 = .ok (.goto 3, 3) := by decide +kernel
theorem dL_law_1037 : decode cL_law 1037 = .ok (.iinc 4 6, 3) := by decide +kernel
theorem dL_law_1040 : decode cL_law 1040 = .ok (.goto (-1017), 3) := by decide +kernel
theorem dL_law_1043 : decode cL_law 1043 = .ok (.iconst 1, 1) := by decide +kernel
theorem dL_law_1044 : decode cL_law 1044 = .ok (.ireturn, 1) := by decide +kernel
