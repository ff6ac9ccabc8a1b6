theorem eX9_init_0 : decode mX9_init.2.1 0 = .ok (.aload_n 0, 1) := by decide +kernel
theorem eX9_init_1 : decode mX9_init.2.1 1 = .ok (.invokespecial 1, 3) := by decide +kernel
theorem eX9_init_4 : decode mX9_init.2.1 4 = .ok (.aload_n 0, 1) := by decide +kernel
theorem eX9_init_5 : decode mX9_init.2.1 5 = .ok (.sipush 9000, 3) := by decide +kernel
theorem eX9_init_8 : decode mX9_init.2.1 8 = .ok (.newarray .int, 2) := by decide +kernel
theorem eX9_init_10 : decode mX9_init.2.1 10 = .ok (.putfield 7, 3) := by decide +kernel
theorem eX9_init_13 : decode mX9_init.2.1 13 = .ok (.aload_n 0, 1) := by decide +kernel
theorem eX9_init_14 : decode mX9_init.2.1 14 = .ok (.ldc 13, 2) := by decide +kernel
theorem eX9_init_16 : decode mX9_init.2.1 16 = .ok (.newarray .int, 2) := by decide +kernel
theorem eX9_init_18 : decode mX9_init.2.1 18 = .ok (.putfield 14, 3) := by decide +kernel
theorem eX9_init_21 : decode mX9_init.2.1 21 = .ok (.aload_n 0, 1) := by decide +kernel
theorem eX9_init_22 : decode mX9_init.2.1 22 = .ok (.bipush 61, 2) := by decide +kernel
theorem eX9_init_24 : decode mX9_init.2.1 24 = .ok (.newarray .int, 2) := by decide +kernel
theorem eX9_init_26 : decode mX9_init.2.1 26 = .ok (.putfield 17, 3) := by decide +kernel
theorem eX9_init_29 : decode mX9_init.2.1 29 = .ok (.aload_n 0, 1) := by decide +kernel
theorem eX9_init_30 : decode mX9_init.2.1 30 = .ok (.bipush 60, 2) := by decide +kernel
theorem eX9_init_32 : decode mX9_init.2.1 32 = .ok (.newarray .int, 2) := by decide +kernel
theorem eX9_init_34 : decode mX9_init.2.1 34 = .ok (.putfield 20, 3) := by decide +kernel
theorem eX9_init_37 : decode mX9_init.2.1 37 = .ok (.aload_n 0, 1) := by decide +kernel
theorem eX9_init_38 : decode mX9_init.2.1 38 = .ok (.sipush 200, 3) := by decide +kernel
theorem eX9_init_41 : decode mX9_init.2.1 41 = .ok (.newarray .boolean, 2) := by decide +kernel
theorem eX9_init_43 : decode mX9_init.2.1 43 = .ok (.putfield 23, 3) := by decide +kernel
theorem eX9_init_46 : decode mX9_init.2.1 46 = .ok (.aload_n 0, 1) := by decide +kernel
theorem eX9_init_47 : decode mX9_init.2.1 47 = .ok (.bipush 8, 2) := by decide +kernel
theorem eX9_init_49 : decode mX9_init.2.1 49 = .ok (.newarray .int, 2) := by decide +kernel
theorem eX9_init_51 : decode mX9_init.2.1 51 = .ok (.putfield 27, 3) := by decide +kernel
theorem eX9_init_54 : decode mX9_init.2.1 54 = .ok (.aload_n 0, 1) := by decide +kernel
theorem eX9_init_55 : decode mX9_init.2.1 55 = .ok (.sipush 256, 3) := by decide +kernel
theorem eX9_init_58 : decode mX9_init.2.1 58 = .ok (.newarray .int, 2) := by decide +kernel
theorem eX9_init_60 : decode mX9_init.2.1 60 = .ok (.putfield 30, 3) := by decide +kernel
theorem eX9_init_63 : decode mX9_init.2.1 63 = .ok (.aload_n 0, 1) := by decide +kernel
theorem eX9_init_64 : decode mX9_init.2.1 64 = .ok (.sipush 256, 3) := by decide +kernel
theorem eX9_init_67 : decode mX9_init.2.1 67 = .ok (.newarray .int, 2) := by decide +kernel
theorem eX9_init_69 : decode mX9_init.2.1 69 = .ok (.putfield 33, 3) := by decide +kernel
theorem eX9_init_72 : decode mX9_init.2.1 72 = .ok (.aload_n 0, 1) := by decide +kernel
theorem eX9_init_73 : decode mX9_init.2.1 73 = .ok (.bipush 10, 2) := by decide +kernel
theorem eX9_init_75 : decode mX9_init.2.1 75 = .ok (.newarray .int, 2) := by decide +kernel
theorem eX9_init_77 : decode mX9_init.2.1 77 = .ok (.putfield 36, 3) := by decide +kernel
theorem eX9_init_80 : decode mX9_init.2.1 80 = .ok (.iconst 0, 1) := by decide +kernel
theorem eX9_init_81 : decode mX9_init.2.1 81 = .ok (.istore_n 1, 1) := by decide +kernel
theorem eX9_init_82 : decode mX9_init.2.1 82 = .ok (.iload_n 1, 1) := by decide +kernel
theorem eX9_init_83 : decode mX9_init.2.1 83 = .ok (.bipush 60, 2) := by decide +kernel
theorem eX9_init_85 : decode mX9_init.2.1 85 = .ok (.if_icmp .gt 17, 3) := by decide +kernel
theorem eX9_init_88 : decode mX9_init.2.1 88 = .ok (.aload_n 0, 1) := by decide +kernel
theorem eX9_init_89 : decode mX9_init.2.1 89 = .ok (.getfield 17, 3) := by decide +kernel
theorem eX9_init_92 : decode mX9_init.2.1 92 = .ok (.iload_n 1, 1) := by decide +kernel
theorem eX9_init_93 : decode mX9_init.2.1 93 = .ok (.ldc 39, 2) := by decide +kernel
theorem eX9_init_95 : decode mX9_init.2.1 95 = .ok (.iastore, 1) := by decide +kernel
theorem eX9_init_96 : decode mX9_init.2.1 96 = .ok (.iinc 1 1, 3) := by decide +kernel
theorem eX9_init_99 : decode mX9_init.2.1 99 = .ok (.goto (-17), 3) := by decide +kernel
theorem eX9_init_102 : decode mX9_init.2.1 102 = .ok (.return_, 1) := by decide +kernel
theorem eX9_isIn_0 : decode mX9_isIn.2.1 0 = .ok (.iload_n 0, 1) := by decide +kernel
theorem eX9_isIn_1 : decode mX9_isIn.2.1 1 = .ok (.iload_n 1, 1) := by decide +kernel
theorem eX9_isIn_2 : decode mX9_isIn.2.1 2 = .ok (.if_icmp .lt 12, 3) := by decide +kernel
theorem eX9_isIn_5 : decode mX9_isIn.2.1 5 = .ok (.iload_n 0, 1) := by decide +kernel
theorem eX9_isIn_6 : decode mX9_isIn.2.1 6 = .ok (.iload_n 2, 1) := by decide +kernel
theorem eX9_isIn_7 : decode mX9_isIn.2.1 7 = .ok (.if_icmp .gt 7, 3) := by decide +kernel
theorem eX9_isIn_10 : decode mX9_isIn.2.1 10 = .ok (.iconst 1, 1) := by decide +kernel
theorem eX9_isIn_11 : decode mX9_isIn.2.1 11 = .ok (.goto 4, 3) := by decide +kernel
theorem eX9_isIn_14 : decode mX9_isIn.2.1 14 = .ok (.iconst 0, 1) := by decide +kernel
theorem eX9_isIn_15 : decode mX9_isIn.2.1 15 = .ok (.ireturn, 1) := by decide +kernel
theorem eX9_act_0 : decode mX9_act.2.1 0 = .ok (.aload_n 0, 1) := by decide +kernel
theorem eX9_act_1 : decode mX9_act.2.1 1 = .ok (.aload_n 0, 1) := by decide +kernel
theorem eX9_act_2 : decode mX9_act.2.1 2 = .ok (.getfield 40, 3) := by decide +kernel
theorem eX9_act_5 : decode mX9_act.2.1 5 = .ok (.iconst 1, 1) := by decide +kernel
theorem eX9_act_6 : decode mX9_act.2.1 6 = .ok (.iadd, 1) := by decide +kernel
theorem eX9_act_7 : decode mX9_act.2.1 7 = .ok (.bipush 16, 2) := by decide +kernel
theorem eX9_act_9 : decode mX9_act.2.1 9 = .ok (.irem, 1) := by decide +kernel
theorem eX9_act_10 : decode mX9_act.2.1 10 = .ok (.putfield 40, 3) := by decide +kernel
theorem eX9_act_13 : decode mX9_act.2.1 13 = .ok (.iconst 0, 1) := by decide +kernel
theorem eX9_act_14 : decode mX9_act.2.1 14 = .ok (.istore_n 1, 1) := by decide +kernel
theorem eX9_act_15 : decode mX9_act.2.1 15 = .ok (.iload_n 1, 1) := by decide +kernel
theorem eX9_act_16 : decode mX9_act.2.1 16 = .ok (.sipush 9000, 3) := by decide +kernel
theorem eX9_act_19 : decode mX9_act.2.1 19 = .ok (.if_icmp .ge 30, 3) := by decide +kernel
theorem eX9_act_22 : decode mX9_act.2.1 22 = .ok (.aload_n 0, 1) := by decide +kernel
theorem eX9_act_23 : decode mX9_act.2.1 23 = .ok (.getfield 14, 3) := by decide +kernel
theorem eX9_act_26 : decode mX9_act.2.1 26 = .ok (.sipush 9000, 3) := by decide +kernel
theorem eX9_act_29 : decode mX9_act.2.1 29 = .ok (.aload_n 0, 1) := by decide +kernel
theorem eX9_act_30 : decode mX9_act.2.1 30 = .ok (.getfield 40, 3) := by decide +kernel
theorem eX9_act_33 : decode mX9_act.2.1 33 = .ok (.imul, 1) := by decide +kernel
theorem eX9_act_34 : decode mX9_act.2.1 34 = .ok (.iload_n 1, 1) := by decide +kernel
theorem eX9_act_35 : decode mX9_act.2.1 35 = .ok (.iadd, 1) := by decide +kernel
theorem eX9_act_36 : decode mX9_act.2.1 36 = .ok (.aload_n 0, 1) := by decide +kernel
theorem eX9_act_37 : decode mX9_act.2.1 37 = .ok (.getfield 7, 3) := by decide +kernel
theorem eX9_act_40 : decode mX9_act.2.1 40 = .ok (.iload_n 1, 1) := by decide +kernel
theorem eX9_act_41 : decode mX9_act.2.1 41 = .ok (.iaload, 1) := by decide +kernel
theorem eX9_act_42 : decode mX9_act.2.1 42 = .ok (.iastore, 1) := by decide +kernel
theorem eX9_act_43 : decode mX9_act.2.1 43 = .ok (.iinc 1 1, 3) := by decide +kernel
theorem eX9_act_46 : decode mX9_act.2.1 46 = .ok (.goto (-31), 3) := by decide +kernel
theorem eX9_act_49 : decode mX9_act.2.1 49 = .ok (.aload_n 0, 1) := by decide +kernel
theorem eX9_act_50 : decode mX9_act.2.1 50 = .ok (.bipush 16, 2) := by decide +kernel
theorem eX9_act_52 : decode mX9_act.2.1 52 = .ok (.aload_n 0, 1) := by decide +kernel
theorem eX9_act_53 : decode mX9_act.2.1 53 = .ok (.getfield 44, 3) := by decide +kernel
theorem eX9_act_56 : decode mX9_act.2.1 56 = .ok (.iconst 1, 1) := by decide +kernel
theorem eX9_act_57 : decode mX9_act.2.1 57 = .ok (.iadd, 1) := by decide +kernel
theorem eX9_act_58 : decode mX9_act.2.1 58 = .ok (.invokestatic 47, 3) := by decide +kernel
theorem eX9_act_61 : decode mX9_act.2.1 61 = .ok (.putfield 44, 3) := by decide +kernel
theorem eX9_act_64 : decode mX9_act.2.1 64 = .ok (.return_, 1) := by decide +kernel
theorem eX9_undo_0 : decode mX9_undo.2.1 0 = .ok (.aload_n 0, 1) := by decide +kernel
theorem eX9_undo_1 : decode mX9_undo.2.1 1 = .ok (.getfield 44, 3) := by decide +kernel
theorem eX9_undo_4 : decode mX9_undo.2.1 4 = .ok (.ifCond .ne 5, 3) := by decide +kernel
theorem eX9_undo_7 : decode mX9_undo.2.1 7 = .ok (.iconst 0, 1) := by decide +kernel
theorem eX9_undo_8 : decode mX9_undo.2.1 8 = .ok (.ireturn, 1) := by decide +kernel
theorem eX9_undo_9 : decode mX9_undo.2.1 9 = .ok (.iconst 0, 1) := by decide +kernel
theorem eX9_undo_10 : decode mX9_undo.2.1 10 = .ok (.istore_n 1, 1) := by decide +kernel
theorem eX9_undo_11 : decode mX9_undo.2.1 11 = .ok (.iload_n 1, 1) := by decide +kernel
theorem eX9_undo_12 : decode mX9_undo.2.1 12 = .ok (.sipush 9000, 3) := by decide +kernel
theorem eX9_undo_15 : decode mX9_undo.2.1 15 = .ok (.if_icmp .ge 30, 3) := by decide +kernel
theorem eX9_undo_18 : decode mX9_undo.2.1 18 = .ok (.aload_n 0, 1) := by decide +kernel
theorem eX9_undo_19 : decode mX9_undo.2.1 19 = .ok (.getfield 7, 3) := by decide +kernel
theorem eX9_undo_22 : decode mX9_undo.2.1 22 = .ok (.iload_n 1, 1) := by decide +kernel
theorem eX9_undo_23 : decode mX9_undo.2.1 23 = .ok (.aload_n 0, 1) := by decide +kernel
theorem eX9_undo_24 : decode mX9_undo.2.1 24 = .ok (.getfield 14, 3) := by decide +kernel
theorem eX9_undo_27 : decode mX9_undo.2.1 27 = .ok (.sipush 9000, 3) := by decide +kernel
theorem eX9_undo_30 : decode mX9_undo.2.1 30 = .ok (.aload_n 0, 1) := by decide +kernel
theorem eX9_undo_31 : decode mX9_undo.2.1 31 = .ok (.getfield 40, 3) := by decide +kernel
theorem eX9_undo_34 : decode mX9_undo.2.1 34 = .ok (.imul, 1) := by decide +kernel
theorem eX9_undo_35 : decode mX9_undo.2.1 35 = .ok (.iload_n 1, 1) := by decide +kernel
theorem eX9_undo_36 : decode mX9_undo.2.1 36 = .ok (.iadd, 1) := by decide +kernel
theorem eX9_undo_37 : decode mX9_undo.2.1 37 = .ok (.iaload, 1) := by decide +kernel
theorem eX9_undo_38 : decode mX9_undo.2.1 38 = .ok (.iastore, 1) := by decide +kernel
theorem eX9_undo_39 : decode mX9_undo.2.1 39 = .ok (.iinc 1 1, 3) := by decide +kernel
theorem eX9_undo_42 : decode mX9_undo.2.1 42 = .ok (.goto (-31), 3) := by decide +kernel
theorem eX9_undo_45 : decode mX9_undo.2.1 45 = .ok (.aload_n 0, 1) := by decide +kernel
theorem eX9_undo_46 : decode mX9_undo.2.1 46 = .ok (.aload_n 0, 1) := by decide +kernel
theorem eX9_undo_47 : decode mX9_undo.2.1 47 = .ok (.getfield 40, 3) := by decide +kernel
theorem eX9_undo_50 : decode mX9_undo.2.1 50 = .ok (.bipush 16, 2) := by decide +kernel
theorem eX9_undo_52 : decode mX9_undo.2.1 52 = .ok (.iadd, 1) := by decide +kernel
theorem eX9_undo_53 : decode mX9_undo.2.1 53 = .ok (.iconst 1, 1) := by decide +kernel
theorem eX9_undo_54 : decode mX9_undo.2.1 54 = .ok (.isub, 1) := by decide +kernel
theorem eX9_undo_55 : decode mX9_undo.2.1 55 = .ok (.bipush 16, 2) := by decide +kernel
theorem eX9_undo_57 : decode mX9_undo.2.1 57 = .ok (.irem, 1) := by decide +kernel
theorem eX9_undo_58 : decode mX9_undo.2.1 58 = .ok (.putfield 40, 3) := by decide +kernel
theorem eX9_undo_61 : decode mX9_undo.2.1 61 = .ok (.aload_n 0, 1) := by decide +kernel
theorem eX9_undo_62 : decode mX9_undo.2.1 62 = .ok (.dup, 1) := by decide +kernel
theorem eX9_undo_63 : decode mX9_undo.2.1 63 = .ok (.getfield 44, 3) := by decide +kernel
theorem eX9_undo_66 : decode mX9_undo.2.1 66 = .ok (.iconst 1, 1) := by decide +kernel
theorem eX9_undo_67 : decode mX9_undo.2.1 67 = .ok (.isub, 1) := by decide +kernel
theorem eX9_undo_68 : decode mX9_undo.2.1 68 = .ok (.putfield 44, 3) := by decide +kernel
theorem eX9_undo_71 : decode mX9_undo.2.1 71 = .ok (.iconst 1, 1) := by decide +kernel
theorem eX9_undo_72 : decode mX9_undo.2.1 72 = .ok (.ireturn, 1) := by decide +kernel
theorem eX9_bolt_0 : decode mX9_bolt.2.1 0 = .ok (.aload_n 0, 1) := by decide +kernel
theorem eX9_bolt_1 : decode mX9_bolt.2.1 1 = .ok (.getfield 7, 3) := by decide +kernel
theorem eX9_bolt_4 : decode mX9_bolt.2.1 4 = .ok (.bipush 10, 2) := by decide +kernel
theorem eX9_bolt_6 : decode mX9_bolt.2.1 6 = .ok (.sipush 210, 3) := by decide +kernel
theorem eX9_bolt_9 : decode mX9_bolt.2.1 9 = .ok (.iload_n 1, 1) := by decide +kernel
theorem eX9_bolt_10 : decode mX9_bolt.2.1 10 = .ok (.imul, 1) := by decide +kernel
theorem eX9_bolt_11 : decode mX9_bolt.2.1 11 = .ok (.iadd, 1) := by decide +kernel
theorem eX9_bolt_12 : decode mX9_bolt.2.1 12 = .ok (.iload_n 2, 1) := by decide +kernel
theorem eX9_bolt_13 : decode mX9_bolt.2.1 13 = .ok (.iadd, 1) := by decide +kernel
theorem eX9_bolt_14 : decode mX9_bolt.2.1 14 = .ok (.iaload, 1) := by decide +kernel
theorem eX9_bolt_15 : decode mX9_bolt.2.1 15 = .ok (.ireturn, 1) := by decide +kernel
theorem eX9_sail_0 : decode mX9_sail.2.1 0 = .ok (.aload_n 0, 1) := by decide +kernel
theorem eX9_sail_1 : decode mX9_sail.2.1 1 = .ok (.getfield 7, 3) := by decide +kernel
theorem eX9_sail_4 : decode mX9_sail.2.1 4 = .ok (.sipush 5050, 3) := by decide +kernel
theorem eX9_sail_7 : decode mX9_sail.2.1 7 = .ok (.sipush 390, 3) := by decide +kernel
theorem eX9_sail_10 : decode mX9_sail.2.1 10 = .ok (.iload_n 1, 1) := by decide +kernel
theorem eX9_sail_11 : decode mX9_sail.2.1 11 = .ok (.imul, 1) := by decide +kernel
theorem eX9_sail_12 : decode mX9_sail.2.1 12 = .ok (.iadd, 1) := by decide +kernel
theorem eX9_sail_13 : decode mX9_sail.2.1 13 = .ok (.iload_n 2, 1) := by decide +kernel
theorem eX9_sail_14 : decode mX9_sail.2.1 14 = .ok (.iadd, 1) := by decide +kernel
theorem eX9_sail_15 : decode mX9_sail.2.1 15 = .ok (.iaload, 1) := by decide +kernel
theorem eX9_sail_16 : decode mX9_sail.2.1 16 = .ok (.ireturn, 1) := by decide +kernel
theorem eX9_putBolt_0 : decode mX9_putBolt.2.1 0 = .ok (.aload_n 0, 1) := by decide +kernel
theorem eX9_putBolt_1 : decode mX9_putBolt.2.1 1 = .ok (.getfield 7, 3) := by decide +kernel
theorem eX9_putBolt_4 : decode mX9_putBolt.2.1 4 = .ok (.bipush 10, 2) := by decide +kernel
theorem eX9_putBolt_6 : decode mX9_putBolt.2.1 6 = .ok (.sipush 210, 3) := by decide +kernel
theorem eX9_putBolt_9 : decode mX9_putBolt.2.1 9 = .ok (.iload_n 1, 1) := by decide +kernel
theorem eX9_putBolt_10 : decode mX9_putBolt.2.1 10 = .ok (.imul, 1) := by decide +kernel
theorem eX9_putBolt_11 : decode mX9_putBolt.2.1 11 = .ok (.iadd, 1) := by decide +kernel
theorem eX9_putBolt_12 : decode mX9_putBolt.2.1 12 = .ok (.iload_n 2, 1) := by decide +kernel
theorem eX9_putBolt_13 : decode mX9_putBolt.2.1 13 = .ok (.iadd, 1) := by decide +kernel
theorem eX9_putBolt_14 : decode mX9_putBolt.2.1 14 = .ok (.iload_n 3, 1) := by decide +kernel
theorem eX9_putBolt_15 : decode mX9_putBolt.2.1 15 = .ok (.iastore, 1) := by decide +kernel
theorem eX9_putBolt_16 : decode mX9_putBolt.2.1 16 = .ok (.return_, 1) := by decide +kernel
theorem eX9_putSail_0 : decode mX9_putSail.2.1 0 = .ok (.aload_n 0, 1) := by decide +kernel
theorem eX9_putSail_1 : decode mX9_putSail.2.1 1 = .ok (.getfield 7, 3) := by decide +kernel
theorem eX9_putSail_4 : decode mX9_putSail.2.1 4 = .ok (.sipush 5050, 3) := by decide +kernel
theorem eX9_putSail_7 : decode mX9_putSail.2.1 7 = .ok (.sipush 390, 3) := by decide +kernel
theorem eX9_putSail_10 : decode mX9_putSail.2.1 10 = .ok (.iload_n 1, 1) := by decide +kernel
theorem eX9_putSail_11 : decode mX9_putSail.2.1 11 = .ok (.imul, 1) := by decide +kernel
theorem eX9_putSail_12 : decode mX9_putSail.2.1 12 = .ok (.iadd, 1) := by decide +kernel
theorem eX9_putSail_13 : decode mX9_putSail.2.1 13 = .ok (.iload_n 2, 1) := by decide +kernel
theorem eX9_putSail_14 : decode mX9_putSail.2.1 14 = .ok (.iadd, 1) := by decide +kernel
theorem eX9_putSail_15 : decode mX9_putSail.2.1 15 = .ok (.iload_n 3, 1) := by decide +kernel
theorem eX9_putSail_16 : decode mX9_putSail.2.1 16 = .ok (.iastore, 1) := by decide +kernel
theorem eX9_putSail_17 : decode mX9_putSail.2.1 17 = .ok (.return_, 1) := by decide +kernel
theorem eX9_isBolt_0 : decode mX9_isBolt.2.1 0 = .ok (.iload_n 1, 1) := by decide +kernel
theorem eX9_isBolt_1 : decode mX9_isBolt.2.1 1 = .ok (.ifCond .lt 17, 3) := by decide +kernel
theorem eX9_isBolt_4 : decode mX9_isBolt.2.1 4 = .ok (.iload_n 1, 1) := by decide +kernel
theorem eX9_isBolt_5 : decode mX9_isBolt.2.1 5 = .ok (.aload_n 0, 1) := by decide +kernel
theorem eX9_isBolt_6 : decode mX9_isBolt.2.1 6 = .ok (.getfield 7, 3) := by decide +kernel
theorem eX9_isBolt_9 : decode mX9_isBolt.2.1 9 = .ok (.iconst 0, 1) := by decide +kernel
theorem eX9_isBolt_10 : decode mX9_isBolt.2.1 10 = .ok (.iaload, 1) := by decide +kernel
theorem eX9_isBolt_11 : decode mX9_isBolt.2.1 11 = .ok (.if_icmp .ge 7, 3) := by decide +kernel
theorem eX9_isBolt_14 : decode mX9_isBolt.2.1 14 = .ok (.iconst 1, 1) := by decide +kernel
theorem eX9_isBolt_15 : decode mX9_isBolt.2.1 15 = .ok (.goto 4, 3) := by decide +kernel
theorem eX9_isBolt_18 : decode mX9_isBolt.2.1 18 = .ok (.iconst 0, 1) := by decide +kernel
theorem eX9_isBolt_19 : decode mX9_isBolt.2.1 19 = .ok (.ireturn, 1) := by decide +kernel
theorem eX9_isSail_0 : decode mX9_isSail.2.1 0 = .ok (.iload_n 1, 1) := by decide +kernel
theorem eX9_isSail_1 : decode mX9_isSail.2.1 1 = .ok (.ifCond .lt 17, 3) := by decide +kernel
theorem eX9_isSail_4 : decode mX9_isSail.2.1 4 = .ok (.iload_n 1, 1) := by decide +kernel
theorem eX9_isSail_5 : decode mX9_isSail.2.1 5 = .ok (.aload_n 0, 1) := by decide +kernel
theorem eX9_isSail_6 : decode mX9_isSail.2.1 6 = .ok (.getfield 7, 3) := by decide +kernel
theorem eX9_isSail_9 : decode mX9_isSail.2.1 9 = .ok (.iconst 1, 1) := by decide +kernel
theorem eX9_isSail_10 : decode mX9_isSail.2.1 10 = .ok (.iaload, 1) := by decide +kernel
theorem eX9_isSail_11 : decode mX9_isSail.2.1 11 = .ok (.if_icmp .ge 7, 3) := by decide +kernel
theorem eX9_isSail_14 : decode mX9_isSail.2.1 14 = .ok (.iconst 1, 1) := by decide +kernel
theorem eX9_isSail_15 : decode mX9_isSail.2.1 15 = .ok (.goto 4, 3) := by decide +kernel
theorem eX9_isSail_18 : decode mX9_isSail.2.1 18 = .ok (.iconst 0, 1) := by decide +kernel
theorem eX9_isSail_19 : decode mX9_isSail.2.1 19 = .ok (.ireturn, 1) := by decide +kernel
theorem eX9_isCut_0 : decode mX9_isCut.2.1 0 = .ok (.aload_n 0, 1) := by decide +kernel
theorem eX9_isCut_1 : decode mX9_isCut.2.1 1 = .ok (.iload_n 1, 1) := by decide +kernel
theorem eX9_isCut_2 : decode mX9_isCut.2.1 2 = .ok (.invokevirtual 53, 3) := by decide +kernel
theorem eX9_isCut_5 : decode mX9_isCut.2.1 5 = .ok (.ifCond .eq 17, 3) := by decide +kernel
theorem eX9_isCut_8 : decode mX9_isCut.2.1 8 = .ok (.aload_n 0, 1) := by decide +kernel
theorem eX9_isCut_9 : decode mX9_isCut.2.1 9 = .ok (.iload_n 1, 1) := by decide +kernel
theorem eX9_isCut_10 : decode mX9_isCut.2.1 10 = .ok (.iconst 0, 1) := by decide +kernel
theorem eX9_isCut_11 : decode mX9_isCut.2.1 11 = .ok (.invokevirtual 57, 3) := by decide +kernel
theorem eX9_isCut_14 : decode mX9_isCut.2.1 14 = .ok (.iconst 1, 1) := by decide +kernel
theorem eX9_isCut_15 : decode mX9_isCut.2.1 15 = .ok (.if_icmp .ne 7, 3) := by decide +kernel
theorem eX9_isCut_18 : decode mX9_isCut.2.1 18 = .ok (.iconst 1, 1) := by decide +kernel
theorem eX9_isCut_19 : decode mX9_isCut.2.1 19 = .ok (.goto 4, 3) := by decide +kernel
theorem eX9_isCut_22 : decode mX9_isCut.2.1 22 = .ok (.iconst 0, 1) := by decide +kernel
theorem eX9_isCut_23 : decode mX9_isCut.2.1 23 = .ok (.ireturn, 1) := by decide +kernel
theorem eX9_isOpen_0 : decode mX9_isOpen.2.1 0 = .ok (.aload_n 0, 1) := by decide +kernel
theorem eX9_isOpen_1 : decode mX9_isOpen.2.1 1 = .ok (.iload_n 1, 1) := by decide +kernel
theorem eX9_isOpen_2 : decode mX9_isOpen.2.1 2 = .ok (.invokevirtual 53, 3) := by decide +kernel
theorem eX9_isOpen_5 : decode mX9_isOpen.2.1 5 = .ok (.ifCond .eq 16, 3) := by decide +kernel
theorem eX9_isOpen_8 : decode mX9_isOpen.2.1 8 = .ok (.aload_n 0, 1) := by decide +kernel
theorem eX9_isOpen_9 : decode mX9_isOpen.2.1 9 = .ok (.iload_n 1, 1) := by decide +kernel
theorem eX9_isOpen_10 : decode mX9_isOpen.2.1 10 = .ok (.iconst 0, 1) := by decide +kernel
theorem eX9_isOpen_11 : decode mX9_isOpen.2.1 11 = .ok (.invokevirtual 57, 3) := by decide +kernel
theorem eX9_isOpen_14 : decode mX9_isOpen.2.1 14 = .ok (.ifCond .ne 7, 3) := by decide +kernel
theorem eX9_isOpen_17 : decode mX9_isOpen.2.1 17 = .ok (.iconst 1, 1) := by decide +kernel
theorem eX9_isOpen_18 : decode mX9_isOpen.2.1 18 = .ok (.goto 4, 3) := by decide +kernel
theorem eX9_isOpen_21 : decode mX9_isOpen.2.1 21 = .ok (.iconst 0, 1) := by decide +kernel
theorem eX9_isOpen_22 : decode mX9_isOpen.2.1 22 = .ok (.ireturn, 1) := by decide +kernel
theorem eX9_newBolt_0 : decode mX9_newBolt.2.1 0 = .ok (.aload_n 0, 1) := by decide +kernel
theorem eX9_newBolt_1 : decode mX9_newBolt.2.1 1 = .ok (.getfield 7, 3) := by decide +kernel
theorem eX9_newBolt_4 : decode mX9_newBolt.2.1 4 = .ok (.iconst 0, 1) := by decide +kernel
theorem eX9_newBolt_5 : decode mX9_newBolt.2.1 5 = .ok (.iaload, 1) := by decide +kernel
theorem eX9_newBolt_6 : decode mX9_newBolt.2.1 6 = .ok (.istore 5, 2) := by decide +kernel
theorem eX9_newBolt_8 : decode mX9_newBolt.2.1 8 = .ok (.aload_n 0, 1) := by decide +kernel
theorem eX9_newBolt_9 : decode mX9_newBolt.2.1 9 = .ok (.getfield 7, 3) := by decide +kernel
theorem eX9_newBolt_12 : decode mX9_newBolt.2.1 12 = .ok (.iconst 0, 1) := by decide +kernel
theorem eX9_newBolt_13 : decode mX9_newBolt.2.1 13 = .ok (.dup2, 1) := by decide +kernel
theorem eX9_newBolt_14 : decode mX9_newBolt.2.1 14 = .ok (.iaload, 1) := by decide +kernel
theorem eX9_newBolt_15 : decode mX9_newBolt.2.1 15 = .ok (.iconst 1, 1) := by decide +kernel
theorem eX9_newBolt_16 : decode mX9_newBolt.2.1 16 = .ok (.iadd, 1) := by decide +kernel
theorem eX9_newBolt_17 : decode mX9_newBolt.2.1 17 = .ok (.iastore, 1) := by decide +kernel
theorem eX9_newBolt_18 : decode mX9_newBolt.2.1 18 = .ok (.aload_n 0, 1) := by decide +kernel
theorem eX9_newBolt_19 : decode mX9_newBolt.2.1 19 = .ok (.iload 5, 2) := by decide +kernel
theorem eX9_newBolt_21 : decode mX9_newBolt.2.1 21 = .ok (.iconst 0, 1) := by decide +kernel
theorem eX9_newBolt_22 : decode mX9_newBolt.2.1 22 = .ok (.iload_n 1, 1) := by decide +kernel
theorem eX9_newBolt_23 : decode mX9_newBolt.2.1 23 = .ok (.invokevirtual 60, 3) := by decide +kernel
theorem eX9_newBolt_26 : decode mX9_newBolt.2.1 26 = .ok (.aload_n 0, 1) := by decide +kernel
theorem eX9_newBolt_27 : decode mX9_newBolt.2.1 27 = .ok (.iload 5, 2) := by decide +kernel
theorem eX9_newBolt_29 : decode mX9_newBolt.2.1 29 = .ok (.iconst 1, 1) := by decide +kernel
theorem eX9_newBolt_30 : decode mX9_newBolt.2.1 30 = .ok (.iload_n 2, 1) := by decide +kernel
theorem eX9_newBolt_31 : decode mX9_newBolt.2.1 31 = .ok (.invokevirtual 60, 3) := by decide +kernel
theorem eX9_newBolt_34 : decode mX9_newBolt.2.1 34 = .ok (.aload_n 0, 1) := by decide +kernel
theorem eX9_newBolt_35 : decode mX9_newBolt.2.1 35 = .ok (.iload 5, 2) := by decide +kernel
theorem eX9_newBolt_37 : decode mX9_newBolt.2.1 37 = .ok (.iconst 2, 1) := by decide +kernel
theorem eX9_newBolt_38 : decode mX9_newBolt.2.1 38 = .ok (.iload_n 3, 1) := by decide +kernel
theorem eX9_newBolt_39 : decode mX9_newBolt.2.1 39 = .ok (.invokevirtual 60, 3) := by decide +kernel
theorem eX9_newBolt_42 : decode mX9_newBolt.2.1 42 = .ok (.aload_n 0, 1) := by decide +kernel
theorem eX9_newBolt_43 : decode mX9_newBolt.2.1 43 = .ok (.iload 5, 2) := by decide +kernel
theorem eX9_newBolt_45 : decode mX9_newBolt.2.1 45 = .ok (.iconst 3, 1) := by decide +kernel
theorem eX9_newBolt_46 : decode mX9_newBolt.2.1 46 = .ok (.iconst 0, 1) := by decide +kernel
theorem eX9_newBolt_47 : decode mX9_newBolt.2.1 47 = .ok (.invokevirtual 60, 3) := by decide +kernel
theorem eX9_newBolt_50 : decode mX9_newBolt.2.1 50 = .ok (.aload_n 0, 1) := by decide +kernel
theorem eX9_newBolt_51 : decode mX9_newBolt.2.1 51 = .ok (.iload 5, 2) := by decide +kernel
theorem eX9_newBolt_53 : decode mX9_newBolt.2.1 53 = .ok (.iconst 4, 1) := by decide +kernel
theorem eX9_newBolt_54 : decode mX9_newBolt.2.1 54 = .ok (.iload 4, 2) := by decide +kernel
theorem eX9_newBolt_56 : decode mX9_newBolt.2.1 56 = .ok (.invokevirtual 60, 3) := by decide +kernel
theorem eX9_newBolt_59 : decode mX9_newBolt.2.1 59 = .ok (.iload 5, 2) := by decide +kernel
theorem eX9_newBolt_61 : decode mX9_newBolt.2.1 61 = .ok (.ireturn, 1) := by decide +kernel
theorem eX9_bolt__0 : decode mX9_bolt_.2.1 0 = .ok (.iload_n 3, 1) := by decide +kernel
theorem eX9_bolt__1 : decode mX9_bolt_.2.1 1 = .ok (.invokestatic 64, 3) := by decide +kernel
theorem eX9_bolt__4 : decode mX9_bolt_.2.1 4 = .ok (.fstore 4, 2) := by decide +kernel
theorem eX9_bolt__6 : decode mX9_bolt_.2.1 6 = .ok (.iload_n 1, 1) := by decide +kernel
theorem eX9_bolt__7 : decode mX9_bolt_.2.1 7 = .ok (.iconst 2, 1) := by decide +kernel
theorem eX9_bolt__8 : decode mX9_bolt_.2.1 8 = .ok (.bipush 20, 2) := by decide +kernel
theorem eX9_bolt__10 : decode mX9_bolt_.2.1 10 = .ok (.invokestatic 70, 3) := by decide +kernel
theorem eX9_bolt__13 : decode mX9_bolt_.2.1 13 = .ok (.ifCond .eq 40, 3) := by decide +kernel
theorem eX9_bolt__16 : decode mX9_bolt_.2.1 16 = .ok (.iload_n 2, 1) := by decide +kernel
theorem eX9_bolt__17 : decode mX9_bolt_.2.1 17 = .ok (.iconst 1, 1) := by decide +kernel
theorem eX9_bolt__18 : decode mX9_bolt_.2.1 18 = .ok (.sipush 200, 3) := by decide +kernel
theorem eX9_bolt__21 : decode mX9_bolt_.2.1 21 = .ok (.invokestatic 70, 3) := by decide +kernel
theorem eX9_bolt__24 : decode mX9_bolt_.2.1 24 = .ok (.ifCond .eq 29, 3) := by decide +kernel
theorem eX9_bolt__27 : decode mX9_bolt_.2.1 27 = .ok (.fload 4, 2) := by decide +kernel
theorem eX9_bolt__29 : decode mX9_bolt_.2.1 29 = .ok (.fconst 0, 1) := by decide +kernel
theorem eX9_bolt__30 : decode mX9_bolt_.2.1 30 = .ok (.fcmp .l, 1) := by decide +kernel
theorem eX9_bolt__31 : decode mX9_bolt_.2.1 31 = .ok (.ifCond .lt 22, 3) := by decide +kernel
theorem eX9_bolt__34 : decode mX9_bolt_.2.1 34 = .ok (.fload 4, 2) := by decide +kernel
theorem eX9_bolt__36 : decode mX9_bolt_.2.1 36 = .ok (.ldc 74, 2) := by decide +kernel
theorem eX9_bolt__38 : decode mX9_bolt_.2.1 38 = .ok (.fcmp .g, 1) := by decide +kernel
theorem eX9_bolt__39 : decode mX9_bolt_.2.1 39 = .ok (.ifCond .gt 14, 3) := by decide +kernel
theorem eX9_bolt__42 : decode mX9_bolt_.2.1 42 = .ok (.aload_n 0, 1) := by decide +kernel
theorem eX9_bolt__43 : decode mX9_bolt_.2.1 43 = .ok (.getfield 7, 3) := by decide +kernel
theorem eX9_bolt__46 : decode mX9_bolt_.2.1 46 = .ok (.iconst 0, 1) := by decide +kernel
theorem eX9_bolt__47 : decode mX9_bolt_.2.1 47 = .ok (.iaload, 1) := by decide +kernel
theorem eX9_bolt__48 : decode mX9_bolt_.2.1 48 = .ok (.bipush 24, 2) := by decide +kernel
theorem eX9_bolt__50 : decode mX9_bolt_.2.1 50 = .ok (.if_icmp .ne 5, 3) := by decide +kernel
theorem eX9_bolt__53 : decode mX9_bolt_.2.1 53 = .ok (.iconst (-1), 1) := by decide +kernel
theorem eX9_bolt__54 : decode mX9_bolt_.2.1 54 = .ok (.ireturn, 1) := by decide +kernel
theorem eX9_bolt__55 : decode mX9_bolt_.2.1 55 = .ok (.aload_n 0, 1) := by decide +kernel
theorem eX9_bolt__56 : decode mX9_bolt_.2.1 56 = .ok (.invokevirtual 75, 3) := by decide +kernel
theorem eX9_bolt__59 : decode mX9_bolt_.2.1 59 = .ok (.aload_n 0, 1) := by decide +kernel
theorem eX9_bolt__60 : decode mX9_bolt_.2.1 60 = .ok (.iload_n 1, 1) := by decide +kernel
theorem eX9_bolt__61 : decode mX9_bolt_.2.1 61 = .ok (.iload_n 2, 1) := by decide +kernel
theorem eX9_bolt__62 : decode mX9_bolt_.2.1 62 = .ok (.iload_n 3, 1) := by decide +kernel
theorem eX9_bolt__63 : decode mX9_bolt_.2.1 63 = .ok (.iconst (-1), 1) := by decide +kernel
theorem eX9_bolt__64 : decode mX9_bolt_.2.1 64 = .ok (.invokevirtual 78, 3) := by decide +kernel
theorem eX9_bolt__67 : decode mX9_bolt_.2.1 67 = .ok (.ireturn, 1) := by decide +kernel
theorem eX9_lies_0 : decode mX9_lies.2.1 0 = .ok (.iconst 0, 1) := by decide +kernel
theorem eX9_lies_1 : decode mX9_lies.2.1 1 = .ok (.istore_n 3, 1) := by decide +kernel
theorem eX9_lies_2 : decode mX9_lies.2.1 2 = .ok (.iload_n 3, 1) := by decide +kernel
theorem eX9_lies_3 : decode mX9_lies.2.1 3 = .ok (.aload_n 0, 1) := by decide +kernel
theorem eX9_lies_4 : decode mX9_lies.2.1 4 = .ok (.getfield 7, 3) := by decide +kernel
theorem eX9_lies_7 : decode mX9_lies.2.1 7 = .ok (.iconst 1, 1) := by decide +kernel
theorem eX9_lies_8 : decode mX9_lies.2.1 8 = .ok (.iaload, 1) := by decide +kernel
theorem eX9_lies_9 : decode mX9_lies.2.1 9 = .ok (.if_icmp .ge 89, 3) := by decide +kernel
theorem eX9_lies_12 : decode mX9_lies.2.1 12 = .ok (.iconst 0, 1) := by decide +kernel
theorem eX9_lies_13 : decode mX9_lies.2.1 13 = .ok (.istore 4, 2) := by decide +kernel
theorem eX9_lies_15 : decode mX9_lies.2.1 15 = .ok (.iload 4, 2) := by decide +kernel
theorem eX9_lies_17 : decode mX9_lies.2.1 17 = .ok (.aload_n 0, 1) := by decide +kernel
theorem eX9_lies_18 : decode mX9_lies.2.1 18 = .ok (.iload_n 3, 1) := by decide +kernel
theorem eX9_lies_19 : decode mX9_lies.2.1 19 = .ok (.invokevirtual 82, 3) := by decide +kernel
theorem eX9_lies_22 : decode mX9_lies.2.1 22 = .ok (.if_icmp .ge 70, 3) := by decide +kernel
theorem eX9_lies_25 : decode mX9_lies.2.1 25 = .ok (.aload_n 0, 1) := by decide +kernel
theorem eX9_lies_26 : decode mX9_lies.2.1 26 = .ok (.iload_n 3, 1) := by decide +kernel
theorem eX9_lies_27 : decode mX9_lies.2.1 27 = .ok (.sipush 300, 3) := by decide +kernel
theorem eX9_lies_30 : decode mX9_lies.2.1 30 = .ok (.iload 4, 2) := by decide +kernel
theorem eX9_lies_32 : decode mX9_lies.2.1 32 = .ok (.iadd, 1) := by decide +kernel
theorem eX9_lies_33 : decode mX9_lies.2.1 33 = .ok (.invokevirtual 57, 3) := by decide +kernel
theorem eX9_lies_36 : decode mX9_lies.2.1 36 = .ok (.iload_n 1, 1) := by decide +kernel
theorem eX9_lies_37 : decode mX9_lies.2.1 37 = .ok (.if_icmp .ne 49, 3) := by decide +kernel
theorem eX9_lies_40 : decode mX9_lies.2.1 40 = .ok (.iload_n 2, 1) := by decide +kernel
theorem eX9_lies_41 : decode mX9_lies.2.1 41 = .ok (.aload_n 0, 1) := by decide +kernel
theorem eX9_lies_42 : decode mX9_lies.2.1 42 = .ok (.iload_n 3, 1) := by decide +kernel
theorem eX9_lies_43 : decode mX9_lies.2.1 43 = .ok (.sipush 340, 3) := by decide +kernel
theorem eX9_lies_46 : decode mX9_lies.2.1 46 = .ok (.iload 4, 2) := by decide +kernel
theorem eX9_lies_48 : decode mX9_lies.2.1 48 = .ok (.iadd, 1) := by decide +kernel
theorem eX9_lies_49 : decode mX9_lies.2.1 49 = .ok (.invokevirtual 57, 3) := by decide +kernel
theorem eX9_lies_52 : decode mX9_lies.2.1 52 = .ok (.if_icmp .lt 34, 3) := by decide +kernel
theorem eX9_lies_55 : decode mX9_lies.2.1 55 = .ok (.iload_n 2, 1) := by decide +kernel
theorem eX9_lies_56 : decode mX9_lies.2.1 56 = .ok (.aload_n 0, 1) := by decide +kernel
theorem eX9_lies_57 : decode mX9_lies.2.1 57 = .ok (.iload_n 3, 1) := by decide +kernel
theorem eX9_lies_58 : decode mX9_lies.2.1 58 = .ok (.sipush 340, 3) := by decide +kernel
theorem eX9_lies_61 : decode mX9_lies.2.1 61 = .ok (.iload 4, 2) := by decide +kernel
theorem eX9_lies_63 : decode mX9_lies.2.1 63 = .ok (.iadd, 1) := by decide +kernel
theorem eX9_lies_64 : decode mX9_lies.2.1 64 = .ok (.invokevirtual 57, 3) := by decide +kernel
theorem eX9_lies_67 : decode mX9_lies.2.1 67 = .ok (.aload_n 0, 1) := by decide +kernel
theorem eX9_lies_68 : decode mX9_lies.2.1 68 = .ok (.iload_n 3, 1) := by decide +kernel
theorem eX9_lies_69 : decode mX9_lies.2.1 69 = .ok (.iload 4, 2) := by decide +kernel
theorem eX9_lies_71 : decode mX9_lies.2.1 71 = .ok (.invokevirtual 86, 3) := by decide +kernel
theorem eX9_lies_74 : decode mX9_lies.2.1 74 = .ok (.iadd, 1) := by decide +kernel
theorem eX9_lies_75 : decode mX9_lies.2.1 75 = .ok (.if_icmp .ge 11, 3) := by decide +kernel
theorem eX9_lies_78 : decode mX9_lies.2.1 78 = .ok (.bipush 100, 2) := by decide +kernel
theorem eX9_lies_80 : decode mX9_lies.2.1 80 = .ok (.iload_n 3, 1) := by decide +kernel
theorem eX9_lies_81 : decode mX9_lies.2.1 81 = .ok (.imul, 1) := by decide +kernel
theorem eX9_lies_82 : decode mX9_lies.2.1 82 = .ok (.iload 4, 2) := by decide +kernel
theorem eX9_lies_84 : decode mX9_lies.2.1 84 = .ok (.iadd, 1) := by decide +kernel
theorem eX9_lies_85 : decode mX9_lies.2.1 85 = .ok (.ireturn, 1) := by decide +kernel
theorem eX9_lies_86 : decode mX9_lies.2.1 86 = .ok (.iinc 4 1, 3) := by decide +kernel
theorem eX9_lies_89 : decode mX9_lies.2.1 89 = .ok (.goto (-74), 3) := by decide +kernel
theorem eX9_lies_92 : decode mX9_lies.2.1 92 = .ok (.iinc 3 1, 3) := by decide +kernel
theorem eX9_lies_95 : decode mX9_lies.2.1 95 = .ok (.goto (-93), 3) := by decide +kernel
theorem eX9_lies_98 : decode mX9_lies.2.1 98 = .ok (.iconst (-1), 1) := by decide +kernel
theorem eX9_lies_99 : decode mX9_lies.2.1 99 = .ok (.ireturn, 1) := by decide +kernel
theorem eX9_isBare_0 : decode mX9_isBare.2.1 0 = .ok (.iconst 1, 1) := by decide +kernel
theorem eX9_isBare_1 : decode mX9_isBare.2.1 1 = .ok (.istore_n 2, 1) := by decide +kernel
theorem eX9_isBare_2 : decode mX9_isBare.2.1 2 = .ok (.iconst 0, 1) := by decide +kernel
theorem eX9_isBare_3 : decode mX9_isBare.2.1 3 = .ok (.istore_n 3, 1) := by decide +kernel
theorem eX9_isBare_4 : decode mX9_isBare.2.1 4 = .ok (.iload_n 3, 1) := by decide +kernel
theorem eX9_isBare_5 : decode mX9_isBare.2.1 5 = .ok (.aload_n 0, 1) := by decide +kernel
theorem eX9_isBare_6 : decode mX9_isBare.2.1 6 = .ok (.getfield 7, 3) := by decide +kernel
theorem eX9_isBare_9 : decode mX9_isBare.2.1 9 = .ok (.iconst 1, 1) := by decide +kernel
theorem eX9_isBare_10 : decode mX9_isBare.2.1 10 = .ok (.iaload, 1) := by decide +kernel
theorem eX9_isBare_11 : decode mX9_isBare.2.1 11 = .ok (.if_icmp .ge 53, 3) := by decide +kernel
theorem eX9_isBare_14 : decode mX9_isBare.2.1 14 = .ok (.iconst 0, 1) := by decide +kernel
theorem eX9_isBare_15 : decode mX9_isBare.2.1 15 = .ok (.istore 4, 2) := by decide +kernel
theorem eX9_isBare_17 : decode mX9_isBare.2.1 17 = .ok (.iload 4, 2) := by decide +kernel
theorem eX9_isBare_19 : decode mX9_isBare.2.1 19 = .ok (.aload_n 0, 1) := by decide +kernel
theorem eX9_isBare_20 : decode mX9_isBare.2.1 20 = .ok (.iload_n 3, 1) := by decide +kernel
theorem eX9_isBare_21 : decode mX9_isBare.2.1 21 = .ok (.invokevirtual 82, 3) := by decide +kernel
theorem eX9_isBare_24 : decode mX9_isBare.2.1 24 = .ok (.if_icmp .ge 34, 3) := by decide +kernel
theorem eX9_isBare_27 : decode mX9_isBare.2.1 27 = .ok (.iload_n 2, 1) := by decide +kernel
theorem eX9_isBare_28 : decode mX9_isBare.2.1 28 = .ok (.ifCond .eq 22, 3) := by decide +kernel
theorem eX9_isBare_31 : decode mX9_isBare.2.1 31 = .ok (.aload_n 0, 1) := by decide +kernel
theorem eX9_isBare_32 : decode mX9_isBare.2.1 32 = .ok (.iload_n 3, 1) := by decide +kernel
theorem eX9_isBare_33 : decode mX9_isBare.2.1 33 = .ok (.sipush 300, 3) := by decide +kernel
theorem eX9_isBare_36 : decode mX9_isBare.2.1 36 = .ok (.iload 4, 2) := by decide +kernel
theorem eX9_isBare_38 : decode mX9_isBare.2.1 38 = .ok (.iadd, 1) := by decide +kernel
theorem eX9_isBare_39 : decode mX9_isBare.2.1 39 = .ok (.invokevirtual 57, 3) := by decide +kernel
theorem eX9_isBare_42 : decode mX9_isBare.2.1 42 = .ok (.iload_n 1, 1) := by decide +kernel
theorem eX9_isBare_43 : decode mX9_isBare.2.1 43 = .ok (.if_icmp .eq 7, 3) := by decide +kernel
theorem eX9_isBare_46 : decode mX9_isBare.2.1 46 = .ok (.iconst 1, 1) := by decide +kernel
theorem eX9_isBare_47 : decode mX9_isBare.2.1 47 = .ok (.goto 4, 3) := by decide +kernel
theorem eX9_isBare_50 : decode mX9_isBare.2.1 50 = .ok (.iconst 0, 1) := by decide +kernel
theorem eX9_isBare_51 : decode mX9_isBare.2.1 51 = .ok (.istore_n 2, 1) := by decide +kernel
theorem eX9_isBare_52 : decode mX9_isBare.2.1 52 = .ok (.iinc 4 1, 3) := by decide +kernel
theorem eX9_isBare_55 : decode mX9_isBare.2.1 55 = .ok (.goto (-38), 3) := by decide +kernel
theorem eX9_isBare_58 : decode mX9_isBare.2.1 58 = .ok (.iinc 3 1, 3) := by decide +kernel
theorem eX9_isBare_61 : decode mX9_isBare.2.1 61 = .ok (.goto (-57), 3) := by decide +kernel
theorem eX9_isBare_64 : decode mX9_isBare.2.1 64 = .ok (.iload_n 2, 1) := by decide +kernel
theorem eX9_isBare_65 : decode mX9_isBare.2.1 65 = .ok (.ireturn, 1) := by decide +kernel
theorem eX9_row_0 : decode mX9_row.2.1 0 = .ok (.aload_n 0, 1) := by decide +kernel
theorem eX9_row_1 : decode mX9_row.2.1 1 = .ok (.iload_n 1, 1) := by decide +kernel
theorem eX9_row_2 : decode mX9_row.2.1 2 = .ok (.invokevirtual 89, 3) := by decide +kernel
theorem eX9_row_5 : decode mX9_row.2.1 5 = .ok (.ifCond .eq 25, 3) := by decide +kernel
theorem eX9_row_8 : decode mX9_row.2.1 8 = .ok (.iload_n 2, 1) := by decide +kernel
theorem eX9_row_9 : decode mX9_row.2.1 9 = .ok (.iconst 0, 1) := by decide +kernel
theorem eX9_row_10 : decode mX9_row.2.1 10 = .ok (.aload_n 0, 1) := by decide +kernel
theorem eX9_row_11 : decode mX9_row.2.1 11 = .ok (.iload_n 1, 1) := by decide +kernel
theorem eX9_row_12 : decode mX9_row.2.1 12 = .ok (.iconst 1, 1) := by decide +kernel
theorem eX9_row_13 : decode mX9_row.2.1 13 = .ok (.invokevirtual 92, 3) := by decide +kernel
theorem eX9_row_16 : decode mX9_row.2.1 16 = .ok (.invokestatic 70, 3) := by decide +kernel
theorem eX9_row_19 : decode mX9_row.2.1 19 = .ok (.ifCond .eq 11, 3) := by decide +kernel
theorem eX9_row_22 : decode mX9_row.2.1 22 = .ok (.aload_n 0, 1) := by decide +kernel
theorem eX9_row_23 : decode mX9_row.2.1 23 = .ok (.iload_n 1, 1) := by decide +kernel
theorem eX9_row_24 : decode mX9_row.2.1 24 = .ok (.invokevirtual 95, 3) := by decide +kernel
theorem eX9_row_27 : decode mX9_row.2.1 27 = .ok (.ifCond .ne 5, 3) := by decide +kernel
theorem eX9_row_30 : decode mX9_row.2.1 30 = .ok (.iconst 0, 1) := by decide +kernel
theorem eX9_row_31 : decode mX9_row.2.1 31 = .ok (.ireturn, 1) := by decide +kernel
theorem eX9_row_32 : decode mX9_row.2.1 32 = .ok (.aload_n 0, 1) := by decide +kernel
theorem eX9_row_33 : decode mX9_row.2.1 33 = .ok (.invokevirtual 75, 3) := by decide +kernel
theorem eX9_row_36 : decode mX9_row.2.1 36 = .ok (.aload_n 0, 1) := by decide +kernel
theorem eX9_row_37 : decode mX9_row.2.1 37 = .ok (.iload_n 1, 1) := by decide +kernel
theorem eX9_row_38 : decode mX9_row.2.1 38 = .ok (.iconst 3, 1) := by decide +kernel
theorem eX9_row_39 : decode mX9_row.2.1 39 = .ok (.iload_n 2, 1) := by decide +kernel
theorem eX9_row_40 : decode mX9_row.2.1 40 = .ok (.invokevirtual 60, 3) := by decide +kernel
theorem eX9_row_43 : decode mX9_row.2.1 43 = .ok (.iconst 0, 1) := by decide +kernel
theorem eX9_row_44 : decode mX9_row.2.1 44 = .ok (.istore_n 3, 1) := by decide +kernel
theorem eX9_row_45 : decode mX9_row.2.1 45 = .ok (.iload_n 3, 1) := by decide +kernel
theorem eX9_row_46 : decode mX9_row.2.1 46 = .ok (.iload_n 2, 1) := by decide +kernel
theorem eX9_row_47 : decode mX9_row.2.1 47 = .ok (.if_icmp .ge 19, 3) := by decide +kernel
theorem eX9_row_50 : decode mX9_row.2.1 50 = .ok (.aload_n 0, 1) := by decide +kernel
theorem eX9_row_51 : decode mX9_row.2.1 51 = .ok (.iload_n 1, 1) := by decide +kernel
theorem eX9_row_52 : decode mX9_row.2.1 52 = .ok (.bipush 6, 2) := by decide +kernel
theorem eX9_row_54 : decode mX9_row.2.1 54 = .ok (.iload_n 3, 1) := by decide +kernel
theorem eX9_row_55 : decode mX9_row.2.1 55 = .ok (.iadd, 1) := by decide +kernel
theorem eX9_row_56 : decode mX9_row.2.1 56 = .ok (.iconst 0, 1) := by decide +kernel
theorem eX9_row_57 : decode mX9_row.2.1 57 = .ok (.invokevirtual 60, 3) := by decide +kernel
theorem eX9_row_60 : decode mX9_row.2.1 60 = .ok (.iinc 3 1, 3) := by decide +kernel
theorem eX9_row_63 : decode mX9_row.2.1 63 = .ok (.goto (-18), 3) := by decide +kernel
theorem eX9_row_66 : decode mX9_row.2.1 66 = .ok (.iconst 1, 1) := by decide +kernel
theorem eX9_row_67 : decode mX9_row.2.1 67 = .ok (.ireturn, 1) := by decide +kernel
theorem eX9_wear_0 : decode mX9_wear.2.1 0 = .ok (.aload_n 0, 1) := by decide +kernel
theorem eX9_wear_1 : decode mX9_wear.2.1 1 = .ok (.iload_n 1, 1) := by decide +kernel
theorem eX9_wear_2 : decode mX9_wear.2.1 2 = .ok (.invokevirtual 89, 3) := by decide +kernel
theorem eX9_wear_5 : decode mX9_wear.2.1 5 = .ok (.ifCond .eq 35, 3) := by decide +kernel
theorem eX9_wear_8 : decode mX9_wear.2.1 8 = .ok (.iload_n 2, 1) := by decide +kernel
theorem eX9_wear_9 : decode mX9_wear.2.1 9 = .ok (.ifCond .lt 31, 3) := by decide +kernel
theorem eX9_wear_12 : decode mX9_wear.2.1 12 = .ok (.iload_n 2, 1) := by decide +kernel
theorem eX9_wear_13 : decode mX9_wear.2.1 13 = .ok (.aload_n 0, 1) := by decide +kernel
theorem eX9_wear_14 : decode mX9_wear.2.1 14 = .ok (.iload_n 1, 1) := by decide +kernel
theorem eX9_wear_15 : decode mX9_wear.2.1 15 = .ok (.iconst 3, 1) := by decide +kernel
theorem eX9_wear_16 : decode mX9_wear.2.1 16 = .ok (.invokevirtual 92, 3) := by decide +kernel
theorem eX9_wear_19 : decode mX9_wear.2.1 19 = .ok (.if_icmp .ge 21, 3) := by decide +kernel
theorem eX9_wear_22 : decode mX9_wear.2.1 22 = .ok (.iload_n 3, 1) := by decide +kernel
theorem eX9_wear_23 : decode mX9_wear.2.1 23 = .ok (.iconst 0, 1) := by decide +kernel
theorem eX9_wear_24 : decode mX9_wear.2.1 24 = .ok (.bipush 100, 2) := by decide +kernel
theorem eX9_wear_26 : decode mX9_wear.2.1 26 = .ok (.invokestatic 70, 3) := by decide +kernel
theorem eX9_wear_29 : decode mX9_wear.2.1 29 = .ok (.ifCond .eq 11, 3) := by decide +kernel
theorem eX9_wear_32 : decode mX9_wear.2.1 32 = .ok (.aload_n 0, 1) := by decide +kernel
theorem eX9_wear_33 : decode mX9_wear.2.1 33 = .ok (.iload_n 1, 1) := by decide +kernel
theorem eX9_wear_34 : decode mX9_wear.2.1 34 = .ok (.invokevirtual 95, 3) := by decide +kernel
theorem eX9_wear_37 : decode mX9_wear.2.1 37 = .ok (.ifCond .ne 5, 3) := by decide +kernel
theorem eX9_wear_40 : decode mX9_wear.2.1 40 = .ok (.iconst 0, 1) := by decide +kernel
theorem eX9_wear_41 : decode mX9_wear.2.1 41 = .ok (.ireturn, 1) := by decide +kernel
theorem eX9_wear_42 : decode mX9_wear.2.1 42 = .ok (.aload_n 0, 1) := by decide +kernel
theorem eX9_wear_43 : decode mX9_wear.2.1 43 = .ok (.invokevirtual 75, 3) := by decide +kernel
theorem eX9_wear_46 : decode mX9_wear.2.1 46 = .ok (.aload_n 0, 1) := by decide +kernel
theorem eX9_wear_47 : decode mX9_wear.2.1 47 = .ok (.iload_n 1, 1) := by decide +kernel
theorem eX9_wear_48 : decode mX9_wear.2.1 48 = .ok (.bipush 6, 2) := by decide +kernel
theorem eX9_wear_50 : decode mX9_wear.2.1 50 = .ok (.iload_n 2, 1) := by decide +kernel
theorem eX9_wear_51 : decode mX9_wear.2.1 51 = .ok (.iadd, 1) := by decide +kernel
theorem eX9_wear_52 : decode mX9_wear.2.1 52 = .ok (.iload_n 3, 1) := by decide +kernel
theorem eX9_wear_53 : decode mX9_wear.2.1 53 = .ok (.invokevirtual 60, 3) := by decide +kernel
theorem eX9_wear_56 : decode mX9_wear.2.1 56 = .ok (.iconst 1, 1) := by decide +kernel
theorem eX9_wear_57 : decode mX9_wear.2.1 57 = .ok (.ireturn, 1) := by decide +kernel
theorem eX9_worn_0 : decode mX9_worn.2.1 0 = .ok (.aload_n 0, 1) := by decide +kernel
theorem eX9_worn_1 : decode mX9_worn.2.1 1 = .ok (.iload_n 1, 1) := by decide +kernel
theorem eX9_worn_2 : decode mX9_worn.2.1 2 = .ok (.invokevirtual 89, 3) := by decide +kernel
theorem eX9_worn_5 : decode mX9_worn.2.1 5 = .ok (.ifCond .eq 17, 3) := by decide +kernel
theorem eX9_worn_8 : decode mX9_worn.2.1 8 = .ok (.iload_n 2, 1) := by decide +kernel
theorem eX9_worn_9 : decode mX9_worn.2.1 9 = .ok (.ifCond .lt 13, 3) := by decide +kernel
theorem eX9_worn_12 : decode mX9_worn.2.1 12 = .ok (.iload_n 2, 1) := by decide +kernel
theorem eX9_worn_13 : decode mX9_worn.2.1 13 = .ok (.aload_n 0, 1) := by decide +kernel
theorem eX9_worn_14 : decode mX9_worn.2.1 14 = .ok (.iload_n 1, 1) := by decide +kernel
theorem eX9_worn_15 : decode mX9_worn.2.1 15 = .ok (.iconst 1, 1) := by decide +kernel
theorem eX9_worn_16 : decode mX9_worn.2.1 16 = .ok (.invokevirtual 92, 3) := by decide +kernel
theorem eX9_worn_19 : decode mX9_worn.2.1 19 = .ok (.if_icmp .lt 5, 3) := by decide +kernel
theorem eX9_worn_22 : decode mX9_worn.2.1 22 = .ok (.iconst (-1), 1) := by decide +kernel
theorem eX9_worn_23 : decode mX9_worn.2.1 23 = .ok (.ireturn, 1) := by decide +kernel
theorem eX9_worn_24 : decode mX9_worn.2.1 24 = .ok (.iload_n 2, 1) := by decide +kernel
theorem eX9_worn_25 : decode mX9_worn.2.1 25 = .ok (.aload_n 0, 1) := by decide +kernel
theorem eX9_worn_26 : decode mX9_worn.2.1 26 = .ok (.iload_n 1, 1) := by decide +kernel
theorem eX9_worn_27 : decode mX9_worn.2.1 27 = .ok (.iconst 3, 1) := by decide +kernel
theorem eX9_worn_28 : decode mX9_worn.2.1 28 = .ok (.invokevirtual 92, 3) := by decide +kernel
theorem eX9_worn_31 : decode mX9_worn.2.1 31 = .ok (.if_icmp .ge 15, 3) := by decide +kernel
theorem eX9_worn_34 : decode mX9_worn.2.1 34 = .ok (.aload_n 0, 1) := by decide +kernel
theorem eX9_worn_35 : decode mX9_worn.2.1 35 = .ok (.iload_n 1, 1) := by decide +kernel
theorem eX9_worn_36 : decode mX9_worn.2.1 36 = .ok (.bipush 6, 2) := by decide +kernel
theorem eX9_worn_38 : decode mX9_worn.2.1 38 = .ok (.iload_n 2, 1) := by decide +kernel
theorem eX9_worn_39 : decode mX9_worn.2.1 39 = .ok (.iadd, 1) := by decide +kernel
theorem eX9_worn_40 : decode mX9_worn.2.1 40 = .ok (.invokevirtual 92, 3) := by decide +kernel
theorem eX9_worn_43 : decode mX9_worn.2.1 43 = .ok (.goto 4, 3) := by decide +kernel
theorem eX9_worn_46 : decode mX9_worn.2.1 46 = .ok (.iconst 0, 1) := by decide +kernel
theorem eX9_worn_47 : decode mX9_worn.2.1 47 = .ok (.ireturn, 1) := by decide +kernel
theorem eX9_isEnd_0 : decode mX9_isEnd.2.1 0 = .ok (.iload_n 0, 1) := by decide +kernel
theorem eX9_isEnd_1 : decode mX9_isEnd.2.1 1 = .ok (.sipush (-500), 3) := by decide +kernel
theorem eX9_isEnd_4 : decode mX9_isEnd.2.1 4 = .ok (.sipush 500, 3) := by decide +kernel
theorem eX9_isEnd_7 : decode mX9_isEnd.2.1 7 = .ok (.invokestatic 70, 3) := by decide +kernel
theorem eX9_isEnd_10 : decode mX9_isEnd.2.1 10 = .ok (.ireturn, 1) := by decide +kernel
theorem eX9_sail__0 : decode mX9_sail_.2.1 0 = .ok (.iload_n 1, 1) := by decide +kernel
theorem eX9_sail__1 : decode mX9_sail_.2.1 1 = .ok (.invokestatic 98, 3) := by decide +kernel
theorem eX9_sail__4 : decode mX9_sail_.2.1 4 = .ok (.ifCond .eq 47, 3) := by decide +kernel
theorem eX9_sail__7 : decode mX9_sail_.2.1 7 = .ok (.iload_n 2, 1) := by decide +kernel
theorem eX9_sail__8 : decode mX9_sail_.2.1 8 = .ok (.invokestatic 98, 3) := by decide +kernel
theorem eX9_sail__11 : decode mX9_sail_.2.1 11 = .ok (.ifCond .eq 40, 3) := by decide +kernel
theorem eX9_sail__14 : decode mX9_sail_.2.1 14 = .ok (.iload_n 3, 1) := by decide +kernel
theorem eX9_sail__15 : decode mX9_sail_.2.1 15 = .ok (.invokestatic 98, 3) := by decide +kernel
theorem eX9_sail__18 : decode mX9_sail_.2.1 18 = .ok (.ifCond .eq 33, 3) := by decide +kernel
theorem eX9_sail__21 : decode mX9_sail_.2.1 21 = .ok (.iload 4, 2) := by decide +kernel
theorem eX9_sail__23 : decode mX9_sail_.2.1 23 = .ok (.invokestatic 98, 3) := by decide +kernel
theorem eX9_sail__26 : decode mX9_sail_.2.1 26 = .ok (.ifCond .eq 25, 3) := by decide +kernel
theorem eX9_sail__29 : decode mX9_sail_.2.1 29 = .ok (.iload 5, 2) := by decide +kernel
theorem eX9_sail__31 : decode mX9_sail_.2.1 31 = .ok (.iconst 1, 1) := by decide +kernel
theorem eX9_sail__32 : decode mX9_sail_.2.1 32 = .ok (.bipush 60, 2) := by decide +kernel
theorem eX9_sail__34 : decode mX9_sail_.2.1 34 = .ok (.invokestatic 70, 3) := by decide +kernel
theorem eX9_sail__37 : decode mX9_sail_.2.1 37 = .ok (.ifCond .eq 14, 3) := by decide +kernel
theorem eX9_sail__40 : decode mX9_sail_.2.1 40 = .ok (.aload_n 0, 1) := by decide +kernel
theorem eX9_sail__41 : decode mX9_sail_.2.1 41 = .ok (.getfield 7, 3) := by decide +kernel
theorem eX9_sail__44 : decode mX9_sail_.2.1 44 = .ok (.iconst 1, 1) := by decide +kernel
theorem eX9_sail__45 : decode mX9_sail_.2.1 45 = .ok (.iaload, 1) := by decide +kernel
theorem eX9_sail__46 : decode mX9_sail_.2.1 46 = .ok (.bipush 10, 2) := by decide +kernel
theorem eX9_sail__48 : decode mX9_sail_.2.1 48 = .ok (.if_icmp .ne 5, 3) := by decide +kernel
theorem eX9_sail__51 : decode mX9_sail_.2.1 51 = .ok (.iconst (-1), 1) := by decide +kernel
theorem eX9_sail__52 : decode mX9_sail_.2.1 52 = .ok (.ireturn, 1) := by decide +kernel
theorem eX9_sail__53 : decode mX9_sail_.2.1 53 = .ok (.aload_n 0, 1) := by decide +kernel
theorem eX9_sail__54 : decode mX9_sail_.2.1 54 = .ok (.invokevirtual 75, 3) := by decide +kernel
theorem eX9_sail__57 : decode mX9_sail_.2.1 57 = .ok (.aload_n 0, 1) := by decide +kernel
theorem eX9_sail__58 : decode mX9_sail_.2.1 58 = .ok (.getfield 7, 3) := by decide +kernel
theorem eX9_sail__61 : decode mX9_sail_.2.1 61 = .ok (.iconst 1, 1) := by decide +kernel
theorem eX9_sail__62 : decode mX9_sail_.2.1 62 = .ok (.iaload, 1) := by decide +kernel
theorem eX9_sail__63 : decode mX9_sail_.2.1 63 = .ok (.istore 6, 2) := by decide +kernel
theorem eX9_sail__65 : decode mX9_sail_.2.1 65 = .ok (.aload_n 0, 1) := by decide +kernel
theorem eX9_sail__66 : decode mX9_sail_.2.1 66 = .ok (.getfield 7, 3) := by decide +kernel
theorem eX9_sail__69 : decode mX9_sail_.2.1 69 = .ok (.iconst 1, 1) := by decide +kernel
theorem eX9_sail__70 : decode mX9_sail_.2.1 70 = .ok (.dup2, 1) := by decide +kernel
theorem eX9_sail__71 : decode mX9_sail_.2.1 71 = .ok (.iaload, 1) := by decide +kernel
theorem eX9_sail__72 : decode mX9_sail_.2.1 72 = .ok (.iconst 1, 1) := by decide +kernel
theorem eX9_sail__73 : decode mX9_sail_.2.1 73 = .ok (.iadd, 1) := by decide +kernel
theorem eX9_sail__74 : decode mX9_sail_.2.1 74 = .ok (.iastore, 1) := by decide +kernel
theorem eX9_sail__75 : decode mX9_sail_.2.1 75 = .ok (.iconst 0, 1) := by decide +kernel
theorem eX9_sail__76 : decode mX9_sail_.2.1 76 = .ok (.istore 7, 2) := by decide +kernel
theorem eX9_sail__78 : decode mX9_sail_.2.1 78 = .ok (.iload 7, 2) := by decide +kernel
theorem eX9_sail__80 : decode mX9_sail_.2.1 80 = .ok (.sipush 390, 3) := by decide +kernel
theorem eX9_sail__83 : decode mX9_sail_.2.1 83 = .ok (.if_icmp .ge 18, 3) := by decide +kernel
theorem eX9_sail__86 : decode mX9_sail_.2.1 86 = .ok (.aload_n 0, 1) := by decide +kernel
theorem eX9_sail__87 : decode mX9_sail_.2.1 87 = .ok (.iload 6, 2) := by decide +kernel
theorem eX9_sail__89 : decode mX9_sail_.2.1 89 = .ok (.iload 7, 2) := by decide +kernel
theorem eX9_sail__91 : decode mX9_sail_.2.1 91 = .ok (.iconst 0, 1) := by decide +kernel
theorem eX9_sail__92 : decode mX9_sail_.2.1 92 = .ok (.invokevirtual 101, 3) := by decide +kernel
theorem eX9_sail__95 : decode mX9_sail_.2.1 95 = .ok (.iinc 7 1, 3) := by decide +kernel
theorem eX9_sail__98 : decode mX9_sail_.2.1 98 = .ok (.goto (-20), 3) := by decide +kernel
theorem eX9_sail__101 : decode mX9_sail_.2.1 101 = .ok (.aload_n 0, 1) := by decide +kernel
theorem eX9_sail__102 : decode mX9_sail_.2.1 102 = .ok (.iload 6, 2) := by decide +kernel
theorem eX9_sail__104 : decode mX9_sail_.2.1 104 = .ok (.iconst 1, 1) := by decide +kernel
theorem eX9_sail__105 : decode mX9_sail_.2.1 105 = .ok (.iload_n 1, 1) := by decide +kernel
theorem eX9_sail__106 : decode mX9_sail_.2.1 106 = .ok (.invokevirtual 101, 3) := by decide +kernel
theorem eX9_sail__109 : decode mX9_sail_.2.1 109 = .ok (.aload_n 0, 1) := by decide +kernel
theorem eX9_sail__110 : decode mX9_sail_.2.1 110 = .ok (.iload 6, 2) := by decide +kernel
theorem eX9_sail__112 : decode mX9_sail_.2.1 112 = .ok (.iconst 2, 1) := by decide +kernel
theorem eX9_sail__113 : decode mX9_sail_.2.1 113 = .ok (.iload_n 2, 1) := by decide +kernel
theorem eX9_sail__114 : decode mX9_sail_.2.1 114 = .ok (.invokevirtual 101, 3) := by decide +kernel
theorem eX9_sail__117 : decode mX9_sail_.2.1 117 = .ok (.aload_n 0, 1) := by decide +kernel
theorem eX9_sail__118 : decode mX9_sail_.2.1 118 = .ok (.iload 6, 2) := by decide +kernel
theorem eX9_sail__120 : decode mX9_sail_.2.1 120 = .ok (.iconst 3, 1) := by decide +kernel
theorem eX9_sail__121 : decode mX9_sail_.2.1 121 = .ok (.iload_n 3, 1) := by decide +kernel
theorem eX9_sail__122 : decode mX9_sail_.2.1 122 = .ok (.invokevirtual 101, 3) := by decide +kernel
theorem eX9_sail__125 : decode mX9_sail_.2.1 125 = .ok (.aload_n 0, 1) := by decide +kernel
theorem eX9_sail__126 : decode mX9_sail_.2.1 126 = .ok (.iload 6, 2) := by decide +kernel
theorem eX9_sail__128 : decode mX9_sail_.2.1 128 = .ok (.iconst 4, 1) := by decide +kernel
theorem eX9_sail__129 : decode mX9_sail_.2.1 129 = .ok (.iload 4, 2) := by decide +kernel
theorem eX9_sail__131 : decode mX9_sail_.2.1 131 = .ok (.invokevirtual 101, 3) := by decide +kernel
theorem eX9_sail__134 : decode mX9_sail_.2.1 134 = .ok (.aload_n 0, 1) := by decide +kernel
theorem eX9_sail__135 : decode mX9_sail_.2.1 135 = .ok (.iload 6, 2) := by decide +kernel
theorem eX9_sail__137 : decode mX9_sail_.2.1 137 = .ok (.iconst 5, 1) := by decide +kernel
theorem eX9_sail__138 : decode mX9_sail_.2.1 138 = .ok (.iload 5, 2) := by decide +kernel
theorem eX9_sail__140 : decode mX9_sail_.2.1 140 = .ok (.invokevirtual 101, 3) := by decide +kernel
theorem eX9_sail__143 : decode mX9_sail_.2.1 143 = .ok (.iconst 0, 1) := by decide +kernel
theorem eX9_sail__144 : decode mX9_sail_.2.1 144 = .ok (.istore 7, 2) := by decide +kernel
theorem eX9_sail__146 : decode mX9_sail_.2.1 146 = .ok (.iload 7, 2) := by decide +kernel
theorem eX9_sail__148 : decode mX9_sail_.2.1 148 = .ok (.bipush 40, 2) := by decide +kernel
theorem eX9_sail__150 : decode mX9_sail_.2.1 150 = .ok (.if_icmp .ge 35, 3) := by decide +kernel
theorem eX9_sail__153 : decode mX9_sail_.2.1 153 = .ok (.aload_n 0, 1) := by decide +kernel
theorem eX9_sail__154 : decode mX9_sail_.2.1 154 = .ok (.iload 6, 2) := by decide +kernel
theorem eX9_sail__156 : decode mX9_sail_.2.1 156 = .ok (.sipush 300, 3) := by decide +kernel
theorem eX9_sail__159 : decode mX9_sail_.2.1 159 = .ok (.iload 7, 2) := by decide +kernel
theorem eX9_sail__161 : decode mX9_sail_.2.1 161 = .ok (.iadd, 1) := by decide +kernel
theorem eX9_sail__162 : decode mX9_sail_.2.1 162 = .ok (.iconst (-1), 1) := by decide +kernel
theorem eX9_sail__163 : decode mX9_sail_.2.1 163 = .ok (.invokevirtual 101, 3) := by decide +kernel
theorem eX9_sail__166 : decode mX9_sail_.2.1 166 = .ok (.aload_n 0, 1) := by decide +kernel
theorem eX9_sail__167 : decode mX9_sail_.2.1 167 = .ok (.iload 6, 2) := by decide +kernel
theorem eX9_sail__169 : decode mX9_sail_.2.1 169 = .ok (.sipush 340, 3) := by decide +kernel
theorem eX9_sail__172 : decode mX9_sail_.2.1 172 = .ok (.iload 7, 2) := by decide +kernel
theorem eX9_sail__174 : decode mX9_sail_.2.1 174 = .ok (.iadd, 1) := by decide +kernel
theorem eX9_sail__175 : decode mX9_sail_.2.1 175 = .ok (.iconst (-1), 1) := by decide +kernel
theorem eX9_sail__176 : decode mX9_sail_.2.1 176 = .ok (.invokevirtual 101, 3) := by decide +kernel
theorem eX9_sail__179 : decode mX9_sail_.2.1 179 = .ok (.iinc 7 1, 3) := by decide +kernel
theorem eX9_sail__182 : decode mX9_sail_.2.1 182 = .ok (.goto (-36), 3) := by decide +kernel
theorem eX9_sail__185 : decode mX9_sail_.2.1 185 = .ok (.iload 6, 2) := by decide +kernel
theorem eX9_sail__187 : decode mX9_sail_.2.1 187 = .ok (.ireturn, 1) := by decide +kernel
theorem eX9_edge_0 : decode mX9_edge.2.1 0 = .ok (.aload_n 0, 1) := by decide +kernel
theorem eX9_edge_1 : decode mX9_edge.2.1 1 = .ok (.iload_n 1, 1) := by decide +kernel
theorem eX9_edge_2 : decode mX9_edge.2.1 2 = .ok (.invokevirtual 104, 3) := by decide +kernel
theorem eX9_edge_5 : decode mX9_edge.2.1 5 = .ok (.ifCond .eq 28, 3) := by decide +kernel
theorem eX9_edge_8 : decode mX9_edge.2.1 8 = .ok (.iload_n 2, 1) := by decide +kernel
theorem eX9_edge_9 : decode mX9_edge.2.1 9 = .ok (.iconst 0, 1) := by decide +kernel
theorem eX9_edge_10 : decode mX9_edge.2.1 10 = .ok (.iconst 1, 1) := by decide +kernel
theorem eX9_edge_11 : decode mX9_edge.2.1 11 = .ok (.invokestatic 70, 3) := by decide +kernel
theorem eX9_edge_14 : decode mX9_edge.2.1 14 = .ok (.ifCond .eq 19, 3) := by decide +kernel
theorem eX9_edge_17 : decode mX9_edge.2.1 17 = .ok (.iload_n 3, 1) := by decide +kernel
theorem eX9_edge_18 : decode mX9_edge.2.1 18 = .ok (.iconst 0, 1) := by decide +kernel
theorem eX9_edge_19 : decode mX9_edge.2.1 19 = .ok (.aload_n 0, 1) := by decide +kernel
theorem eX9_edge_20 : decode mX9_edge.2.1 20 = .ok (.iload_n 1, 1) := by decide +kernel
theorem eX9_edge_21 : decode mX9_edge.2.1 21 = .ok (.iconst 5, 1) := by decide +kernel
theorem eX9_edge_22 : decode mX9_edge.2.1 22 = .ok (.invokevirtual 57, 3) := by decide +kernel
theorem eX9_edge_25 : decode mX9_edge.2.1 25 = .ok (.iconst 1, 1) := by decide +kernel
theorem eX9_edge_26 : decode mX9_edge.2.1 26 = .ok (.iadd, 1) := by decide +kernel
theorem eX9_edge_27 : decode mX9_edge.2.1 27 = .ok (.invokestatic 70, 3) := by decide +kernel
theorem eX9_edge_30 : decode mX9_edge.2.1 30 = .ok (.ifCond .ne 5, 3) := by decide +kernel
theorem eX9_edge_33 : decode mX9_edge.2.1 33 = .ok (.iconst 0, 1) := by decide +kernel
theorem eX9_edge_34 : decode mX9_edge.2.1 34 = .ok (.ireturn, 1) := by decide +kernel
theorem eX9_edge_35 : decode mX9_edge.2.1 35 = .ok (.aload_n 0, 1) := by decide +kernel
theorem eX9_edge_36 : decode mX9_edge.2.1 36 = .ok (.invokevirtual 75, 3) := by decide +kernel
theorem eX9_edge_39 : decode mX9_edge.2.1 39 = .ok (.aload_n 0, 1) := by decide +kernel
theorem eX9_edge_40 : decode mX9_edge.2.1 40 = .ok (.iload_n 1, 1) := by decide +kernel
theorem eX9_edge_41 : decode mX9_edge.2.1 41 = .ok (.bipush 16, 2) := by decide +kernel
theorem eX9_edge_43 : decode mX9_edge.2.1 43 = .ok (.iload_n 2, 1) := by decide +kernel
theorem eX9_edge_44 : decode mX9_edge.2.1 44 = .ok (.iadd, 1) := by decide +kernel
theorem eX9_edge_45 : decode mX9_edge.2.1 45 = .ok (.iload_n 3, 1) := by decide +kernel
theorem eX9_edge_46 : decode mX9_edge.2.1 46 = .ok (.invokevirtual 101, 3) := by decide +kernel
theorem eX9_edge_49 : decode mX9_edge.2.1 49 = .ok (.iconst 0, 1) := by decide +kernel
theorem eX9_edge_50 : decode mX9_edge.2.1 50 = .ok (.istore 4, 2) := by decide +kernel
theorem eX9_edge_52 : decode mX9_edge.2.1 52 = .ok (.iload 4, 2) := by decide +kernel
theorem eX9_edge_54 : decode mX9_edge.2.1 54 = .ok (.iload_n 3, 1) := by decide +kernel
theorem eX9_edge_55 : decode mX9_edge.2.1 55 = .ok (.if_icmp .ge 25, 3) := by decide +kernel
theorem eX9_edge_58 : decode mX9_edge.2.1 58 = .ok (.aload_n 0, 1) := by decide +kernel
theorem eX9_edge_59 : decode mX9_edge.2.1 59 = .ok (.iload_n 1, 1) := by decide +kernel
theorem eX9_edge_60 : decode mX9_edge.2.1 60 = .ok (.bipush 18, 2) := by decide +kernel
theorem eX9_edge_62 : decode mX9_edge.2.1 62 = .ok (.bipush 61, 2) := by decide +kernel
theorem eX9_edge_64 : decode mX9_edge.2.1 64 = .ok (.iload_n 2, 1) := by decide +kernel
theorem eX9_edge_65 : decode mX9_edge.2.1 65 = .ok (.imul, 1) := by decide +kernel
theorem eX9_edge_66 : decode mX9_edge.2.1 66 = .ok (.iadd, 1) := by decide +kernel
theorem eX9_edge_67 : decode mX9_edge.2.1 67 = .ok (.iload 4, 2) := by decide +kernel
theorem eX9_edge_69 : decode mX9_edge.2.1 69 = .ok (.iadd, 1) := by decide +kernel
theorem eX9_edge_70 : decode mX9_edge.2.1 70 = .ok (.iconst 0, 1) := by decide +kernel
theorem eX9_edge_71 : decode mX9_edge.2.1 71 = .ok (.invokevirtual 101, 3) := by decide +kernel
theorem eX9_edge_74 : decode mX9_edge.2.1 74 = .ok (.iinc 4 1, 3) := by decide +kernel
theorem eX9_edge_77 : decode mX9_edge.2.1 77 = .ok (.goto (-25), 3) := by decide +kernel
theorem eX9_edge_80 : decode mX9_edge.2.1 80 = .ok (.iconst 1, 1) := by decide +kernel
theorem eX9_edge_81 : decode mX9_edge.2.1 81 = .ok (.ireturn, 1) := by decide +kernel
theorem eX9_stand_0 : decode mX9_stand.2.1 0 = .ok (.aload_n 0, 1) := by decide +kernel
theorem eX9_stand_1 : decode mX9_stand.2.1 1 = .ok (.iload_n 1, 1) := by decide +kernel
theorem eX9_stand_2 : decode mX9_stand.2.1 2 = .ok (.invokevirtual 104, 3) := by decide +kernel
theorem eX9_stand_5 : decode mX9_stand.2.1 5 = .ok (.ifCond .eq 43, 3) := by decide +kernel
theorem eX9_stand_8 : decode mX9_stand.2.1 8 = .ok (.iload_n 2, 1) := by decide +kernel
theorem eX9_stand_9 : decode mX9_stand.2.1 9 = .ok (.iconst 0, 1) := by decide +kernel
theorem eX9_stand_10 : decode mX9_stand.2.1 10 = .ok (.iconst 1, 1) := by decide +kernel
theorem eX9_stand_11 : decode mX9_stand.2.1 11 = .ok (.invokestatic 70, 3) := by decide +kernel
theorem eX9_stand_14 : decode mX9_stand.2.1 14 = .ok (.ifCond .eq 34, 3) := by decide +kernel
theorem eX9_stand_17 : decode mX9_stand.2.1 17 = .ok (.iload_n 3, 1) := by decide +kernel
theorem eX9_stand_18 : decode mX9_stand.2.1 18 = .ok (.ifCond .lt 30, 3) := by decide +kernel
theorem eX9_stand_21 : decode mX9_stand.2.1 21 = .ok (.iload_n 3, 1) := by decide +kernel
theorem eX9_stand_22 : decode mX9_stand.2.1 22 = .ok (.aload_n 0, 1) := by decide +kernel
theorem eX9_stand_23 : decode mX9_stand.2.1 23 = .ok (.iload_n 1, 1) := by decide +kernel
theorem eX9_stand_24 : decode mX9_stand.2.1 24 = .ok (.bipush 16, 2) := by decide +kernel
theorem eX9_stand_26 : decode mX9_stand.2.1 26 = .ok (.iload_n 2, 1) := by decide +kernel
theorem eX9_stand_27 : decode mX9_stand.2.1 27 = .ok (.iadd, 1) := by decide +kernel
theorem eX9_stand_28 : decode mX9_stand.2.1 28 = .ok (.invokevirtual 57, 3) := by decide +kernel
theorem eX9_stand_31 : decode mX9_stand.2.1 31 = .ok (.if_icmp .ge 17, 3) := by decide +kernel
theorem eX9_stand_34 : decode mX9_stand.2.1 34 = .ok (.iload 4, 2) := by decide +kernel
theorem eX9_stand_36 : decode mX9_stand.2.1 36 = .ok (.sipush (-200), 3) := by decide +kernel
theorem eX9_stand_39 : decode mX9_stand.2.1 39 = .ok (.sipush 200, 3) := by decide +kernel
theorem eX9_stand_42 : decode mX9_stand.2.1 42 = .ok (.invokestatic 70, 3) := by decide +kernel
theorem eX9_stand_45 : decode mX9_stand.2.1 45 = .ok (.ifCond .ne 5, 3) := by decide +kernel
theorem eX9_stand_48 : decode mX9_stand.2.1 48 = .ok (.iconst 0, 1) := by decide +kernel
theorem eX9_stand_49 : decode mX9_stand.2.1 49 = .ok (.ireturn, 1) := by decide +kernel
theorem eX9_stand_50 : decode mX9_stand.2.1 50 = .ok (.aload_n 0, 1) := by decide +kernel
theorem eX9_stand_51 : decode mX9_stand.2.1 51 = .ok (.invokevirtual 75, 3) := by decide +kernel
theorem eX9_stand_54 : decode mX9_stand.2.1 54 = .ok (.aload_n 0, 1) := by decide +kernel
theorem eX9_stand_55 : decode mX9_stand.2.1 55 = .ok (.iload_n 1, 1) := by decide +kernel
theorem eX9_stand_56 : decode mX9_stand.2.1 56 = .ok (.bipush 18, 2) := by decide +kernel
theorem eX9_stand_58 : decode mX9_stand.2.1 58 = .ok (.bipush 61, 2) := by decide +kernel
theorem eX9_stand_60 : decode mX9_stand.2.1 60 = .ok (.iload_n 2, 1) := by decide +kernel
theorem eX9_stand_61 : decode mX9_stand.2.1 61 = .ok (.imul, 1) := by decide +kernel
theorem eX9_stand_62 : decode mX9_stand.2.1 62 = .ok (.iadd, 1) := by decide +kernel
theorem eX9_stand_63 : decode mX9_stand.2.1 63 = .ok (.iload_n 3, 1) := by decide +kernel
theorem eX9_stand_64 : decode mX9_stand.2.1 64 = .ok (.iadd, 1) := by decide +kernel
theorem eX9_stand_65 : decode mX9_stand.2.1 65 = .ok (.iload 4, 2) := by decide +kernel
theorem eX9_stand_67 : decode mX9_stand.2.1 67 = .ok (.invokevirtual 101, 3) := by decide +kernel
theorem eX9_stand_70 : decode mX9_stand.2.1 70 = .ok (.iconst 1, 1) := by decide +kernel
theorem eX9_stand_71 : decode mX9_stand.2.1 71 = .ok (.ireturn, 1) := by decide +kernel
theorem eX9_edgeAt_0 : decode mX9_edgeAt.2.1 0 = .ok (.aload_n 0, 1) := by decide +kernel
theorem eX9_edgeAt_1 : decode mX9_edgeAt.2.1 1 = .ok (.iload_n 1, 1) := by decide +kernel
theorem eX9_edgeAt_2 : decode mX9_edgeAt.2.1 2 = .ok (.iconst 1, 1) := by decide +kernel
theorem eX9_edgeAt_3 : decode mX9_edgeAt.2.1 3 = .ok (.iload_n 2, 1) := by decide +kernel
theorem eX9_edgeAt_4 : decode mX9_edgeAt.2.1 4 = .ok (.iadd, 1) := by decide +kernel
theorem eX9_edgeAt_5 : decode mX9_edgeAt.2.1 5 = .ok (.invokevirtual 57, 3) := by decide +kernel
theorem eX9_edgeAt_8 : decode mX9_edgeAt.2.1 8 = .ok (.istore 4, 2) := by decide +kernel
theorem eX9_edgeAt_10 : decode mX9_edgeAt.2.1 10 = .ok (.iload_n 3, 1) := by decide +kernel
theorem eX9_edgeAt_11 : decode mX9_edgeAt.2.1 11 = .ok (.aload_n 0, 1) := by decide +kernel
theorem eX9_edgeAt_12 : decode mX9_edgeAt.2.1 12 = .ok (.iload_n 1, 1) := by decide +kernel
theorem eX9_edgeAt_13 : decode mX9_edgeAt.2.1 13 = .ok (.bipush 16, 2) := by decide +kernel
theorem eX9_edgeAt_15 : decode mX9_edgeAt.2.1 15 = .ok (.iload_n 2, 1) := by decide +kernel
theorem eX9_edgeAt_16 : decode mX9_edgeAt.2.1 16 = .ok (.iadd, 1) := by decide +kernel
theorem eX9_edgeAt_17 : decode mX9_edgeAt.2.1 17 = .ok (.invokevirtual 57, 3) := by decide +kernel
theorem eX9_edgeAt_20 : decode mX9_edgeAt.2.1 20 = .ok (.if_icmp .ge 20, 3) := by decide +kernel
theorem eX9_edgeAt_23 : decode mX9_edgeAt.2.1 23 = .ok (.aload_n 0, 1) := by decide +kernel
theorem eX9_edgeAt_24 : decode mX9_edgeAt.2.1 24 = .ok (.iload_n 1, 1) := by decide +kernel
theorem eX9_edgeAt_25 : decode mX9_edgeAt.2.1 25 = .ok (.bipush 18, 2) := by decide +kernel
theorem eX9_edgeAt_27 : decode mX9_edgeAt.2.1 27 = .ok (.bipush 61, 2) := by decide +kernel
theorem eX9_edgeAt_29 : decode mX9_edgeAt.2.1 29 = .ok (.iload_n 2, 1) := by decide +kernel
theorem eX9_edgeAt_30 : decode mX9_edgeAt.2.1 30 = .ok (.imul, 1) := by decide +kernel
theorem eX9_edgeAt_31 : decode mX9_edgeAt.2.1 31 = .ok (.iadd, 1) := by decide +kernel
theorem eX9_edgeAt_32 : decode mX9_edgeAt.2.1 32 = .ok (.iload_n 3, 1) := by decide +kernel
theorem eX9_edgeAt_33 : decode mX9_edgeAt.2.1 33 = .ok (.iadd, 1) := by decide +kernel
theorem eX9_edgeAt_34 : decode mX9_edgeAt.2.1 34 = .ok (.invokevirtual 57, 3) := by decide +kernel
theorem eX9_edgeAt_37 : decode mX9_edgeAt.2.1 37 = .ok (.goto 4, 3) := by decide +kernel
theorem eX9_edgeAt_40 : decode mX9_edgeAt.2.1 40 = .ok (.iconst 0, 1) := by decide +kernel
theorem eX9_edgeAt_41 : decode mX9_edgeAt.2.1 41 = .ok (.istore 5, 2) := by decide +kernel
theorem eX9_edgeAt_43 : decode mX9_edgeAt.2.1 43 = .ok (.iload 4, 2) := by decide +kernel
theorem eX9_edgeAt_45 : decode mX9_edgeAt.2.1 45 = .ok (.aload_n 0, 1) := by decide +kernel
theorem eX9_edgeAt_46 : decode mX9_edgeAt.2.1 46 = .ok (.iload_n 1, 1) := by decide +kernel
theorem eX9_edgeAt_47 : decode mX9_edgeAt.2.1 47 = .ok (.iconst 3, 1) := by decide +kernel
theorem eX9_edgeAt_48 : decode mX9_edgeAt.2.1 48 = .ok (.iload_n 2, 1) := by decide +kernel
theorem eX9_edgeAt_49 : decode mX9_edgeAt.2.1 49 = .ok (.iadd, 1) := by decide +kernel
theorem eX9_edgeAt_50 : decode mX9_edgeAt.2.1 50 = .ok (.invokevirtual 57, 3) := by decide +kernel
theorem eX9_edgeAt_53 : decode mX9_edgeAt.2.1 53 = .ok (.iload 4, 2) := by decide +kernel
theorem eX9_edgeAt_55 : decode mX9_edgeAt.2.1 55 = .ok (.isub, 1) := by decide +kernel
theorem eX9_edgeAt_56 : decode mX9_edgeAt.2.1 56 = .ok (.iload_n 3, 1) := by decide +kernel
theorem eX9_edgeAt_57 : decode mX9_edgeAt.2.1 57 = .ok (.imul, 1) := by decide +kernel
theorem eX9_edgeAt_58 : decode mX9_edgeAt.2.1 58 = .ok (.aload_n 0, 1) := by decide +kernel
theorem eX9_edgeAt_59 : decode mX9_edgeAt.2.1 59 = .ok (.iload_n 1, 1) := by decide +kernel
theorem eX9_edgeAt_60 : decode mX9_edgeAt.2.1 60 = .ok (.iconst 5, 1) := by decide +kernel
theorem eX9_edgeAt_61 : decode mX9_edgeAt.2.1 61 = .ok (.invokevirtual 57, 3) := by decide +kernel
theorem eX9_edgeAt_64 : decode mX9_edgeAt.2.1 64 = .ok (.idiv, 1) := by decide +kernel
theorem eX9_edgeAt_65 : decode mX9_edgeAt.2.1 65 = .ok (.iadd, 1) := by decide +kernel
theorem eX9_edgeAt_66 : decode mX9_edgeAt.2.1 66 = .ok (.iload 5, 2) := by decide +kernel
theorem eX9_edgeAt_68 : decode mX9_edgeAt.2.1 68 = .ok (.iadd, 1) := by decide +kernel
theorem eX9_edgeAt_69 : decode mX9_edgeAt.2.1 69 = .ok (.ireturn, 1) := by decide +kernel
theorem eX9_at_0 : decode mX9_at.2.1 0 = .ok (.aload_n 0, 1) := by decide +kernel
theorem eX9_at_1 : decode mX9_at.2.1 1 = .ok (.iload_n 1, 1) := by decide +kernel
theorem eX9_at_2 : decode mX9_at.2.1 2 = .ok (.invokevirtual 53, 3) := by decide +kernel
theorem eX9_at_5 : decode mX9_at.2.1 5 = .ok (.ifCond .eq 26, 3) := by decide +kernel
theorem eX9_at_8 : decode mX9_at.2.1 8 = .ok (.iload_n 2, 1) := by decide +kernel
theorem eX9_at_9 : decode mX9_at.2.1 9 = .ok (.iconst 0, 1) := by decide +kernel
theorem eX9_at_10 : decode mX9_at.2.1 10 = .ok (.iconst 1, 1) := by decide +kernel
theorem eX9_at_11 : decode mX9_at.2.1 11 = .ok (.invokestatic 70, 3) := by decide +kernel
theorem eX9_at_14 : decode mX9_at.2.1 14 = .ok (.ifCond .eq 17, 3) := by decide +kernel
theorem eX9_at_17 : decode mX9_at.2.1 17 = .ok (.iload_n 3, 1) := by decide +kernel
theorem eX9_at_18 : decode mX9_at.2.1 18 = .ok (.iconst 0, 1) := by decide +kernel
theorem eX9_at_19 : decode mX9_at.2.1 19 = .ok (.aload_n 0, 1) := by decide +kernel
theorem eX9_at_20 : decode mX9_at.2.1 20 = .ok (.iload_n 1, 1) := by decide +kernel
theorem eX9_at_21 : decode mX9_at.2.1 21 = .ok (.iconst 5, 1) := by decide +kernel
theorem eX9_at_22 : decode mX9_at.2.1 22 = .ok (.invokevirtual 57, 3) := by decide +kernel
theorem eX9_at_25 : decode mX9_at.2.1 25 = .ok (.invokestatic 70, 3) := by decide +kernel
theorem eX9_at_28 : decode mX9_at.2.1 28 = .ok (.ifCond .ne 9, 3) := by decide +kernel
theorem eX9_at_31 : decode mX9_at.2.1 31 = .ok (.sipush (-10000), 3) := by decide +kernel
theorem eX9_at_34 : decode mX9_at.2.1 34 = .ok (.goto 10, 3) := by decide +kernel
theorem eX9_at_37 : decode mX9_at.2.1 37 = .ok (.aload_n 0, 1) := by decide +kernel
theorem eX9_at_38 : decode mX9_at.2.1 38 = .ok (.iload_n 1, 1) := by decide +kernel
theorem eX9_at_39 : decode mX9_at.2.1 39 = .ok (.iload_n 2, 1) := by decide +kernel
theorem eX9_at_40 : decode mX9_at.2.1 40 = .ok (.iload_n 3, 1) := by decide +kernel
theorem eX9_at_41 : decode mX9_at.2.1 41 = .ok (.invokevirtual 107, 3) := by decide +kernel
theorem eX9_at_44 : decode mX9_at.2.1 44 = .ok (.ireturn, 1) := by decide +kernel
theorem eX9_across_0 : decode mX9_across.2.1 0 = .ok (.aload_n 0, 1) := by decide +kernel
theorem eX9_across_1 : decode mX9_across.2.1 1 = .ok (.iload_n 1, 1) := by decide +kernel
theorem eX9_across_2 : decode mX9_across.2.1 2 = .ok (.iconst 1, 1) := by decide +kernel
theorem eX9_across_3 : decode mX9_across.2.1 3 = .ok (.iload_n 2, 1) := by decide +kernel
theorem eX9_across_4 : decode mX9_across.2.1 4 = .ok (.invokevirtual 107, 3) := by decide +kernel
theorem eX9_across_7 : decode mX9_across.2.1 7 = .ok (.aload_n 0, 1) := by decide +kernel
theorem eX9_across_8 : decode mX9_across.2.1 8 = .ok (.iload_n 1, 1) := by decide +kernel
theorem eX9_across_9 : decode mX9_across.2.1 9 = .ok (.iconst 0, 1) := by decide +kernel
theorem eX9_across_10 : decode mX9_across.2.1 10 = .ok (.iload_n 2, 1) := by decide +kernel
theorem eX9_across_11 : decode mX9_across.2.1 11 = .ok (.invokevirtual 107, 3) := by decide +kernel
theorem eX9_across_14 : decode mX9_across.2.1 14 = .ok (.isub, 1) := by decide +kernel
theorem eX9_across_15 : decode mX9_across.2.1 15 = .ok (.ireturn, 1) := by decide +kernel
theorem eX9_strip_0 : decode mX9_strip.2.1 0 = .ok (.aload_n 0, 1) := by decide +kernel
theorem eX9_strip_1 : decode mX9_strip.2.1 1 = .ok (.iload_n 1, 1) := by decide +kernel
theorem eX9_strip_2 : decode mX9_strip.2.1 2 = .ok (.iload_n 2, 1) := by decide +kernel
theorem eX9_strip_3 : decode mX9_strip.2.1 3 = .ok (.invokevirtual 111, 3) := by decide +kernel
theorem eX9_strip_6 : decode mX9_strip.2.1 6 = .ok (.aload_n 0, 1) := by decide +kernel
theorem eX9_strip_7 : decode mX9_strip.2.1 7 = .ok (.iload_n 1, 1) := by decide +kernel
theorem eX9_strip_8 : decode mX9_strip.2.1 8 = .ok (.iload_n 2, 1) := by decide +kernel
theorem eX9_strip_9 : decode mX9_strip.2.1 9 = .ok (.iconst 1, 1) := by decide +kernel
theorem eX9_strip_10 : decode mX9_strip.2.1 10 = .ok (.iadd, 1) := by decide +kernel
theorem eX9_strip_11 : decode mX9_strip.2.1 11 = .ok (.invokevirtual 111, 3) := by decide +kernel
theorem eX9_strip_14 : decode mX9_strip.2.1 14 = .ok (.iadd, 1) := by decide +kernel
theorem eX9_strip_15 : decode mX9_strip.2.1 15 = .ok (.ireturn, 1) := by decide +kernel
theorem eX9_strips_0 : decode mX9_strips.2.1 0 = .ok (.iconst 0, 1) := by decide +kernel
theorem eX9_strips_1 : decode mX9_strips.2.1 1 = .ok (.istore 4, 2) := by decide +kernel
theorem eX9_strips_3 : decode mX9_strips.2.1 3 = .ok (.iload_n 2, 1) := by decide +kernel
theorem eX9_strips_4 : decode mX9_strips.2.1 4 = .ok (.istore 5, 2) := by decide +kernel
theorem eX9_strips_6 : decode mX9_strips.2.1 6 = .ok (.iload 5, 2) := by decide +kernel
theorem eX9_strips_8 : decode mX9_strips.2.1 8 = .ok (.iload_n 3, 1) := by decide +kernel
theorem eX9_strips_9 : decode mX9_strips.2.1 9 = .ok (.if_icmp .ge 21, 3) := by decide +kernel
theorem eX9_strips_12 : decode mX9_strips.2.1 12 = .ok (.iload 4, 2) := by decide +kernel
theorem eX9_strips_14 : decode mX9_strips.2.1 14 = .ok (.aload_n 0, 1) := by decide +kernel
theorem eX9_strips_15 : decode mX9_strips.2.1 15 = .ok (.iload_n 1, 1) := by decide +kernel
theorem eX9_strips_16 : decode mX9_strips.2.1 16 = .ok (.iload 5, 2) := by decide +kernel
theorem eX9_strips_18 : decode mX9_strips.2.1 18 = .ok (.invokevirtual 114, 3) := by decide +kernel
theorem eX9_strips_21 : decode mX9_strips.2.1 21 = .ok (.iadd, 1) := by decide +kernel
theorem eX9_strips_22 : decode mX9_strips.2.1 22 = .ok (.istore 4, 2) := by decide +kernel
theorem eX9_strips_24 : decode mX9_strips.2.1 24 = .ok (.iinc 5 1, 3) := by decide +kernel
theorem eX9_strips_27 : decode mX9_strips.2.1 27 = .ok (.goto (-21), 3) := by decide +kernel
theorem eX9_strips_30 : decode mX9_strips.2.1 30 = .ok (.iload 4, 2) := by decide +kernel
theorem eX9_strips_32 : decode mX9_strips.2.1 32 = .ok (.ireturn, 1) := by decide +kernel
theorem eX9_cut_0 : decode mX9_cut.2.1 0 = .ok (.iload_n 2, 1) := by decide +kernel
theorem eX9_cut_1 : decode mX9_cut.2.1 1 = .ok (.iconst 2, 1) := by decide +kernel
theorem eX9_cut_2 : decode mX9_cut.2.1 2 = .ok (.bipush 20, 2) := by decide +kernel
theorem eX9_cut_4 : decode mX9_cut.2.1 4 = .ok (.invokestatic 70, 3) := by decide +kernel
theorem eX9_cut_7 : decode mX9_cut.2.1 7 = .ok (.ifCond .eq 22, 3) := by decide +kernel
theorem eX9_cut_10 : decode mX9_cut.2.1 10 = .ok (.iload_n 3, 1) := by decide +kernel
theorem eX9_cut_11 : decode mX9_cut.2.1 11 = .ok (.iconst 1, 1) := by decide +kernel
theorem eX9_cut_12 : decode mX9_cut.2.1 12 = .ok (.iload_n 2, 1) := by decide +kernel
theorem eX9_cut_13 : decode mX9_cut.2.1 13 = .ok (.iconst 1, 1) := by decide +kernel
theorem eX9_cut_14 : decode mX9_cut.2.1 14 = .ok (.isub, 1) := by decide +kernel
theorem eX9_cut_15 : decode mX9_cut.2.1 15 = .ok (.invokestatic 70, 3) := by decide +kernel
theorem eX9_cut_18 : decode mX9_cut.2.1 18 = .ok (.ifCond .eq 11, 3) := by decide +kernel
theorem eX9_cut_21 : decode mX9_cut.2.1 21 = .ok (.aload_n 0, 1) := by decide +kernel
theorem eX9_cut_22 : decode mX9_cut.2.1 22 = .ok (.iload_n 1, 1) := by decide +kernel
theorem eX9_cut_23 : decode mX9_cut.2.1 23 = .ok (.invokevirtual 104, 3) := by decide +kernel
theorem eX9_cut_26 : decode mX9_cut.2.1 26 = .ok (.ifCond .ne 5, 3) := by decide +kernel
theorem eX9_cut_29 : decode mX9_cut.2.1 29 = .ok (.iconst (-1), 1) := by decide +kernel
theorem eX9_cut_30 : decode mX9_cut.2.1 30 = .ok (.ireturn, 1) := by decide +kernel
theorem eX9_cut_31 : decode mX9_cut.2.1 31 = .ok (.iconst 0, 1) := by decide +kernel
theorem eX9_cut_32 : decode mX9_cut.2.1 32 = .ok (.istore 4, 2) := by decide +kernel
theorem eX9_cut_34 : decode mX9_cut.2.1 34 = .ok (.iload 4, 2) := by decide +kernel
theorem eX9_cut_36 : decode mX9_cut.2.1 36 = .ok (.aload_n 0, 1) := by decide +kernel
theorem eX9_cut_37 : decode mX9_cut.2.1 37 = .ok (.iload_n 1, 1) := by decide +kernel
theorem eX9_cut_38 : decode mX9_cut.2.1 38 = .ok (.iconst 5, 1) := by decide +kernel
theorem eX9_cut_39 : decode mX9_cut.2.1 39 = .ok (.invokevirtual 57, 3) := by decide +kernel
theorem eX9_cut_42 : decode mX9_cut.2.1 42 = .ok (.if_icmp .gt 21, 3) := by decide +kernel
theorem eX9_cut_45 : decode mX9_cut.2.1 45 = .ok (.aload_n 0, 1) := by decide +kernel
theorem eX9_cut_46 : decode mX9_cut.2.1 46 = .ok (.iload_n 1, 1) := by decide +kernel
theorem eX9_cut_47 : decode mX9_cut.2.1 47 = .ok (.iload 4, 2) := by decide +kernel
theorem eX9_cut_49 : decode mX9_cut.2.1 49 = .ok (.invokevirtual 111, 3) := by decide +kernel
theorem eX9_cut_52 : decode mX9_cut.2.1 52 = .ok (.ifCond .gt 5, 3) := by decide +kernel
theorem eX9_cut_55 : decode mX9_cut.2.1 55 = .ok (.iconst (-1), 1) := by decide +kernel
theorem eX9_cut_56 : decode mX9_cut.2.1 56 = .ok (.ireturn, 1) := by decide +kernel
theorem eX9_cut_57 : decode mX9_cut.2.1 57 = .ok (.iinc 4 1, 3) := by decide +kernel
theorem eX9_cut_60 : decode mX9_cut.2.1 60 = .ok (.goto (-26), 3) := by decide +kernel
theorem eX9_cut_63 : decode mX9_cut.2.1 63 = .ok (.iload_n 2, 1) := by decide +kernel
theorem eX9_cut_64 : decode mX9_cut.2.1 64 = .ok (.iload_n 3, 1) := by decide +kernel
theorem eX9_cut_65 : decode mX9_cut.2.1 65 = .ok (.isub, 1) := by decide +kernel
theorem eX9_cut_66 : decode mX9_cut.2.1 66 = .ok (.istore 4, 2) := by decide +kernel
theorem eX9_cut_68 : decode mX9_cut.2.1 68 = .ok (.iconst 0, 1) := by decide +kernel
theorem eX9_cut_69 : decode mX9_cut.2.1 69 = .ok (.istore 5, 2) := by decide +kernel
theorem eX9_cut_71 : decode mX9_cut.2.1 71 = .ok (.iload 5, 2) := by decide +kernel
theorem eX9_cut_73 : decode mX9_cut.2.1 73 = .ok (.iload 4, 2) := by decide +kernel
theorem eX9_cut_75 : decode mX9_cut.2.1 75 = .ok (.imul, 1) := by decide +kernel
theorem eX9_cut_76 : decode mX9_cut.2.1 76 = .ok (.aload_n 0, 1) := by decide +kernel
theorem eX9_cut_77 : decode mX9_cut.2.1 77 = .ok (.iload_n 1, 1) := by decide +kernel
theorem eX9_cut_78 : decode mX9_cut.2.1 78 = .ok (.iconst 5, 1) := by decide +kernel
theorem eX9_cut_79 : decode mX9_cut.2.1 79 = .ok (.invokevirtual 57, 3) := by decide +kernel
theorem eX9_cut_82 : decode mX9_cut.2.1 82 = .ok (.if_icmp .ge 9, 3) := by decide +kernel
theorem eX9_cut_85 : decode mX9_cut.2.1 85 = .ok (.iinc 5 1, 3) := by decide +kernel
theorem eX9_cut_88 : decode mX9_cut.2.1 88 = .ok (.goto (-17), 3) := by decide +kernel
theorem eX9_cut_91 : decode mX9_cut.2.1 91 = .ok (.iload 5, 2) := by decide +kernel
theorem eX9_cut_93 : decode mX9_cut.2.1 93 = .ok (.bipush 40, 2) := by decide +kernel
theorem eX9_cut_95 : decode mX9_cut.2.1 95 = .ok (.if_icmp .le 5, 3) := by decide +kernel
theorem eX9_cut_98 : decode mX9_cut.2.1 98 = .ok (.iconst (-1), 1) := by decide +kernel
theorem eX9_cut_99 : decode mX9_cut.2.1 99 = .ok (.ireturn, 1) := by decide +kernel
theorem eX9_cut_100 : decode mX9_cut.2.1 100 = .ok (.aload_n 0, 1) := by decide +kernel
theorem eX9_cut_101 : decode mX9_cut.2.1 101 = .ok (.invokevirtual 75, 3) := by decide +kernel
theorem eX9_cut_104 : decode mX9_cut.2.1 104 = .ok (.aload_n 0, 1) := by decide +kernel
theorem eX9_cut_105 : decode mX9_cut.2.1 105 = .ok (.iload_n 1, 1) := by decide +kernel
theorem eX9_cut_106 : decode mX9_cut.2.1 106 = .ok (.iconst 0, 1) := by decide +kernel
theorem eX9_cut_107 : decode mX9_cut.2.1 107 = .ok (.iconst 1, 1) := by decide +kernel
theorem eX9_cut_108 : decode mX9_cut.2.1 108 = .ok (.invokevirtual 101, 3) := by decide +kernel
theorem eX9_cut_111 : decode mX9_cut.2.1 111 = .ok (.aload_n 0, 1) := by decide +kernel
theorem eX9_cut_112 : decode mX9_cut.2.1 112 = .ok (.iload_n 1, 1) := by decide +kernel
theorem eX9_cut_113 : decode mX9_cut.2.1 113 = .ok (.bipush 6, 2) := by decide +kernel
theorem eX9_cut_115 : decode mX9_cut.2.1 115 = .ok (.iload 4, 2) := by decide +kernel
theorem eX9_cut_117 : decode mX9_cut.2.1 117 = .ok (.invokevirtual 101, 3) := by decide +kernel
theorem eX9_cut_120 : decode mX9_cut.2.1 120 = .ok (.aload_n 0, 1) := by decide +kernel
theorem eX9_cut_121 : decode mX9_cut.2.1 121 = .ok (.iload_n 1, 1) := by decide +kernel
theorem eX9_cut_122 : decode mX9_cut.2.1 122 = .ok (.bipush 7, 2) := by decide +kernel
theorem eX9_cut_124 : decode mX9_cut.2.1 124 = .ok (.iload_n 3, 1) := by decide +kernel
theorem eX9_cut_125 : decode mX9_cut.2.1 125 = .ok (.invokevirtual 101, 3) := by decide +kernel
theorem eX9_cut_128 : decode mX9_cut.2.1 128 = .ok (.aload_n 0, 1) := by decide +kernel
theorem eX9_cut_129 : decode mX9_cut.2.1 129 = .ok (.iload_n 1, 1) := by decide +kernel
theorem eX9_cut_130 : decode mX9_cut.2.1 130 = .ok (.bipush 8, 2) := by decide +kernel
theorem eX9_cut_132 : decode mX9_cut.2.1 132 = .ok (.iload 5, 2) := by decide +kernel
theorem eX9_cut_134 : decode mX9_cut.2.1 134 = .ok (.invokevirtual 101, 3) := by decide +kernel
theorem eX9_cut_137 : decode mX9_cut.2.1 137 = .ok (.iload 5, 2) := by decide +kernel
theorem eX9_cut_139 : decode mX9_cut.2.1 139 = .ok (.ireturn, 1) := by decide +kernel
theorem eX9_pieces_0 : decode mX9_pieces.2.1 0 = .ok (.aload_n 0, 1) := by decide +kernel
theorem eX9_pieces_1 : decode mX9_pieces.2.1 1 = .ok (.iload_n 1, 1) := by decide +kernel
theorem eX9_pieces_2 : decode mX9_pieces.2.1 2 = .ok (.bipush 8, 2) := by decide +kernel
theorem eX9_pieces_4 : decode mX9_pieces.2.1 4 = .ok (.invokevirtual 57, 3) := by decide +kernel
theorem eX9_pieces_7 : decode mX9_pieces.2.1 7 = .ok (.aload_n 0, 1) := by decide +kernel
theorem eX9_pieces_8 : decode mX9_pieces.2.1 8 = .ok (.iload_n 1, 1) := by decide +kernel
theorem eX9_pieces_9 : decode mX9_pieces.2.1 9 = .ok (.bipush 9, 2) := by decide +kernel
theorem eX9_pieces_11 : decode mX9_pieces.2.1 11 = .ok (.invokevirtual 57, 3) := by decide +kernel
theorem eX9_pieces_14 : decode mX9_pieces.2.1 14 = .ok (.iadd, 1) := by decide +kernel
theorem eX9_pieces_15 : decode mX9_pieces.2.1 15 = .ok (.ireturn, 1) := by decide +kernel
theorem eX9_isPanel_0 : decode mX9_isPanel.2.1 0 = .ok (.iload_n 2, 1) := by decide +kernel
theorem eX9_isPanel_1 : decode mX9_isPanel.2.1 1 = .ok (.aload_n 0, 1) := by decide +kernel
theorem eX9_isPanel_2 : decode mX9_isPanel.2.1 2 = .ok (.iload_n 1, 1) := by decide +kernel
theorem eX9_isPanel_3 : decode mX9_isPanel.2.1 3 = .ok (.bipush 8, 2) := by decide +kernel
theorem eX9_isPanel_5 : decode mX9_isPanel.2.1 5 = .ok (.invokevirtual 57, 3) := by decide +kernel
theorem eX9_isPanel_8 : decode mX9_isPanel.2.1 8 = .ok (.if_icmp .ge 7, 3) := by decide +kernel
theorem eX9_isPanel_11 : decode mX9_isPanel.2.1 11 = .ok (.iconst 1, 1) := by decide +kernel
theorem eX9_isPanel_12 : decode mX9_isPanel.2.1 12 = .ok (.goto 4, 3) := by decide +kernel
theorem eX9_isPanel_15 : decode mX9_isPanel.2.1 15 = .ok (.iconst 0, 1) := by decide +kernel
theorem eX9_isPanel_16 : decode mX9_isPanel.2.1 16 = .ok (.ireturn, 1) := by decide +kernel
theorem eX9_low_0 : decode mX9_low.2.1 0 = .ok (.aload_n 0, 1) := by decide +kernel
theorem eX9_low_1 : decode mX9_low.2.1 1 = .ok (.iload_n 1, 1) := by decide +kernel
theorem eX9_low_2 : decode mX9_low.2.1 2 = .ok (.iload_n 2, 1) := by decide +kernel
theorem eX9_low_3 : decode mX9_low.2.1 3 = .ok (.invokevirtual 117, 3) := by decide +kernel
theorem eX9_low_6 : decode mX9_low.2.1 6 = .ok (.ifCond .eq 15, 3) := by decide +kernel
theorem eX9_low_9 : decode mX9_low.2.1 9 = .ok (.iload_n 2, 1) := by decide +kernel
theorem eX9_low_10 : decode mX9_low.2.1 10 = .ok (.aload_n 0, 1) := by decide +kernel
theorem eX9_low_11 : decode mX9_low.2.1 11 = .ok (.iload_n 1, 1) := by decide +kernel
theorem eX9_low_12 : decode mX9_low.2.1 12 = .ok (.bipush 6, 2) := by decide +kernel
theorem eX9_low_14 : decode mX9_low.2.1 14 = .ok (.invokevirtual 57, 3) := by decide +kernel
theorem eX9_low_17 : decode mX9_low.2.1 17 = .ok (.imul, 1) := by decide +kernel
theorem eX9_low_18 : decode mX9_low.2.1 18 = .ok (.goto 13, 3) := by decide +kernel
theorem eX9_low_21 : decode mX9_low.2.1 21 = .ok (.aload_n 0, 1) := by decide +kernel
theorem eX9_low_22 : decode mX9_low.2.1 22 = .ok (.iload_n 1, 1) := by decide +kernel
theorem eX9_low_23 : decode mX9_low.2.1 23 = .ok (.sipush 180, 3) := by decide +kernel
theorem eX9_low_26 : decode mX9_low.2.1 26 = .ok (.iload_n 2, 1) := by decide +kernel
theorem eX9_low_27 : decode mX9_low.2.1 27 = .ok (.iadd, 1) := by decide +kernel
theorem eX9_low_28 : decode mX9_low.2.1 28 = .ok (.invokevirtual 57, 3) := by decide +kernel
theorem eX9_low_31 : decode mX9_low.2.1 31 = .ok (.ireturn, 1) := by decide +kernel
theorem eX9_high_0 : decode mX9_high.2.1 0 = .ok (.aload_n 0, 1) := by decide +kernel
theorem eX9_high_1 : decode mX9_high.2.1 1 = .ok (.iload_n 1, 1) := by decide +kernel
theorem eX9_high_2 : decode mX9_high.2.1 2 = .ok (.iload_n 2, 1) := by decide +kernel
theorem eX9_high_3 : decode mX9_high.2.1 3 = .ok (.invokevirtual 117, 3) := by decide +kernel
theorem eX9_high_6 : decode mX9_high.2.1 6 = .ok (.ifCond .eq 26, 3) := by decide +kernel
theorem eX9_high_9 : decode mX9_high.2.1 9 = .ok (.aload_n 0, 1) := by decide +kernel
theorem eX9_high_10 : decode mX9_high.2.1 10 = .ok (.iload_n 1, 1) := by decide +kernel
theorem eX9_high_11 : decode mX9_high.2.1 11 = .ok (.iconst 5, 1) := by decide +kernel
theorem eX9_high_12 : decode mX9_high.2.1 12 = .ok (.invokevirtual 57, 3) := by decide +kernel
theorem eX9_high_15 : decode mX9_high.2.1 15 = .ok (.iload_n 2, 1) := by decide +kernel
theorem eX9_high_16 : decode mX9_high.2.1 16 = .ok (.iconst 1, 1) := by decide +kernel
theorem eX9_high_17 : decode mX9_high.2.1 17 = .ok (.iadd, 1) := by decide +kernel
theorem eX9_high_18 : decode mX9_high.2.1 18 = .ok (.aload_n 0, 1) := by decide +kernel
theorem eX9_high_19 : decode mX9_high.2.1 19 = .ok (.iload_n 1, 1) := by decide +kernel
theorem eX9_high_20 : decode mX9_high.2.1 20 = .ok (.bipush 6, 2) := by decide +kernel
theorem eX9_high_22 : decode mX9_high.2.1 22 = .ok (.invokevirtual 57, 3) := by decide +kernel
theorem eX9_high_25 : decode mX9_high.2.1 25 = .ok (.imul, 1) := by decide +kernel
theorem eX9_high_26 : decode mX9_high.2.1 26 = .ok (.invokestatic 47, 3) := by decide +kernel
theorem eX9_high_29 : decode mX9_high.2.1 29 = .ok (.goto 15, 3) := by decide +kernel
theorem eX9_high_32 : decode mX9_high.2.1 32 = .ok (.aload_n 0, 1) := by decide +kernel
theorem eX9_high_33 : decode mX9_high.2.1 33 = .ok (.iload_n 1, 1) := by decide +kernel
theorem eX9_high_34 : decode mX9_high.2.1 34 = .ok (.sipush 180, 3) := by decide +kernel
theorem eX9_high_37 : decode mX9_high.2.1 37 = .ok (.iload_n 2, 1) := by decide +kernel
theorem eX9_high_38 : decode mX9_high.2.1 38 = .ok (.iadd, 1) := by decide +kernel
theorem eX9_high_39 : decode mX9_high.2.1 39 = .ok (.invokevirtual 57, 3) := by decide +kernel
theorem eX9_high_42 : decode mX9_high.2.1 42 = .ok (.iconst 1, 1) := by decide +kernel
theorem eX9_high_43 : decode mX9_high.2.1 43 = .ok (.iadd, 1) := by decide +kernel
theorem eX9_high_44 : decode mX9_high.2.1 44 = .ok (.ireturn, 1) := by decide +kernel
theorem eX9_breadth_0 : decode mX9_breadth.2.1 0 = .ok (.aload_n 0, 1) := by decide +kernel
theorem eX9_breadth_1 : decode mX9_breadth.2.1 1 = .ok (.iload_n 1, 1) := by decide +kernel
theorem eX9_breadth_2 : decode mX9_breadth.2.1 2 = .ok (.iload_n 2, 1) := by decide +kernel
theorem eX9_breadth_3 : decode mX9_breadth.2.1 3 = .ok (.invokevirtual 117, 3) := by decide +kernel
theorem eX9_breadth_6 : decode mX9_breadth.2.1 6 = .ok (.ifCond .eq 27, 3) := by decide +kernel
theorem eX9_breadth_9 : decode mX9_breadth.2.1 9 = .ok (.aload_n 0, 1) := by decide +kernel
theorem eX9_breadth_10 : decode mX9_breadth.2.1 10 = .ok (.iload_n 1, 1) := by decide +kernel
theorem eX9_breadth_11 : decode mX9_breadth.2.1 11 = .ok (.iload_n 2, 1) := by decide +kernel
theorem eX9_breadth_12 : decode mX9_breadth.2.1 12 = .ok (.invokevirtual 121, 3) := by decide +kernel
theorem eX9_breadth_15 : decode mX9_breadth.2.1 15 = .ok (.aload_n 0, 1) := by decide +kernel
theorem eX9_breadth_16 : decode mX9_breadth.2.1 16 = .ok (.iload_n 1, 1) := by decide +kernel
theorem eX9_breadth_17 : decode mX9_breadth.2.1 17 = .ok (.iload_n 2, 1) := by decide +kernel
theorem eX9_breadth_18 : decode mX9_breadth.2.1 18 = .ok (.invokevirtual 124, 3) := by decide +kernel
theorem eX9_breadth_21 : decode mX9_breadth.2.1 21 = .ok (.isub, 1) := by decide +kernel
theorem eX9_breadth_22 : decode mX9_breadth.2.1 22 = .ok (.aload_n 0, 1) := by decide +kernel
theorem eX9_breadth_23 : decode mX9_breadth.2.1 23 = .ok (.iload_n 1, 1) := by decide +kernel
theorem eX9_breadth_24 : decode mX9_breadth.2.1 24 = .ok (.bipush 7, 2) := by decide +kernel
theorem eX9_breadth_26 : decode mX9_breadth.2.1 26 = .ok (.invokevirtual 57, 3) := by decide +kernel
theorem eX9_breadth_29 : decode mX9_breadth.2.1 29 = .ok (.iadd, 1) := by decide +kernel
theorem eX9_breadth_30 : decode mX9_breadth.2.1 30 = .ok (.goto 13, 3) := by decide +kernel
theorem eX9_breadth_33 : decode mX9_breadth.2.1 33 = .ok (.aload_n 0, 1) := by decide +kernel
theorem eX9_breadth_34 : decode mX9_breadth.2.1 34 = .ok (.iload_n 1, 1) := by decide +kernel
theorem eX9_breadth_35 : decode mX9_breadth.2.1 35 = .ok (.sipush 220, 3) := by decide +kernel
theorem eX9_breadth_38 : decode mX9_breadth.2.1 38 = .ok (.iload_n 2, 1) := by decide +kernel
theorem eX9_breadth_39 : decode mX9_breadth.2.1 39 = .ok (.iadd, 1) := by decide +kernel
theorem eX9_breadth_40 : decode mX9_breadth.2.1 40 = .ok (.invokevirtual 57, 3) := by decide +kernel
theorem eX9_breadth_43 : decode mX9_breadth.2.1 43 = .ok (.ireturn, 1) := by decide +kernel
theorem eX9_length_0 : decode mX9_length.2.1 0 = .ok (.aload_n 0, 1) := by decide +kernel
theorem eX9_length_1 : decode mX9_length.2.1 1 = .ok (.iload_n 1, 1) := by decide +kernel
theorem eX9_length_2 : decode mX9_length.2.1 2 = .ok (.iload_n 2, 1) := by decide +kernel
theorem eX9_length_3 : decode mX9_length.2.1 3 = .ok (.invokevirtual 117, 3) := by decide +kernel
theorem eX9_length_6 : decode mX9_length.2.1 6 = .ok (.ifCond .ne 14, 3) := by decide +kernel
theorem eX9_length_9 : decode mX9_length.2.1 9 = .ok (.aload_n 0, 1) := by decide +kernel
theorem eX9_length_10 : decode mX9_length.2.1 10 = .ok (.iload_n 1, 1) := by decide +kernel
theorem eX9_length_11 : decode mX9_length.2.1 11 = .ok (.sipush 260, 3) := by decide +kernel
theorem eX9_length_14 : decode mX9_length.2.1 14 = .ok (.iload_n 2, 1) := by decide +kernel
theorem eX9_length_15 : decode mX9_length.2.1 15 = .ok (.iadd, 1) := by decide +kernel
theorem eX9_length_16 : decode mX9_length.2.1 16 = .ok (.invokevirtual 57, 3) := by decide +kernel
theorem eX9_length_19 : decode mX9_length.2.1 19 = .ok (.ireturn, 1) := by decide +kernel
theorem eX9_length_20 : decode mX9_length.2.1 20 = .ok (.aload_n 0, 1) := by decide +kernel
theorem eX9_length_21 : decode mX9_length.2.1 21 = .ok (.iload_n 1, 1) := by decide +kernel
theorem eX9_length_22 : decode mX9_length.2.1 22 = .ok (.iconst 0, 1) := by decide +kernel
theorem eX9_length_23 : decode mX9_length.2.1 23 = .ok (.aload_n 0, 1) := by decide +kernel
theorem eX9_length_24 : decode mX9_length.2.1 24 = .ok (.iload_n 1, 1) := by decide +kernel
theorem eX9_length_25 : decode mX9_length.2.1 25 = .ok (.iload_n 2, 1) := by decide +kernel
theorem eX9_length_26 : decode mX9_length.2.1 26 = .ok (.invokevirtual 124, 3) := by decide +kernel
theorem eX9_length_29 : decode mX9_length.2.1 29 = .ok (.invokevirtual 107, 3) := by decide +kernel
theorem eX9_length_32 : decode mX9_length.2.1 32 = .ok (.istore_n 3, 1) := by decide +kernel
theorem eX9_length_33 : decode mX9_length.2.1 33 = .ok (.aload_n 0, 1) := by decide +kernel
theorem eX9_length_34 : decode mX9_length.2.1 34 = .ok (.iload_n 1, 1) := by decide +kernel
theorem eX9_length_35 : decode mX9_length.2.1 35 = .ok (.iconst 1, 1) := by decide +kernel
theorem eX9_length_36 : decode mX9_length.2.1 36 = .ok (.aload_n 0, 1) := by decide +kernel
theorem eX9_length_37 : decode mX9_length.2.1 37 = .ok (.iload_n 1, 1) := by decide +kernel
theorem eX9_length_38 : decode mX9_length.2.1 38 = .ok (.iload_n 2, 1) := by decide +kernel
theorem eX9_length_39 : decode mX9_length.2.1 39 = .ok (.invokevirtual 124, 3) := by decide +kernel
theorem eX9_length_42 : decode mX9_length.2.1 42 = .ok (.invokevirtual 107, 3) := by decide +kernel
theorem eX9_length_45 : decode mX9_length.2.1 45 = .ok (.istore 4, 2) := by decide +kernel
theorem eX9_length_47 : decode mX9_length.2.1 47 = .ok (.aload_n 0, 1) := by decide +kernel
theorem eX9_length_48 : decode mX9_length.2.1 48 = .ok (.iload_n 1, 1) := by decide +kernel
theorem eX9_length_49 : decode mX9_length.2.1 49 = .ok (.iload_n 2, 1) := by decide +kernel
theorem eX9_length_50 : decode mX9_length.2.1 50 = .ok (.invokevirtual 124, 3) := by decide +kernel
theorem eX9_length_53 : decode mX9_length.2.1 53 = .ok (.iconst 1, 1) := by decide +kernel
theorem eX9_length_54 : decode mX9_length.2.1 54 = .ok (.iadd, 1) := by decide +kernel
theorem eX9_length_55 : decode mX9_length.2.1 55 = .ok (.istore 5, 2) := by decide +kernel
theorem eX9_length_57 : decode mX9_length.2.1 57 = .ok (.iload 5, 2) := by decide +kernel
theorem eX9_length_59 : decode mX9_length.2.1 59 = .ok (.aload_n 0, 1) := by decide +kernel
theorem eX9_length_60 : decode mX9_length.2.1 60 = .ok (.iload_n 1, 1) := by decide +kernel
theorem eX9_length_61 : decode mX9_length.2.1 61 = .ok (.iload_n 2, 1) := by decide +kernel
theorem eX9_length_62 : decode mX9_length.2.1 62 = .ok (.invokevirtual 121, 3) := by decide +kernel
theorem eX9_length_65 : decode mX9_length.2.1 65 = .ok (.if_icmp .gt 37, 3) := by decide +kernel
theorem eX9_length_68 : decode mX9_length.2.1 68 = .ok (.iload_n 3, 1) := by decide +kernel
theorem eX9_length_69 : decode mX9_length.2.1 69 = .ok (.aload_n 0, 1) := by decide +kernel
theorem eX9_length_70 : decode mX9_length.2.1 70 = .ok (.iload_n 1, 1) := by decide +kernel
theorem eX9_length_71 : decode mX9_length.2.1 71 = .ok (.iconst 0, 1) := by decide +kernel
theorem eX9_length_72 : decode mX9_length.2.1 72 = .ok (.iload 5, 2) := by decide +kernel
theorem eX9_length_74 : decode mX9_length.2.1 74 = .ok (.invokevirtual 107, 3) := by decide +kernel
theorem eX9_length_77 : decode mX9_length.2.1 77 = .ok (.invokestatic 47, 3) := by decide +kernel
theorem eX9_length_80 : decode mX9_length.2.1 80 = .ok (.istore_n 3, 1) := by decide +kernel
theorem eX9_length_81 : decode mX9_length.2.1 81 = .ok (.iload 4, 2) := by decide +kernel
theorem eX9_length_83 : decode mX9_length.2.1 83 = .ok (.aload_n 0, 1) := by decide +kernel
theorem eX9_length_84 : decode mX9_length.2.1 84 = .ok (.iload_n 1, 1) := by decide +kernel
theorem eX9_length_85 : decode mX9_length.2.1 85 = .ok (.iconst 1, 1) := by decide +kernel
theorem eX9_length_86 : decode mX9_length.2.1 86 = .ok (.iload 5, 2) := by decide +kernel
theorem eX9_length_88 : decode mX9_length.2.1 88 = .ok (.invokevirtual 107, 3) := by decide +kernel
theorem eX9_length_91 : decode mX9_length.2.1 91 = .ok (.invokestatic 127, 3) := by decide +kernel
theorem eX9_length_94 : decode mX9_length.2.1 94 = .ok (.istore 4, 2) := by decide +kernel
theorem eX9_length_96 : decode mX9_length.2.1 96 = .ok (.iinc 5 1, 3) := by decide +kernel
theorem eX9_length_99 : decode mX9_length.2.1 99 = .ok (.goto (-42), 3) := by decide +kernel
theorem eX9_length_102 : decode mX9_length.2.1 102 = .ok (.iload 4, 2) := by decide +kernel
theorem eX9_length_104 : decode mX9_length.2.1 104 = .ok (.iload_n 3, 1) := by decide +kernel
theorem eX9_length_105 : decode mX9_length.2.1 105 = .ok (.isub, 1) := by decide +kernel
theorem eX9_length_106 : decode mX9_length.2.1 106 = .ok (.ireturn, 1) := by decide +kernel
theorem eX9_area_0 : decode mX9_area.2.1 0 = .ok (.aload_n 0, 1) := by decide +kernel
theorem eX9_area_1 : decode mX9_area.2.1 1 = .ok (.iload_n 1, 1) := by decide +kernel
theorem eX9_area_2 : decode mX9_area.2.1 2 = .ok (.iload_n 2, 1) := by decide +kernel
theorem eX9_area_3 : decode mX9_area.2.1 3 = .ok (.invokevirtual 117, 3) := by decide +kernel
theorem eX9_area_6 : decode mX9_area.2.1 6 = .ok (.ifCond .eq 23, 3) := by decide +kernel
theorem eX9_area_9 : decode mX9_area.2.1 9 = .ok (.aload_n 0, 1) := by decide +kernel
theorem eX9_area_10 : decode mX9_area.2.1 10 = .ok (.iload_n 1, 1) := by decide +kernel
theorem eX9_area_11 : decode mX9_area.2.1 11 = .ok (.aload_n 0, 1) := by decide +kernel
theorem eX9_area_12 : decode mX9_area.2.1 12 = .ok (.iload_n 1, 1) := by decide +kernel
theorem eX9_area_13 : decode mX9_area.2.1 13 = .ok (.iload_n 2, 1) := by decide +kernel
theorem eX9_area_14 : decode mX9_area.2.1 14 = .ok (.invokevirtual 124, 3) := by decide +kernel
theorem eX9_area_17 : decode mX9_area.2.1 17 = .ok (.aload_n 0, 1) := by decide +kernel
theorem eX9_area_18 : decode mX9_area.2.1 18 = .ok (.iload_n 1, 1) := by decide +kernel
theorem eX9_area_19 : decode mX9_area.2.1 19 = .ok (.iload_n 2, 1) := by decide +kernel
theorem eX9_area_20 : decode mX9_area.2.1 20 = .ok (.invokevirtual 121, 3) := by decide +kernel
theorem eX9_area_23 : decode mX9_area.2.1 23 = .ok (.invokevirtual 130, 3) := by decide +kernel
theorem eX9_area_26 : decode mX9_area.2.1 26 = .ok (.goto 26, 3) := by decide +kernel
theorem eX9_area_29 : decode mX9_area.2.1 29 = .ok (.iconst 2, 1) := by decide +kernel
theorem eX9_area_30 : decode mX9_area.2.1 30 = .ok (.aload_n 0, 1) := by decide +kernel
theorem eX9_area_31 : decode mX9_area.2.1 31 = .ok (.iload_n 1, 1) := by decide +kernel
theorem eX9_area_32 : decode mX9_area.2.1 32 = .ok (.sipush 220, 3) := by decide +kernel
theorem eX9_area_35 : decode mX9_area.2.1 35 = .ok (.iload_n 2, 1) := by decide +kernel
theorem eX9_area_36 : decode mX9_area.2.1 36 = .ok (.iadd, 1) := by decide +kernel
theorem eX9_area_37 : decode mX9_area.2.1 37 = .ok (.invokevirtual 57, 3) := by decide +kernel
theorem eX9_area_40 : decode mX9_area.2.1 40 = .ok (.imul, 1) := by decide +kernel
theorem eX9_area_41 : decode mX9_area.2.1 41 = .ok (.aload_n 0, 1) := by decide +kernel
theorem eX9_area_42 : decode mX9_area.2.1 42 = .ok (.iload_n 1, 1) := by decide +kernel
theorem eX9_area_43 : decode mX9_area.2.1 43 = .ok (.sipush 260, 3) := by decide +kernel
theorem eX9_area_46 : decode mX9_area.2.1 46 = .ok (.iload_n 2, 1) := by decide +kernel
theorem eX9_area_47 : decode mX9_area.2.1 47 = .ok (.iadd, 1) := by decide +kernel
theorem eX9_area_48 : decode mX9_area.2.1 48 = .ok (.invokevirtual 57, 3) := by decide +kernel
theorem eX9_area_51 : decode mX9_area.2.1 51 = .ok (.imul, 1) := by decide +kernel
theorem eX9_area_52 : decode mX9_area.2.1 52 = .ok (.ireturn, 1) := by decide +kernel
theorem eX9_weight_0 : decode mX9_weight.2.1 0 = .ok (.aload_n 0, 1) := by decide +kernel
theorem eX9_weight_1 : decode mX9_weight.2.1 1 = .ok (.iload_n 1, 1) := by decide +kernel
theorem eX9_weight_2 : decode mX9_weight.2.1 2 = .ok (.sipush 300, 3) := by decide +kernel
theorem eX9_weight_5 : decode mX9_weight.2.1 5 = .ok (.iload_n 2, 1) := by decide +kernel
theorem eX9_weight_6 : decode mX9_weight.2.1 6 = .ok (.iadd, 1) := by decide +kernel
theorem eX9_weight_7 : decode mX9_weight.2.1 7 = .ok (.invokevirtual 57, 3) := by decide +kernel
theorem eX9_weight_10 : decode mX9_weight.2.1 10 = .ok (.istore_n 3, 1) := by decide +kernel
theorem eX9_weight_11 : decode mX9_weight.2.1 11 = .ok (.iload_n 3, 1) := by decide +kernel
theorem eX9_weight_12 : decode mX9_weight.2.1 12 = .ok (.iconst (-1), 1) := by decide +kernel
theorem eX9_weight_13 : decode mX9_weight.2.1 13 = .ok (.if_icmp .ne 5, 3) := by decide +kernel
theorem eX9_weight_16 : decode mX9_weight.2.1 16 = .ok (.iconst 0, 1) := by decide +kernel
theorem eX9_weight_17 : decode mX9_weight.2.1 17 = .ok (.ireturn, 1) := by decide +kernel
theorem eX9_weight_18 : decode mX9_weight.2.1 18 = .ok (.aload_n 0, 1) := by decide +kernel
theorem eX9_weight_19 : decode mX9_weight.2.1 19 = .ok (.iload_n 3, 1) := by decide +kernel
theorem eX9_weight_20 : decode mX9_weight.2.1 20 = .ok (.iconst 2, 1) := by decide +kernel
theorem eX9_weight_21 : decode mX9_weight.2.1 21 = .ok (.invokevirtual 92, 3) := by decide +kernel
theorem eX9_weight_24 : decode mX9_weight.2.1 24 = .ok (.invokestatic 64, 3) := by decide +kernel
theorem eX9_weight_27 : decode mX9_weight.2.1 27 = .ok (.aload_n 0, 1) := by decide +kernel
theorem eX9_weight_28 : decode mX9_weight.2.1 28 = .ok (.iload_n 1, 1) := by decide +kernel
theorem eX9_weight_29 : decode mX9_weight.2.1 29 = .ok (.iload_n 2, 1) := by decide +kernel
theorem eX9_weight_30 : decode mX9_weight.2.1 30 = .ok (.invokevirtual 133, 3) := by decide +kernel
theorem eX9_weight_33 : decode mX9_weight.2.1 33 = .ok (.i2f, 1) := by decide +kernel
theorem eX9_weight_34 : decode mX9_weight.2.1 34 = .ok (.fmul, 1) := by decide +kernel
theorem eX9_weight_35 : decode mX9_weight.2.1 35 = .ok (.fconst 2, 1) := by decide +kernel
theorem eX9_weight_36 : decode mX9_weight.2.1 36 = .ok (.fdiv, 1) := by decide +kernel
theorem eX9_weight_37 : decode mX9_weight.2.1 37 = .ok (.fstore 4, 2) := by decide +kernel
theorem eX9_weight_39 : decode mX9_weight.2.1 39 = .ok (.ldc 136, 2) := by decide +kernel
theorem eX9_weight_41 : decode mX9_weight.2.1 41 = .ok (.fload 4, 2) := by decide +kernel
theorem eX9_weight_43 : decode mX9_weight.2.1 43 = .ok (.f2i, 1) := by decide +kernel
theorem eX9_weight_44 : decode mX9_weight.2.1 44 = .ok (.invokestatic 47, 3) := by decide +kernel
theorem eX9_weight_47 : decode mX9_weight.2.1 47 = .ok (.ireturn, 1) := by decide +kernel
theorem eX9_narrow_0 : decode mX9_narrow.2.1 0 = .ok (.aload_n 0, 1) := by decide +kernel
theorem eX9_narrow_1 : decode mX9_narrow.2.1 1 = .ok (.iload_n 1, 1) := by decide +kernel
theorem eX9_narrow_2 : decode mX9_narrow.2.1 2 = .ok (.invokevirtual 137, 3) := by decide +kernel
theorem eX9_narrow_5 : decode mX9_narrow.2.1 5 = .ok (.ifCond .eq 30, 3) := by decide +kernel
theorem eX9_narrow_8 : decode mX9_narrow.2.1 8 = .ok (.iload_n 2, 1) := by decide +kernel
theorem eX9_narrow_9 : decode mX9_narrow.2.1 9 = .ok (.iconst 0, 1) := by decide +kernel
theorem eX9_narrow_10 : decode mX9_narrow.2.1 10 = .ok (.aload_n 0, 1) := by decide +kernel
theorem eX9_narrow_11 : decode mX9_narrow.2.1 11 = .ok (.iload_n 1, 1) := by decide +kernel
theorem eX9_narrow_12 : decode mX9_narrow.2.1 12 = .ok (.bipush 8, 2) := by decide +kernel
theorem eX9_narrow_14 : decode mX9_narrow.2.1 14 = .ok (.invokevirtual 57, 3) := by decide +kernel
theorem eX9_narrow_17 : decode mX9_narrow.2.1 17 = .ok (.iconst 2, 1) := by decide +kernel
theorem eX9_narrow_18 : decode mX9_narrow.2.1 18 = .ok (.isub, 1) := by decide +kernel
theorem eX9_narrow_19 : decode mX9_narrow.2.1 19 = .ok (.invokestatic 70, 3) := by decide +kernel
theorem eX9_narrow_22 : decode mX9_narrow.2.1 22 = .ok (.ifCond .eq 13, 3) := by decide +kernel
theorem eX9_narrow_25 : decode mX9_narrow.2.1 25 = .ok (.iload_n 3, 1) := by decide +kernel
theorem eX9_narrow_26 : decode mX9_narrow.2.1 26 = .ok (.iconst 0, 1) := by decide +kernel
theorem eX9_narrow_27 : decode mX9_narrow.2.1 27 = .ok (.bipush 50, 2) := by decide +kernel
theorem eX9_narrow_29 : decode mX9_narrow.2.1 29 = .ok (.invokestatic 70, 3) := by decide +kernel
theorem eX9_narrow_32 : decode mX9_narrow.2.1 32 = .ok (.ifCond .ne 5, 3) := by decide +kernel
theorem eX9_narrow_35 : decode mX9_narrow.2.1 35 = .ok (.iconst 0, 1) := by decide +kernel
theorem eX9_narrow_36 : decode mX9_narrow.2.1 36 = .ok (.ireturn, 1) := by decide +kernel
theorem eX9_narrow_37 : decode mX9_narrow.2.1 37 = .ok (.aload_n 0, 1) := by decide +kernel
theorem eX9_narrow_38 : decode mX9_narrow.2.1 38 = .ok (.invokevirtual 75, 3) := by decide +kernel
theorem eX9_narrow_41 : decode mX9_narrow.2.1 41 = .ok (.aload_n 0, 1) := by decide +kernel
theorem eX9_narrow_42 : decode mX9_narrow.2.1 42 = .ok (.iload_n 1, 1) := by decide +kernel
theorem eX9_narrow_43 : decode mX9_narrow.2.1 43 = .ok (.sipush 140, 3) := by decide +kernel
theorem eX9_narrow_46 : decode mX9_narrow.2.1 46 = .ok (.iload_n 2, 1) := by decide +kernel
theorem eX9_narrow_47 : decode mX9_narrow.2.1 47 = .ok (.iadd, 1) := by decide +kernel
theorem eX9_narrow_48 : decode mX9_narrow.2.1 48 = .ok (.iload_n 3, 1) := by decide +kernel
theorem eX9_narrow_49 : decode mX9_narrow.2.1 49 = .ok (.invokevirtual 101, 3) := by decide +kernel
theorem eX9_narrow_52 : decode mX9_narrow.2.1 52 = .ok (.iconst 1, 1) := by decide +kernel
theorem eX9_narrow_53 : decode mX9_narrow.2.1 53 = .ok (.ireturn, 1) := by decide +kernel
theorem eX9_patch_0 : decode mX9_patch.2.1 0 = .ok (.aload_n 0, 1) := by decide +kernel
theorem eX9_patch_1 : decode mX9_patch.2.1 1 = .ok (.iload_n 1, 1) := by decide +kernel
theorem eX9_patch_2 : decode mX9_patch.2.1 2 = .ok (.invokevirtual 137, 3) := by decide +kernel
theorem eX9_patch_5 : decode mX9_patch.2.1 5 = .ok (.ifCond .eq 50, 3) := by decide +kernel
theorem eX9_patch_8 : decode mX9_patch.2.1 8 = .ok (.iload_n 2, 1) := by decide +kernel
theorem eX9_patch_9 : decode mX9_patch.2.1 9 = .ok (.iconst 0, 1) := by decide +kernel
theorem eX9_patch_10 : decode mX9_patch.2.1 10 = .ok (.aload_n 0, 1) := by decide +kernel
theorem eX9_patch_11 : decode mX9_patch.2.1 11 = .ok (.iload_n 1, 1) := by decide +kernel
theorem eX9_patch_12 : decode mX9_patch.2.1 12 = .ok (.iconst 5, 1) := by decide +kernel
theorem eX9_patch_13 : decode mX9_patch.2.1 13 = .ok (.invokevirtual 57, 3) := by decide +kernel
theorem eX9_patch_16 : decode mX9_patch.2.1 16 = .ok (.iconst 1, 1) := by decide +kernel
theorem eX9_patch_17 : decode mX9_patch.2.1 17 = .ok (.isub, 1) := by decide +kernel
theorem eX9_patch_18 : decode mX9_patch.2.1 18 = .ok (.invokestatic 70, 3) := by decide +kernel
theorem eX9_patch_21 : decode mX9_patch.2.1 21 = .ok (.ifCond .eq 34, 3) := by decide +kernel
theorem eX9_patch_24 : decode mX9_patch.2.1 24 = .ok (.iload_n 3, 1) := by decide +kernel
theorem eX9_patch_25 : decode mX9_patch.2.1 25 = .ok (.iconst 1, 1) := by decide +kernel
theorem eX9_patch_26 : decode mX9_patch.2.1 26 = .ok (.bipush 20, 2) := by decide +kernel
theorem eX9_patch_28 : decode mX9_patch.2.1 28 = .ok (.invokestatic 70, 3) := by decide +kernel
theorem eX9_patch_31 : decode mX9_patch.2.1 31 = .ok (.ifCond .eq 24, 3) := by decide +kernel
theorem eX9_patch_34 : decode mX9_patch.2.1 34 = .ok (.iload 4, 2) := by decide +kernel
theorem eX9_patch_36 : decode mX9_patch.2.1 36 = .ok (.iconst 1, 1) := by decide +kernel
theorem eX9_patch_37 : decode mX9_patch.2.1 37 = .ok (.bipush 100, 2) := by decide +kernel
theorem eX9_patch_39 : decode mX9_patch.2.1 39 = .ok (.invokestatic 70, 3) := by decide +kernel
theorem eX9_patch_42 : decode mX9_patch.2.1 42 = .ok (.ifCond .eq 13, 3) := by decide +kernel
theorem eX9_patch_45 : decode mX9_patch.2.1 45 = .ok (.aload_n 0, 1) := by decide +kernel
theorem eX9_patch_46 : decode mX9_patch.2.1 46 = .ok (.iload_n 1, 1) := by decide +kernel
theorem eX9_patch_47 : decode mX9_patch.2.1 47 = .ok (.invokevirtual 82, 3) := by decide +kernel
theorem eX9_patch_50 : decode mX9_patch.2.1 50 = .ok (.bipush 40, 2) := by decide +kernel
theorem eX9_patch_52 : decode mX9_patch.2.1 52 = .ok (.if_icmp .ne 5, 3) := by decide +kernel
theorem eX9_patch_55 : decode mX9_patch.2.1 55 = .ok (.iconst (-1), 1) := by decide +kernel
theorem eX9_patch_56 : decode mX9_patch.2.1 56 = .ok (.ireturn, 1) := by decide +kernel
theorem eX9_patch_57 : decode mX9_patch.2.1 57 = .ok (.aload_n 0, 1) := by decide +kernel
theorem eX9_patch_58 : decode mX9_patch.2.1 58 = .ok (.invokevirtual 75, 3) := by decide +kernel
theorem eX9_patch_61 : decode mX9_patch.2.1 61 = .ok (.aload_n 0, 1) := by decide +kernel
theorem eX9_patch_62 : decode mX9_patch.2.1 62 = .ok (.iload_n 1, 1) := by decide +kernel
theorem eX9_patch_63 : decode mX9_patch.2.1 63 = .ok (.invokevirtual 82, 3) := by decide +kernel
theorem eX9_patch_66 : decode mX9_patch.2.1 66 = .ok (.istore 5, 2) := by decide +kernel
theorem eX9_patch_68 : decode mX9_patch.2.1 68 = .ok (.aload_n 0, 1) := by decide +kernel
theorem eX9_patch_69 : decode mX9_patch.2.1 69 = .ok (.iload_n 1, 1) := by decide +kernel
theorem eX9_patch_70 : decode mX9_patch.2.1 70 = .ok (.sipush 180, 3) := by decide +kernel
theorem eX9_patch_73 : decode mX9_patch.2.1 73 = .ok (.iload 5, 2) := by decide +kernel
theorem eX9_patch_75 : decode mX9_patch.2.1 75 = .ok (.iadd, 1) := by decide +kernel
theorem eX9_patch_76 : decode mX9_patch.2.1 76 = .ok (.iload_n 2, 1) := by decide +kernel
theorem eX9_patch_77 : decode mX9_patch.2.1 77 = .ok (.invokevirtual 101, 3) := by decide +kernel
theorem eX9_patch_80 : decode mX9_patch.2.1 80 = .ok (.aload_n 0, 1) := by decide +kernel
theorem eX9_patch_81 : decode mX9_patch.2.1 81 = .ok (.iload_n 1, 1) := by decide +kernel
theorem eX9_patch_82 : decode mX9_patch.2.1 82 = .ok (.sipush 220, 3) := by decide +kernel
theorem eX9_patch_85 : decode mX9_patch.2.1 85 = .ok (.iload 5, 2) := by decide +kernel
theorem eX9_patch_87 : decode mX9_patch.2.1 87 = .ok (.iadd, 1) := by decide +kernel
theorem eX9_patch_88 : decode mX9_patch.2.1 88 = .ok (.iload_n 3, 1) := by decide +kernel
theorem eX9_patch_89 : decode mX9_patch.2.1 89 = .ok (.invokevirtual 101, 3) := by decide +kernel
theorem eX9_patch_92 : decode mX9_patch.2.1 92 = .ok (.aload_n 0, 1) := by decide +kernel
theorem eX9_patch_93 : decode mX9_patch.2.1 93 = .ok (.iload_n 1, 1) := by decide +kernel
theorem eX9_patch_94 : decode mX9_patch.2.1 94 = .ok (.sipush 260, 3) := by decide +kernel
theorem eX9_patch_97 : decode mX9_patch.2.1 97 = .ok (.iload 5, 2) := by decide +kernel
theorem eX9_patch_99 : decode mX9_patch.2.1 99 = .ok (.iadd, 1) := by decide +kernel
theorem eX9_patch_100 : decode mX9_patch.2.1 100 = .ok (.iload 4, 2) := by decide +kernel
theorem eX9_patch_102 : decode mX9_patch.2.1 102 = .ok (.invokevirtual 101, 3) := by decide +kernel
theorem eX9_patch_105 : decode mX9_patch.2.1 105 = .ok (.aload_n 0, 1) := by decide +kernel
theorem eX9_patch_106 : decode mX9_patch.2.1 106 = .ok (.iload_n 1, 1) := by decide +kernel
theorem eX9_patch_107 : decode mX9_patch.2.1 107 = .ok (.bipush 9, 2) := by decide +kernel
theorem eX9_patch_109 : decode mX9_patch.2.1 109 = .ok (.aload_n 0, 1) := by decide +kernel
theorem eX9_patch_110 : decode mX9_patch.2.1 110 = .ok (.iload_n 1, 1) := by decide +kernel
theorem eX9_patch_111 : decode mX9_patch.2.1 111 = .ok (.bipush 9, 2) := by decide +kernel
theorem eX9_patch_113 : decode mX9_patch.2.1 113 = .ok (.invokevirtual 57, 3) := by decide +kernel
theorem eX9_patch_116 : decode mX9_patch.2.1 116 = .ok (.iconst 1, 1) := by decide +kernel
theorem eX9_patch_117 : decode mX9_patch.2.1 117 = .ok (.iadd, 1) := by decide +kernel
theorem eX9_patch_118 : decode mX9_patch.2.1 118 = .ok (.invokevirtual 101, 3) := by decide +kernel
theorem eX9_patch_121 : decode mX9_patch.2.1 121 = .ok (.iload 5, 2) := by decide +kernel
theorem eX9_patch_123 : decode mX9_patch.2.1 123 = .ok (.ireturn, 1) := by decide +kernel
theorem eX9_told_0 : decode mX9_told.2.1 0 = .ok (.aload_n 0, 1) := by decide +kernel
theorem eX9_told_1 : decode mX9_told.2.1 1 = .ok (.iload_n 1, 1) := by decide +kernel
theorem eX9_told_2 : decode mX9_told.2.1 2 = .ok (.invokevirtual 53, 3) := by decide +kernel
theorem eX9_told_5 : decode mX9_told.2.1 5 = .ok (.ifCond .ne 5, 3) := by decide +kernel
theorem eX9_told_8 : decode mX9_told.2.1 8 = .ok (.iconst (-1), 1) := by decide +kernel
theorem eX9_told_9 : decode mX9_told.2.1 9 = .ok (.ireturn, 1) := by decide +kernel
theorem eX9_told_10 : decode mX9_told.2.1 10 = .ok (.iload_n 2, 1) := by decide +kernel
theorem eX9_told_11 : decode mX9_told.2.1 11 = .ok (.tableswitch 149 0 8 #[49, 56, 64, 72, 85, 93, 101, 134, 142], 49) := by decide +kernel
theorem eX9_told_60 : decode mX9_told.2.1 60 = .ok (.aload_n 0, 1) := by decide +kernel
theorem eX9_told_61 : decode mX9_told.2.1 61 = .ok (.iload_n 1, 1) := by decide +kernel
theorem eX9_told_62 : decode mX9_told.2.1 62 = .ok (.iconst 0, 1) := by decide +kernel
theorem eX9_told_63 : decode mX9_told.2.1 63 = .ok (.invokevirtual 57, 3) := by decide +kernel
theorem eX9_told_66 : decode mX9_told.2.1 66 = .ok (.ireturn, 1) := by decide +kernel
theorem eX9_told_67 : decode mX9_told.2.1 67 = .ok (.aload_n 0, 1) := by decide +kernel
theorem eX9_told_68 : decode mX9_told.2.1 68 = .ok (.iload_n 1, 1) := by decide +kernel
theorem eX9_told_69 : decode mX9_told.2.1 69 = .ok (.bipush 8, 2) := by decide +kernel
theorem eX9_told_71 : decode mX9_told.2.1 71 = .ok (.invokevirtual 57, 3) := by decide +kernel
theorem eX9_told_74 : decode mX9_told.2.1 74 = .ok (.ireturn, 1) := by decide +kernel
theorem eX9_told_75 : decode mX9_told.2.1 75 = .ok (.aload_n 0, 1) := by decide +kernel
theorem eX9_told_76 : decode mX9_told.2.1 76 = .ok (.iload_n 1, 1) := by decide +kernel
theorem eX9_told_77 : decode mX9_told.2.1 77 = .ok (.bipush 9, 2) := by decide +kernel
theorem eX9_told_79 : decode mX9_told.2.1 79 = .ok (.invokevirtual 57, 3) := by decide +kernel
theorem eX9_told_82 : decode mX9_told.2.1 82 = .ok (.ireturn, 1) := by decide +kernel
theorem eX9_told_83 : decode mX9_told.2.1 83 = .ok (.aload_n 0, 1) := by decide +kernel
theorem eX9_told_84 : decode mX9_told.2.1 84 = .ok (.iload_n 1, 1) := by decide +kernel
theorem eX9_told_85 : decode mX9_told.2.1 85 = .ok (.iconst 0, 1) := by decide +kernel
theorem eX9_told_86 : decode mX9_told.2.1 86 = .ok (.aload_n 0, 1) := by decide +kernel
theorem eX9_told_87 : decode mX9_told.2.1 87 = .ok (.iload_n 1, 1) := by decide +kernel
theorem eX9_told_88 : decode mX9_told.2.1 88 = .ok (.iconst 5, 1) := by decide +kernel
theorem eX9_told_89 : decode mX9_told.2.1 89 = .ok (.invokevirtual 57, 3) := by decide +kernel
theorem eX9_told_92 : decode mX9_told.2.1 92 = .ok (.invokevirtual 130, 3) := by decide +kernel
theorem eX9_told_95 : decode mX9_told.2.1 95 = .ok (.ireturn, 1) := by decide +kernel
theorem eX9_told_96 : decode mX9_told.2.1 96 = .ok (.aload_n 0, 1) := by decide +kernel
theorem eX9_told_97 : decode mX9_told.2.1 97 = .ok (.iload_n 1, 1) := by decide +kernel
theorem eX9_told_98 : decode mX9_told.2.1 98 = .ok (.bipush 10, 2) := by decide +kernel
theorem eX9_told_100 : decode mX9_told.2.1 100 = .ok (.invokevirtual 57, 3) := by decide +kernel
theorem eX9_told_103 : decode mX9_told.2.1 103 = .ok (.ireturn, 1) := by decide +kernel
theorem eX9_told_104 : decode mX9_told.2.1 104 = .ok (.aload_n 0, 1) := by decide +kernel
theorem eX9_told_105 : decode mX9_told.2.1 105 = .ok (.iload_n 1, 1) := by decide +kernel
theorem eX9_told_106 : decode mX9_told.2.1 106 = .ok (.bipush 11, 2) := by decide +kernel
theorem eX9_told_108 : decode mX9_told.2.1 108 = .ok (.invokevirtual 57, 3) := by decide +kernel
theorem eX9_told_111 : decode mX9_told.2.1 111 = .ok (.ireturn, 1) := by decide +kernel
theorem eX9_told_112 : decode mX9_told.2.1 112 = .ok (.iconst 0, 1) := by decide +kernel
theorem eX9_told_113 : decode mX9_told.2.1 113 = .ok (.istore_n 3, 1) := by decide +kernel
theorem eX9_told_114 : decode mX9_told.2.1 114 = .ok (.iconst 0, 1) := by decide +kernel
theorem eX9_told_115 : decode mX9_told.2.1 115 = .ok (.istore 4, 2) := by decide +kernel
theorem eX9_told_117 : decode mX9_told.2.1 117 = .ok (.iload 4, 2) := by decide +kernel
theorem eX9_told_119 : decode mX9_told.2.1 119 = .ok (.aload_n 0, 1) := by decide +kernel
theorem eX9_told_120 : decode mX9_told.2.1 120 = .ok (.iload_n 1, 1) := by decide +kernel
theorem eX9_told_121 : decode mX9_told.2.1 121 = .ok (.invokevirtual 82, 3) := by decide +kernel
theorem eX9_told_124 : decode mX9_told.2.1 124 = .ok (.if_icmp .ge 19, 3) := by decide +kernel
theorem eX9_told_127 : decode mX9_told.2.1 127 = .ok (.iload_n 3, 1) := by decide +kernel
theorem eX9_told_128 : decode mX9_told.2.1 128 = .ok (.aload_n 0, 1) := by decide +kernel
theorem eX9_told_129 : decode mX9_told.2.1 129 = .ok (.iload_n 1, 1) := by decide +kernel
theorem eX9_told_130 : decode mX9_told.2.1 130 = .ok (.iload 4, 2) := by decide +kernel
theorem eX9_told_132 : decode mX9_told.2.1 132 = .ok (.invokevirtual 140, 3) := by decide +kernel
theorem eX9_told_135 : decode mX9_told.2.1 135 = .ok (.iadd, 1) := by decide +kernel
theorem eX9_told_136 : decode mX9_told.2.1 136 = .ok (.istore_n 3, 1) := by decide +kernel
theorem eX9_told_137 : decode mX9_told.2.1 137 = .ok (.iinc 4 1, 3) := by decide +kernel
theorem eX9_told_140 : decode mX9_told.2.1 140 = .ok (.goto (-23), 3) := by decide +kernel
theorem eX9_told_143 : decode mX9_told.2.1 143 = .ok (.iload_n 3, 1) := by decide +kernel
theorem eX9_told_144 : decode mX9_told.2.1 144 = .ok (.ireturn, 1) := by decide +kernel
theorem eX9_told_145 : decode mX9_told.2.1 145 = .ok (.aload_n 0, 1) := by decide +kernel
theorem eX9_told_146 : decode mX9_told.2.1 146 = .ok (.iload_n 1, 1) := by decide +kernel
theorem eX9_told_147 : decode mX9_told.2.1 147 = .ok (.bipush 12, 2) := by decide +kernel
theorem eX9_told_149 : decode mX9_told.2.1 149 = .ok (.invokevirtual 57, 3) := by decide +kernel
theorem eX9_told_152 : decode mX9_told.2.1 152 = .ok (.ireturn, 1) := by decide +kernel
theorem eX9_told_153 : decode mX9_told.2.1 153 = .ok (.aload_n 0, 1) := by decide +kernel
theorem eX9_told_154 : decode mX9_told.2.1 154 = .ok (.iload_n 1, 1) := by decide +kernel
theorem eX9_told_155 : decode mX9_told.2.1 155 = .ok (.iconst 5, 1) := by decide +kernel
theorem eX9_told_156 : decode mX9_told.2.1 156 = .ok (.invokevirtual 57, 3) := by decide +kernel
theorem eX9_told_159 : decode mX9_told.2.1 159 = .ok (.ireturn, 1) := by decide +kernel
theorem eX9_told_160 : decode mX9_told.2.1 160 = .ok (.iconst (-1), 1) := by decide +kernel
theorem eX9_told_161 : decode mX9_told.2.1 161 = .ok (.ireturn, 1) := by decide +kernel
theorem eX9_panel_0 : decode mX9_panel.2.1 0 = .ok (.aload_n 0, 1) := by decide +kernel
theorem eX9_panel_1 : decode mX9_panel.2.1 1 = .ok (.iload_n 1, 1) := by decide +kernel
theorem eX9_panel_2 : decode mX9_panel.2.1 2 = .ok (.invokevirtual 53, 3) := by decide +kernel
theorem eX9_panel_5 : decode mX9_panel.2.1 5 = .ok (.ifCond .eq 16, 3) := by decide +kernel
theorem eX9_panel_8 : decode mX9_panel.2.1 8 = .ok (.iload_n 2, 1) := by decide +kernel
theorem eX9_panel_9 : decode mX9_panel.2.1 9 = .ok (.ifCond .lt 12, 3) := by decide +kernel
theorem eX9_panel_12 : decode mX9_panel.2.1 12 = .ok (.iload_n 2, 1) := by decide +kernel
theorem eX9_panel_13 : decode mX9_panel.2.1 13 = .ok (.aload_n 0, 1) := by decide +kernel
theorem eX9_panel_14 : decode mX9_panel.2.1 14 = .ok (.iload_n 1, 1) := by decide +kernel
theorem eX9_panel_15 : decode mX9_panel.2.1 15 = .ok (.invokevirtual 82, 3) := by decide +kernel
theorem eX9_panel_18 : decode mX9_panel.2.1 18 = .ok (.if_icmp .lt 5, 3) := by decide +kernel
theorem eX9_panel_21 : decode mX9_panel.2.1 21 = .ok (.iconst (-1), 1) := by decide +kernel
theorem eX9_panel_22 : decode mX9_panel.2.1 22 = .ok (.ireturn, 1) := by decide +kernel
theorem eX9_panel_23 : decode mX9_panel.2.1 23 = .ok (.aload_n 0, 1) := by decide +kernel
theorem eX9_panel_24 : decode mX9_panel.2.1 24 = .ok (.iload_n 1, 1) := by decide +kernel
theorem eX9_panel_25 : decode mX9_panel.2.1 25 = .ok (.iload_n 2, 1) := by decide +kernel
theorem eX9_panel_26 : decode mX9_panel.2.1 26 = .ok (.invokevirtual 117, 3) := by decide +kernel
theorem eX9_panel_29 : decode mX9_panel.2.1 29 = .ok (.istore 4, 2) := by decide +kernel
theorem eX9_panel_31 : decode mX9_panel.2.1 31 = .ok (.aload_n 0, 1) := by decide +kernel
theorem eX9_panel_32 : decode mX9_panel.2.1 32 = .ok (.iload_n 1, 1) := by decide +kernel
theorem eX9_panel_33 : decode mX9_panel.2.1 33 = .ok (.sipush 300, 3) := by decide +kernel
theorem eX9_panel_36 : decode mX9_panel.2.1 36 = .ok (.iload_n 2, 1) := by decide +kernel
theorem eX9_panel_37 : decode mX9_panel.2.1 37 = .ok (.iadd, 1) := by decide +kernel
theorem eX9_panel_38 : decode mX9_panel.2.1 38 = .ok (.invokevirtual 57, 3) := by decide +kernel
theorem eX9_panel_41 : decode mX9_panel.2.1 41 = .ok (.istore 5, 2) := by decide +kernel
theorem eX9_panel_43 : decode mX9_panel.2.1 43 = .ok (.iload_n 3, 1) := by decide +kernel
theorem eX9_panel_44 : decode mX9_panel.2.1 44 = .ok (.tableswitch 181 0 9 #[56, 105, 112, 119, 126, 133, 140, 143, 154, 161], 56) := by decide +kernel
theorem eX9_panel_100 : decode mX9_panel.2.1 100 = .ok (.iload 4, 2) := by decide +kernel
theorem eX9_panel_102 : decode mX9_panel.2.1 102 = .ok (.ifCond .ne 7, 3) := by decide +kernel
theorem eX9_panel_105 : decode mX9_panel.2.1 105 = .ok (.iconst 2, 1) := by decide +kernel
theorem eX9_panel_106 : decode mX9_panel.2.1 106 = .ok (.goto 42, 3) := by decide +kernel
theorem eX9_panel_109 : decode mX9_panel.2.1 109 = .ok (.iload 5, 2) := by decide +kernel
theorem eX9_panel_111 : decode mX9_panel.2.1 111 = .ok (.iconst (-1), 1) := by decide +kernel
theorem eX9_panel_112 : decode mX9_panel.2.1 112 = .ok (.if_icmp .eq 18, 3) := by decide +kernel
theorem eX9_panel_115 : decode mX9_panel.2.1 115 = .ok (.aload_n 0, 1) := by decide +kernel
theorem eX9_panel_116 : decode mX9_panel.2.1 116 = .ok (.iload 5, 2) := by decide +kernel
theorem eX9_panel_118 : decode mX9_panel.2.1 118 = .ok (.iconst 4, 1) := by decide +kernel
theorem eX9_panel_119 : decode mX9_panel.2.1 119 = .ok (.invokevirtual 92, 3) := by decide +kernel
theorem eX9_panel_122 : decode mX9_panel.2.1 122 = .ok (.iconst (-1), 1) := by decide +kernel
theorem eX9_panel_123 : decode mX9_panel.2.1 123 = .ok (.if_icmp .eq 7, 3) := by decide +kernel
theorem eX9_panel_126 : decode mX9_panel.2.1 126 = .ok (.iconst 3, 1) := by decide +kernel
theorem eX9_panel_127 : decode mX9_panel.2.1 127 = .ok (.goto 21, 3) := by decide +kernel
theorem eX9_panel_130 : decode mX9_panel.2.1 130 = .ok (.aload_n 0, 1) := by decide +kernel
theorem eX9_panel_131 : decode mX9_panel.2.1 131 = .ok (.iload_n 1, 1) := by decide +kernel
theorem eX9_panel_132 : decode mX9_panel.2.1 132 = .ok (.sipush 140, 3) := by decide +kernel
theorem eX9_panel_135 : decode mX9_panel.2.1 135 = .ok (.iload_n 2, 1) := by decide +kernel
theorem eX9_panel_136 : decode mX9_panel.2.1 136 = .ok (.iadd, 1) := by decide +kernel
theorem eX9_panel_137 : decode mX9_panel.2.1 137 = .ok (.invokevirtual 57, 3) := by decide +kernel
theorem eX9_panel_140 : decode mX9_panel.2.1 140 = .ok (.ifCond .le 7, 3) := by decide +kernel
theorem eX9_panel_143 : decode mX9_panel.2.1 143 = .ok (.iconst 1, 1) := by decide +kernel
theorem eX9_panel_144 : decode mX9_panel.2.1 144 = .ok (.goto 4, 3) := by decide +kernel
theorem eX9_panel_147 : decode mX9_panel.2.1 147 = .ok (.iconst 0, 1) := by decide +kernel
theorem eX9_panel_148 : decode mX9_panel.2.1 148 = .ok (.ireturn, 1) := by decide +kernel
theorem eX9_panel_149 : decode mX9_panel.2.1 149 = .ok (.aload_n 0, 1) := by decide +kernel
theorem eX9_panel_150 : decode mX9_panel.2.1 150 = .ok (.iload_n 1, 1) := by decide +kernel
theorem eX9_panel_151 : decode mX9_panel.2.1 151 = .ok (.iload_n 2, 1) := by decide +kernel
theorem eX9_panel_152 : decode mX9_panel.2.1 152 = .ok (.invokevirtual 124, 3) := by decide +kernel
theorem eX9_panel_155 : decode mX9_panel.2.1 155 = .ok (.ireturn, 1) := by decide +kernel
theorem eX9_panel_156 : decode mX9_panel.2.1 156 = .ok (.aload_n 0, 1) := by decide +kernel
theorem eX9_panel_157 : decode mX9_panel.2.1 157 = .ok (.iload_n 1, 1) := by decide +kernel
theorem eX9_panel_158 : decode mX9_panel.2.1 158 = .ok (.iload_n 2, 1) := by decide +kernel
theorem eX9_panel_159 : decode mX9_panel.2.1 159 = .ok (.invokevirtual 121, 3) := by decide +kernel
theorem eX9_panel_162 : decode mX9_panel.2.1 162 = .ok (.ireturn, 1) := by decide +kernel
theorem eX9_panel_163 : decode mX9_panel.2.1 163 = .ok (.aload_n 0, 1) := by decide +kernel
theorem eX9_panel_164 : decode mX9_panel.2.1 164 = .ok (.iload_n 1, 1) := by decide +kernel
theorem eX9_panel_165 : decode mX9_panel.2.1 165 = .ok (.iload_n 2, 1) := by decide +kernel
theorem eX9_panel_166 : decode mX9_panel.2.1 166 = .ok (.invokevirtual 86, 3) := by decide +kernel
theorem eX9_panel_169 : decode mX9_panel.2.1 169 = .ok (.ireturn, 1) := by decide +kernel
theorem eX9_panel_170 : decode mX9_panel.2.1 170 = .ok (.aload_n 0, 1) := by decide +kernel
theorem eX9_panel_171 : decode mX9_panel.2.1 171 = .ok (.iload_n 1, 1) := by decide +kernel
theorem eX9_panel_172 : decode mX9_panel.2.1 172 = .ok (.iload_n 2, 1) := by decide +kernel
theorem eX9_panel_173 : decode mX9_panel.2.1 173 = .ok (.invokevirtual 143, 3) := by decide +kernel
theorem eX9_panel_176 : decode mX9_panel.2.1 176 = .ok (.ireturn, 1) := by decide +kernel
theorem eX9_panel_177 : decode mX9_panel.2.1 177 = .ok (.aload_n 0, 1) := by decide +kernel
theorem eX9_panel_178 : decode mX9_panel.2.1 178 = .ok (.iload_n 1, 1) := by decide +kernel
theorem eX9_panel_179 : decode mX9_panel.2.1 179 = .ok (.iload_n 2, 1) := by decide +kernel
theorem eX9_panel_180 : decode mX9_panel.2.1 180 = .ok (.invokevirtual 133, 3) := by decide +kernel
theorem eX9_panel_183 : decode mX9_panel.2.1 183 = .ok (.ireturn, 1) := by decide +kernel
theorem eX9_panel_184 : decode mX9_panel.2.1 184 = .ok (.iload 5, 2) := by decide +kernel
theorem eX9_panel_186 : decode mX9_panel.2.1 186 = .ok (.ireturn, 1) := by decide +kernel
theorem eX9_panel_187 : decode mX9_panel.2.1 187 = .ok (.aload_n 0, 1) := by decide +kernel
theorem eX9_panel_188 : decode mX9_panel.2.1 188 = .ok (.iload_n 1, 1) := by decide +kernel
theorem eX9_panel_189 : decode mX9_panel.2.1 189 = .ok (.sipush 340, 3) := by decide +kernel
theorem eX9_panel_192 : decode mX9_panel.2.1 192 = .ok (.iload_n 2, 1) := by decide +kernel
theorem eX9_panel_193 : decode mX9_panel.2.1 193 = .ok (.iadd, 1) := by decide +kernel
theorem eX9_panel_194 : decode mX9_panel.2.1 194 = .ok (.invokevirtual 57, 3) := by decide +kernel
theorem eX9_panel_197 : decode mX9_panel.2.1 197 = .ok (.ireturn, 1) := by decide +kernel
theorem eX9_panel_198 : decode mX9_panel.2.1 198 = .ok (.aload_n 0, 1) := by decide +kernel
theorem eX9_panel_199 : decode mX9_panel.2.1 199 = .ok (.iload_n 1, 1) := by decide +kernel
theorem eX9_panel_200 : decode mX9_panel.2.1 200 = .ok (.iload_n 2, 1) := by decide +kernel
theorem eX9_panel_201 : decode mX9_panel.2.1 201 = .ok (.invokevirtual 140, 3) := by decide +kernel
theorem eX9_panel_204 : decode mX9_panel.2.1 204 = .ok (.ireturn, 1) := by decide +kernel
theorem eX9_panel_205 : decode mX9_panel.2.1 205 = .ok (.iload 4, 2) := by decide +kernel
theorem eX9_panel_207 : decode mX9_panel.2.1 207 = .ok (.ifCond .eq 16, 3) := by decide +kernel
theorem eX9_panel_210 : decode mX9_panel.2.1 210 = .ok (.aload_n 0, 1) := by decide +kernel
theorem eX9_panel_211 : decode mX9_panel.2.1 211 = .ok (.iload_n 1, 1) := by decide +kernel
theorem eX9_panel_212 : decode mX9_panel.2.1 212 = .ok (.sipush 140, 3) := by decide +kernel
theorem eX9_panel_215 : decode mX9_panel.2.1 215 = .ok (.iload_n 2, 1) := by decide +kernel
theorem eX9_panel_216 : decode mX9_panel.2.1 216 = .ok (.iadd, 1) := by decide +kernel
theorem eX9_panel_217 : decode mX9_panel.2.1 217 = .ok (.invokevirtual 57, 3) := by decide +kernel
theorem eX9_panel_220 : decode mX9_panel.2.1 220 = .ok (.goto 4, 3) := by decide +kernel
theorem eX9_panel_223 : decode mX9_panel.2.1 223 = .ok (.iconst 0, 1) := by decide +kernel
theorem eX9_panel_224 : decode mX9_panel.2.1 224 = .ok (.ireturn, 1) := by decide +kernel
theorem eX9_panel_225 : decode mX9_panel.2.1 225 = .ok (.iconst (-1), 1) := by decide +kernel
theorem eX9_panel_226 : decode mX9_panel.2.1 226 = .ok (.ireturn, 1) := by decide +kernel
theorem eX9_full_0 : decode mX9_full.2.1 0 = .ok (.aload_n 0, 1) := by decide +kernel
theorem eX9_full_1 : decode mX9_full.2.1 1 = .ok (.iload_n 1, 1) := by decide +kernel
theorem eX9_full_2 : decode mX9_full.2.1 2 = .ok (.invokevirtual 137, 3) := by decide +kernel
theorem eX9_full_5 : decode mX9_full.2.1 5 = .ok (.ifCond .eq 17, 3) := by decide +kernel
theorem eX9_full_8 : decode mX9_full.2.1 8 = .ok (.iload_n 2, 1) := by decide +kernel
theorem eX9_full_9 : decode mX9_full.2.1 9 = .ok (.iconst 0, 1) := by decide +kernel
theorem eX9_full_10 : decode mX9_full.2.1 10 = .ok (.aload_n 0, 1) := by decide +kernel
theorem eX9_full_11 : decode mX9_full.2.1 11 = .ok (.iload_n 1, 1) := by decide +kernel
theorem eX9_full_12 : decode mX9_full.2.1 12 = .ok (.iconst 5, 1) := by decide +kernel
theorem eX9_full_13 : decode mX9_full.2.1 13 = .ok (.invokevirtual 57, 3) := by decide +kernel
theorem eX9_full_16 : decode mX9_full.2.1 16 = .ok (.invokestatic 70, 3) := by decide +kernel
theorem eX9_full_19 : decode mX9_full.2.1 19 = .ok (.ifCond .ne 5, 3) := by decide +kernel
theorem eX9_full_22 : decode mX9_full.2.1 22 = .ok (.iconst (-1), 1) := by decide +kernel
theorem eX9_full_23 : decode mX9_full.2.1 23 = .ok (.ireturn, 1) := by decide +kernel
theorem eX9_full_24 : decode mX9_full.2.1 24 = .ok (.iconst 0, 1) := by decide +kernel
theorem eX9_full_25 : decode mX9_full.2.1 25 = .ok (.istore_n 3, 1) := by decide +kernel
theorem eX9_full_26 : decode mX9_full.2.1 26 = .ok (.iconst 0, 1) := by decide +kernel
theorem eX9_full_27 : decode mX9_full.2.1 27 = .ok (.istore 4, 2) := by decide +kernel
theorem eX9_full_29 : decode mX9_full.2.1 29 = .ok (.iload 4, 2) := by decide +kernel
theorem eX9_full_31 : decode mX9_full.2.1 31 = .ok (.aload_n 0, 1) := by decide +kernel
theorem eX9_full_32 : decode mX9_full.2.1 32 = .ok (.iload_n 1, 1) := by decide +kernel
theorem eX9_full_33 : decode mX9_full.2.1 33 = .ok (.bipush 8, 2) := by decide +kernel
theorem eX9_full_35 : decode mX9_full.2.1 35 = .ok (.invokevirtual 57, 3) := by decide +kernel
theorem eX9_full_38 : decode mX9_full.2.1 38 = .ok (.iconst 1, 1) := by decide +kernel
theorem eX9_full_39 : decode mX9_full.2.1 39 = .ok (.isub, 1) := by decide +kernel
theorem eX9_full_40 : decode mX9_full.2.1 40 = .ok (.if_icmp .ge 34, 3) := by decide +kernel
theorem eX9_full_43 : decode mX9_full.2.1 43 = .ok (.aload_n 0, 1) := by decide +kernel
theorem eX9_full_44 : decode mX9_full.2.1 44 = .ok (.iload_n 1, 1) := by decide +kernel
theorem eX9_full_45 : decode mX9_full.2.1 45 = .ok (.iload 4, 2) := by decide +kernel
theorem eX9_full_47 : decode mX9_full.2.1 47 = .ok (.invokevirtual 121, 3) := by decide +kernel
theorem eX9_full_50 : decode mX9_full.2.1 50 = .ok (.iload_n 2, 1) := by decide +kernel
theorem eX9_full_51 : decode mX9_full.2.1 51 = .ok (.if_icmp .gt 17, 3) := by decide +kernel
theorem eX9_full_54 : decode mX9_full.2.1 54 = .ok (.iload_n 3, 1) := by decide +kernel
theorem eX9_full_55 : decode mX9_full.2.1 55 = .ok (.aload_n 0, 1) := by decide +kernel
theorem eX9_full_56 : decode mX9_full.2.1 56 = .ok (.iload_n 1, 1) := by decide +kernel
theorem eX9_full_57 : decode mX9_full.2.1 57 = .ok (.sipush 140, 3) := by decide +kernel
theorem eX9_full_60 : decode mX9_full.2.1 60 = .ok (.iload 4, 2) := by decide +kernel
theorem eX9_full_62 : decode mX9_full.2.1 62 = .ok (.iadd, 1) := by decide +kernel
theorem eX9_full_63 : decode mX9_full.2.1 63 = .ok (.invokevirtual 57, 3) := by decide +kernel
theorem eX9_full_66 : decode mX9_full.2.1 66 = .ok (.iadd, 1) := by decide +kernel
theorem eX9_full_67 : decode mX9_full.2.1 67 = .ok (.istore_n 3, 1) := by decide +kernel
theorem eX9_full_68 : decode mX9_full.2.1 68 = .ok (.iinc 4 1, 3) := by decide +kernel
theorem eX9_full_71 : decode mX9_full.2.1 71 = .ok (.goto (-42), 3) := by decide +kernel
theorem eX9_full_74 : decode mX9_full.2.1 74 = .ok (.iload_n 3, 1) := by decide +kernel
theorem eX9_full_75 : decode mX9_full.2.1 75 = .ok (.ireturn, 1) := by decide +kernel
theorem eX9_takes_0 : decode mX9_takes.2.1 0 = .ok (.aload_n 0, 1) := by decide +kernel
theorem eX9_takes_1 : decode mX9_takes.2.1 1 = .ok (.iload_n 3, 1) := by decide +kernel
theorem eX9_takes_2 : decode mX9_takes.2.1 2 = .ok (.iload 4, 2) := by decide +kernel
theorem eX9_takes_4 : decode mX9_takes.2.1 4 = .ok (.invokevirtual 86, 3) := by decide +kernel
theorem eX9_takes_7 : decode mX9_takes.2.1 7 = .ok (.istore 6, 2) := by decide +kernel
theorem eX9_takes_9 : decode mX9_takes.2.1 9 = .ok (.aload_n 0, 1) := by decide +kernel
theorem eX9_takes_10 : decode mX9_takes.2.1 10 = .ok (.iload_n 3, 1) := by decide +kernel
theorem eX9_takes_11 : decode mX9_takes.2.1 11 = .ok (.iload 4, 2) := by decide +kernel
theorem eX9_takes_13 : decode mX9_takes.2.1 13 = .ok (.invokevirtual 143, 3) := by decide +kernel
theorem eX9_takes_16 : decode mX9_takes.2.1 16 = .ok (.aload_n 0, 1) := by decide +kernel
theorem eX9_takes_17 : decode mX9_takes.2.1 17 = .ok (.iload_n 1, 1) := by decide +kernel
theorem eX9_takes_18 : decode mX9_takes.2.1 18 = .ok (.iconst 0, 1) := by decide +kernel
theorem eX9_takes_19 : decode mX9_takes.2.1 19 = .ok (.invokevirtual 92, 3) := by decide +kernel
theorem eX9_takes_22 : decode mX9_takes.2.1 22 = .ok (.if_icmp .gt 20, 3) := by decide +kernel
theorem eX9_takes_25 : decode mX9_takes.2.1 25 = .ok (.iload_n 2, 1) := by decide +kernel
theorem eX9_takes_26 : decode mX9_takes.2.1 26 = .ok (.ifCond .lt 16, 3) := by decide +kernel
theorem eX9_takes_29 : decode mX9_takes.2.1 29 = .ok (.iload_n 2, 1) := by decide +kernel
theorem eX9_takes_30 : decode mX9_takes.2.1 30 = .ok (.aload_n 0, 1) := by decide +kernel
theorem eX9_takes_31 : decode mX9_takes.2.1 31 = .ok (.iload_n 1, 1) := by decide +kernel
theorem eX9_takes_32 : decode mX9_takes.2.1 32 = .ok (.iconst 1, 1) := by decide +kernel
theorem eX9_takes_33 : decode mX9_takes.2.1 33 = .ok (.invokevirtual 92, 3) := by decide +kernel
theorem eX9_takes_36 : decode mX9_takes.2.1 36 = .ok (.iload 6, 2) := by decide +kernel
theorem eX9_takes_38 : decode mX9_takes.2.1 38 = .ok (.isub, 1) := by decide +kernel
theorem eX9_takes_39 : decode mX9_takes.2.1 39 = .ok (.if_icmp .le 5, 3) := by decide +kernel
theorem eX9_takes_42 : decode mX9_takes.2.1 42 = .ok (.iconst 0, 1) := by decide +kernel
theorem eX9_takes_43 : decode mX9_takes.2.1 43 = .ok (.ireturn, 1) := by decide +kernel
theorem eX9_takes_44 : decode mX9_takes.2.1 44 = .ok (.iload_n 2, 1) := by decide +kernel
theorem eX9_takes_45 : decode mX9_takes.2.1 45 = .ok (.istore 7, 2) := by decide +kernel
theorem eX9_takes_47 : decode mX9_takes.2.1 47 = .ok (.iload 7, 2) := by decide +kernel
theorem eX9_takes_49 : decode mX9_takes.2.1 49 = .ok (.iload_n 2, 1) := by decide +kernel
theorem eX9_takes_50 : decode mX9_takes.2.1 50 = .ok (.iload 6, 2) := by decide +kernel
theorem eX9_takes_52 : decode mX9_takes.2.1 52 = .ok (.iadd, 1) := by decide +kernel
theorem eX9_takes_53 : decode mX9_takes.2.1 53 = .ok (.if_icmp .ge 34, 3) := by decide +kernel
theorem eX9_takes_56 : decode mX9_takes.2.1 56 = .ok (.aload_n 0, 1) := by decide +kernel
theorem eX9_takes_57 : decode mX9_takes.2.1 57 = .ok (.iload_n 1, 1) := by decide +kernel
theorem eX9_takes_58 : decode mX9_takes.2.1 58 = .ok (.iload 7, 2) := by decide +kernel
theorem eX9_takes_60 : decode mX9_takes.2.1 60 = .ok (.invokevirtual 146, 3) := by decide +kernel
theorem eX9_takes_63 : decode mX9_takes.2.1 63 = .ok (.iload 5, 2) := by decide +kernel
theorem eX9_takes_65 : decode mX9_takes.2.1 65 = .ok (.if_icmp .gt 14, 3) := by decide +kernel
theorem eX9_takes_68 : decode mX9_takes.2.1 68 = .ok (.aload_n 0, 1) := by decide +kernel
theorem eX9_takes_69 : decode mX9_takes.2.1 69 = .ok (.iload_n 1, 1) := by decide +kernel
theorem eX9_takes_70 : decode mX9_takes.2.1 70 = .ok (.iload 7, 2) := by decide +kernel
theorem eX9_takes_72 : decode mX9_takes.2.1 72 = .ok (.invokevirtual 149, 3) := by decide +kernel
theorem eX9_takes_75 : decode mX9_takes.2.1 75 = .ok (.iconst (-1), 1) := by decide +kernel
theorem eX9_takes_76 : decode mX9_takes.2.1 76 = .ok (.if_icmp .eq 5, 3) := by decide +kernel
theorem eX9_takes_79 : decode mX9_takes.2.1 79 = .ok (.iconst 0, 1) := by decide +kernel
theorem eX9_takes_80 : decode mX9_takes.2.1 80 = .ok (.ireturn, 1) := by decide +kernel
theorem eX9_takes_81 : decode mX9_takes.2.1 81 = .ok (.iinc 7 1, 3) := by decide +kernel
theorem eX9_takes_84 : decode mX9_takes.2.1 84 = .ok (.goto (-37), 3) := by decide +kernel
theorem eX9_takes_87 : decode mX9_takes.2.1 87 = .ok (.iconst 1, 1) := by decide +kernel
theorem eX9_takes_88 : decode mX9_takes.2.1 88 = .ok (.ireturn, 1) := by decide +kernel
theorem eX9_isPiece_0 : decode mX9_isPiece.2.1 0 = .ok (.aload_n 0, 1) := by decide +kernel
theorem eX9_isPiece_1 : decode mX9_isPiece.2.1 1 = .ok (.iload_n 1, 1) := by decide +kernel
theorem eX9_isPiece_2 : decode mX9_isPiece.2.1 2 = .ok (.invokevirtual 137, 3) := by decide +kernel
theorem eX9_isPiece_5 : decode mX9_isPiece.2.1 5 = .ok (.ifCond .eq 20, 3) := by decide +kernel
theorem eX9_isPiece_8 : decode mX9_isPiece.2.1 8 = .ok (.iload_n 2, 1) := by decide +kernel
theorem eX9_isPiece_9 : decode mX9_isPiece.2.1 9 = .ok (.ifCond .lt 16, 3) := by decide +kernel
theorem eX9_isPiece_12 : decode mX9_isPiece.2.1 12 = .ok (.iload_n 2, 1) := by decide +kernel
theorem eX9_isPiece_13 : decode mX9_isPiece.2.1 13 = .ok (.aload_n 0, 1) := by decide +kernel
theorem eX9_isPiece_14 : decode mX9_isPiece.2.1 14 = .ok (.iload_n 1, 1) := by decide +kernel
theorem eX9_isPiece_15 : decode mX9_isPiece.2.1 15 = .ok (.invokevirtual 82, 3) := by decide +kernel
theorem eX9_isPiece_18 : decode mX9_isPiece.2.1 18 = .ok (.if_icmp .ge 7, 3) := by decide +kernel
theorem eX9_isPiece_21 : decode mX9_isPiece.2.1 21 = .ok (.iconst 1, 1) := by decide +kernel
theorem eX9_isPiece_22 : decode mX9_isPiece.2.1 22 = .ok (.goto 4, 3) := by decide +kernel
theorem eX9_isPiece_25 : decode mX9_isPiece.2.1 25 = .ok (.iconst 0, 1) := by decide +kernel
theorem eX9_isPiece_26 : decode mX9_isPiece.2.1 26 = .ok (.ireturn, 1) := by decide +kernel
theorem eX9_put_0 : decode mX9_put.2.1 0 = .ok (.aload_n 0, 1) := by decide +kernel
theorem eX9_put_1 : decode mX9_put.2.1 1 = .ok (.iload_n 1, 1) := by decide +kernel
theorem eX9_put_2 : decode mX9_put.2.1 2 = .ok (.sipush 300, 3) := by decide +kernel
theorem eX9_put_5 : decode mX9_put.2.1 5 = .ok (.iload_n 2, 1) := by decide +kernel
theorem eX9_put_6 : decode mX9_put.2.1 6 = .ok (.iadd, 1) := by decide +kernel
theorem eX9_put_7 : decode mX9_put.2.1 7 = .ok (.iload_n 3, 1) := by decide +kernel
theorem eX9_put_8 : decode mX9_put.2.1 8 = .ok (.invokevirtual 101, 3) := by decide +kernel
theorem eX9_put_11 : decode mX9_put.2.1 11 = .ok (.aload_n 0, 1) := by decide +kernel
theorem eX9_put_12 : decode mX9_put.2.1 12 = .ok (.iload_n 1, 1) := by decide +kernel
theorem eX9_put_13 : decode mX9_put.2.1 13 = .ok (.sipush 340, 3) := by decide +kernel
theorem eX9_put_16 : decode mX9_put.2.1 16 = .ok (.iload_n 2, 1) := by decide +kernel
theorem eX9_put_17 : decode mX9_put.2.1 17 = .ok (.iadd, 1) := by decide +kernel
theorem eX9_put_18 : decode mX9_put.2.1 18 = .ok (.iload 4, 2) := by decide +kernel
theorem eX9_put_20 : decode mX9_put.2.1 20 = .ok (.invokevirtual 101, 3) := by decide +kernel
theorem eX9_put_23 : decode mX9_put.2.1 23 = .ok (.return_, 1) := by decide +kernel
theorem eX9_lay_0 : decode mX9_lay.2.1 0 = .ok (.aload_n 0, 1) := by decide +kernel
theorem eX9_lay_1 : decode mX9_lay.2.1 1 = .ok (.iload_n 1, 1) := by decide +kernel
theorem eX9_lay_2 : decode mX9_lay.2.1 2 = .ok (.iload_n 2, 1) := by decide +kernel
theorem eX9_lay_3 : decode mX9_lay.2.1 3 = .ok (.invokevirtual 152, 3) := by decide +kernel
theorem eX9_lay_6 : decode mX9_lay.2.1 6 = .ok (.ifCond .eq 50, 3) := by decide +kernel
theorem eX9_lay_9 : decode mX9_lay.2.1 9 = .ok (.aload_n 0, 1) := by decide +kernel
theorem eX9_lay_10 : decode mX9_lay.2.1 10 = .ok (.iload_n 3, 1) := by decide +kernel
theorem eX9_lay_11 : decode mX9_lay.2.1 11 = .ok (.invokevirtual 89, 3) := by decide +kernel
theorem eX9_lay_14 : decode mX9_lay.2.1 14 = .ok (.ifCond .eq 42, 3) := by decide +kernel
theorem eX9_lay_17 : decode mX9_lay.2.1 17 = .ok (.iload 5, 2) := by decide +kernel
theorem eX9_lay_19 : decode mX9_lay.2.1 19 = .ok (.iconst 0, 1) := by decide +kernel
theorem eX9_lay_20 : decode mX9_lay.2.1 20 = .ok (.bipush 100, 2) := by decide +kernel
theorem eX9_lay_22 : decode mX9_lay.2.1 22 = .ok (.invokestatic 70, 3) := by decide +kernel
theorem eX9_lay_25 : decode mX9_lay.2.1 25 = .ok (.ifCond .eq 31, 3) := by decide +kernel
theorem eX9_lay_28 : decode mX9_lay.2.1 28 = .ok (.aload_n 0, 1) := by decide +kernel
theorem eX9_lay_29 : decode mX9_lay.2.1 29 = .ok (.iload_n 1, 1) := by decide +kernel
theorem eX9_lay_30 : decode mX9_lay.2.1 30 = .ok (.sipush 300, 3) := by decide +kernel
theorem eX9_lay_33 : decode mX9_lay.2.1 33 = .ok (.iload_n 2, 1) := by decide +kernel
theorem eX9_lay_34 : decode mX9_lay.2.1 34 = .ok (.iadd, 1) := by decide +kernel
theorem eX9_lay_35 : decode mX9_lay.2.1 35 = .ok (.invokevirtual 57, 3) := by decide +kernel
theorem eX9_lay_38 : decode mX9_lay.2.1 38 = .ok (.iconst (-1), 1) := by decide +kernel
theorem eX9_lay_39 : decode mX9_lay.2.1 39 = .ok (.if_icmp .ne 17, 3) := by decide +kernel
theorem eX9_lay_42 : decode mX9_lay.2.1 42 = .ok (.aload_n 0, 1) := by decide +kernel
theorem eX9_lay_43 : decode mX9_lay.2.1 43 = .ok (.iload_n 3, 1) := by decide +kernel
theorem eX9_lay_44 : decode mX9_lay.2.1 44 = .ok (.iload 4, 2) := by decide +kernel
theorem eX9_lay_46 : decode mX9_lay.2.1 46 = .ok (.iload_n 1, 1) := by decide +kernel
theorem eX9_lay_47 : decode mX9_lay.2.1 47 = .ok (.iload_n 2, 1) := by decide +kernel
theorem eX9_lay_48 : decode mX9_lay.2.1 48 = .ok (.iload 5, 2) := by decide +kernel
theorem eX9_lay_50 : decode mX9_lay.2.1 50 = .ok (.invokevirtual 155, 3) := by decide +kernel
theorem eX9_lay_53 : decode mX9_lay.2.1 53 = .ok (.ifCond .ne 5, 3) := by decide +kernel
theorem eX9_lay_56 : decode mX9_lay.2.1 56 = .ok (.iconst 0, 1) := by decide +kernel
theorem eX9_lay_57 : decode mX9_lay.2.1 57 = .ok (.ireturn, 1) := by decide +kernel
theorem eX9_lay_58 : decode mX9_lay.2.1 58 = .ok (.aload_n 0, 1) := by decide +kernel
theorem eX9_lay_59 : decode mX9_lay.2.1 59 = .ok (.invokevirtual 75, 3) := by decide +kernel
theorem eX9_lay_62 : decode mX9_lay.2.1 62 = .ok (.aload_n 0, 1) := by decide +kernel
theorem eX9_lay_63 : decode mX9_lay.2.1 63 = .ok (.iload_n 1, 1) := by decide +kernel
theorem eX9_lay_64 : decode mX9_lay.2.1 64 = .ok (.iload_n 2, 1) := by decide +kernel
theorem eX9_lay_65 : decode mX9_lay.2.1 65 = .ok (.iload_n 3, 1) := by decide +kernel
theorem eX9_lay_66 : decode mX9_lay.2.1 66 = .ok (.iload 4, 2) := by decide +kernel
theorem eX9_lay_68 : decode mX9_lay.2.1 68 = .ok (.invokevirtual 159, 3) := by decide +kernel
theorem eX9_lay_71 : decode mX9_lay.2.1 71 = .ok (.iconst 1, 1) := by decide +kernel
theorem eX9_lay_72 : decode mX9_lay.2.1 72 = .ok (.ireturn, 1) := by decide +kernel
theorem eX9_lift_0 : decode mX9_lift.2.1 0 = .ok (.aload_n 0, 1) := by decide +kernel
theorem eX9_lift_1 : decode mX9_lift.2.1 1 = .ok (.iload_n 1, 1) := by decide +kernel
theorem eX9_lift_2 : decode mX9_lift.2.1 2 = .ok (.iload_n 2, 1) := by decide +kernel
theorem eX9_lift_3 : decode mX9_lift.2.1 3 = .ok (.invokevirtual 152, 3) := by decide +kernel
theorem eX9_lift_6 : decode mX9_lift.2.1 6 = .ok (.ifCond .eq 17, 3) := by decide +kernel
theorem eX9_lift_9 : decode mX9_lift.2.1 9 = .ok (.aload_n 0, 1) := by decide +kernel
theorem eX9_lift_10 : decode mX9_lift.2.1 10 = .ok (.iload_n 1, 1) := by decide +kernel
theorem eX9_lift_11 : decode mX9_lift.2.1 11 = .ok (.sipush 300, 3) := by decide +kernel
theorem eX9_lift_14 : decode mX9_lift.2.1 14 = .ok (.iload_n 2, 1) := by decide +kernel
theorem eX9_lift_15 : decode mX9_lift.2.1 15 = .ok (.iadd, 1) := by decide +kernel
theorem eX9_lift_16 : decode mX9_lift.2.1 16 = .ok (.invokevirtual 57, 3) := by decide +kernel
theorem eX9_lift_19 : decode mX9_lift.2.1 19 = .ok (.iconst (-1), 1) := by decide +kernel
theorem eX9_lift_20 : decode mX9_lift.2.1 20 = .ok (.if_icmp .ne 5, 3) := by decide +kernel
theorem eX9_lift_23 : decode mX9_lift.2.1 23 = .ok (.iconst 0, 1) := by decide +kernel
theorem eX9_lift_24 : decode mX9_lift.2.1 24 = .ok (.ireturn, 1) := by decide +kernel
theorem eX9_lift_25 : decode mX9_lift.2.1 25 = .ok (.aload_n 0, 1) := by decide +kernel
theorem eX9_lift_26 : decode mX9_lift.2.1 26 = .ok (.invokevirtual 75, 3) := by decide +kernel
theorem eX9_lift_29 : decode mX9_lift.2.1 29 = .ok (.aload_n 0, 1) := by decide +kernel
theorem eX9_lift_30 : decode mX9_lift.2.1 30 = .ok (.iload_n 1, 1) := by decide +kernel
theorem eX9_lift_31 : decode mX9_lift.2.1 31 = .ok (.iload_n 2, 1) := by decide +kernel
theorem eX9_lift_32 : decode mX9_lift.2.1 32 = .ok (.iconst (-1), 1) := by decide +kernel
theorem eX9_lift_33 : decode mX9_lift.2.1 33 = .ok (.iconst (-1), 1) := by decide +kernel
theorem eX9_lift_34 : decode mX9_lift.2.1 34 = .ok (.invokevirtual 159, 3) := by decide +kernel
theorem eX9_lift_37 : decode mX9_lift.2.1 37 = .ok (.iconst 1, 1) := by decide +kernel
theorem eX9_lift_38 : decode mX9_lift.2.1 38 = .ok (.ireturn, 1) := by decide +kernel
theorem eX9_left_0 : decode mX9_left.2.1 0 = .ok (.aload_n 0, 1) := by decide +kernel
theorem eX9_left_1 : decode mX9_left.2.1 1 = .ok (.iload_n 1, 1) := by decide +kernel
theorem eX9_left_2 : decode mX9_left.2.1 2 = .ok (.invokevirtual 89, 3) := by decide +kernel
theorem eX9_left_5 : decode mX9_left.2.1 5 = .ok (.ifCond .ne 5, 3) := by decide +kernel
theorem eX9_left_8 : decode mX9_left.2.1 8 = .ok (.iconst (-1), 1) := by decide +kernel
theorem eX9_left_9 : decode mX9_left.2.1 9 = .ok (.ireturn, 1) := by decide +kernel
theorem eX9_left_10 : decode mX9_left.2.1 10 = .ok (.iconst 0, 1) := by decide +kernel
theorem eX9_left_11 : decode mX9_left.2.1 11 = .ok (.istore_n 2, 1) := by decide +kernel
theorem eX9_left_12 : decode mX9_left.2.1 12 = .ok (.iconst 0, 1) := by decide +kernel
theorem eX9_left_13 : decode mX9_left.2.1 13 = .ok (.istore_n 3, 1) := by decide +kernel
theorem eX9_left_14 : decode mX9_left.2.1 14 = .ok (.iload_n 3, 1) := by decide +kernel
theorem eX9_left_15 : decode mX9_left.2.1 15 = .ok (.aload_n 0, 1) := by decide +kernel
theorem eX9_left_16 : decode mX9_left.2.1 16 = .ok (.iload_n 1, 1) := by decide +kernel
theorem eX9_left_17 : decode mX9_left.2.1 17 = .ok (.iconst 1, 1) := by decide +kernel
theorem eX9_left_18 : decode mX9_left.2.1 18 = .ok (.invokevirtual 92, 3) := by decide +kernel
theorem eX9_left_21 : decode mX9_left.2.1 21 = .ok (.if_icmp .ge 27, 3) := by decide +kernel
theorem eX9_left_24 : decode mX9_left.2.1 24 = .ok (.iload_n 2, 1) := by decide +kernel
theorem eX9_left_25 : decode mX9_left.2.1 25 = .ok (.aload_n 0, 1) := by decide +kernel
theorem eX9_left_26 : decode mX9_left.2.1 26 = .ok (.iload_n 1, 1) := by decide +kernel
theorem eX9_left_27 : decode mX9_left.2.1 27 = .ok (.iload_n 3, 1) := by decide +kernel
theorem eX9_left_28 : decode mX9_left.2.1 28 = .ok (.invokevirtual 149, 3) := by decide +kernel
theorem eX9_left_31 : decode mX9_left.2.1 31 = .ok (.iconst (-1), 1) := by decide +kernel
theorem eX9_left_32 : decode mX9_left.2.1 32 = .ok (.if_icmp .ne 7, 3) := by decide +kernel
theorem eX9_left_35 : decode mX9_left.2.1 35 = .ok (.iconst 1, 1) := by decide +kernel
theorem eX9_left_36 : decode mX9_left.2.1 36 = .ok (.goto 4, 3) := by decide +kernel
theorem eX9_left_39 : decode mX9_left.2.1 39 = .ok (.iconst 0, 1) := by decide +kernel
theorem eX9_left_40 : decode mX9_left.2.1 40 = .ok (.iadd, 1) := by decide +kernel
theorem eX9_left_41 : decode mX9_left.2.1 41 = .ok (.istore_n 2, 1) := by decide +kernel
theorem eX9_left_42 : decode mX9_left.2.1 42 = .ok (.iinc 3 1, 3) := by decide +kernel
theorem eX9_left_45 : decode mX9_left.2.1 45 = .ok (.goto (-31), 3) := by decide +kernel
theorem eX9_left_48 : decode mX9_left.2.1 48 = .ok (.iload_n 2, 1) := by decide +kernel
theorem eX9_left_49 : decode mX9_left.2.1 49 = .ok (.ireturn, 1) := by decide +kernel
theorem eX9_over_0 : decode mX9_over.2.1 0 = .ok (.aload_n 0, 1) := by decide +kernel
theorem eX9_over_1 : decode mX9_over.2.1 1 = .ok (.iload_n 1, 1) := by decide +kernel
theorem eX9_over_2 : decode mX9_over.2.1 2 = .ok (.invokevirtual 89, 3) := by decide +kernel
theorem eX9_over_5 : decode mX9_over.2.1 5 = .ok (.ifCond .eq 26, 3) := by decide +kernel
theorem eX9_over_8 : decode mX9_over.2.1 8 = .ok (.iload_n 2, 1) := by decide +kernel
theorem eX9_over_9 : decode mX9_over.2.1 9 = .ok (.ifCond .lt 22, 3) := by decide +kernel
theorem eX9_over_12 : decode mX9_over.2.1 12 = .ok (.iload_n 2, 1) := by decide +kernel
theorem eX9_over_13 : decode mX9_over.2.1 13 = .ok (.aload_n 0, 1) := by decide +kernel
theorem eX9_over_14 : decode mX9_over.2.1 14 = .ok (.iload_n 1, 1) := by decide +kernel
theorem eX9_over_15 : decode mX9_over.2.1 15 = .ok (.iconst 1, 1) := by decide +kernel
theorem eX9_over_16 : decode mX9_over.2.1 16 = .ok (.invokevirtual 92, 3) := by decide +kernel
theorem eX9_over_19 : decode mX9_over.2.1 19 = .ok (.if_icmp .ge 12, 3) := by decide +kernel
theorem eX9_over_22 : decode mX9_over.2.1 22 = .ok (.aload_n 0, 1) := by decide +kernel
theorem eX9_over_23 : decode mX9_over.2.1 23 = .ok (.iload_n 1, 1) := by decide +kernel
theorem eX9_over_24 : decode mX9_over.2.1 24 = .ok (.iload_n 2, 1) := by decide +kernel
theorem eX9_over_25 : decode mX9_over.2.1 25 = .ok (.invokevirtual 149, 3) := by decide +kernel
theorem eX9_over_28 : decode mX9_over.2.1 28 = .ok (.goto 4, 3) := by decide +kernel
theorem eX9_over_31 : decode mX9_over.2.1 31 = .ok (.iconst (-1), 1) := by decide +kernel
theorem eX9_over_32 : decode mX9_over.2.1 32 = .ok (.ireturn, 1) := by decide +kernel
theorem eX9_firstPlace_0 : decode mX9_firstPlace.2.1 0 = .ok (.aload_n 0, 1) := by decide +kernel
theorem eX9_firstPlace_1 : decode mX9_firstPlace.2.1 1 = .ok (.iload_n 2, 1) := by decide +kernel
theorem eX9_firstPlace_2 : decode mX9_firstPlace.2.1 2 = .ok (.iload_n 3, 1) := by decide +kernel
theorem eX9_firstPlace_3 : decode mX9_firstPlace.2.1 3 = .ok (.invokevirtual 86, 3) := by decide +kernel
theorem eX9_firstPlace_6 : decode mX9_firstPlace.2.1 6 = .ok (.istore 5, 2) := by decide +kernel
theorem eX9_firstPlace_8 : decode mX9_firstPlace.2.1 8 = .ok (.aload_n 0, 1) := by decide +kernel
theorem eX9_firstPlace_9 : decode mX9_firstPlace.2.1 9 = .ok (.iload_n 1, 1) := by decide +kernel
theorem eX9_firstPlace_10 : decode mX9_firstPlace.2.1 10 = .ok (.iconst 1, 1) := by decide +kernel
theorem eX9_firstPlace_11 : decode mX9_firstPlace.2.1 11 = .ok (.invokevirtual 92, 3) := by decide +kernel
theorem eX9_firstPlace_14 : decode mX9_firstPlace.2.1 14 = .ok (.istore 6, 2) := by decide +kernel
theorem eX9_firstPlace_16 : decode mX9_firstPlace.2.1 16 = .ok (.aload_n 0, 1) := by decide +kernel
theorem eX9_firstPlace_17 : decode mX9_firstPlace.2.1 17 = .ok (.iload_n 2, 1) := by decide +kernel
theorem eX9_firstPlace_18 : decode mX9_firstPlace.2.1 18 = .ok (.iload_n 3, 1) := by decide +kernel
theorem eX9_firstPlace_19 : decode mX9_firstPlace.2.1 19 = .ok (.invokevirtual 143, 3) := by decide +kernel
theorem eX9_firstPlace_22 : decode mX9_firstPlace.2.1 22 = .ok (.aload_n 0, 1) := by decide +kernel
theorem eX9_firstPlace_23 : decode mX9_firstPlace.2.1 23 = .ok (.iload_n 1, 1) := by decide +kernel
theorem eX9_firstPlace_24 : decode mX9_firstPlace.2.1 24 = .ok (.iconst 0, 1) := by decide +kernel
theorem eX9_firstPlace_25 : decode mX9_firstPlace.2.1 25 = .ok (.invokevirtual 92, 3) := by decide +kernel
theorem eX9_firstPlace_28 : decode mX9_firstPlace.2.1 28 = .ok (.if_icmp .gt 10, 3) := by decide +kernel
theorem eX9_firstPlace_31 : decode mX9_firstPlace.2.1 31 = .ok (.iload 5, 2) := by decide +kernel
theorem eX9_firstPlace_33 : decode mX9_firstPlace.2.1 33 = .ok (.iload 6, 2) := by decide +kernel
theorem eX9_firstPlace_35 : decode mX9_firstPlace.2.1 35 = .ok (.if_icmp .le 5, 3) := by decide +kernel
theorem eX9_firstPlace_38 : decode mX9_firstPlace.2.1 38 = .ok (.iconst (-1), 1) := by decide +kernel
theorem eX9_firstPlace_39 : decode mX9_firstPlace.2.1 39 = .ok (.ireturn, 1) := by decide +kernel
theorem eX9_firstPlace_40 : decode mX9_firstPlace.2.1 40 = .ok (.iconst 0, 1) := by decide +kernel
theorem eX9_firstPlace_41 : decode mX9_firstPlace.2.1 41 = .ok (.istore 7, 2) := by decide +kernel
theorem eX9_firstPlace_43 : decode mX9_firstPlace.2.1 43 = .ok (.iload 7, 2) := by decide +kernel
theorem eX9_firstPlace_45 : decode mX9_firstPlace.2.1 45 = .ok (.iload 6, 2) := by decide +kernel
theorem eX9_firstPlace_47 : decode mX9_firstPlace.2.1 47 = .ok (.if_icmp .ge 33, 3) := by decide +kernel
theorem eX9_firstPlace_50 : decode mX9_firstPlace.2.1 50 = .ok (.aload_n 0, 1) := by decide +kernel
theorem eX9_firstPlace_51 : decode mX9_firstPlace.2.1 51 = .ok (.getfield 23, 3) := by decide +kernel
theorem eX9_firstPlace_54 : decode mX9_firstPlace.2.1 54 = .ok (.iload 7, 2) := by decide +kernel
theorem eX9_firstPlace_56 : decode mX9_firstPlace.2.1 56 = .ok (.aload_n 0, 1) := by decide +kernel
theorem eX9_firstPlace_57 : decode mX9_firstPlace.2.1 57 = .ok (.iload_n 1, 1) := by decide +kernel
theorem eX9_firstPlace_58 : decode mX9_firstPlace.2.1 58 = .ok (.iload 7, 2) := by decide +kernel
theorem eX9_firstPlace_60 : decode mX9_firstPlace.2.1 60 = .ok (.invokevirtual 146, 3) := by decide +kernel
theorem eX9_firstPlace_63 : decode mX9_firstPlace.2.1 63 = .ok (.iload 4, 2) := by decide +kernel
theorem eX9_firstPlace_65 : decode mX9_firstPlace.2.1 65 = .ok (.if_icmp .gt 7, 3) := by decide +kernel
theorem eX9_firstPlace_68 : decode mX9_firstPlace.2.1 68 = .ok (.iconst 1, 1) := by decide +kernel
theorem eX9_firstPlace_69 : decode mX9_firstPlace.2.1 69 = .ok (.goto 4, 3) := by decide +kernel
theorem eX9_firstPlace_72 : decode mX9_firstPlace.2.1 72 = .ok (.iconst 0, 1) := by decide +kernel
theorem eX9_firstPlace_73 : decode mX9_firstPlace.2.1 73 = .ok (.bastore, 1) := by decide +kernel
theorem eX9_firstPlace_74 : decode mX9_firstPlace.2.1 74 = .ok (.iinc 7 1, 3) := by decide +kernel
theorem eX9_firstPlace_77 : decode mX9_firstPlace.2.1 77 = .ok (.goto (-34), 3) := by decide +kernel
theorem eX9_firstPlace_80 : decode mX9_firstPlace.2.1 80 = .ok (.iconst 0, 1) := by decide +kernel
theorem eX9_firstPlace_81 : decode mX9_firstPlace.2.1 81 = .ok (.istore 7, 2) := by decide +kernel
theorem eX9_firstPlace_83 : decode mX9_firstPlace.2.1 83 = .ok (.iload 7, 2) := by decide +kernel
theorem eX9_firstPlace_85 : decode mX9_firstPlace.2.1 85 = .ok (.aload_n 0, 1) := by decide +kernel
theorem eX9_firstPlace_86 : decode mX9_firstPlace.2.1 86 = .ok (.getfield 7, 3) := by decide +kernel
theorem eX9_firstPlace_89 : decode mX9_firstPlace.2.1 89 = .ok (.iconst 1, 1) := by decide +kernel
theorem eX9_firstPlace_90 : decode mX9_firstPlace.2.1 90 = .ok (.iaload, 1) := by decide +kernel
theorem eX9_firstPlace_91 : decode mX9_firstPlace.2.1 91 = .ok (.if_icmp .ge 106, 3) := by decide +kernel
theorem eX9_firstPlace_94 : decode mX9_firstPlace.2.1 94 = .ok (.iconst 0, 1) := by decide +kernel
theorem eX9_firstPlace_95 : decode mX9_firstPlace.2.1 95 = .ok (.istore 8, 2) := by decide +kernel
theorem eX9_firstPlace_97 : decode mX9_firstPlace.2.1 97 = .ok (.iload 8, 2) := by decide +kernel
theorem eX9_firstPlace_99 : decode mX9_firstPlace.2.1 99 = .ok (.aload_n 0, 1) := by decide +kernel
theorem eX9_firstPlace_100 : decode mX9_firstPlace.2.1 100 = .ok (.iload 7, 2) := by decide +kernel
theorem eX9_firstPlace_102 : decode mX9_firstPlace.2.1 102 = .ok (.invokevirtual 82, 3) := by decide +kernel
theorem eX9_firstPlace_105 : decode mX9_firstPlace.2.1 105 = .ok (.if_icmp .ge 86, 3) := by decide +kernel
theorem eX9_firstPlace_108 : decode mX9_firstPlace.2.1 108 = .ok (.aload_n 0, 1) := by decide +kernel
theorem eX9_firstPlace_109 : decode mX9_firstPlace.2.1 109 = .ok (.iload 7, 2) := by decide +kernel
theorem eX9_firstPlace_111 : decode mX9_firstPlace.2.1 111 = .ok (.sipush 300, 3) := by decide +kernel
theorem eX9_firstPlace_114 : decode mX9_firstPlace.2.1 114 = .ok (.iload 8, 2) := by decide +kernel
theorem eX9_firstPlace_116 : decode mX9_firstPlace.2.1 116 = .ok (.iadd, 1) := by decide +kernel
theorem eX9_firstPlace_117 : decode mX9_firstPlace.2.1 117 = .ok (.invokevirtual 57, 3) := by decide +kernel
theorem eX9_firstPlace_120 : decode mX9_firstPlace.2.1 120 = .ok (.iload_n 1, 1) := by decide +kernel
theorem eX9_firstPlace_121 : decode mX9_firstPlace.2.1 121 = .ok (.if_icmp .eq 6, 3) := by decide +kernel
theorem eX9_firstPlace_124 : decode mX9_firstPlace.2.1 124 = .ok (.goto 61, 3) := by decide +kernel
theorem eX9_firstPlace_127 : decode mX9_firstPlace.2.1 127 = .ok (.aload_n 0, 1) := by decide +kernel
theorem eX9_firstPlace_128 : decode mX9_firstPlace.2.1 128 = .ok (.iload 7, 2) := by decide +kernel
theorem eX9_firstPlace_130 : decode mX9_firstPlace.2.1 130 = .ok (.sipush 340, 3) := by decide +kernel
theorem eX9_firstPlace_133 : decode mX9_firstPlace.2.1 133 = .ok (.iload 8, 2) := by decide +kernel
theorem eX9_firstPlace_135 : decode mX9_firstPlace.2.1 135 = .ok (.iadd, 1) := by decide +kernel
theorem eX9_firstPlace_136 : decode mX9_firstPlace.2.1 136 = .ok (.invokevirtual 57, 3) := by decide +kernel
theorem eX9_firstPlace_139 : decode mX9_firstPlace.2.1 139 = .ok (.aload_n 0, 1) := by decide +kernel
theorem eX9_firstPlace_140 : decode mX9_firstPlace.2.1 140 = .ok (.iload 7, 2) := by decide +kernel
theorem eX9_firstPlace_142 : decode mX9_firstPlace.2.1 142 = .ok (.iload 8, 2) := by decide +kernel
theorem eX9_firstPlace_144 : decode mX9_firstPlace.2.1 144 = .ok (.invokevirtual 86, 3) := by decide +kernel
theorem eX9_firstPlace_147 : decode mX9_firstPlace.2.1 147 = .ok (.iadd, 1) := by decide +kernel
theorem eX9_firstPlace_148 : decode mX9_firstPlace.2.1 148 = .ok (.istore 9, 2) := by decide +kernel
theorem eX9_firstPlace_150 : decode mX9_firstPlace.2.1 150 = .ok (.aload_n 0, 1) := by decide +kernel
theorem eX9_firstPlace_151 : decode mX9_firstPlace.2.1 151 = .ok (.iload 7, 2) := by decide +kernel
theorem eX9_firstPlace_153 : decode mX9_firstPlace.2.1 153 = .ok (.sipush 340, 3) := by decide +kernel
theorem eX9_firstPlace_156 : decode mX9_firstPlace.2.1 156 = .ok (.iload 8, 2) := by decide +kernel
theorem eX9_firstPlace_158 : decode mX9_firstPlace.2.1 158 = .ok (.iadd, 1) := by decide +kernel
theorem eX9_firstPlace_159 : decode mX9_firstPlace.2.1 159 = .ok (.invokevirtual 57, 3) := by decide +kernel
theorem eX9_firstPlace_162 : decode mX9_firstPlace.2.1 162 = .ok (.istore 10, 2) := by decide +kernel
theorem eX9_firstPlace_164 : decode mX9_firstPlace.2.1 164 = .ok (.iload 10, 2) := by decide +kernel
theorem eX9_firstPlace_166 : decode mX9_firstPlace.2.1 166 = .ok (.iload 9, 2) := by decide +kernel
theorem eX9_firstPlace_168 : decode mX9_firstPlace.2.1 168 = .ok (.if_icmp .ge 17, 3) := by decide +kernel
theorem eX9_firstPlace_171 : decode mX9_firstPlace.2.1 171 = .ok (.aload_n 0, 1) := by decide +kernel
theorem eX9_firstPlace_172 : decode mX9_firstPlace.2.1 172 = .ok (.getfield 23, 3) := by decide +kernel
theorem eX9_firstPlace_175 : decode mX9_firstPlace.2.1 175 = .ok (.iload 10, 2) := by decide +kernel
theorem eX9_firstPlace_177 : decode mX9_firstPlace.2.1 177 = .ok (.iconst 0, 1) := by decide +kernel
theorem eX9_firstPlace_178 : decode mX9_firstPlace.2.1 178 = .ok (.bastore, 1) := by decide +kernel
theorem eX9_firstPlace_179 : decode mX9_firstPlace.2.1 179 = .ok (.iinc 10 1, 3) := by decide +kernel
theorem eX9_firstPlace_182 : decode mX9_firstPlace.2.1 182 = .ok (.goto (-18), 3) := by decide +kernel
theorem eX9_firstPlace_185 : decode mX9_firstPlace.2.1 185 = .ok (.iinc 8 1, 3) := by decide +kernel
theorem eX9_firstPlace_188 : decode mX9_firstPlace.2.1 188 = .ok (.goto (-91), 3) := by decide +kernel
theorem eX9_firstPlace_191 : decode mX9_firstPlace.2.1 191 = .ok (.iinc 7 1, 3) := by decide +kernel
theorem eX9_firstPlace_194 : decode mX9_firstPlace.2.1 194 = .ok (.goto (-111), 3) := by decide +kernel
theorem eX9_firstPlace_197 : decode mX9_firstPlace.2.1 197 = .ok (.iconst 0, 1) := by decide +kernel
theorem eX9_firstPlace_198 : decode mX9_firstPlace.2.1 198 = .ok (.istore 7, 2) := by decide +kernel
theorem eX9_firstPlace_200 : decode mX9_firstPlace.2.1 200 = .ok (.iconst 0, 1) := by decide +kernel
theorem eX9_firstPlace_201 : decode mX9_firstPlace.2.1 201 = .ok (.istore 8, 2) := by decide +kernel
theorem eX9_firstPlace_203 : decode mX9_firstPlace.2.1 203 = .ok (.iload 8, 2) := by decide +kernel
theorem eX9_firstPlace_205 : decode mX9_firstPlace.2.1 205 = .ok (.iload 6, 2) := by decide +kernel
theorem eX9_firstPlace_207 : decode mX9_firstPlace.2.1 207 = .ok (.if_icmp .ge 44, 3) := by decide +kernel
theorem eX9_firstPlace_210 : decode mX9_firstPlace.2.1 210 = .ok (.aload_n 0, 1) := by decide +kernel
theorem eX9_firstPlace_211 : decode mX9_firstPlace.2.1 211 = .ok (.getfield 23, 3) := by decide +kernel
theorem eX9_firstPlace_214 : decode mX9_firstPlace.2.1 214 = .ok (.iload 8, 2) := by decide +kernel
theorem eX9_firstPlace_216 : decode mX9_firstPlace.2.1 216 = .ok (.baload, 1) := by decide +kernel
theorem eX9_firstPlace_217 : decode mX9_firstPlace.2.1 217 = .ok (.ifCond .eq 10, 3) := by decide +kernel
theorem eX9_firstPlace_220 : decode mX9_firstPlace.2.1 220 = .ok (.iload 7, 2) := by decide +kernel
theorem eX9_firstPlace_222 : decode mX9_firstPlace.2.1 222 = .ok (.iconst 1, 1) := by decide +kernel
theorem eX9_firstPlace_223 : decode mX9_firstPlace.2.1 223 = .ok (.iadd, 1) := by decide +kernel
theorem eX9_firstPlace_224 : decode mX9_firstPlace.2.1 224 = .ok (.goto 4, 3) := by decide +kernel
theorem eX9_firstPlace_227 : decode mX9_firstPlace.2.1 227 = .ok (.iconst 0, 1) := by decide +kernel
theorem eX9_firstPlace_228 : decode mX9_firstPlace.2.1 228 = .ok (.istore 7, 2) := by decide +kernel
theorem eX9_firstPlace_230 : decode mX9_firstPlace.2.1 230 = .ok (.iload 7, 2) := by decide +kernel
theorem eX9_firstPlace_232 : decode mX9_firstPlace.2.1 232 = .ok (.iload 5, 2) := by decide +kernel
theorem eX9_firstPlace_234 : decode mX9_firstPlace.2.1 234 = .ok (.if_icmp .ne 11, 3) := by decide +kernel
theorem eX9_firstPlace_237 : decode mX9_firstPlace.2.1 237 = .ok (.iload 8, 2) := by decide +kernel
theorem eX9_firstPlace_239 : decode mX9_firstPlace.2.1 239 = .ok (.iload 5, 2) := by decide +kernel
theorem eX9_firstPlace_241 : decode mX9_firstPlace.2.1 241 = .ok (.isub, 1) := by decide +kernel
theorem eX9_firstPlace_242 : decode mX9_firstPlace.2.1 242 = .ok (.iconst 1, 1) := by decide +kernel
theorem eX9_firstPlace_243 : decode mX9_firstPlace.2.1 243 = .ok (.iadd, 1) := by decide +kernel
theorem eX9_firstPlace_244 : decode mX9_firstPlace.2.1 244 = .ok (.ireturn, 1) := by decide +kernel
theorem eX9_firstPlace_245 : decode mX9_firstPlace.2.1 245 = .ok (.iinc 8 1, 3) := by decide +kernel
theorem eX9_firstPlace_248 : decode mX9_firstPlace.2.1 248 = .ok (.goto (-45), 3) := by decide +kernel
theorem eX9_firstPlace_251 : decode mX9_firstPlace.2.1 251 = .ok (.iconst (-1), 1) := by decide +kernel
theorem eX9_firstPlace_252 : decode mX9_firstPlace.2.1 252 = .ok (.ireturn, 1) := by decide +kernel
theorem eX9_plan_0 : decode mX9_plan.2.1 0 = .ok (.iload_n 1, 1) := by decide +kernel
theorem eX9_plan_1 : decode mX9_plan.2.1 1 = .ok (.iconst 0, 1) := by decide +kernel
theorem eX9_plan_2 : decode mX9_plan.2.1 2 = .ok (.bipush 100, 2) := by decide +kernel
theorem eX9_plan_4 : decode mX9_plan.2.1 4 = .ok (.invokestatic 70, 3) := by decide +kernel
theorem eX9_plan_7 : decode mX9_plan.2.1 7 = .ok (.ifCond .ne 6, 3) := by decide +kernel
theorem eX9_plan_10 : decode mX9_plan.2.1 10 = .ok (.bipush (-2), 2) := by decide +kernel
theorem eX9_plan_12 : decode mX9_plan.2.1 12 = .ok (.ireturn, 1) := by decide +kernel
theorem eX9_plan_13 : decode mX9_plan.2.1 13 = .ok (.iconst 0, 1) := by decide +kernel
theorem eX9_plan_14 : decode mX9_plan.2.1 14 = .ok (.istore_n 2, 1) := by decide +kernel
theorem eX9_plan_15 : decode mX9_plan.2.1 15 = .ok (.iconst 0, 1) := by decide +kernel
theorem eX9_plan_16 : decode mX9_plan.2.1 16 = .ok (.istore_n 3, 1) := by decide +kernel
theorem eX9_plan_17 : decode mX9_plan.2.1 17 = .ok (.iload_n 3, 1) := by decide +kernel
theorem eX9_plan_18 : decode mX9_plan.2.1 18 = .ok (.aload_n 0, 1) := by decide +kernel
theorem eX9_plan_19 : decode mX9_plan.2.1 19 = .ok (.getfield 7, 3) := by decide +kernel
theorem eX9_plan_22 : decode mX9_plan.2.1 22 = .ok (.iconst 1, 1) := by decide +kernel
theorem eX9_plan_23 : decode mX9_plan.2.1 23 = .ok (.iaload, 1) := by decide +kernel
theorem eX9_plan_24 : decode mX9_plan.2.1 24 = .ok (.if_icmp .ge 140, 3) := by decide +kernel
theorem eX9_plan_27 : decode mX9_plan.2.1 27 = .ok (.aload_n 0, 1) := by decide +kernel
theorem eX9_plan_28 : decode mX9_plan.2.1 28 = .ok (.iload_n 3, 1) := by decide +kernel
theorem eX9_plan_29 : decode mX9_plan.2.1 29 = .ok (.invokevirtual 137, 3) := by decide +kernel
theorem eX9_plan_32 : decode mX9_plan.2.1 32 = .ok (.ifCond .ne 6, 3) := by decide +kernel
theorem eX9_plan_35 : decode mX9_plan.2.1 35 = .ok (.goto 123, 3) := by decide +kernel
theorem eX9_plan_38 : decode mX9_plan.2.1 38 = .ok (.iconst 0, 1) := by decide +kernel
theorem eX9_plan_39 : decode mX9_plan.2.1 39 = .ok (.istore 4, 2) := by decide +kernel
theorem eX9_plan_41 : decode mX9_plan.2.1 41 = .ok (.iload 4, 2) := by decide +kernel
theorem eX9_plan_43 : decode mX9_plan.2.1 43 = .ok (.aload_n 0, 1) := by decide +kernel
theorem eX9_plan_44 : decode mX9_plan.2.1 44 = .ok (.iload_n 3, 1) := by decide +kernel
theorem eX9_plan_45 : decode mX9_plan.2.1 45 = .ok (.invokevirtual 82, 3) := by decide +kernel
theorem eX9_plan_48 : decode mX9_plan.2.1 48 = .ok (.if_icmp .ge 110, 3) := by decide +kernel
theorem eX9_plan_51 : decode mX9_plan.2.1 51 = .ok (.aload_n 0, 1) := by decide +kernel
theorem eX9_plan_52 : decode mX9_plan.2.1 52 = .ok (.iload_n 3, 1) := by decide +kernel
theorem eX9_plan_53 : decode mX9_plan.2.1 53 = .ok (.sipush 300, 3) := by decide +kernel
theorem eX9_plan_56 : decode mX9_plan.2.1 56 = .ok (.iload 4, 2) := by decide +kernel
theorem eX9_plan_58 : decode mX9_plan.2.1 58 = .ok (.iadd, 1) := by decide +kernel
theorem eX9_plan_59 : decode mX9_plan.2.1 59 = .ok (.invokevirtual 57, 3) := by decide +kernel
theorem eX9_plan_62 : decode mX9_plan.2.1 62 = .ok (.iconst (-1), 1) := by decide +kernel
theorem eX9_plan_63 : decode mX9_plan.2.1 63 = .ok (.if_icmp .eq 6, 3) := by decide +kernel
theorem eX9_plan_66 : decode mX9_plan.2.1 66 = .ok (.goto 86, 3) := by decide +kernel
theorem eX9_plan_69 : decode mX9_plan.2.1 69 = .ok (.iconst (-1), 1) := by decide +kernel
theorem eX9_plan_70 : decode mX9_plan.2.1 70 = .ok (.istore 5, 2) := by decide +kernel
theorem eX9_plan_72 : decode mX9_plan.2.1 72 = .ok (.iconst (-1), 1) := by decide +kernel
theorem eX9_plan_73 : decode mX9_plan.2.1 73 = .ok (.istore 6, 2) := by decide +kernel
theorem eX9_plan_75 : decode mX9_plan.2.1 75 = .ok (.iconst 0, 1) := by decide +kernel
theorem eX9_plan_76 : decode mX9_plan.2.1 76 = .ok (.istore 7, 2) := by decide +kernel
theorem eX9_plan_78 : decode mX9_plan.2.1 78 = .ok (.iload 7, 2) := by decide +kernel
theorem eX9_plan_80 : decode mX9_plan.2.1 80 = .ok (.aload_n 0, 1) := by decide +kernel
theorem eX9_plan_81 : decode mX9_plan.2.1 81 = .ok (.getfield 7, 3) := by decide +kernel
theorem eX9_plan_84 : decode mX9_plan.2.1 84 = .ok (.iconst 0, 1) := by decide +kernel
theorem eX9_plan_85 : decode mX9_plan.2.1 85 = .ok (.iaload, 1) := by decide +kernel
theorem eX9_plan_86 : decode mX9_plan.2.1 86 = .ok (.if_icmp .ge 31, 3) := by decide +kernel
theorem eX9_plan_89 : decode mX9_plan.2.1 89 = .ok (.iload 6, 2) := by decide +kernel
theorem eX9_plan_91 : decode mX9_plan.2.1 91 = .ok (.iconst (-1), 1) := by decide +kernel
theorem eX9_plan_92 : decode mX9_plan.2.1 92 = .ok (.if_icmp .ne 25, 3) := by decide +kernel
theorem eX9_plan_95 : decode mX9_plan.2.1 95 = .ok (.aload_n 0, 1) := by decide +kernel
theorem eX9_plan_96 : decode mX9_plan.2.1 96 = .ok (.iload 7, 2) := by decide +kernel
theorem eX9_plan_98 : decode mX9_plan.2.1 98 = .ok (.iload_n 3, 1) := by decide +kernel
theorem eX9_plan_99 : decode mX9_plan.2.1 99 = .ok (.iload 4, 2) := by decide +kernel
theorem eX9_plan_101 : decode mX9_plan.2.1 101 = .ok (.iload_n 1, 1) := by decide +kernel
theorem eX9_plan_102 : decode mX9_plan.2.1 102 = .ok (.invokevirtual 163, 3) := by decide +kernel
theorem eX9_plan_105 : decode mX9_plan.2.1 105 = .ok (.istore 6, 2) := by decide +kernel
theorem eX9_plan_107 : decode mX9_plan.2.1 107 = .ok (.iload 7, 2) := by decide +kernel
theorem eX9_plan_109 : decode mX9_plan.2.1 109 = .ok (.istore 5, 2) := by decide +kernel
theorem eX9_plan_111 : decode mX9_plan.2.1 111 = .ok (.iinc 7 1, 3) := by decide +kernel
theorem eX9_plan_114 : decode mX9_plan.2.1 114 = .ok (.goto (-36), 3) := by decide +kernel
theorem eX9_plan_117 : decode mX9_plan.2.1 117 = .ok (.iload 6, 2) := by decide +kernel
theorem eX9_plan_119 : decode mX9_plan.2.1 119 = .ok (.iconst (-1), 1) := by decide +kernel
theorem eX9_plan_120 : decode mX9_plan.2.1 120 = .ok (.if_icmp .ne 11, 3) := by decide +kernel
theorem eX9_plan_123 : decode mX9_plan.2.1 123 = .ok (.bipush 100, 2) := by decide +kernel
theorem eX9_plan_125 : decode mX9_plan.2.1 125 = .ok (.iload_n 3, 1) := by decide +kernel
theorem eX9_plan_126 : decode mX9_plan.2.1 126 = .ok (.imul, 1) := by decide +kernel
theorem eX9_plan_127 : decode mX9_plan.2.1 127 = .ok (.iload 4, 2) := by decide +kernel
theorem eX9_plan_129 : decode mX9_plan.2.1 129 = .ok (.iadd, 1) := by decide +kernel
theorem eX9_plan_130 : decode mX9_plan.2.1 130 = .ok (.ireturn, 1) := by decide +kernel
theorem eX9_plan_131 : decode mX9_plan.2.1 131 = .ok (.iload_n 2, 1) := by decide +kernel
theorem eX9_plan_132 : decode mX9_plan.2.1 132 = .ok (.ifCond .ne 7, 3) := by decide +kernel
theorem eX9_plan_135 : decode mX9_plan.2.1 135 = .ok (.aload_n 0, 1) := by decide +kernel
theorem eX9_plan_136 : decode mX9_plan.2.1 136 = .ok (.invokevirtual 75, 3) := by decide +kernel
theorem eX9_plan_139 : decode mX9_plan.2.1 139 = .ok (.iconst 1, 1) := by decide +kernel
theorem eX9_plan_140 : decode mX9_plan.2.1 140 = .ok (.istore_n 2, 1) := by decide +kernel
theorem eX9_plan_141 : decode mX9_plan.2.1 141 = .ok (.aload_n 0, 1) := by decide +kernel
theorem eX9_plan_142 : decode mX9_plan.2.1 142 = .ok (.iload_n 3, 1) := by decide +kernel
theorem eX9_plan_143 : decode mX9_plan.2.1 143 = .ok (.iload 4, 2) := by decide +kernel
theorem eX9_plan_145 : decode mX9_plan.2.1 145 = .ok (.iload 5, 2) := by decide +kernel
theorem eX9_plan_147 : decode mX9_plan.2.1 147 = .ok (.iload 6, 2) := by decide +kernel
theorem eX9_plan_149 : decode mX9_plan.2.1 149 = .ok (.invokevirtual 159, 3) := by decide +kernel
theorem eX9_plan_152 : decode mX9_plan.2.1 152 = .ok (.iinc 4 1, 3) := by decide +kernel
theorem eX9_plan_155 : decode mX9_plan.2.1 155 = .ok (.goto (-114), 3) := by decide +kernel
theorem eX9_plan_158 : decode mX9_plan.2.1 158 = .ok (.iinc 3 1, 3) := by decide +kernel
theorem eX9_plan_161 : decode mX9_plan.2.1 161 = .ok (.goto (-144), 3) := by decide +kernel
theorem eX9_plan_164 : decode mX9_plan.2.1 164 = .ok (.iconst (-1), 1) := by decide +kernel
theorem eX9_plan_165 : decode mX9_plan.2.1 165 = .ok (.ireturn, 1) := by decide +kernel
theorem eX9_fewest_0 : decode mX9_fewest.2.1 0 = .ok (.aload_n 0, 1) := by decide +kernel
theorem eX9_fewest_1 : decode mX9_fewest.2.1 1 = .ok (.iload_n 1, 1) := by decide +kernel
theorem eX9_fewest_2 : decode mX9_fewest.2.1 2 = .ok (.invokevirtual 137, 3) := by decide +kernel
theorem eX9_fewest_5 : decode mX9_fewest.2.1 5 = .ok (.ifCond .eq 13, 3) := by decide +kernel
theorem eX9_fewest_8 : decode mX9_fewest.2.1 8 = .ok (.iload_n 2, 1) := by decide +kernel
theorem eX9_fewest_9 : decode mX9_fewest.2.1 9 = .ok (.iconst 0, 1) := by decide +kernel
theorem eX9_fewest_10 : decode mX9_fewest.2.1 10 = .ok (.bipush 100, 2) := by decide +kernel
theorem eX9_fewest_12 : decode mX9_fewest.2.1 12 = .ok (.invokestatic 70, 3) := by decide +kernel
theorem eX9_fewest_15 : decode mX9_fewest.2.1 15 = .ok (.ifCond .ne 5, 3) := by decide +kernel
theorem eX9_fewest_18 : decode mX9_fewest.2.1 18 = .ok (.iconst (-1), 1) := by decide +kernel
theorem eX9_fewest_19 : decode mX9_fewest.2.1 19 = .ok (.ireturn, 1) := by decide +kernel
theorem eX9_fewest_20 : decode mX9_fewest.2.1 20 = .ok (.iconst 0, 1) := by decide +kernel
theorem eX9_fewest_21 : decode mX9_fewest.2.1 21 = .ok (.istore_n 3, 1) := by decide +kernel
theorem eX9_fewest_22 : decode mX9_fewest.2.1 22 = .ok (.iconst 0, 1) := by decide +kernel
theorem eX9_fewest_23 : decode mX9_fewest.2.1 23 = .ok (.istore 4, 2) := by decide +kernel
theorem eX9_fewest_25 : decode mX9_fewest.2.1 25 = .ok (.iload 4, 2) := by decide +kernel
theorem eX9_fewest_27 : decode mX9_fewest.2.1 27 = .ok (.aload_n 0, 1) := by decide +kernel
theorem eX9_fewest_28 : decode mX9_fewest.2.1 28 = .ok (.iload_n 1, 1) := by decide +kernel
theorem eX9_fewest_29 : decode mX9_fewest.2.1 29 = .ok (.invokevirtual 82, 3) := by decide +kernel
theorem eX9_fewest_32 : decode mX9_fewest.2.1 32 = .ok (.if_icmp .ge 44, 3) := by decide +kernel
theorem eX9_fewest_35 : decode mX9_fewest.2.1 35 = .ok (.aload_n 0, 1) := by decide +kernel
theorem eX9_fewest_36 : decode mX9_fewest.2.1 36 = .ok (.iload_n 1, 1) := by decide +kernel
theorem eX9_fewest_37 : decode mX9_fewest.2.1 37 = .ok (.sipush 300, 3) := by decide +kernel
theorem eX9_fewest_40 : decode mX9_fewest.2.1 40 = .ok (.iload 4, 2) := by decide +kernel
theorem eX9_fewest_42 : decode mX9_fewest.2.1 42 = .ok (.iadd, 1) := by decide +kernel
theorem eX9_fewest_43 : decode mX9_fewest.2.1 43 = .ok (.invokevirtual 57, 3) := by decide +kernel
theorem eX9_fewest_46 : decode mX9_fewest.2.1 46 = .ok (.iconst (-1), 1) := by decide +kernel
theorem eX9_fewest_47 : decode mX9_fewest.2.1 47 = .ok (.if_icmp .eq 6, 3) := by decide +kernel
theorem eX9_fewest_50 : decode mX9_fewest.2.1 50 = .ok (.goto 20, 3) := by decide +kernel
theorem eX9_fewest_53 : decode mX9_fewest.2.1 53 = .ok (.iload_n 3, 1) := by decide +kernel
theorem eX9_fewest_54 : decode mX9_fewest.2.1 54 = .ok (.bipush 8, 2) := by decide +kernel
theorem eX9_fewest_56 : decode mX9_fewest.2.1 56 = .ok (.if_icmp .ge 11, 3) := by decide +kernel
theorem eX9_fewest_59 : decode mX9_fewest.2.1 59 = .ok (.aload_n 0, 1) := by decide +kernel
theorem eX9_fewest_60 : decode mX9_fewest.2.1 60 = .ok (.getfield 27, 3) := by decide +kernel
theorem eX9_fewest_63 : decode mX9_fewest.2.1 63 = .ok (.iload_n 3, 1) := by decide +kernel
theorem eX9_fewest_64 : decode mX9_fewest.2.1 64 = .ok (.iload 4, 2) := by decide +kernel
theorem eX9_fewest_66 : decode mX9_fewest.2.1 66 = .ok (.iastore, 1) := by decide +kernel
theorem eX9_fewest_67 : decode mX9_fewest.2.1 67 = .ok (.iinc 3 1, 3) := by decide +kernel
theorem eX9_fewest_70 : decode mX9_fewest.2.1 70 = .ok (.iinc 4 1, 3) := by decide +kernel
theorem eX9_fewest_73 : decode mX9_fewest.2.1 73 = .ok (.goto (-48), 3) := by decide +kernel
theorem eX9_fewest_76 : decode mX9_fewest.2.1 76 = .ok (.iload_n 3, 1) := by decide +kernel
theorem eX9_fewest_77 : decode mX9_fewest.2.1 77 = .ok (.bipush 8, 2) := by decide +kernel
theorem eX9_fewest_79 : decode mX9_fewest.2.1 79 = .ok (.if_icmp .le 5, 3) := by decide +kernel
theorem eX9_fewest_82 : decode mX9_fewest.2.1 82 = .ok (.iconst (-1), 1) := by decide +kernel
theorem eX9_fewest_83 : decode mX9_fewest.2.1 83 = .ok (.ireturn, 1) := by decide +kernel
theorem eX9_fewest_84 : decode mX9_fewest.2.1 84 = .ok (.iconst 0, 1) := by decide +kernel
theorem eX9_fewest_85 : decode mX9_fewest.2.1 85 = .ok (.istore 4, 2) := by decide +kernel
theorem eX9_fewest_87 : decode mX9_fewest.2.1 87 = .ok (.iload 4, 2) := by decide +kernel
theorem eX9_fewest_89 : decode mX9_fewest.2.1 89 = .ok (.iconst 1, 1) := by decide +kernel
theorem eX9_fewest_90 : decode mX9_fewest.2.1 90 = .ok (.iload_n 3, 1) := by decide +kernel
theorem eX9_fewest_91 : decode mX9_fewest.2.1 91 = .ok (.ishl, 1) := by decide +kernel
theorem eX9_fewest_92 : decode mX9_fewest.2.1 92 = .ok (.if_icmp .ge 27, 3) := by decide +kernel
theorem eX9_fewest_95 : decode mX9_fewest.2.1 95 = .ok (.aload_n 0, 1) := by decide +kernel
theorem eX9_fewest_96 : decode mX9_fewest.2.1 96 = .ok (.getfield 30, 3) := by decide +kernel
theorem eX9_fewest_99 : decode mX9_fewest.2.1 99 = .ok (.iload 4, 2) := by decide +kernel
theorem eX9_fewest_101 : decode mX9_fewest.2.1 101 = .ok (.iload 4, 2) := by decide +kernel
theorem eX9_fewest_103 : decode mX9_fewest.2.1 103 = .ok (.ifCond .ne 7, 3) := by decide +kernel
theorem eX9_fewest_106 : decode mX9_fewest.2.1 106 = .ok (.iconst 0, 1) := by decide +kernel
theorem eX9_fewest_107 : decode mX9_fewest.2.1 107 = .ok (.goto 5, 3) := by decide +kernel
theorem eX9_fewest_110 : decode mX9_fewest.2.1 110 = .ok (.bipush 99, 2) := by decide +kernel
theorem eX9_fewest_112 : decode mX9_fewest.2.1 112 = .ok (.iastore, 1) := by decide +kernel
theorem eX9_fewest_113 : decode mX9_fewest.2.1 113 = .ok (.iinc 4 1, 3) := by decide +kernel
theorem eX9_fewest_116 : decode mX9_fewest.2.1 116 = .ok (.goto (-29), 3) := by decide +kernel
theorem eX9_fewest_119 : decode mX9_fewest.2.1 119 = .ok (.iconst 0, 1) := by decide +kernel
theorem eX9_fewest_120 : decode mX9_fewest.2.1 120 = .ok (.istore 4, 2) := by decide +kernel
theorem eX9_fewest_122 : decode mX9_fewest.2.1 122 = .ok (.iload 4, 2) := by decide +kernel
theorem eX9_fewest_124 : decode mX9_fewest.2.1 124 = .ok (.aload_n 0, 1) := by decide +kernel
theorem eX9_fewest_125 : decode mX9_fewest.2.1 125 = .ok (.getfield 7, 3) := by decide +kernel
theorem eX9_fewest_128 : decode mX9_fewest.2.1 128 = .ok (.iconst 0, 1) := by decide +kernel
theorem eX9_fewest_129 : decode mX9_fewest.2.1 129 = .ok (.iaload, 1) := by decide +kernel
theorem eX9_fewest_130 : decode mX9_fewest.2.1 130 = .ok (.if_icmp .ge 192, 3) := by decide +kernel
theorem eX9_fewest_133 : decode mX9_fewest.2.1 133 = .ok (.aload_n 0, 1) := by decide +kernel
theorem eX9_fewest_134 : decode mX9_fewest.2.1 134 = .ok (.iload 4, 2) := by decide +kernel
theorem eX9_fewest_136 : decode mX9_fewest.2.1 136 = .ok (.invokevirtual 95, 3) := by decide +kernel
theorem eX9_fewest_139 : decode mX9_fewest.2.1 139 = .ok (.istore 5, 2) := by decide +kernel
theorem eX9_fewest_141 : decode mX9_fewest.2.1 141 = .ok (.iconst 0, 1) := by decide +kernel
theorem eX9_fewest_142 : decode mX9_fewest.2.1 142 = .ok (.istore 6, 2) := by decide +kernel
theorem eX9_fewest_144 : decode mX9_fewest.2.1 144 = .ok (.iload 6, 2) := by decide +kernel
theorem eX9_fewest_146 : decode mX9_fewest.2.1 146 = .ok (.aload_n 0, 1) := by decide +kernel
theorem eX9_fewest_147 : decode mX9_fewest.2.1 147 = .ok (.iload 4, 2) := by decide +kernel
theorem eX9_fewest_149 : decode mX9_fewest.2.1 149 = .ok (.iconst 1, 1) := by decide +kernel
theorem eX9_fewest_150 : decode mX9_fewest.2.1 150 = .ok (.invokevirtual 92, 3) := by decide +kernel
theorem eX9_fewest_153 : decode mX9_fewest.2.1 153 = .ok (.if_icmp .ge 33, 3) := by decide +kernel
theorem eX9_fewest_156 : decode mX9_fewest.2.1 156 = .ok (.iload 5, 2) := by decide +kernel
theorem eX9_fewest_158 : decode mX9_fewest.2.1 158 = .ok (.ifCond .eq 28, 3) := by decide +kernel
theorem eX9_fewest_161 : decode mX9_fewest.2.1 161 = .ok (.aload_n 0, 1) := by decide +kernel
theorem eX9_fewest_162 : decode mX9_fewest.2.1 162 = .ok (.iload 4, 2) := by decide +kernel
theorem eX9_fewest_164 : decode mX9_fewest.2.1 164 = .ok (.iload 6, 2) := by decide +kernel
theorem eX9_fewest_166 : decode mX9_fewest.2.1 166 = .ok (.invokevirtual 146, 3) := by decide +kernel
theorem eX9_fewest_169 : decode mX9_fewest.2.1 169 = .ok (.iload_n 2, 1) := by decide +kernel
theorem eX9_fewest_170 : decode mX9_fewest.2.1 170 = .ok (.if_icmp .gt 7, 3) := by decide +kernel
theorem eX9_fewest_173 : decode mX9_fewest.2.1 173 = .ok (.iconst 1, 1) := by decide +kernel
theorem eX9_fewest_174 : decode mX9_fewest.2.1 174 = .ok (.goto 4, 3) := by decide +kernel
theorem eX9_fewest_177 : decode mX9_fewest.2.1 177 = .ok (.iconst 0, 1) := by decide +kernel
theorem eX9_fewest_178 : decode mX9_fewest.2.1 178 = .ok (.istore 5, 2) := by decide +kernel
theorem eX9_fewest_180 : decode mX9_fewest.2.1 180 = .ok (.iinc 6 1, 3) := by decide +kernel
theorem eX9_fewest_183 : decode mX9_fewest.2.1 183 = .ok (.goto (-39), 3) := by decide +kernel
theorem eX9_fewest_186 : decode mX9_fewest.2.1 186 = .ok (.iload 5, 2) := by decide +kernel
theorem eX9_fewest_188 : decode mX9_fewest.2.1 188 = .ok (.ifCond .ne 6, 3) := by decide +kernel
theorem eX9_fewest_191 : decode mX9_fewest.2.1 191 = .ok (.goto 125, 3) := by decide +kernel
theorem eX9_fewest_194 : decode mX9_fewest.2.1 194 = .ok (.iconst 0, 1) := by decide +kernel
theorem eX9_fewest_195 : decode mX9_fewest.2.1 195 = .ok (.istore 6, 2) := by decide +kernel
theorem eX9_fewest_197 : decode mX9_fewest.2.1 197 = .ok (.iload 6, 2) := by decide +kernel
theorem eX9_fewest_199 : decode mX9_fewest.2.1 199 = .ok (.iconst 1, 1) := by decide +kernel
theorem eX9_fewest_200 : decode mX9_fewest.2.1 200 = .ok (.iload_n 3, 1) := by decide +kernel
theorem eX9_fewest_201 : decode mX9_fewest.2.1 201 = .ok (.ishl, 1) := by decide +kernel
theorem eX9_fewest_202 : decode mX9_fewest.2.1 202 = .ok (.if_icmp .ge 23, 3) := by decide +kernel
theorem eX9_fewest_205 : decode mX9_fewest.2.1 205 = .ok (.aload_n 0, 1) := by decide +kernel
theorem eX9_fewest_206 : decode mX9_fewest.2.1 206 = .ok (.getfield 33, 3) := by decide +kernel
theorem eX9_fewest_209 : decode mX9_fewest.2.1 209 = .ok (.iload 6, 2) := by decide +kernel
theorem eX9_fewest_211 : decode mX9_fewest.2.1 211 = .ok (.aload_n 0, 1) := by decide +kernel
theorem eX9_fewest_212 : decode mX9_fewest.2.1 212 = .ok (.getfield 30, 3) := by decide +kernel
theorem eX9_fewest_215 : decode mX9_fewest.2.1 215 = .ok (.iload 6, 2) := by decide +kernel
theorem eX9_fewest_217 : decode mX9_fewest.2.1 217 = .ok (.iaload, 1) := by decide +kernel
theorem eX9_fewest_218 : decode mX9_fewest.2.1 218 = .ok (.iastore, 1) := by decide +kernel
theorem eX9_fewest_219 : decode mX9_fewest.2.1 219 = .ok (.iinc 6 1, 3) := by decide +kernel
theorem eX9_fewest_222 : decode mX9_fewest.2.1 222 = .ok (.goto (-25), 3) := by decide +kernel
theorem eX9_fewest_225 : decode mX9_fewest.2.1 225 = .ok (.iconst 1, 1) := by decide +kernel
theorem eX9_fewest_226 : decode mX9_fewest.2.1 226 = .ok (.istore 6, 2) := by decide +kernel
theorem eX9_fewest_228 : decode mX9_fewest.2.1 228 = .ok (.iload 6, 2) := by decide +kernel
theorem eX9_fewest_230 : decode mX9_fewest.2.1 230 = .ok (.iconst 1, 1) := by decide +kernel
theorem eX9_fewest_231 : decode mX9_fewest.2.1 231 = .ok (.iload_n 3, 1) := by decide +kernel
theorem eX9_fewest_232 : decode mX9_fewest.2.1 232 = .ok (.ishl, 1) := by decide +kernel
theorem eX9_fewest_233 : decode mX9_fewest.2.1 233 = .ok (.if_icmp .ge 83, 3) := by decide +kernel
theorem eX9_fewest_236 : decode mX9_fewest.2.1 236 = .ok (.aload_n 0, 1) := by decide +kernel
theorem eX9_fewest_237 : decode mX9_fewest.2.1 237 = .ok (.iload 4, 2) := by decide +kernel
theorem eX9_fewest_239 : decode mX9_fewest.2.1 239 = .ok (.iload_n 1, 1) := by decide +kernel
theorem eX9_fewest_240 : decode mX9_fewest.2.1 240 = .ok (.iload 6, 2) := by decide +kernel
theorem eX9_fewest_242 : decode mX9_fewest.2.1 242 = .ok (.iload_n 3, 1) := by decide +kernel
theorem eX9_fewest_243 : decode mX9_fewest.2.1 243 = .ok (.invokevirtual 166, 3) := by decide +kernel
theorem eX9_fewest_246 : decode mX9_fewest.2.1 246 = .ok (.ifCond .ne 6, 3) := by decide +kernel
theorem eX9_fewest_249 : decode mX9_fewest.2.1 249 = .ok (.goto 61, 3) := by decide +kernel
theorem eX9_fewest_252 : decode mX9_fewest.2.1 252 = .ok (.iconst 0, 1) := by decide +kernel
theorem eX9_fewest_253 : decode mX9_fewest.2.1 253 = .ok (.istore 7, 2) := by decide +kernel
theorem eX9_fewest_255 : decode mX9_fewest.2.1 255 = .ok (.iload 7, 2) := by decide +kernel
theorem eX9_fewest_257 : decode mX9_fewest.2.1 257 = .ok (.iconst 1, 1) := by decide +kernel
theorem eX9_fewest_258 : decode mX9_fewest.2.1 258 = .ok (.iload_n 3, 1) := by decide +kernel
theorem eX9_fewest_259 : decode mX9_fewest.2.1 259 = .ok (.ishl, 1) := by decide +kernel
theorem eX9_fewest_260 : decode mX9_fewest.2.1 260 = .ok (.if_icmp .ge 50, 3) := by decide +kernel
theorem eX9_fewest_263 : decode mX9_fewest.2.1 263 = .ok (.iload 7, 2) := by decide +kernel
theorem eX9_fewest_265 : decode mX9_fewest.2.1 265 = .ok (.iload 6, 2) := by decide +kernel
theorem eX9_fewest_267 : decode mX9_fewest.2.1 267 = .ok (.iand, 1) := by decide +kernel
theorem eX9_fewest_268 : decode mX9_fewest.2.1 268 = .ok (.iload 6, 2) := by decide +kernel
theorem eX9_fewest_270 : decode mX9_fewest.2.1 270 = .ok (.if_icmp .ne 34, 3) := by decide +kernel
theorem eX9_fewest_273 : decode mX9_fewest.2.1 273 = .ok (.aload_n 0, 1) := by decide +kernel
theorem eX9_fewest_274 : decode mX9_fewest.2.1 274 = .ok (.getfield 30, 3) := by decide +kernel
theorem eX9_fewest_277 : decode mX9_fewest.2.1 277 = .ok (.iload 7, 2) := by decide +kernel
theorem eX9_fewest_279 : decode mX9_fewest.2.1 279 = .ok (.aload_n 0, 1) := by decide +kernel
theorem eX9_fewest_280 : decode mX9_fewest.2.1 280 = .ok (.getfield 30, 3) := by decide +kernel
theorem eX9_fewest_283 : decode mX9_fewest.2.1 283 = .ok (.iload 7, 2) := by decide +kernel
theorem eX9_fewest_285 : decode mX9_fewest.2.1 285 = .ok (.iaload, 1) := by decide +kernel
theorem eX9_fewest_286 : decode mX9_fewest.2.1 286 = .ok (.iconst 1, 1) := by decide +kernel
theorem eX9_fewest_287 : decode mX9_fewest.2.1 287 = .ok (.aload_n 0, 1) := by decide +kernel
theorem eX9_fewest_288 : decode mX9_fewest.2.1 288 = .ok (.getfield 33, 3) := by decide +kernel
theorem eX9_fewest_291 : decode mX9_fewest.2.1 291 = .ok (.iload 7, 2) := by decide +kernel
theorem eX9_fewest_293 : decode mX9_fewest.2.1 293 = .ok (.iload 6, 2) := by decide +kernel
theorem eX9_fewest_295 : decode mX9_fewest.2.1 295 = .ok (.iconst (-1), 1) := by decide +kernel
theorem eX9_fewest_296 : decode mX9_fewest.2.1 296 = .ok (.ixor, 1) := by decide +kernel
theorem eX9_fewest_297 : decode mX9_fewest.2.1 297 = .ok (.iand, 1) := by decide +kernel
theorem eX9_fewest_298 : decode mX9_fewest.2.1 298 = .ok (.iaload, 1) := by decide +kernel
theorem eX9_fewest_299 : decode mX9_fewest.2.1 299 = .ok (.iadd, 1) := by decide +kernel
theorem eX9_fewest_300 : decode mX9_fewest.2.1 300 = .ok (.invokestatic 47, 3) := by decide +kernel
theorem eX9_fewest_303 : decode mX9_fewest.2.1 303 = .ok (.iastore, 1) := by decide +kernel
theorem eX9_fewest_304 : decode mX9_fewest.2.1 304 = .ok (.iinc 7 1, 3) := by decide +kernel
theorem eX9_fewest_307 : decode mX9_fewest.2.1 307 = .ok (.goto (-52), 3) := by decide +kernel
theorem eX9_fewest_310 : decode mX9_fewest.2.1 310 = .ok (.iinc 6 1, 3) := by decide +kernel
theorem eX9_fewest_313 : decode mX9_fewest.2.1 313 = .ok (.goto (-85), 3) := by decide +kernel
theorem eX9_fewest_316 : decode mX9_fewest.2.1 316 = .ok (.iinc 4 1, 3) := by decide +kernel
theorem eX9_fewest_319 : decode mX9_fewest.2.1 319 = .ok (.goto (-197), 3) := by decide +kernel
theorem eX9_fewest_322 : decode mX9_fewest.2.1 322 = .ok (.aload_n 0, 1) := by decide +kernel
theorem eX9_fewest_323 : decode mX9_fewest.2.1 323 = .ok (.getfield 30, 3) := by decide +kernel
theorem eX9_fewest_326 : decode mX9_fewest.2.1 326 = .ok (.iconst 1, 1) := by decide +kernel
theorem eX9_fewest_327 : decode mX9_fewest.2.1 327 = .ok (.iload_n 3, 1) := by decide +kernel
theorem eX9_fewest_328 : decode mX9_fewest.2.1 328 = .ok (.ishl, 1) := by decide +kernel
theorem eX9_fewest_329 : decode mX9_fewest.2.1 329 = .ok (.iconst 1, 1) := by decide +kernel
theorem eX9_fewest_330 : decode mX9_fewest.2.1 330 = .ok (.isub, 1) := by decide +kernel
theorem eX9_fewest_331 : decode mX9_fewest.2.1 331 = .ok (.iaload, 1) := by decide +kernel
theorem eX9_fewest_332 : decode mX9_fewest.2.1 332 = .ok (.istore 4, 2) := by decide +kernel
theorem eX9_fewest_334 : decode mX9_fewest.2.1 334 = .ok (.iload 4, 2) := by decide +kernel
theorem eX9_fewest_336 : decode mX9_fewest.2.1 336 = .ok (.bipush 24, 2) := by decide +kernel
theorem eX9_fewest_338 : decode mX9_fewest.2.1 338 = .ok (.if_icmp .le 7, 3) := by decide +kernel
theorem eX9_fewest_341 : decode mX9_fewest.2.1 341 = .ok (.iconst (-1), 1) := by decide +kernel
theorem eX9_fewest_342 : decode mX9_fewest.2.1 342 = .ok (.goto 5, 3) := by decide +kernel
theorem eX9_fewest_345 : decode mX9_fewest.2.1 345 = .ok (.iload 4, 2) := by decide +kernel
theorem eX9_fewest_347 : decode mX9_fewest.2.1 347 = .ok (.ireturn, 1) := by decide +kernel
theorem eX9_fits_0 : decode mX9_fits.2.1 0 = .ok (.iconst 0, 1) := by decide +kernel
theorem eX9_fits_1 : decode mX9_fits.2.1 1 = .ok (.istore 5, 2) := by decide +kernel
theorem eX9_fits_3 : decode mX9_fits.2.1 3 = .ok (.iconst 1, 1) := by decide +kernel
theorem eX9_fits_4 : decode mX9_fits.2.1 4 = .ok (.istore 6, 2) := by decide +kernel
theorem eX9_fits_6 : decode mX9_fits.2.1 6 = .ok (.iconst 0, 1) := by decide +kernel
theorem eX9_fits_7 : decode mX9_fits.2.1 7 = .ok (.istore 7, 2) := by decide +kernel
theorem eX9_fits_9 : decode mX9_fits.2.1 9 = .ok (.iload 7, 2) := by decide +kernel
theorem eX9_fits_11 : decode mX9_fits.2.1 11 = .ok (.iload 4, 2) := by decide +kernel
theorem eX9_fits_13 : decode mX9_fits.2.1 13 = .ok (.if_icmp .ge 71, 3) := by decide +kernel
theorem eX9_fits_16 : decode mX9_fits.2.1 16 = .ok (.iload_n 3, 1) := by decide +kernel
theorem eX9_fits_17 : decode mX9_fits.2.1 17 = .ok (.iload 7, 2) := by decide +kernel
theorem eX9_fits_19 : decode mX9_fits.2.1 19 = .ok (.ishr, 1) := by decide +kernel
theorem eX9_fits_20 : decode mX9_fits.2.1 20 = .ok (.iconst 1, 1) := by decide +kernel
theorem eX9_fits_21 : decode mX9_fits.2.1 21 = .ok (.iand, 1) := by decide +kernel
theorem eX9_fits_22 : decode mX9_fits.2.1 22 = .ok (.ifCond .ne 6, 3) := by decide +kernel
theorem eX9_fits_25 : decode mX9_fits.2.1 25 = .ok (.goto 53, 3) := by decide +kernel
theorem eX9_fits_28 : decode mX9_fits.2.1 28 = .ok (.iload 5, 2) := by decide +kernel
theorem eX9_fits_30 : decode mX9_fits.2.1 30 = .ok (.aload_n 0, 1) := by decide +kernel
theorem eX9_fits_31 : decode mX9_fits.2.1 31 = .ok (.iload_n 2, 1) := by decide +kernel
theorem eX9_fits_32 : decode mX9_fits.2.1 32 = .ok (.aload_n 0, 1) := by decide +kernel
theorem eX9_fits_33 : decode mX9_fits.2.1 33 = .ok (.getfield 27, 3) := by decide +kernel
theorem eX9_fits_36 : decode mX9_fits.2.1 36 = .ok (.iload 7, 2) := by decide +kernel
theorem eX9_fits_38 : decode mX9_fits.2.1 38 = .ok (.iaload, 1) := by decide +kernel
theorem eX9_fits_39 : decode mX9_fits.2.1 39 = .ok (.invokevirtual 86, 3) := by decide +kernel
theorem eX9_fits_42 : decode mX9_fits.2.1 42 = .ok (.iadd, 1) := by decide +kernel
theorem eX9_fits_43 : decode mX9_fits.2.1 43 = .ok (.istore 5, 2) := by decide +kernel
theorem eX9_fits_45 : decode mX9_fits.2.1 45 = .ok (.iload 6, 2) := by decide +kernel
theorem eX9_fits_47 : decode mX9_fits.2.1 47 = .ok (.ifCond .eq 28, 3) := by decide +kernel
theorem eX9_fits_50 : decode mX9_fits.2.1 50 = .ok (.aload_n 0, 1) := by decide +kernel
theorem eX9_fits_51 : decode mX9_fits.2.1 51 = .ok (.iload_n 2, 1) := by decide +kernel
theorem eX9_fits_52 : decode mX9_fits.2.1 52 = .ok (.aload_n 0, 1) := by decide +kernel
theorem eX9_fits_53 : decode mX9_fits.2.1 53 = .ok (.getfield 27, 3) := by decide +kernel
theorem eX9_fits_56 : decode mX9_fits.2.1 56 = .ok (.iload 7, 2) := by decide +kernel
theorem eX9_fits_58 : decode mX9_fits.2.1 58 = .ok (.iaload, 1) := by decide +kernel
theorem eX9_fits_59 : decode mX9_fits.2.1 59 = .ok (.invokevirtual 143, 3) := by decide +kernel
theorem eX9_fits_62 : decode mX9_fits.2.1 62 = .ok (.aload_n 0, 1) := by decide +kernel
theorem eX9_fits_63 : decode mX9_fits.2.1 63 = .ok (.iload_n 1, 1) := by decide +kernel
theorem eX9_fits_64 : decode mX9_fits.2.1 64 = .ok (.iconst 0, 1) := by decide +kernel
theorem eX9_fits_65 : decode mX9_fits.2.1 65 = .ok (.invokevirtual 92, 3) := by decide +kernel
theorem eX9_fits_68 : decode mX9_fits.2.1 68 = .ok (.if_icmp .gt 7, 3) := by decide +kernel
theorem eX9_fits_71 : decode mX9_fits.2.1 71 = .ok (.iconst 1, 1) := by decide +kernel
theorem eX9_fits_72 : decode mX9_fits.2.1 72 = .ok (.goto 4, 3) := by decide +kernel
theorem eX9_fits_75 : decode mX9_fits.2.1 75 = .ok (.iconst 0, 1) := by decide +kernel
theorem eX9_fits_76 : decode mX9_fits.2.1 76 = .ok (.istore 6, 2) := by decide +kernel
theorem eX9_fits_78 : decode mX9_fits.2.1 78 = .ok (.iinc 7 1, 3) := by decide +kernel
theorem eX9_fits_81 : decode mX9_fits.2.1 81 = .ok (.goto (-72), 3) := by decide +kernel
theorem eX9_fits_84 : decode mX9_fits.2.1 84 = .ok (.iload 6, 2) := by decide +kernel
theorem eX9_fits_86 : decode mX9_fits.2.1 86 = .ok (.ifCond .eq 18, 3) := by decide +kernel
theorem eX9_fits_89 : decode mX9_fits.2.1 89 = .ok (.iload 5, 2) := by decide +kernel
theorem eX9_fits_91 : decode mX9_fits.2.1 91 = .ok (.aload_n 0, 1) := by decide +kernel
theorem eX9_fits_92 : decode mX9_fits.2.1 92 = .ok (.iload_n 1, 1) := by decide +kernel
theorem eX9_fits_93 : decode mX9_fits.2.1 93 = .ok (.iconst 1, 1) := by decide +kernel
theorem eX9_fits_94 : decode mX9_fits.2.1 94 = .ok (.invokevirtual 92, 3) := by decide +kernel
theorem eX9_fits_97 : decode mX9_fits.2.1 97 = .ok (.if_icmp .gt 7, 3) := by decide +kernel
theorem eX9_fits_100 : decode mX9_fits.2.1 100 = .ok (.iconst 1, 1) := by decide +kernel
theorem eX9_fits_101 : decode mX9_fits.2.1 101 = .ok (.goto 4, 3) := by decide +kernel
theorem eX9_fits_104 : decode mX9_fits.2.1 104 = .ok (.iconst 0, 1) := by decide +kernel
theorem eX9_fits_105 : decode mX9_fits.2.1 105 = .ok (.ireturn, 1) := by decide +kernel
theorem eX9_mast_0 : decode mX9_mast.2.1 0 = .ok (.iload_n 1, 1) := by decide +kernel
theorem eX9_mast_1 : decode mX9_mast.2.1 1 = .ok (.iconst 0, 1) := by decide +kernel
theorem eX9_mast_2 : decode mX9_mast.2.1 2 = .ok (.bipush 60, 2) := by decide +kernel
theorem eX9_mast_4 : decode mX9_mast.2.1 4 = .ok (.invokestatic 70, 3) := by decide +kernel
theorem eX9_mast_7 : decode mX9_mast.2.1 7 = .ok (.ifCond .eq 13, 3) := by decide +kernel
theorem eX9_mast_10 : decode mX9_mast.2.1 10 = .ok (.iload_n 2, 1) := by decide +kernel
theorem eX9_mast_11 : decode mX9_mast.2.1 11 = .ok (.iconst 0, 1) := by decide +kernel
theorem eX9_mast_12 : decode mX9_mast.2.1 12 = .ok (.ldc 39, 2) := by decide +kernel
theorem eX9_mast_14 : decode mX9_mast.2.1 14 = .ok (.invokestatic 70, 3) := by decide +kernel
theorem eX9_mast_17 : decode mX9_mast.2.1 17 = .ok (.ifCond .ne 5, 3) := by decide +kernel
theorem eX9_mast_20 : decode mX9_mast.2.1 20 = .ok (.iconst 0, 1) := by decide +kernel
theorem eX9_mast_21 : decode mX9_mast.2.1 21 = .ok (.ireturn, 1) := by decide +kernel
theorem eX9_mast_22 : decode mX9_mast.2.1 22 = .ok (.aload_n 0, 1) := by decide +kernel
theorem eX9_mast_23 : decode mX9_mast.2.1 23 = .ok (.getfield 17, 3) := by decide +kernel
theorem eX9_mast_26 : decode mX9_mast.2.1 26 = .ok (.iload_n 1, 1) := by decide +kernel
theorem eX9_mast_27 : decode mX9_mast.2.1 27 = .ok (.iload_n 2, 1) := by decide +kernel
theorem eX9_mast_28 : decode mX9_mast.2.1 28 = .ok (.iastore, 1) := by decide +kernel
theorem eX9_mast_29 : decode mX9_mast.2.1 29 = .ok (.iconst 1, 1) := by decide +kernel
theorem eX9_mast_30 : decode mX9_mast.2.1 30 = .ok (.ireturn, 1) := by decide +kernel
theorem eX9_wind_0 : decode mX9_wind.2.1 0 = .ok (.iload_n 1, 1) := by decide +kernel
theorem eX9_wind_1 : decode mX9_wind.2.1 1 = .ok (.iconst 0, 1) := by decide +kernel
theorem eX9_wind_2 : decode mX9_wind.2.1 2 = .ok (.bipush 59, 2) := by decide +kernel
theorem eX9_wind_4 : decode mX9_wind.2.1 4 = .ok (.invokestatic 70, 3) := by decide +kernel
theorem eX9_wind_7 : decode mX9_wind.2.1 7 = .ok (.ifCond .eq 14, 3) := by decide +kernel
theorem eX9_wind_10 : decode mX9_wind.2.1 10 = .ok (.iload_n 2, 1) := by decide +kernel
theorem eX9_wind_11 : decode mX9_wind.2.1 11 = .ok (.iconst 0, 1) := by decide +kernel
theorem eX9_wind_12 : decode mX9_wind.2.1 12 = .ok (.sipush 1000, 3) := by decide +kernel
theorem eX9_wind_15 : decode mX9_wind.2.1 15 = .ok (.invokestatic 70, 3) := by decide +kernel
theorem eX9_wind_18 : decode mX9_wind.2.1 18 = .ok (.ifCond .ne 5, 3) := by decide +kernel
theorem eX9_wind_21 : decode mX9_wind.2.1 21 = .ok (.iconst 0, 1) := by decide +kernel
theorem eX9_wind_22 : decode mX9_wind.2.1 22 = .ok (.ireturn, 1) := by decide +kernel
theorem eX9_wind_23 : decode mX9_wind.2.1 23 = .ok (.aload_n 0, 1) := by decide +kernel
theorem eX9_wind_24 : decode mX9_wind.2.1 24 = .ok (.getfield 20, 3) := by decide +kernel
theorem eX9_wind_27 : decode mX9_wind.2.1 27 = .ok (.iload_n 1, 1) := by decide +kernel
theorem eX9_wind_28 : decode mX9_wind.2.1 28 = .ok (.iload_n 2, 1) := by decide +kernel
theorem eX9_wind_29 : decode mX9_wind.2.1 29 = .ok (.iastore, 1) := by decide +kernel
theorem eX9_wind_30 : decode mX9_wind.2.1 30 = .ok (.iconst 1, 1) := by decide +kernel
theorem eX9_wind_31 : decode mX9_wind.2.1 31 = .ok (.ireturn, 1) := by decide +kernel
theorem eX9_set_0 : decode mX9_set.2.1 0 = .ok (.aload_n 0, 1) := by decide +kernel
theorem eX9_set_1 : decode mX9_set.2.1 1 = .ok (.iload_n 1, 1) := by decide +kernel
theorem eX9_set_2 : decode mX9_set.2.1 2 = .ok (.invokevirtual 137, 3) := by decide +kernel
theorem eX9_set_5 : decode mX9_set.2.1 5 = .ok (.ifCond .eq 22, 3) := by decide +kernel
theorem eX9_set_8 : decode mX9_set.2.1 8 = .ok (.aload_n 0, 1) := by decide +kernel
theorem eX9_set_9 : decode mX9_set.2.1 9 = .ok (.iload_n 1, 1) := by decide +kernel
theorem eX9_set_10 : decode mX9_set.2.1 10 = .ok (.bipush 11, 2) := by decide +kernel
theorem eX9_set_12 : decode mX9_set.2.1 12 = .ok (.invokevirtual 57, 3) := by decide +kernel
theorem eX9_set_15 : decode mX9_set.2.1 15 = .ok (.iload_n 2, 1) := by decide +kernel
theorem eX9_set_16 : decode mX9_set.2.1 16 = .ok (.ifCond .eq 7, 3) := by decide +kernel
theorem eX9_set_19 : decode mX9_set.2.1 19 = .ok (.iconst 1, 1) := by decide +kernel
theorem eX9_set_20 : decode mX9_set.2.1 20 = .ok (.goto 4, 3) := by decide +kernel
theorem eX9_set_23 : decode mX9_set.2.1 23 = .ok (.iconst 0, 1) := by decide +kernel
theorem eX9_set_24 : decode mX9_set.2.1 24 = .ok (.if_icmp .ne 5, 3) := by decide +kernel
theorem eX9_set_27 : decode mX9_set.2.1 27 = .ok (.iconst 0, 1) := by decide +kernel
theorem eX9_set_28 : decode mX9_set.2.1 28 = .ok (.ireturn, 1) := by decide +kernel
theorem eX9_set_29 : decode mX9_set.2.1 29 = .ok (.aload_n 0, 1) := by decide +kernel
theorem eX9_set_30 : decode mX9_set.2.1 30 = .ok (.invokevirtual 75, 3) := by decide +kernel
theorem eX9_set_33 : decode mX9_set.2.1 33 = .ok (.aload_n 0, 1) := by decide +kernel
theorem eX9_set_34 : decode mX9_set.2.1 34 = .ok (.iload_n 1, 1) := by decide +kernel
theorem eX9_set_35 : decode mX9_set.2.1 35 = .ok (.bipush 11, 2) := by decide +kernel
theorem eX9_set_37 : decode mX9_set.2.1 37 = .ok (.iload_n 2, 1) := by decide +kernel
theorem eX9_set_38 : decode mX9_set.2.1 38 = .ok (.ifCond .eq 7, 3) := by decide +kernel
theorem eX9_set_41 : decode mX9_set.2.1 41 = .ok (.iconst 1, 1) := by decide +kernel
theorem eX9_set_42 : decode mX9_set.2.1 42 = .ok (.goto 4, 3) := by decide +kernel
theorem eX9_set_45 : decode mX9_set.2.1 45 = .ok (.iconst 0, 1) := by decide +kernel
theorem eX9_set_46 : decode mX9_set.2.1 46 = .ok (.invokevirtual 101, 3) := by decide +kernel
theorem eX9_set_49 : decode mX9_set.2.1 49 = .ok (.iconst 1, 1) := by decide +kernel
theorem eX9_set_50 : decode mX9_set.2.1 50 = .ok (.ireturn, 1) := by decide +kernel
theorem eX9_reef_0 : decode mX9_reef.2.1 0 = .ok (.aload_n 0, 1) := by decide +kernel
theorem eX9_reef_1 : decode mX9_reef.2.1 1 = .ok (.iload_n 1, 1) := by decide +kernel
theorem eX9_reef_2 : decode mX9_reef.2.1 2 = .ok (.invokevirtual 137, 3) := by decide +kernel
theorem eX9_reef_5 : decode mX9_reef.2.1 5 = .ok (.ifCond .eq 28, 3) := by decide +kernel
theorem eX9_reef_8 : decode mX9_reef.2.1 8 = .ok (.iload_n 2, 1) := by decide +kernel
theorem eX9_reef_9 : decode mX9_reef.2.1 9 = .ok (.iconst 0, 1) := by decide +kernel
theorem eX9_reef_10 : decode mX9_reef.2.1 10 = .ok (.aload_n 0, 1) := by decide +kernel
theorem eX9_reef_11 : decode mX9_reef.2.1 11 = .ok (.iload_n 1, 1) := by decide +kernel
theorem eX9_reef_12 : decode mX9_reef.2.1 12 = .ok (.iconst 5, 1) := by decide +kernel
theorem eX9_reef_13 : decode mX9_reef.2.1 13 = .ok (.invokevirtual 57, 3) := by decide +kernel
theorem eX9_reef_16 : decode mX9_reef.2.1 16 = .ok (.invokestatic 70, 3) := by decide +kernel
theorem eX9_reef_19 : decode mX9_reef.2.1 19 = .ok (.ifCond .eq 14, 3) := by decide +kernel
theorem eX9_reef_22 : decode mX9_reef.2.1 22 = .ok (.aload_n 0, 1) := by decide +kernel
theorem eX9_reef_23 : decode mX9_reef.2.1 23 = .ok (.iload_n 1, 1) := by decide +kernel
theorem eX9_reef_24 : decode mX9_reef.2.1 24 = .ok (.bipush 10, 2) := by decide +kernel
theorem eX9_reef_26 : decode mX9_reef.2.1 26 = .ok (.invokevirtual 57, 3) := by decide +kernel
theorem eX9_reef_29 : decode mX9_reef.2.1 29 = .ok (.iload_n 2, 1) := by decide +kernel
theorem eX9_reef_30 : decode mX9_reef.2.1 30 = .ok (.if_icmp .ne 5, 3) := by decide +kernel
theorem eX9_reef_33 : decode mX9_reef.2.1 33 = .ok (.iconst 0, 1) := by decide +kernel
theorem eX9_reef_34 : decode mX9_reef.2.1 34 = .ok (.ireturn, 1) := by decide +kernel
theorem eX9_reef_35 : decode mX9_reef.2.1 35 = .ok (.aload_n 0, 1) := by decide +kernel
theorem eX9_reef_36 : decode mX9_reef.2.1 36 = .ok (.invokevirtual 75, 3) := by decide +kernel
theorem eX9_reef_39 : decode mX9_reef.2.1 39 = .ok (.aload_n 0, 1) := by decide +kernel
theorem eX9_reef_40 : decode mX9_reef.2.1 40 = .ok (.iload_n 1, 1) := by decide +kernel
theorem eX9_reef_41 : decode mX9_reef.2.1 41 = .ok (.bipush 10, 2) := by decide +kernel
theorem eX9_reef_43 : decode mX9_reef.2.1 43 = .ok (.iload_n 2, 1) := by decide +kernel
theorem eX9_reef_44 : decode mX9_reef.2.1 44 = .ok (.invokevirtual 101, 3) := by decide +kernel
theorem eX9_reef_47 : decode mX9_reef.2.1 47 = .ok (.iconst 1, 1) := by decide +kernel
theorem eX9_reef_48 : decode mX9_reef.2.1 48 = .ok (.ireturn, 1) := by decide +kernel
theorem eX9_line_0 : decode mX9_line.2.1 0 = .ok (.aload_n 0, 1) := by decide +kernel
theorem eX9_line_1 : decode mX9_line.2.1 1 = .ok (.iload_n 1, 1) := by decide +kernel
theorem eX9_line_2 : decode mX9_line.2.1 2 = .ok (.invokevirtual 53, 3) := by decide +kernel
theorem eX9_line_5 : decode mX9_line.2.1 5 = .ok (.ifCond .eq 13, 3) := by decide +kernel
theorem eX9_line_8 : decode mX9_line.2.1 8 = .ok (.aload_n 0, 1) := by decide +kernel
theorem eX9_line_9 : decode mX9_line.2.1 9 = .ok (.iload_n 1, 1) := by decide +kernel
theorem eX9_line_10 : decode mX9_line.2.1 10 = .ok (.iconst 0, 1) := by decide +kernel
theorem eX9_line_11 : decode mX9_line.2.1 11 = .ok (.invokevirtual 57, 3) := by decide +kernel
theorem eX9_line_14 : decode mX9_line.2.1 14 = .ok (.iconst 2, 1) := by decide +kernel
theorem eX9_line_15 : decode mX9_line.2.1 15 = .ok (.if_icmp .ne 5, 3) := by decide +kernel
theorem eX9_line_18 : decode mX9_line.2.1 18 = .ok (.iconst (-1), 1) := by decide +kernel
theorem eX9_line_19 : decode mX9_line.2.1 19 = .ok (.ireturn, 1) := by decide +kernel
theorem eX9_line_20 : decode mX9_line.2.1 20 = .ok (.aload_n 0, 1) := by decide +kernel
theorem eX9_line_21 : decode mX9_line.2.1 21 = .ok (.iload_n 1, 1) := by decide +kernel
theorem eX9_line_22 : decode mX9_line.2.1 22 = .ok (.bipush 12, 2) := by decide +kernel
theorem eX9_line_24 : decode mX9_line.2.1 24 = .ok (.invokevirtual 57, 3) := by decide +kernel
theorem eX9_line_27 : decode mX9_line.2.1 27 = .ok (.istore_n 3, 1) := by decide +kernel
theorem eX9_line_28 : decode mX9_line.2.1 28 = .ok (.iload_n 2, 1) := by decide +kernel
theorem eX9_line_29 : decode mX9_line.2.1 29 = .ok (.iconst 1, 1) := by decide +kernel
theorem eX9_line_30 : decode mX9_line.2.1 30 = .ok (.aload_n 0, 1) := by decide +kernel
theorem eX9_line_31 : decode mX9_line.2.1 31 = .ok (.iload_n 1, 1) := by decide +kernel
theorem eX9_line_32 : decode mX9_line.2.1 32 = .ok (.iconst 5, 1) := by decide +kernel
theorem eX9_line_33 : decode mX9_line.2.1 33 = .ok (.invokevirtual 57, 3) := by decide +kernel
theorem eX9_line_36 : decode mX9_line.2.1 36 = .ok (.invokestatic 70, 3) := by decide +kernel
theorem eX9_line_39 : decode mX9_line.2.1 39 = .ok (.ifCond .eq 27, 3) := by decide +kernel
theorem eX9_line_42 : decode mX9_line.2.1 42 = .ok (.iload_n 3, 1) := by decide +kernel
theorem eX9_line_43 : decode mX9_line.2.1 43 = .ok (.iconst 3, 1) := by decide +kernel
theorem eX9_line_44 : decode mX9_line.2.1 44 = .ok (.if_icmp .eq 22, 3) := by decide +kernel
theorem eX9_line_47 : decode mX9_line.2.1 47 = .ok (.iload_n 3, 1) := by decide +kernel
theorem eX9_line_48 : decode mX9_line.2.1 48 = .ok (.ifCond .le 20, 3) := by decide +kernel
theorem eX9_line_51 : decode mX9_line.2.1 51 = .ok (.iload_n 2, 1) := by decide +kernel
theorem eX9_line_52 : decode mX9_line.2.1 52 = .ok (.aload_n 0, 1) := by decide +kernel
theorem eX9_line_53 : decode mX9_line.2.1 53 = .ok (.iload_n 1, 1) := by decide +kernel
theorem eX9_line_54 : decode mX9_line.2.1 54 = .ok (.bipush 13, 2) := by decide +kernel
theorem eX9_line_56 : decode mX9_line.2.1 56 = .ok (.iload_n 3, 1) := by decide +kernel
theorem eX9_line_57 : decode mX9_line.2.1 57 = .ok (.iadd, 1) := by decide +kernel
theorem eX9_line_58 : decode mX9_line.2.1 58 = .ok (.iconst 1, 1) := by decide +kernel
theorem eX9_line_59 : decode mX9_line.2.1 59 = .ok (.isub, 1) := by decide +kernel
theorem eX9_line_60 : decode mX9_line.2.1 60 = .ok (.invokevirtual 57, 3) := by decide +kernel
theorem eX9_line_63 : decode mX9_line.2.1 63 = .ok (.if_icmp .gt 5, 3) := by decide +kernel
theorem eX9_line_66 : decode mX9_line.2.1 66 = .ok (.iconst (-1), 1) := by decide +kernel
theorem eX9_line_67 : decode mX9_line.2.1 67 = .ok (.ireturn, 1) := by decide +kernel
theorem eX9_line_68 : decode mX9_line.2.1 68 = .ok (.aload_n 0, 1) := by decide +kernel
theorem eX9_line_69 : decode mX9_line.2.1 69 = .ok (.invokevirtual 75, 3) := by decide +kernel
theorem eX9_line_72 : decode mX9_line.2.1 72 = .ok (.aload_n 0, 1) := by decide +kernel
theorem eX9_line_73 : decode mX9_line.2.1 73 = .ok (.iload_n 1, 1) := by decide +kernel
theorem eX9_line_74 : decode mX9_line.2.1 74 = .ok (.bipush 13, 2) := by decide +kernel
theorem eX9_line_76 : decode mX9_line.2.1 76 = .ok (.iload_n 3, 1) := by decide +kernel
theorem eX9_line_77 : decode mX9_line.2.1 77 = .ok (.iadd, 1) := by decide +kernel
theorem eX9_line_78 : decode mX9_line.2.1 78 = .ok (.iload_n 2, 1) := by decide +kernel
theorem eX9_line_79 : decode mX9_line.2.1 79 = .ok (.invokevirtual 101, 3) := by decide +kernel
theorem eX9_line_82 : decode mX9_line.2.1 82 = .ok (.aload_n 0, 1) := by decide +kernel
theorem eX9_line_83 : decode mX9_line.2.1 83 = .ok (.iload_n 1, 1) := by decide +kernel
theorem eX9_line_84 : decode mX9_line.2.1 84 = .ok (.bipush 12, 2) := by decide +kernel
theorem eX9_line_86 : decode mX9_line.2.1 86 = .ok (.iload_n 3, 1) := by decide +kernel
theorem eX9_line_87 : decode mX9_line.2.1 87 = .ok (.iconst 1, 1) := by decide +kernel
theorem eX9_line_88 : decode mX9_line.2.1 88 = .ok (.iadd, 1) := by decide +kernel
theorem eX9_line_89 : decode mX9_line.2.1 89 = .ok (.invokevirtual 101, 3) := by decide +kernel
theorem eX9_line_92 : decode mX9_line.2.1 92 = .ok (.iload_n 3, 1) := by decide +kernel
theorem eX9_line_93 : decode mX9_line.2.1 93 = .ok (.iconst 1, 1) := by decide +kernel
theorem eX9_line_94 : decode mX9_line.2.1 94 = .ok (.iadd, 1) := by decide +kernel
theorem eX9_line_95 : decode mX9_line.2.1 95 = .ok (.ireturn, 1) := by decide +kernel
theorem eX9_asTheyAre_0 : decode mX9_asTheyAre.2.1 0 = .ok (.iconst 0, 1) := by decide +kernel
theorem eX9_asTheyAre_1 : decode mX9_asTheyAre.2.1 1 = .ok (.istore_n 1, 1) := by decide +kernel
theorem eX9_asTheyAre_2 : decode mX9_asTheyAre.2.1 2 = .ok (.iload_n 1, 1) := by decide +kernel
theorem eX9_asTheyAre_3 : decode mX9_asTheyAre.2.1 3 = .ok (.aload_n 0, 1) := by decide +kernel
theorem eX9_asTheyAre_4 : decode mX9_asTheyAre.2.1 4 = .ok (.getfield 7, 3) := by decide +kernel
theorem eX9_asTheyAre_7 : decode mX9_asTheyAre.2.1 7 = .ok (.iconst 1, 1) := by decide +kernel
theorem eX9_asTheyAre_8 : decode mX9_asTheyAre.2.1 8 = .ok (.iaload, 1) := by decide +kernel
theorem eX9_asTheyAre_9 : decode mX9_asTheyAre.2.1 9 = .ok (.if_icmp .ge 22, 3) := by decide +kernel
theorem eX9_asTheyAre_12 : decode mX9_asTheyAre.2.1 12 = .ok (.aload_n 0, 1) := by decide +kernel
theorem eX9_asTheyAre_13 : decode mX9_asTheyAre.2.1 13 = .ok (.getfield 36, 3) := by decide +kernel
theorem eX9_asTheyAre_16 : decode mX9_asTheyAre.2.1 16 = .ok (.iload_n 1, 1) := by decide +kernel
theorem eX9_asTheyAre_17 : decode mX9_asTheyAre.2.1 17 = .ok (.aload_n 0, 1) := by decide +kernel
theorem eX9_asTheyAre_18 : decode mX9_asTheyAre.2.1 18 = .ok (.iload_n 1, 1) := by decide +kernel
theorem eX9_asTheyAre_19 : decode mX9_asTheyAre.2.1 19 = .ok (.bipush 10, 2) := by decide +kernel
theorem eX9_asTheyAre_21 : decode mX9_asTheyAre.2.1 21 = .ok (.invokevirtual 57, 3) := by decide +kernel
theorem eX9_asTheyAre_24 : decode mX9_asTheyAre.2.1 24 = .ok (.iastore, 1) := by decide +kernel
theorem eX9_asTheyAre_25 : decode mX9_asTheyAre.2.1 25 = .ok (.iinc 1 1, 3) := by decide +kernel
theorem eX9_asTheyAre_28 : decode mX9_asTheyAre.2.1 28 = .ok (.goto (-26), 3) := by decide +kernel
theorem eX9_asTheyAre_31 : decode mX9_asTheyAre.2.1 31 = .ok (.return_, 1) := by decide +kernel
theorem eX9_pushAt_0 : decode mX9_pushAt.2.1 0 = .ok (.lconst 0, 1) := by decide +kernel
theorem eX9_pushAt_1 : decode mX9_pushAt.2.1 1 = .ok (.lstore_n 2, 1) := by decide +kernel
theorem eX9_pushAt_2 : decode mX9_pushAt.2.1 2 = .ok (.iconst 0, 1) := by decide +kernel
theorem eX9_pushAt_3 : decode mX9_pushAt.2.1 3 = .ok (.istore 4, 2) := by decide +kernel
theorem eX9_pushAt_5 : decode mX9_pushAt.2.1 5 = .ok (.iload 4, 2) := by decide +kernel
theorem eX9_pushAt_7 : decode mX9_pushAt.2.1 7 = .ok (.aload_n 0, 1) := by decide +kernel
theorem eX9_pushAt_8 : decode mX9_pushAt.2.1 8 = .ok (.getfield 7, 3) := by decide +kernel
theorem eX9_pushAt_11 : decode mX9_pushAt.2.1 11 = .ok (.iconst 1, 1) := by decide +kernel
theorem eX9_pushAt_12 : decode mX9_pushAt.2.1 12 = .ok (.iaload, 1) := by decide +kernel
theorem eX9_pushAt_13 : decode mX9_pushAt.2.1 13 = .ok (.if_icmp .ge 88, 3) := by decide +kernel
theorem eX9_pushAt_16 : decode mX9_pushAt.2.1 16 = .ok (.aload_n 0, 1) := by decide +kernel
theorem eX9_pushAt_17 : decode mX9_pushAt.2.1 17 = .ok (.iload 4, 2) := by decide +kernel
theorem eX9_pushAt_19 : decode mX9_pushAt.2.1 19 = .ok (.bipush 11, 2) := by decide +kernel
theorem eX9_pushAt_21 : decode mX9_pushAt.2.1 21 = .ok (.invokevirtual 57, 3) := by decide +kernel
theorem eX9_pushAt_24 : decode mX9_pushAt.2.1 24 = .ok (.ifCond .ne 6, 3) := by decide +kernel
theorem eX9_pushAt_27 : decode mX9_pushAt.2.1 27 = .ok (.goto 68, 3) := by decide +kernel
theorem eX9_pushAt_30 : decode mX9_pushAt.2.1 30 = .ok (.iload_n 1, 1) := by decide +kernel
theorem eX9_pushAt_31 : decode mX9_pushAt.2.1 31 = .ok (.iconst 1, 1) := by decide +kernel
theorem eX9_pushAt_32 : decode mX9_pushAt.2.1 32 = .ok (.isub, 1) := by decide +kernel
theorem eX9_pushAt_33 : decode mX9_pushAt.2.1 33 = .ok (.aload_n 0, 1) := by decide +kernel
theorem eX9_pushAt_34 : decode mX9_pushAt.2.1 34 = .ok (.getfield 36, 3) := by decide +kernel
theorem eX9_pushAt_37 : decode mX9_pushAt.2.1 37 = .ok (.iload 4, 2) := by decide +kernel
theorem eX9_pushAt_39 : decode mX9_pushAt.2.1 39 = .ok (.iaload, 1) := by decide +kernel
theorem eX9_pushAt_40 : decode mX9_pushAt.2.1 40 = .ok (.invokestatic 127, 3) := by decide +kernel
theorem eX9_pushAt_43 : decode mX9_pushAt.2.1 43 = .ok (.istore 5, 2) := by decide +kernel
theorem eX9_pushAt_45 : decode mX9_pushAt.2.1 45 = .ok (.iload 5, 2) := by decide +kernel
theorem eX9_pushAt_47 : decode mX9_pushAt.2.1 47 = .ok (.iload_n 1, 1) := by decide +kernel
theorem eX9_pushAt_48 : decode mX9_pushAt.2.1 48 = .ok (.if_icmp .gt 47, 3) := by decide +kernel
theorem eX9_pushAt_51 : decode mX9_pushAt.2.1 51 = .ok (.iload 5, 2) := by decide +kernel
theorem eX9_pushAt_53 : decode mX9_pushAt.2.1 53 = .ok (.ifCond .lt 36, 3) := by decide +kernel
theorem eX9_pushAt_56 : decode mX9_pushAt.2.1 56 = .ok (.iload 5, 2) := by decide +kernel
theorem eX9_pushAt_58 : decode mX9_pushAt.2.1 58 = .ok (.aload_n 0, 1) := by decide +kernel
theorem eX9_pushAt_59 : decode mX9_pushAt.2.1 59 = .ok (.iload 4, 2) := by decide +kernel
theorem eX9_pushAt_61 : decode mX9_pushAt.2.1 61 = .ok (.iconst 5, 1) := by decide +kernel
theorem eX9_pushAt_62 : decode mX9_pushAt.2.1 62 = .ok (.invokevirtual 57, 3) := by decide +kernel
theorem eX9_pushAt_65 : decode mX9_pushAt.2.1 65 = .ok (.if_icmp .ge 24, 3) := by decide +kernel
theorem eX9_pushAt_68 : decode mX9_pushAt.2.1 68 = .ok (.lload_n 2, 1) := by decide +kernel
theorem eX9_pushAt_69 : decode mX9_pushAt.2.1 69 = .ok (.aload_n 0, 1) := by decide +kernel
theorem eX9_pushAt_70 : decode mX9_pushAt.2.1 70 = .ok (.iload 4, 2) := by decide +kernel
theorem eX9_pushAt_72 : decode mX9_pushAt.2.1 72 = .ok (.iload 5, 2) := by decide +kernel
theorem eX9_pushAt_74 : decode mX9_pushAt.2.1 74 = .ok (.invokevirtual 114, 3) := by decide +kernel
theorem eX9_pushAt_77 : decode mX9_pushAt.2.1 77 = .ok (.i2l, 1) := by decide +kernel
theorem eX9_pushAt_78 : decode mX9_pushAt.2.1 78 = .ok (.aload_n 0, 1) := by decide +kernel
theorem eX9_pushAt_79 : decode mX9_pushAt.2.1 79 = .ok (.getfield 20, 3) := by decide +kernel
theorem eX9_pushAt_82 : decode mX9_pushAt.2.1 82 = .ok (.iload 5, 2) := by decide +kernel
theorem eX9_pushAt_84 : decode mX9_pushAt.2.1 84 = .ok (.iaload, 1) := by decide +kernel
theorem eX9_pushAt_85 : decode mX9_pushAt.2.1 85 = .ok (.i2l, 1) := by decide +kernel
theorem eX9_pushAt_86 : decode mX9_pushAt.2.1 86 = .ok (.lmul, 1) := by decide +kernel
theorem eX9_pushAt_87 : decode mX9_pushAt.2.1 87 = .ok (.ladd, 1) := by decide +kernel
theorem eX9_pushAt_88 : decode mX9_pushAt.2.1 88 = .ok (.lstore_n 2, 1) := by decide +kernel
theorem eX9_pushAt_89 : decode mX9_pushAt.2.1 89 = .ok (.iinc 5 1, 3) := by decide +kernel
theorem eX9_pushAt_92 : decode mX9_pushAt.2.1 92 = .ok (.goto (-47), 3) := by decide +kernel
theorem eX9_pushAt_95 : decode mX9_pushAt.2.1 95 = .ok (.iinc 4 1, 3) := by decide +kernel
theorem eX9_pushAt_98 : decode mX9_pushAt.2.1 98 = .ok (.goto (-93), 3) := by decide +kernel
theorem eX9_pushAt_101 : decode mX9_pushAt.2.1 101 = .ok (.lload_n 2, 1) := by decide +kernel
theorem eX9_pushAt_102 : decode mX9_pushAt.2.1 102 = .ok (.lreturn, 1) := by decide +kernel
theorem eX9_firstBreak_0 : decode mX9_firstBreak.2.1 0 = .ok (.iconst 0, 1) := by decide +kernel
theorem eX9_firstBreak_1 : decode mX9_firstBreak.2.1 1 = .ok (.istore_n 1, 1) := by decide +kernel
theorem eX9_firstBreak_2 : decode mX9_firstBreak.2.1 2 = .ok (.iload_n 1, 1) := by decide +kernel
theorem eX9_firstBreak_3 : decode mX9_firstBreak.2.1 3 = .ok (.bipush 60, 2) := by decide +kernel
theorem eX9_firstBreak_5 : decode mX9_firstBreak.2.1 5 = .ok (.if_icmp .gt 31, 3) := by decide +kernel
theorem eX9_firstBreak_8 : decode mX9_firstBreak.2.1 8 = .ok (.aload_n 0, 1) := by decide +kernel
theorem eX9_firstBreak_9 : decode mX9_firstBreak.2.1 9 = .ok (.iload_n 1, 1) := by decide +kernel
theorem eX9_firstBreak_10 : decode mX9_firstBreak.2.1 10 = .ok (.invokevirtual 170, 3) := by decide +kernel
theorem eX9_firstBreak_13 : decode mX9_firstBreak.2.1 13 = .ok (.ldc2_w 174, 3) := by decide +kernel
theorem eX9_firstBreak_16 : decode mX9_firstBreak.2.1 16 = .ok (.aload_n 0, 1) := by decide +kernel
theorem eX9_firstBreak_17 : decode mX9_firstBreak.2.1 17 = .ok (.getfield 17, 3) := by decide +kernel
theorem eX9_firstBreak_20 : decode mX9_firstBreak.2.1 20 = .ok (.iload_n 1, 1) := by decide +kernel
theorem eX9_firstBreak_21 : decode mX9_firstBreak.2.1 21 = .ok (.iaload, 1) := by decide +kernel
theorem eX9_firstBreak_22 : decode mX9_firstBreak.2.1 22 = .ok (.i2l, 1) := by decide +kernel
theorem eX9_firstBreak_23 : decode mX9_firstBreak.2.1 23 = .ok (.lmul, 1) := by decide +kernel
theorem eX9_firstBreak_24 : decode mX9_firstBreak.2.1 24 = .ok (.lcmp, 1) := by decide +kernel
theorem eX9_firstBreak_25 : decode mX9_firstBreak.2.1 25 = .ok (.ifCond .le 5, 3) := by decide +kernel
theorem eX9_firstBreak_28 : decode mX9_firstBreak.2.1 28 = .ok (.iload_n 1, 1) := by decide +kernel
theorem eX9_firstBreak_29 : decode mX9_firstBreak.2.1 29 = .ok (.ireturn, 1) := by decide +kernel
theorem eX9_firstBreak_30 : decode mX9_firstBreak.2.1 30 = .ok (.iinc 1 1, 3) := by decide +kernel
theorem eX9_firstBreak_33 : decode mX9_firstBreak.2.1 33 = .ok (.goto (-31), 3) := by decide +kernel
theorem eX9_firstBreak_36 : decode mX9_firstBreak.2.1 36 = .ok (.iconst (-1), 1) := by decide +kernel
theorem eX9_firstBreak_37 : decode mX9_firstBreak.2.1 37 = .ok (.ireturn, 1) := by decide +kernel
theorem eX9_push_0 : decode mX9_push.2.1 0 = .ok (.aload_n 0, 1) := by decide +kernel
theorem eX9_push_1 : decode mX9_push.2.1 1 = .ok (.invokevirtual 176, 3) := by decide +kernel
theorem eX9_push_4 : decode mX9_push.2.1 4 = .ok (.iload_n 1, 1) := by decide +kernel
theorem eX9_push_5 : decode mX9_push.2.1 5 = .ok (.iconst 0, 1) := by decide +kernel
theorem eX9_push_6 : decode mX9_push.2.1 6 = .ok (.bipush 60, 2) := by decide +kernel
theorem eX9_push_8 : decode mX9_push.2.1 8 = .ok (.invokestatic 70, 3) := by decide +kernel
theorem eX9_push_11 : decode mX9_push.2.1 11 = .ok (.ifCond .eq 11, 3) := by decide +kernel
theorem eX9_push_14 : decode mX9_push.2.1 14 = .ok (.aload_n 0, 1) := by decide +kernel
theorem eX9_push_15 : decode mX9_push.2.1 15 = .ok (.iload_n 1, 1) := by decide +kernel
theorem eX9_push_16 : decode mX9_push.2.1 16 = .ok (.invokevirtual 170, 3) := by decide +kernel
theorem eX9_push_19 : decode mX9_push.2.1 19 = .ok (.goto 6, 3) := by decide +kernel
theorem eX9_push_22 : decode mX9_push.2.1 22 = .ok (.ldc2_w 179, 3) := by decide +kernel
theorem eX9_push_25 : decode mX9_push.2.1 25 = .ok (.lreturn, 1) := by decide +kernel
theorem eX9_bears_0 : decode mX9_bears.2.1 0 = .ok (.aload_n 0, 1) := by decide +kernel
theorem eX9_bears_1 : decode mX9_bears.2.1 1 = .ok (.invokevirtual 176, 3) := by decide +kernel
theorem eX9_bears_4 : decode mX9_bears.2.1 4 = .ok (.aload_n 0, 1) := by decide +kernel
theorem eX9_bears_5 : decode mX9_bears.2.1 5 = .ok (.invokevirtual 181, 3) := by decide +kernel
theorem eX9_bears_8 : decode mX9_bears.2.1 8 = .ok (.ireturn, 1) := by decide +kernel
theorem eX9_least_0 : decode mX9_least.2.1 0 = .ok (.aload_n 0, 1) := by decide +kernel
theorem eX9_least_1 : decode mX9_least.2.1 1 = .ok (.invokevirtual 176, 3) := by decide +kernel
theorem eX9_least_4 : decode mX9_least.2.1 4 = .ok (.aload_n 0, 1) := by decide +kernel
theorem eX9_least_5 : decode mX9_least.2.1 5 = .ok (.invokevirtual 181, 3) := by decide +kernel
theorem eX9_least_8 : decode mX9_least.2.1 8 = .ok (.iconst (-1), 1) := by decide +kernel
theorem eX9_least_9 : decode mX9_least.2.1 9 = .ok (.if_icmp .ne 5, 3) := by decide +kernel
theorem eX9_least_12 : decode mX9_least.2.1 12 = .ok (.iconst 0, 1) := by decide +kernel
theorem eX9_least_13 : decode mX9_least.2.1 13 = .ok (.ireturn, 1) := by decide +kernel
theorem eX9_least_14 : decode mX9_least.2.1 14 = .ok (.iconst 0, 1) := by decide +kernel
theorem eX9_least_15 : decode mX9_least.2.1 15 = .ok (.istore_n 1, 1) := by decide +kernel
theorem eX9_least_16 : decode mX9_least.2.1 16 = .ok (.iconst 1, 1) := by decide +kernel
theorem eX9_least_17 : decode mX9_least.2.1 17 = .ok (.istore_n 2, 1) := by decide +kernel
theorem eX9_least_18 : decode mX9_least.2.1 18 = .ok (.iload_n 2, 1) := by decide +kernel
theorem eX9_least_19 : decode mX9_least.2.1 19 = .ok (.ifCond .eq 127, 3) := by decide +kernel
theorem eX9_least_22 : decode mX9_least.2.1 22 = .ok (.iconst 0, 1) := by decide +kernel
theorem eX9_least_23 : decode mX9_least.2.1 23 = .ok (.istore_n 2, 1) := by decide +kernel
theorem eX9_least_24 : decode mX9_least.2.1 24 = .ok (.iconst 0, 1) := by decide +kernel
theorem eX9_least_25 : decode mX9_least.2.1 25 = .ok (.istore_n 3, 1) := by decide +kernel
theorem eX9_least_26 : decode mX9_least.2.1 26 = .ok (.iload_n 3, 1) := by decide +kernel
theorem eX9_least_27 : decode mX9_least.2.1 27 = .ok (.aload_n 0, 1) := by decide +kernel
theorem eX9_least_28 : decode mX9_least.2.1 28 = .ok (.getfield 7, 3) := by decide +kernel
theorem eX9_least_31 : decode mX9_least.2.1 31 = .ok (.iconst 1, 1) := by decide +kernel
theorem eX9_least_32 : decode mX9_least.2.1 32 = .ok (.iaload, 1) := by decide +kernel
theorem eX9_least_33 : decode mX9_least.2.1 33 = .ok (.if_icmp .ge 110, 3) := by decide +kernel
theorem eX9_least_36 : decode mX9_least.2.1 36 = .ok (.aload_n 0, 1) := by decide +kernel
theorem eX9_least_37 : decode mX9_least.2.1 37 = .ok (.iload_n 3, 1) := by decide +kernel
theorem eX9_least_38 : decode mX9_least.2.1 38 = .ok (.bipush 11, 2) := by decide +kernel
theorem eX9_least_40 : decode mX9_least.2.1 40 = .ok (.invokevirtual 57, 3) := by decide +kernel
theorem eX9_least_43 : decode mX9_least.2.1 43 = .ok (.ifCond .ne 6, 3) := by decide +kernel
theorem eX9_least_46 : decode mX9_least.2.1 46 = .ok (.goto 91, 3) := by decide +kernel
theorem eX9_least_49 : decode mX9_least.2.1 49 = .ok (.iconst (-1), 1) := by decide +kernel
theorem eX9_least_50 : decode mX9_least.2.1 50 = .ok (.istore 4, 2) := by decide +kernel
theorem eX9_least_52 : decode mX9_least.2.1 52 = .ok (.aload_n 0, 1) := by decide +kernel
theorem eX9_least_53 : decode mX9_least.2.1 53 = .ok (.iload_n 3, 1) := by decide +kernel
theorem eX9_least_54 : decode mX9_least.2.1 54 = .ok (.bipush 12, 2) := by decide +kernel
theorem eX9_least_56 : decode mX9_least.2.1 56 = .ok (.invokevirtual 57, 3) := by decide +kernel
theorem eX9_least_59 : decode mX9_least.2.1 59 = .ok (.iconst 1, 1) := by decide +kernel
theorem eX9_least_60 : decode mX9_least.2.1 60 = .ok (.isub, 1) := by decide +kernel
theorem eX9_least_61 : decode mX9_least.2.1 61 = .ok (.istore 5, 2) := by decide +kernel
theorem eX9_least_63 : decode mX9_least.2.1 63 = .ok (.iload 5, 2) := by decide +kernel
theorem eX9_least_65 : decode mX9_least.2.1 65 = .ok (.ifCond .lt 40, 3) := by decide +kernel
theorem eX9_least_68 : decode mX9_least.2.1 68 = .ok (.aload_n 0, 1) := by decide +kernel
theorem eX9_least_69 : decode mX9_least.2.1 69 = .ok (.iload_n 3, 1) := by decide +kernel
theorem eX9_least_70 : decode mX9_least.2.1 70 = .ok (.bipush 13, 2) := by decide +kernel
theorem eX9_least_72 : decode mX9_least.2.1 72 = .ok (.iload 5, 2) := by decide +kernel
theorem eX9_least_74 : decode mX9_least.2.1 74 = .ok (.iadd, 1) := by decide +kernel
theorem eX9_least_75 : decode mX9_least.2.1 75 = .ok (.invokevirtual 57, 3) := by decide +kernel
theorem eX9_least_78 : decode mX9_least.2.1 78 = .ok (.aload_n 0, 1) := by decide +kernel
theorem eX9_least_79 : decode mX9_least.2.1 79 = .ok (.getfield 36, 3) := by decide +kernel
theorem eX9_least_82 : decode mX9_least.2.1 82 = .ok (.iload_n 3, 1) := by decide +kernel
theorem eX9_least_83 : decode mX9_least.2.1 83 = .ok (.iaload, 1) := by decide +kernel
theorem eX9_least_84 : decode mX9_least.2.1 84 = .ok (.if_icmp .le 15, 3) := by decide +kernel
theorem eX9_least_87 : decode mX9_least.2.1 87 = .ok (.aload_n 0, 1) := by decide +kernel
theorem eX9_least_88 : decode mX9_least.2.1 88 = .ok (.iload_n 3, 1) := by decide +kernel
theorem eX9_least_89 : decode mX9_least.2.1 89 = .ok (.bipush 13, 2) := by decide +kernel
theorem eX9_least_91 : decode mX9_least.2.1 91 = .ok (.iload 5, 2) := by decide +kernel
theorem eX9_least_93 : decode mX9_least.2.1 93 = .ok (.iadd, 1) := by decide +kernel
theorem eX9_least_94 : decode mX9_least.2.1 94 = .ok (.invokevirtual 57, 3) := by decide +kernel
theorem eX9_least_97 : decode mX9_least.2.1 97 = .ok (.istore 4, 2) := by decide +kernel
theorem eX9_least_99 : decode mX9_least.2.1 99 = .ok (.iinc 5 (-1), 3) := by decide +kernel
theorem eX9_least_102 : decode mX9_least.2.1 102 = .ok (.goto (-39), 3) := by decide +kernel
theorem eX9_least_105 : decode mX9_least.2.1 105 = .ok (.iload 4, 2) := by decide +kernel
theorem eX9_least_107 : decode mX9_least.2.1 107 = .ok (.iconst (-1), 1) := by decide +kernel
theorem eX9_least_108 : decode mX9_least.2.1 108 = .ok (.if_icmp .ne 6, 3) := by decide +kernel
theorem eX9_least_111 : decode mX9_least.2.1 111 = .ok (.goto 26, 3) := by decide +kernel
theorem eX9_least_114 : decode mX9_least.2.1 114 = .ok (.aload_n 0, 1) := by decide +kernel
theorem eX9_least_115 : decode mX9_least.2.1 115 = .ok (.getfield 36, 3) := by decide +kernel
theorem eX9_least_118 : decode mX9_least.2.1 118 = .ok (.iload_n 3, 1) := by decide +kernel
theorem eX9_least_119 : decode mX9_least.2.1 119 = .ok (.iload 4, 2) := by decide +kernel
theorem eX9_least_121 : decode mX9_least.2.1 121 = .ok (.iastore, 1) := by decide +kernel
theorem eX9_least_122 : decode mX9_least.2.1 122 = .ok (.iinc 1 1, 3) := by decide +kernel
theorem eX9_least_125 : decode mX9_least.2.1 125 = .ok (.iconst 1, 1) := by decide +kernel
theorem eX9_least_126 : decode mX9_least.2.1 126 = .ok (.istore_n 2, 1) := by decide +kernel
theorem eX9_least_127 : decode mX9_least.2.1 127 = .ok (.aload_n 0, 1) := by decide +kernel
theorem eX9_least_128 : decode mX9_least.2.1 128 = .ok (.invokevirtual 181, 3) := by decide +kernel
theorem eX9_least_131 : decode mX9_least.2.1 131 = .ok (.iconst (-1), 1) := by decide +kernel
theorem eX9_least_132 : decode mX9_least.2.1 132 = .ok (.if_icmp .ne 5, 3) := by decide +kernel
theorem eX9_least_135 : decode mX9_least.2.1 135 = .ok (.iload_n 1, 1) := by decide +kernel
theorem eX9_least_136 : decode mX9_least.2.1 136 = .ok (.ireturn, 1) := by decide +kernel
theorem eX9_least_137 : decode mX9_least.2.1 137 = .ok (.iinc 3 1, 3) := by decide +kernel
theorem eX9_least_140 : decode mX9_least.2.1 140 = .ok (.goto (-114), 3) := by decide +kernel
theorem eX9_least_143 : decode mX9_least.2.1 143 = .ok (.goto (-125), 3) := by decide +kernel
theorem eX9_least_146 : decode mX9_least.2.1 146 = .ok (.iconst (-1), 1) := by decide +kernel
theorem eX9_least_147 : decode mX9_least.2.1 147 = .ok (.ireturn, 1) := by decide +kernel
theorem eX9_take_0 : decode mX9_take.2.1 0 = .ok (.aload_n 0, 1) := by decide +kernel
theorem eX9_take_1 : decode mX9_take.2.1 1 = .ok (.iload_n 1, 1) := by decide +kernel
theorem eX9_take_2 : decode mX9_take.2.1 2 = .ok (.invokevirtual 137, 3) := by decide +kernel
theorem eX9_take_5 : decode mX9_take.2.1 5 = .ok (.ifCond .ne 5, 3) := by decide +kernel
theorem eX9_take_8 : decode mX9_take.2.1 8 = .ok (.iconst (-1), 1) := by decide +kernel
theorem eX9_take_9 : decode mX9_take.2.1 9 = .ok (.ireturn, 1) := by decide +kernel
theorem eX9_take_10 : decode mX9_take.2.1 10 = .ok (.aload_n 0, 1) := by decide +kernel
theorem eX9_take_11 : decode mX9_take.2.1 11 = .ok (.iload_n 1, 1) := by decide +kernel
theorem eX9_take_12 : decode mX9_take.2.1 12 = .ok (.invokevirtual 82, 3) := by decide +kernel
theorem eX9_take_15 : decode mX9_take.2.1 15 = .ok (.istore_n 2, 1) := by decide +kernel
theorem eX9_take_16 : decode mX9_take.2.1 16 = .ok (.iconst 0, 1) := by decide +kernel
theorem eX9_take_17 : decode mX9_take.2.1 17 = .ok (.istore_n 3, 1) := by decide +kernel
theorem eX9_take_18 : decode mX9_take.2.1 18 = .ok (.iload_n 3, 1) := by decide +kernel
theorem eX9_take_19 : decode mX9_take.2.1 19 = .ok (.iload_n 2, 1) := by decide +kernel
theorem eX9_take_20 : decode mX9_take.2.1 20 = .ok (.if_icmp .ge 25, 3) := by decide +kernel
theorem eX9_take_23 : decode mX9_take.2.1 23 = .ok (.aload_n 0, 1) := by decide +kernel
theorem eX9_take_24 : decode mX9_take.2.1 24 = .ok (.iload_n 1, 1) := by decide +kernel
theorem eX9_take_25 : decode mX9_take.2.1 25 = .ok (.sipush 300, 3) := by decide +kernel
theorem eX9_take_28 : decode mX9_take.2.1 28 = .ok (.iload_n 3, 1) := by decide +kernel
theorem eX9_take_29 : decode mX9_take.2.1 29 = .ok (.iadd, 1) := by decide +kernel
theorem eX9_take_30 : decode mX9_take.2.1 30 = .ok (.invokevirtual 57, 3) := by decide +kernel
theorem eX9_take_33 : decode mX9_take.2.1 33 = .ok (.iconst (-1), 1) := by decide +kernel
theorem eX9_take_34 : decode mX9_take.2.1 34 = .ok (.if_icmp .ne 5, 3) := by decide +kernel
theorem eX9_take_37 : decode mX9_take.2.1 37 = .ok (.iconst (-1), 1) := by decide +kernel
theorem eX9_take_38 : decode mX9_take.2.1 38 = .ok (.ireturn, 1) := by decide +kernel
theorem eX9_take_39 : decode mX9_take.2.1 39 = .ok (.iinc 3 1, 3) := by decide +kernel
theorem eX9_take_42 : decode mX9_take.2.1 42 = .ok (.goto (-24), 3) := by decide +kernel
theorem eX9_take_45 : decode mX9_take.2.1 45 = .ok (.aload_n 0, 1) := by decide +kernel
theorem eX9_take_46 : decode mX9_take.2.1 46 = .ok (.getfield 7, 3) := by decide +kernel
theorem eX9_take_49 : decode mX9_take.2.1 49 = .ok (.iconst 0, 1) := by decide +kernel
theorem eX9_take_50 : decode mX9_take.2.1 50 = .ok (.iaload, 1) := by decide +kernel
theorem eX9_take_51 : decode mX9_take.2.1 51 = .ok (.iload_n 2, 1) := by decide +kernel
theorem eX9_take_52 : decode mX9_take.2.1 52 = .ok (.iadd, 1) := by decide +kernel
theorem eX9_take_53 : decode mX9_take.2.1 53 = .ok (.bipush 24, 2) := by decide +kernel
theorem eX9_take_55 : decode mX9_take.2.1 55 = .ok (.if_icmp .le 5, 3) := by decide +kernel
theorem eX9_take_58 : decode mX9_take.2.1 58 = .ok (.iconst (-1), 1) := by decide +kernel
theorem eX9_take_59 : decode mX9_take.2.1 59 = .ok (.ireturn, 1) := by decide +kernel
theorem eX9_take_60 : decode mX9_take.2.1 60 = .ok (.aload_n 0, 1) := by decide +kernel
theorem eX9_take_61 : decode mX9_take.2.1 61 = .ok (.invokevirtual 75, 3) := by decide +kernel
theorem eX9_take_64 : decode mX9_take.2.1 64 = .ok (.iconst 0, 1) := by decide +kernel
theorem eX9_take_65 : decode mX9_take.2.1 65 = .ok (.istore_n 3, 1) := by decide +kernel
theorem eX9_take_66 : decode mX9_take.2.1 66 = .ok (.iload_n 3, 1) := by decide +kernel
theorem eX9_take_67 : decode mX9_take.2.1 67 = .ok (.iload_n 2, 1) := by decide +kernel
theorem eX9_take_68 : decode mX9_take.2.1 68 = .ok (.if_icmp .ge 53, 3) := by decide +kernel
theorem eX9_take_71 : decode mX9_take.2.1 71 = .ok (.aload_n 0, 1) := by decide +kernel
theorem eX9_take_72 : decode mX9_take.2.1 72 = .ok (.iconst 2, 1) := by decide +kernel
theorem eX9_take_73 : decode mX9_take.2.1 73 = .ok (.aload_n 0, 1) := by decide +kernel
theorem eX9_take_74 : decode mX9_take.2.1 74 = .ok (.iload_n 1, 1) := by decide +kernel
theorem eX9_take_75 : decode mX9_take.2.1 75 = .ok (.iload_n 3, 1) := by decide +kernel
theorem eX9_take_76 : decode mX9_take.2.1 76 = .ok (.invokevirtual 143, 3) := by decide +kernel
theorem eX9_take_79 : decode mX9_take.2.1 79 = .ok (.invokestatic 127, 3) := by decide +kernel
theorem eX9_take_82 : decode mX9_take.2.1 82 = .ok (.sipush 200, 3) := by decide +kernel
theorem eX9_take_85 : decode mX9_take.2.1 85 = .ok (.aload_n 0, 1) := by decide +kernel
theorem eX9_take_86 : decode mX9_take.2.1 86 = .ok (.iload_n 1, 1) := by decide +kernel
theorem eX9_take_87 : decode mX9_take.2.1 87 = .ok (.iload_n 3, 1) := by decide +kernel
theorem eX9_take_88 : decode mX9_take.2.1 88 = .ok (.invokevirtual 86, 3) := by decide +kernel
theorem eX9_take_91 : decode mX9_take.2.1 91 = .ok (.invokestatic 47, 3) := by decide +kernel
theorem eX9_take_94 : decode mX9_take.2.1 94 = .ok (.aload_n 0, 1) := by decide +kernel
theorem eX9_take_95 : decode mX9_take.2.1 95 = .ok (.aload_n 0, 1) := by decide +kernel
theorem eX9_take_96 : decode mX9_take.2.1 96 = .ok (.iload_n 1, 1) := by decide +kernel
theorem eX9_take_97 : decode mX9_take.2.1 97 = .ok (.sipush 300, 3) := by decide +kernel
theorem eX9_take_100 : decode mX9_take.2.1 100 = .ok (.iload_n 3, 1) := by decide +kernel
theorem eX9_take_101 : decode mX9_take.2.1 101 = .ok (.iadd, 1) := by decide +kernel
theorem eX9_take_102 : decode mX9_take.2.1 102 = .ok (.invokevirtual 57, 3) := by decide +kernel
theorem eX9_take_105 : decode mX9_take.2.1 105 = .ok (.iconst 2, 1) := by decide +kernel
theorem eX9_take_106 : decode mX9_take.2.1 106 = .ok (.invokevirtual 92, 3) := by decide +kernel
theorem eX9_take_109 : decode mX9_take.2.1 109 = .ok (.iload_n 1, 1) := by decide +kernel
theorem eX9_take_110 : decode mX9_take.2.1 110 = .ok (.invokevirtual 78, 3) := by decide +kernel
theorem eX9_take_113 : decode mX9_take.2.1 113 = .ok (.istore 4, 2) := by decide +kernel
theorem eX9_take_115 : decode mX9_take.2.1 115 = .ok (.iinc 3 1, 3) := by decide +kernel
theorem eX9_take_118 : decode mX9_take.2.1 118 = .ok (.goto (-52), 3) := by decide +kernel
theorem eX9_take_121 : decode mX9_take.2.1 121 = .ok (.aload_n 0, 1) := by decide +kernel
theorem eX9_take_122 : decode mX9_take.2.1 122 = .ok (.iload_n 1, 1) := by decide +kernel
theorem eX9_take_123 : decode mX9_take.2.1 123 = .ok (.iconst 0, 1) := by decide +kernel
theorem eX9_take_124 : decode mX9_take.2.1 124 = .ok (.iconst 2, 1) := by decide +kernel
theorem eX9_take_125 : decode mX9_take.2.1 125 = .ok (.invokevirtual 101, 3) := by decide +kernel
theorem eX9_take_128 : decode mX9_take.2.1 128 = .ok (.aload_n 0, 1) := by decide +kernel
theorem eX9_take_129 : decode mX9_take.2.1 129 = .ok (.iload_n 1, 1) := by decide +kernel
theorem eX9_take_130 : decode mX9_take.2.1 130 = .ok (.bipush 11, 2) := by decide +kernel
theorem eX9_take_132 : decode mX9_take.2.1 132 = .ok (.iconst 0, 1) := by decide +kernel
theorem eX9_take_133 : decode mX9_take.2.1 133 = .ok (.invokevirtual 101, 3) := by decide +kernel
theorem eX9_take_136 : decode mX9_take.2.1 136 = .ok (.iload_n 2, 1) := by decide +kernel
theorem eX9_take_137 : decode mX9_take.2.1 137 = .ok (.ireturn, 1) := by decide +kernel
theorem eX9_old_0 : decode mX9_old.2.1 0 = .ok (.aload_n 0, 1) := by decide +kernel
theorem eX9_old_1 : decode mX9_old.2.1 1 = .ok (.iload_n 1, 1) := by decide +kernel
theorem eX9_old_2 : decode mX9_old.2.1 2 = .ok (.invokevirtual 89, 3) := by decide +kernel
theorem eX9_old_5 : decode mX9_old.2.1 5 = .ok (.ifCond .eq 12, 3) := by decide +kernel
theorem eX9_old_8 : decode mX9_old.2.1 8 = .ok (.aload_n 0, 1) := by decide +kernel
theorem eX9_old_9 : decode mX9_old.2.1 9 = .ok (.iload_n 1, 1) := by decide +kernel
theorem eX9_old_10 : decode mX9_old.2.1 10 = .ok (.iconst 4, 1) := by decide +kernel
theorem eX9_old_11 : decode mX9_old.2.1 11 = .ok (.invokevirtual 92, 3) := by decide +kernel
theorem eX9_old_14 : decode mX9_old.2.1 14 = .ok (.goto 4, 3) := by decide +kernel
theorem eX9_old_17 : decode mX9_old.2.1 17 = .ok (.iconst (-1), 1) := by decide +kernel
theorem eX9_old_18 : decode mX9_old.2.1 18 = .ok (.ireturn, 1) := by decide +kernel
theorem eX9_count_0 : decode mX9_count.2.1 0 = .ok (.iload_n 1, 1) := by decide +kernel
theorem eX9_count_1 : decode mX9_count.2.1 1 = .ok (.ifCond .ne 12, 3) := by decide +kernel
theorem eX9_count_4 : decode mX9_count.2.1 4 = .ok (.aload_n 0, 1) := by decide +kernel
theorem eX9_count_5 : decode mX9_count.2.1 5 = .ok (.getfield 7, 3) := by decide +kernel
theorem eX9_count_8 : decode mX9_count.2.1 8 = .ok (.iconst 0, 1) := by decide +kernel
theorem eX9_count_9 : decode mX9_count.2.1 9 = .ok (.iaload, 1) := by decide +kernel
theorem eX9_count_10 : decode mX9_count.2.1 10 = .ok (.goto 30, 3) := by decide +kernel
theorem eX9_count_13 : decode mX9_count.2.1 13 = .ok (.iload_n 1, 1) := by decide +kernel
theorem eX9_count_14 : decode mX9_count.2.1 14 = .ok (.iconst 1, 1) := by decide +kernel
theorem eX9_count_15 : decode mX9_count.2.1 15 = .ok (.if_icmp .ne 12, 3) := by decide +kernel
theorem eX9_count_18 : decode mX9_count.2.1 18 = .ok (.aload_n 0, 1) := by decide +kernel
theorem eX9_count_19 : decode mX9_count.2.1 19 = .ok (.getfield 7, 3) := by decide +kernel
theorem eX9_count_22 : decode mX9_count.2.1 22 = .ok (.iconst 1, 1) := by decide +kernel
theorem eX9_count_23 : decode mX9_count.2.1 23 = .ok (.iaload, 1) := by decide +kernel
theorem eX9_count_24 : decode mX9_count.2.1 24 = .ok (.goto 16, 3) := by decide +kernel
theorem eX9_count_27 : decode mX9_count.2.1 27 = .ok (.iload_n 1, 1) := by decide +kernel
theorem eX9_count_28 : decode mX9_count.2.1 28 = .ok (.iconst 2, 1) := by decide +kernel
theorem eX9_count_29 : decode mX9_count.2.1 29 = .ok (.if_icmp .ne 10, 3) := by decide +kernel
theorem eX9_count_32 : decode mX9_count.2.1 32 = .ok (.aload_n 0, 1) := by decide +kernel
theorem eX9_count_33 : decode mX9_count.2.1 33 = .ok (.getfield 44, 3) := by decide +kernel
theorem eX9_count_36 : decode mX9_count.2.1 36 = .ok (.goto 4, 3) := by decide +kernel
theorem eX9_count_39 : decode mX9_count.2.1 39 = .ok (.iconst (-1), 1) := by decide +kernel
theorem eX9_count_40 : decode mX9_count.2.1 40 = .ok (.ireturn, 1) := by decide +kernel
