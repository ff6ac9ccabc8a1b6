theorem eX8_init_0 : decode mX8_init.2.1 0 = .ok (.aload_n 0, 1) := by decide +kernel
theorem eX8_init_1 : decode mX8_init.2.1 1 = .ok (.invokespecial 1, 3) := by decide +kernel
theorem eX8_init_4 : decode mX8_init.2.1 4 = .ok (.aload_n 0, 1) := by decide +kernel
theorem eX8_init_5 : decode mX8_init.2.1 5 = .ok (.bipush 24, 2) := by decide +kernel
theorem eX8_init_7 : decode mX8_init.2.1 7 = .ok (.anewarray 9, 3) := by decide +kernel
theorem eX8_init_10 : decode mX8_init.2.1 10 = .ok (.putfield 11, 3) := by decide +kernel
theorem eX8_init_13 : decode mX8_init.2.1 13 = .ok (.aload_n 0, 1) := by decide +kernel
theorem eX8_init_14 : decode mX8_init.2.1 14 = .ok (.iconst 0, 1) := by decide +kernel
theorem eX8_init_15 : decode mX8_init.2.1 15 = .ok (.putfield 15, 3) := by decide +kernel
theorem eX8_init_18 : decode mX8_init.2.1 18 = .ok (.aload_n 0, 1) := by decide +kernel
theorem eX8_init_19 : decode mX8_init.2.1 19 = .ok (.bipush 10, 2) := by decide +kernel
theorem eX8_init_21 : decode mX8_init.2.1 21 = .ok (.anewarray 19, 3) := by decide +kernel
theorem eX8_init_24 : decode mX8_init.2.1 24 = .ok (.putfield 21, 3) := by decide +kernel
theorem eX8_init_27 : decode mX8_init.2.1 27 = .ok (.aload_n 0, 1) := by decide +kernel
theorem eX8_init_28 : decode mX8_init.2.1 28 = .ok (.iconst 0, 1) := by decide +kernel
theorem eX8_init_29 : decode mX8_init.2.1 29 = .ok (.putfield 25, 3) := by decide +kernel
theorem eX8_init_32 : decode mX8_init.2.1 32 = .ok (.aload_n 0, 1) := by decide +kernel
theorem eX8_init_33 : decode mX8_init.2.1 33 = .ok (.new 28, 3) := by decide +kernel
theorem eX8_init_36 : decode mX8_init.2.1 36 = .ok (.dup, 1) := by decide +kernel
theorem eX8_init_37 : decode mX8_init.2.1 37 = .ok (.invokespecial 30, 3) := by decide +kernel
theorem eX8_init_40 : decode mX8_init.2.1 40 = .ok (.putfield 31, 3) := by decide +kernel
theorem eX8_init_43 : decode mX8_init.2.1 43 = .ok (.aload_n 0, 1) := by decide +kernel
theorem eX8_init_44 : decode mX8_init.2.1 44 = .ok (.bipush 16, 2) := by decide +kernel
theorem eX8_init_46 : decode mX8_init.2.1 46 = .ok (.anewarray 35, 3) := by decide +kernel
theorem eX8_init_49 : decode mX8_init.2.1 49 = .ok (.putfield 37, 3) := by decide +kernel
theorem eX8_init_52 : decode mX8_init.2.1 52 = .ok (.aload_n 0, 1) := by decide +kernel
theorem eX8_init_53 : decode mX8_init.2.1 53 = .ok (.iconst 0, 1) := by decide +kernel
theorem eX8_init_54 : decode mX8_init.2.1 54 = .ok (.putfield 41, 3) := by decide +kernel
theorem eX8_init_57 : decode mX8_init.2.1 57 = .ok (.aload_n 0, 1) := by decide +kernel
theorem eX8_init_58 : decode mX8_init.2.1 58 = .ok (.iconst 0, 1) := by decide +kernel
theorem eX8_init_59 : decode mX8_init.2.1 59 = .ok (.putfield 44, 3) := by decide +kernel
theorem eX8_init_62 : decode mX8_init.2.1 62 = .ok (.aload_n 0, 1) := by decide +kernel
theorem eX8_init_63 : decode mX8_init.2.1 63 = .ok (.aconst_null, 1) := by decide +kernel
theorem eX8_init_64 : decode mX8_init.2.1 64 = .ok (.putfield 47, 3) := by decide +kernel
theorem eX8_init_67 : decode mX8_init.2.1 67 = .ok (.return_, 1) := by decide +kernel
theorem eX8_bolt_0 : decode mX8_bolt.2.1 0 = .ok (.aload_n 0, 1) := by decide +kernel
theorem eX8_bolt_1 : decode mX8_bolt.2.1 1 = .ok (.getfield 15, 3) := by decide +kernel
theorem eX8_bolt_4 : decode mX8_bolt.2.1 4 = .ok (.bipush 24, 2) := by decide +kernel
theorem eX8_bolt_6 : decode mX8_bolt.2.1 6 = .ok (.if_icmp .ge 31, 3) := by decide +kernel
theorem eX8_bolt_9 : decode mX8_bolt.2.1 9 = .ok (.iload_n 1, 1) := by decide +kernel
theorem eX8_bolt_10 : decode mX8_bolt.2.1 10 = .ok (.iconst 2, 1) := by decide +kernel
theorem eX8_bolt_11 : decode mX8_bolt.2.1 11 = .ok (.bipush 20, 2) := by decide +kernel
theorem eX8_bolt_13 : decode mX8_bolt.2.1 13 = .ok (.invokestatic 51, 3) := by decide +kernel
theorem eX8_bolt_16 : decode mX8_bolt.2.1 16 = .ok (.ifCond .eq 21, 3) := by decide +kernel
theorem eX8_bolt_19 : decode mX8_bolt.2.1 19 = .ok (.iload_n 2, 1) := by decide +kernel
theorem eX8_bolt_20 : decode mX8_bolt.2.1 20 = .ok (.iconst 1, 1) := by decide +kernel
theorem eX8_bolt_21 : decode mX8_bolt.2.1 21 = .ok (.sipush 200, 3) := by decide +kernel
theorem eX8_bolt_24 : decode mX8_bolt.2.1 24 = .ok (.invokestatic 51, 3) := by decide +kernel
theorem eX8_bolt_27 : decode mX8_bolt.2.1 27 = .ok (.ifCond .eq 10, 3) := by decide +kernel
theorem eX8_bolt_30 : decode mX8_bolt.2.1 30 = .ok (.iload_n 3, 1) := by decide +kernel
theorem eX8_bolt_31 : decode mX8_bolt.2.1 31 = .ok (.invokestatic 55, 3) := by decide +kernel
theorem eX8_bolt_34 : decode mX8_bolt.2.1 34 = .ok (.ifCond .ne 5, 3) := by decide +kernel
theorem eX8_bolt_37 : decode mX8_bolt.2.1 37 = .ok (.iconst (-1), 1) := by decide +kernel
theorem eX8_bolt_38 : decode mX8_bolt.2.1 38 = .ok (.ireturn, 1) := by decide +kernel
theorem eX8_bolt_39 : decode mX8_bolt.2.1 39 = .ok (.aload_n 0, 1) := by decide +kernel
theorem eX8_bolt_40 : decode mX8_bolt.2.1 40 = .ok (.getfield 15, 3) := by decide +kernel
theorem eX8_bolt_43 : decode mX8_bolt.2.1 43 = .ok (.istore 4, 2) := by decide +kernel
theorem eX8_bolt_45 : decode mX8_bolt.2.1 45 = .ok (.aload_n 0, 1) := by decide +kernel
theorem eX8_bolt_46 : decode mX8_bolt.2.1 46 = .ok (.iload_n 1, 1) := by decide +kernel
theorem eX8_bolt_47 : decode mX8_bolt.2.1 47 = .ok (.iload_n 2, 1) := by decide +kernel
theorem eX8_bolt_48 : decode mX8_bolt.2.1 48 = .ok (.iload_n 3, 1) := by decide +kernel
theorem eX8_bolt_49 : decode mX8_bolt.2.1 49 = .ok (.invokestatic 61, 3) := by decide +kernel
theorem eX8_bolt_52 : decode mX8_bolt.2.1 52 = .ok (.iconst (-1), 1) := by decide +kernel
theorem eX8_bolt_53 : decode mX8_bolt.2.1 53 = .ok (.invokevirtual 65, 3) := by decide +kernel
theorem eX8_bolt_56 : decode mX8_bolt.2.1 56 = .ok (.aload_n 0, 1) := by decide +kernel
theorem eX8_bolt_57 : decode mX8_bolt.2.1 57 = .ok (.new 35, 3) := by decide +kernel
theorem eX8_bolt_60 : decode mX8_bolt.2.1 60 = .ok (.dup, 1) := by decide +kernel
theorem eX8_bolt_61 : decode mX8_bolt.2.1 61 = .ok (.iconst 0, 1) := by decide +kernel
theorem eX8_bolt_62 : decode mX8_bolt.2.1 62 = .ok (.iload 4, 2) := by decide +kernel
theorem eX8_bolt_64 : decode mX8_bolt.2.1 64 = .ok (.iconst 0, 1) := by decide +kernel
theorem eX8_bolt_65 : decode mX8_bolt.2.1 65 = .ok (.iconst 0, 1) := by decide +kernel
theorem eX8_bolt_66 : decode mX8_bolt.2.1 66 = .ok (.invokespecial 69, 3) := by decide +kernel
theorem eX8_bolt_69 : decode mX8_bolt.2.1 69 = .ok (.invokevirtual 72, 3) := by decide +kernel
theorem eX8_bolt_72 : decode mX8_bolt.2.1 72 = .ok (.iload 4, 2) := by decide +kernel
theorem eX8_bolt_74 : decode mX8_bolt.2.1 74 = .ok (.ireturn, 1) := by decide +kernel
theorem eX8_row_0 : decode mX8_row.2.1 0 = .ok (.aload_n 0, 1) := by decide +kernel
theorem eX8_row_1 : decode mX8_row.2.1 1 = .ok (.iload_n 1, 1) := by decide +kernel
theorem eX8_row_2 : decode mX8_row.2.1 2 = .ok (.invokevirtual 76, 3) := by decide +kernel
theorem eX8_row_5 : decode mX8_row.2.1 5 = .ok (.astore_n 3, 1) := by decide +kernel
theorem eX8_row_6 : decode mX8_row.2.1 6 = .ok (.aload_n 3, 1) := by decide +kernel
theorem eX8_row_7 : decode mX8_row.2.1 7 = .ok (.ifnull 22, 3) := by decide +kernel
theorem eX8_row_10 : decode mX8_row.2.1 10 = .ok (.iload_n 2, 1) := by decide +kernel
theorem eX8_row_11 : decode mX8_row.2.1 11 = .ok (.iconst 0, 1) := by decide +kernel
theorem eX8_row_12 : decode mX8_row.2.1 12 = .ok (.aload_n 3, 1) := by decide +kernel
theorem eX8_row_13 : decode mX8_row.2.1 13 = .ok (.getfield 80, 3) := by decide +kernel
theorem eX8_row_16 : decode mX8_row.2.1 16 = .ok (.invokestatic 51, 3) := by decide +kernel
theorem eX8_row_19 : decode mX8_row.2.1 19 = .ok (.ifCond .eq 10, 3) := by decide +kernel
theorem eX8_row_22 : decode mX8_row.2.1 22 = .ok (.aload_n 3, 1) := by decide +kernel
theorem eX8_row_23 : decode mX8_row.2.1 23 = .ok (.getfield 83, 3) := by decide +kernel
theorem eX8_row_26 : decode mX8_row.2.1 26 = .ok (.ifCond .le 5, 3) := by decide +kernel
theorem eX8_row_29 : decode mX8_row.2.1 29 = .ok (.iconst 0, 1) := by decide +kernel
theorem eX8_row_30 : decode mX8_row.2.1 30 = .ok (.ireturn, 1) := by decide +kernel
theorem eX8_row_31 : decode mX8_row.2.1 31 = .ok (.new 35, 3) := by decide +kernel
theorem eX8_row_34 : decode mX8_row.2.1 34 = .ok (.dup, 1) := by decide +kernel
theorem eX8_row_35 : decode mX8_row.2.1 35 = .ok (.iconst 1, 1) := by decide +kernel
theorem eX8_row_36 : decode mX8_row.2.1 36 = .ok (.iload_n 1, 1) := by decide +kernel
theorem eX8_row_37 : decode mX8_row.2.1 37 = .ok (.iconst 0, 1) := by decide +kernel
theorem eX8_row_38 : decode mX8_row.2.1 38 = .ok (.iconst 0, 1) := by decide +kernel
theorem eX8_row_39 : decode mX8_row.2.1 39 = .ok (.invokespecial 69, 3) := by decide +kernel
theorem eX8_row_42 : decode mX8_row.2.1 42 = .ok (.astore 4, 2) := by decide +kernel
theorem eX8_row_44 : decode mX8_row.2.1 44 = .ok (.aload 4, 2) := by decide +kernel
theorem eX8_row_46 : decode mX8_row.2.1 46 = .ok (.aload_n 3, 1) := by decide +kernel
theorem eX8_row_47 : decode mX8_row.2.1 47 = .ok (.getfield 86, 3) := by decide +kernel
theorem eX8_row_50 : decode mX8_row.2.1 50 = .ok (.putfield 90, 3) := by decide +kernel
theorem eX8_row_53 : decode mX8_row.2.1 53 = .ok (.aload_n 3, 1) := by decide +kernel
theorem eX8_row_54 : decode mX8_row.2.1 54 = .ok (.iload_n 2, 1) := by decide +kernel
theorem eX8_row_55 : decode mX8_row.2.1 55 = .ok (.ifCond .le 9, 3) := by decide +kernel
theorem eX8_row_58 : decode mX8_row.2.1 58 = .ok (.iload_n 2, 1) := by decide +kernel
theorem eX8_row_59 : decode mX8_row.2.1 59 = .ok (.newarray .byte, 2) := by decide +kernel
theorem eX8_row_61 : decode mX8_row.2.1 61 = .ok (.goto 4, 3) := by decide +kernel
theorem eX8_row_64 : decode mX8_row.2.1 64 = .ok (.aconst_null, 1) := by decide +kernel
theorem eX8_row_65 : decode mX8_row.2.1 65 = .ok (.putfield 86, 3) := by decide +kernel
theorem eX8_row_68 : decode mX8_row.2.1 68 = .ok (.aload_n 0, 1) := by decide +kernel
theorem eX8_row_69 : decode mX8_row.2.1 69 = .ok (.aload 4, 2) := by decide +kernel
theorem eX8_row_71 : decode mX8_row.2.1 71 = .ok (.invokevirtual 72, 3) := by decide +kernel
theorem eX8_row_74 : decode mX8_row.2.1 74 = .ok (.iconst 1, 1) := by decide +kernel
theorem eX8_row_75 : decode mX8_row.2.1 75 = .ok (.ireturn, 1) := by decide +kernel
theorem eX8_wear_0 : decode mX8_wear.2.1 0 = .ok (.aload_n 0, 1) := by decide +kernel
theorem eX8_wear_1 : decode mX8_wear.2.1 1 = .ok (.iload_n 1, 1) := by decide +kernel
theorem eX8_wear_2 : decode mX8_wear.2.1 2 = .ok (.invokevirtual 76, 3) := by decide +kernel
theorem eX8_wear_5 : decode mX8_wear.2.1 5 = .ok (.astore 4, 2) := by decide +kernel
theorem eX8_wear_7 : decode mX8_wear.2.1 7 = .ok (.aload 4, 2) := by decide +kernel
theorem eX8_wear_9 : decode mX8_wear.2.1 9 = .ok (.ifnull 30, 3) := by decide +kernel
theorem eX8_wear_12 : decode mX8_wear.2.1 12 = .ok (.iload_n 3, 1) := by decide +kernel
theorem eX8_wear_13 : decode mX8_wear.2.1 13 = .ok (.iconst 0, 1) := by decide +kernel
theorem eX8_wear_14 : decode mX8_wear.2.1 14 = .ok (.bipush 100, 2) := by decide +kernel
theorem eX8_wear_16 : decode mX8_wear.2.1 16 = .ok (.invokestatic 51, 3) := by decide +kernel
theorem eX8_wear_19 : decode mX8_wear.2.1 19 = .ok (.ifCond .eq 20, 3) := by decide +kernel
theorem eX8_wear_22 : decode mX8_wear.2.1 22 = .ok (.aload 4, 2) := by decide +kernel
theorem eX8_wear_24 : decode mX8_wear.2.1 24 = .ok (.iload_n 2, 1) := by decide +kernel
theorem eX8_wear_25 : decode mX8_wear.2.1 25 = .ok (.invokevirtual 93, 3) := by decide +kernel
theorem eX8_wear_28 : decode mX8_wear.2.1 28 = .ok (.ifCond .eq 11, 3) := by decide +kernel
theorem eX8_wear_31 : decode mX8_wear.2.1 31 = .ok (.aload 4, 2) := by decide +kernel
theorem eX8_wear_33 : decode mX8_wear.2.1 33 = .ok (.getfield 83, 3) := by decide +kernel
theorem eX8_wear_36 : decode mX8_wear.2.1 36 = .ok (.ifCond .le 5, 3) := by decide +kernel
theorem eX8_wear_39 : decode mX8_wear.2.1 39 = .ok (.iconst 0, 1) := by decide +kernel
theorem eX8_wear_40 : decode mX8_wear.2.1 40 = .ok (.ireturn, 1) := by decide +kernel
theorem eX8_wear_41 : decode mX8_wear.2.1 41 = .ok (.aload_n 0, 1) := by decide +kernel
theorem eX8_wear_42 : decode mX8_wear.2.1 42 = .ok (.new 35, 3) := by decide +kernel
theorem eX8_wear_45 : decode mX8_wear.2.1 45 = .ok (.dup, 1) := by decide +kernel
theorem eX8_wear_46 : decode mX8_wear.2.1 46 = .ok (.iconst 2, 1) := by decide +kernel
theorem eX8_wear_47 : decode mX8_wear.2.1 47 = .ok (.iload_n 1, 1) := by decide +kernel
theorem eX8_wear_48 : decode mX8_wear.2.1 48 = .ok (.iload_n 2, 1) := by decide +kernel
theorem eX8_wear_49 : decode mX8_wear.2.1 49 = .ok (.aload 4, 2) := by decide +kernel
theorem eX8_wear_51 : decode mX8_wear.2.1 51 = .ok (.iload_n 2, 1) := by decide +kernel
theorem eX8_wear_52 : decode mX8_wear.2.1 52 = .ok (.invokevirtual 96, 3) := by decide +kernel
theorem eX8_wear_55 : decode mX8_wear.2.1 55 = .ok (.invokespecial 69, 3) := by decide +kernel
theorem eX8_wear_58 : decode mX8_wear.2.1 58 = .ok (.invokevirtual 72, 3) := by decide +kernel
theorem eX8_wear_61 : decode mX8_wear.2.1 61 = .ok (.aload 4, 2) := by decide +kernel
theorem eX8_wear_63 : decode mX8_wear.2.1 63 = .ok (.iload_n 2, 1) := by decide +kernel
theorem eX8_wear_64 : decode mX8_wear.2.1 64 = .ok (.iload_n 3, 1) := by decide +kernel
theorem eX8_wear_65 : decode mX8_wear.2.1 65 = .ok (.invokevirtual 100, 3) := by decide +kernel
theorem eX8_wear_68 : decode mX8_wear.2.1 68 = .ok (.iconst 1, 1) := by decide +kernel
theorem eX8_wear_69 : decode mX8_wear.2.1 69 = .ok (.ireturn, 1) := by decide +kernel
theorem eX8_worn_0 : decode mX8_worn.2.1 0 = .ok (.aload_n 0, 1) := by decide +kernel
theorem eX8_worn_1 : decode mX8_worn.2.1 1 = .ok (.iload_n 1, 1) := by decide +kernel
theorem eX8_worn_2 : decode mX8_worn.2.1 2 = .ok (.invokevirtual 76, 3) := by decide +kernel
theorem eX8_worn_5 : decode mX8_worn.2.1 5 = .ok (.astore_n 3, 1) := by decide +kernel
theorem eX8_worn_6 : decode mX8_worn.2.1 6 = .ok (.aload_n 3, 1) := by decide +kernel
theorem eX8_worn_7 : decode mX8_worn.2.1 7 = .ok (.ifnull 11, 3) := by decide +kernel
theorem eX8_worn_10 : decode mX8_worn.2.1 10 = .ok (.aload_n 3, 1) := by decide +kernel
theorem eX8_worn_11 : decode mX8_worn.2.1 11 = .ok (.iload_n 2, 1) := by decide +kernel
theorem eX8_worn_12 : decode mX8_worn.2.1 12 = .ok (.invokevirtual 104, 3) := by decide +kernel
theorem eX8_worn_15 : decode mX8_worn.2.1 15 = .ok (.ifCond .ne 7, 3) := by decide +kernel
theorem eX8_worn_18 : decode mX8_worn.2.1 18 = .ok (.iconst (-1), 1) := by decide +kernel
theorem eX8_worn_19 : decode mX8_worn.2.1 19 = .ok (.goto 8, 3) := by decide +kernel
theorem eX8_worn_22 : decode mX8_worn.2.1 22 = .ok (.aload_n 3, 1) := by decide +kernel
theorem eX8_worn_23 : decode mX8_worn.2.1 23 = .ok (.iload_n 2, 1) := by decide +kernel
theorem eX8_worn_24 : decode mX8_worn.2.1 24 = .ok (.invokevirtual 96, 3) := by decide +kernel
theorem eX8_worn_27 : decode mX8_worn.2.1 27 = .ok (.ireturn, 1) := by decide +kernel
theorem eX8_left_0 : decode mX8_left.2.1 0 = .ok (.aload_n 0, 1) := by decide +kernel
theorem eX8_left_1 : decode mX8_left.2.1 1 = .ok (.iload_n 1, 1) := by decide +kernel
theorem eX8_left_2 : decode mX8_left.2.1 2 = .ok (.invokevirtual 76, 3) := by decide +kernel
theorem eX8_left_5 : decode mX8_left.2.1 5 = .ok (.astore_n 2, 1) := by decide +kernel
theorem eX8_left_6 : decode mX8_left.2.1 6 = .ok (.aload_n 2, 1) := by decide +kernel
theorem eX8_left_7 : decode mX8_left.2.1 7 = .ok (.ifnonnull 7, 3) := by decide +kernel
theorem eX8_left_10 : decode mX8_left.2.1 10 = .ok (.iconst (-1), 1) := by decide +kernel
theorem eX8_left_11 : decode mX8_left.2.1 11 = .ok (.goto 12, 3) := by decide +kernel
theorem eX8_left_14 : decode mX8_left.2.1 14 = .ok (.aload_n 2, 1) := by decide +kernel
theorem eX8_left_15 : decode mX8_left.2.1 15 = .ok (.getfield 80, 3) := by decide +kernel
theorem eX8_left_18 : decode mX8_left.2.1 18 = .ok (.aload_n 2, 1) := by decide +kernel
theorem eX8_left_19 : decode mX8_left.2.1 19 = .ok (.getfield 83, 3) := by decide +kernel
theorem eX8_left_22 : decode mX8_left.2.1 22 = .ok (.isub, 1) := by decide +kernel
theorem eX8_left_23 : decode mX8_left.2.1 23 = .ok (.ireturn, 1) := by decide +kernel
theorem eX8_over_0 : decode mX8_over.2.1 0 = .ok (.aload_n 0, 1) := by decide +kernel
theorem eX8_over_1 : decode mX8_over.2.1 1 = .ok (.iload_n 1, 1) := by decide +kernel
theorem eX8_over_2 : decode mX8_over.2.1 2 = .ok (.invokevirtual 76, 3) := by decide +kernel
theorem eX8_over_5 : decode mX8_over.2.1 5 = .ok (.astore_n 3, 1) := by decide +kernel
theorem eX8_over_6 : decode mX8_over.2.1 6 = .ok (.aload_n 3, 1) := by decide +kernel
theorem eX8_over_7 : decode mX8_over.2.1 7 = .ok (.ifnull 11, 3) := by decide +kernel
theorem eX8_over_10 : decode mX8_over.2.1 10 = .ok (.aload_n 3, 1) := by decide +kernel
theorem eX8_over_11 : decode mX8_over.2.1 11 = .ok (.iload_n 2, 1) := by decide +kernel
theorem eX8_over_12 : decode mX8_over.2.1 12 = .ok (.invokevirtual 104, 3) := by decide +kernel
theorem eX8_over_15 : decode mX8_over.2.1 15 = .ok (.ifCond .ne 7, 3) := by decide +kernel
theorem eX8_over_18 : decode mX8_over.2.1 18 = .ok (.iconst (-1), 1) := by decide +kernel
theorem eX8_over_19 : decode mX8_over.2.1 19 = .ok (.goto 8, 3) := by decide +kernel
theorem eX8_over_22 : decode mX8_over.2.1 22 = .ok (.aload_n 3, 1) := by decide +kernel
theorem eX8_over_23 : decode mX8_over.2.1 23 = .ok (.iload_n 2, 1) := by decide +kernel
theorem eX8_over_24 : decode mX8_over.2.1 24 = .ok (.invokevirtual 107, 3) := by decide +kernel
theorem eX8_over_27 : decode mX8_over.2.1 27 = .ok (.ireturn, 1) := by decide +kernel
theorem eX8_old_0 : decode mX8_old.2.1 0 = .ok (.aload_n 0, 1) := by decide +kernel
theorem eX8_old_1 : decode mX8_old.2.1 1 = .ok (.iload_n 1, 1) := by decide +kernel
theorem eX8_old_2 : decode mX8_old.2.1 2 = .ok (.invokevirtual 76, 3) := by decide +kernel
theorem eX8_old_5 : decode mX8_old.2.1 5 = .ok (.astore_n 2, 1) := by decide +kernel
theorem eX8_old_6 : decode mX8_old.2.1 6 = .ok (.aload_n 2, 1) := by decide +kernel
theorem eX8_old_7 : decode mX8_old.2.1 7 = .ok (.ifnonnull 7, 3) := by decide +kernel
theorem eX8_old_10 : decode mX8_old.2.1 10 = .ok (.iconst (-1), 1) := by decide +kernel
theorem eX8_old_11 : decode mX8_old.2.1 11 = .ok (.goto 7, 3) := by decide +kernel
theorem eX8_old_14 : decode mX8_old.2.1 14 = .ok (.aload_n 2, 1) := by decide +kernel
theorem eX8_old_15 : decode mX8_old.2.1 15 = .ok (.getfield 110, 3) := by decide +kernel
theorem eX8_old_18 : decode mX8_old.2.1 18 = .ok (.ireturn, 1) := by decide +kernel
theorem eX8_sail_0 : decode mX8_sail.2.1 0 = .ok (.aload_n 0, 1) := by decide +kernel
theorem eX8_sail_1 : decode mX8_sail.2.1 1 = .ok (.getfield 25, 3) := by decide +kernel
theorem eX8_sail_4 : decode mX8_sail.2.1 4 = .ok (.bipush 10, 2) := by decide +kernel
theorem eX8_sail_6 : decode mX8_sail.2.1 6 = .ok (.if_icmp .ge 67, 3) := by decide +kernel
theorem eX8_sail_9 : decode mX8_sail.2.1 9 = .ok (.iload 5, 2) := by decide +kernel
theorem eX8_sail_11 : decode mX8_sail.2.1 11 = .ok (.iconst 1, 1) := by decide +kernel
theorem eX8_sail_12 : decode mX8_sail.2.1 12 = .ok (.bipush 60, 2) := by decide +kernel
theorem eX8_sail_14 : decode mX8_sail.2.1 14 = .ok (.invokestatic 51, 3) := by decide +kernel
theorem eX8_sail_17 : decode mX8_sail.2.1 17 = .ok (.ifCond .eq 56, 3) := by decide +kernel
theorem eX8_sail_20 : decode mX8_sail.2.1 20 = .ok (.iload_n 1, 1) := by decide +kernel
theorem eX8_sail_21 : decode mX8_sail.2.1 21 = .ok (.sipush (-500), 3) := by decide +kernel
theorem eX8_sail_24 : decode mX8_sail.2.1 24 = .ok (.sipush 500, 3) := by decide +kernel
theorem eX8_sail_27 : decode mX8_sail.2.1 27 = .ok (.invokestatic 51, 3) := by decide +kernel
theorem eX8_sail_30 : decode mX8_sail.2.1 30 = .ok (.ifCond .eq 43, 3) := by decide +kernel
theorem eX8_sail_33 : decode mX8_sail.2.1 33 = .ok (.iload_n 2, 1) := by decide +kernel
theorem eX8_sail_34 : decode mX8_sail.2.1 34 = .ok (.sipush (-500), 3) := by decide +kernel
theorem eX8_sail_37 : decode mX8_sail.2.1 37 = .ok (.sipush 500, 3) := by decide +kernel
theorem eX8_sail_40 : decode mX8_sail.2.1 40 = .ok (.invokestatic 51, 3) := by decide +kernel
theorem eX8_sail_43 : decode mX8_sail.2.1 43 = .ok (.ifCond .eq 30, 3) := by decide +kernel
theorem eX8_sail_46 : decode mX8_sail.2.1 46 = .ok (.iload_n 3, 1) := by decide +kernel
theorem eX8_sail_47 : decode mX8_sail.2.1 47 = .ok (.sipush (-500), 3) := by decide +kernel
theorem eX8_sail_50 : decode mX8_sail.2.1 50 = .ok (.sipush 500, 3) := by decide +kernel
theorem eX8_sail_53 : decode mX8_sail.2.1 53 = .ok (.invokestatic 51, 3) := by decide +kernel
theorem eX8_sail_56 : decode mX8_sail.2.1 56 = .ok (.ifCond .eq 17, 3) := by decide +kernel
theorem eX8_sail_59 : decode mX8_sail.2.1 59 = .ok (.iload 4, 2) := by decide +kernel
theorem eX8_sail_61 : decode mX8_sail.2.1 61 = .ok (.sipush (-500), 3) := by decide +kernel
theorem eX8_sail_64 : decode mX8_sail.2.1 64 = .ok (.sipush 500, 3) := by decide +kernel
theorem eX8_sail_67 : decode mX8_sail.2.1 67 = .ok (.invokestatic 51, 3) := by decide +kernel
theorem eX8_sail_70 : decode mX8_sail.2.1 70 = .ok (.ifCond .ne 5, 3) := by decide +kernel
theorem eX8_sail_73 : decode mX8_sail.2.1 73 = .ok (.iconst (-1), 1) := by decide +kernel
theorem eX8_sail_74 : decode mX8_sail.2.1 74 = .ok (.ireturn, 1) := by decide +kernel
theorem eX8_sail_75 : decode mX8_sail.2.1 75 = .ok (.aload_n 0, 1) := by decide +kernel
theorem eX8_sail_76 : decode mX8_sail.2.1 76 = .ok (.getfield 25, 3) := by decide +kernel
theorem eX8_sail_79 : decode mX8_sail.2.1 79 = .ok (.istore 6, 2) := by decide +kernel
theorem eX8_sail_81 : decode mX8_sail.2.1 81 = .ok (.aload_n 0, 1) := by decide +kernel
theorem eX8_sail_82 : decode mX8_sail.2.1 82 = .ok (.getfield 21, 3) := by decide +kernel
theorem eX8_sail_85 : decode mX8_sail.2.1 85 = .ok (.iload 6, 2) := by decide +kernel
theorem eX8_sail_87 : decode mX8_sail.2.1 87 = .ok (.new 19, 3) := by decide +kernel
theorem eX8_sail_90 : decode mX8_sail.2.1 90 = .ok (.dup, 1) := by decide +kernel
theorem eX8_sail_91 : decode mX8_sail.2.1 91 = .ok (.new 113, 3) := by decide +kernel
theorem eX8_sail_94 : decode mX8_sail.2.1 94 = .ok (.dup, 1) := by decide +kernel
theorem eX8_sail_95 : decode mX8_sail.2.1 95 = .ok (.iload_n 1, 1) := by decide +kernel
theorem eX8_sail_96 : decode mX8_sail.2.1 96 = .ok (.iload_n 3, 1) := by decide +kernel
theorem eX8_sail_97 : decode mX8_sail.2.1 97 = .ok (.invokespecial 115, 3) := by decide +kernel
theorem eX8_sail_100 : decode mX8_sail.2.1 100 = .ok (.new 113, 3) := by decide +kernel
theorem eX8_sail_103 : decode mX8_sail.2.1 103 = .ok (.dup, 1) := by decide +kernel
theorem eX8_sail_104 : decode mX8_sail.2.1 104 = .ok (.iload_n 2, 1) := by decide +kernel
theorem eX8_sail_105 : decode mX8_sail.2.1 105 = .ok (.iload 4, 2) := by decide +kernel
theorem eX8_sail_107 : decode mX8_sail.2.1 107 = .ok (.invokespecial 115, 3) := by decide +kernel
theorem eX8_sail_110 : decode mX8_sail.2.1 110 = .ok (.iload 5, 2) := by decide +kernel
theorem eX8_sail_112 : decode mX8_sail.2.1 112 = .ok (.invokespecial 117, 3) := by decide +kernel
theorem eX8_sail_115 : decode mX8_sail.2.1 115 = .ok (.aastore, 1) := by decide +kernel
theorem eX8_sail_116 : decode mX8_sail.2.1 116 = .ok (.aload_n 0, 1) := by decide +kernel
theorem eX8_sail_117 : decode mX8_sail.2.1 117 = .ok (.dup, 1) := by decide +kernel
theorem eX8_sail_118 : decode mX8_sail.2.1 118 = .ok (.getfield 25, 3) := by decide +kernel
theorem eX8_sail_121 : decode mX8_sail.2.1 121 = .ok (.iconst 1, 1) := by decide +kernel
theorem eX8_sail_122 : decode mX8_sail.2.1 122 = .ok (.iadd, 1) := by decide +kernel
theorem eX8_sail_123 : decode mX8_sail.2.1 123 = .ok (.putfield 25, 3) := by decide +kernel
theorem eX8_sail_126 : decode mX8_sail.2.1 126 = .ok (.aload_n 0, 1) := by decide +kernel
theorem eX8_sail_127 : decode mX8_sail.2.1 127 = .ok (.new 35, 3) := by decide +kernel
theorem eX8_sail_130 : decode mX8_sail.2.1 130 = .ok (.dup, 1) := by decide +kernel
theorem eX8_sail_131 : decode mX8_sail.2.1 131 = .ok (.iconst 3, 1) := by decide +kernel
theorem eX8_sail_132 : decode mX8_sail.2.1 132 = .ok (.iload 6, 2) := by decide +kernel
theorem eX8_sail_134 : decode mX8_sail.2.1 134 = .ok (.iconst 0, 1) := by decide +kernel
theorem eX8_sail_135 : decode mX8_sail.2.1 135 = .ok (.iconst 0, 1) := by decide +kernel
theorem eX8_sail_136 : decode mX8_sail.2.1 136 = .ok (.invokespecial 69, 3) := by decide +kernel
theorem eX8_sail_139 : decode mX8_sail.2.1 139 = .ok (.invokevirtual 72, 3) := by decide +kernel
theorem eX8_sail_142 : decode mX8_sail.2.1 142 = .ok (.iload 6, 2) := by decide +kernel
theorem eX8_sail_144 : decode mX8_sail.2.1 144 = .ok (.ireturn, 1) := by decide +kernel
theorem eX8_edge_0 : decode mX8_edge.2.1 0 = .ok (.aload_n 0, 1) := by decide +kernel
theorem eX8_edge_1 : decode mX8_edge.2.1 1 = .ok (.iload_n 1, 1) := by decide +kernel
theorem eX8_edge_2 : decode mX8_edge.2.1 2 = .ok (.iconst 0, 1) := by decide +kernel
theorem eX8_edge_3 : decode mX8_edge.2.1 3 = .ok (.invokevirtual 120, 3) := by decide +kernel
theorem eX8_edge_6 : decode mX8_edge.2.1 6 = .ok (.astore 4, 2) := by decide +kernel
theorem eX8_edge_8 : decode mX8_edge.2.1 8 = .ok (.aload 4, 2) := by decide +kernel
theorem eX8_edge_10 : decode mX8_edge.2.1 10 = .ok (.ifnull 18, 3) := by decide +kernel
theorem eX8_edge_13 : decode mX8_edge.2.1 13 = .ok (.iload_n 3, 1) := by decide +kernel
theorem eX8_edge_14 : decode mX8_edge.2.1 14 = .ok (.iconst 0, 1) := by decide +kernel
theorem eX8_edge_15 : decode mX8_edge.2.1 15 = .ok (.aload 4, 2) := by decide +kernel
theorem eX8_edge_17 : decode mX8_edge.2.1 17 = .ok (.getfield 124, 3) := by decide +kernel
theorem eX8_edge_20 : decode mX8_edge.2.1 20 = .ok (.iconst 1, 1) := by decide +kernel
theorem eX8_edge_21 : decode mX8_edge.2.1 21 = .ok (.iadd, 1) := by decide +kernel
theorem eX8_edge_22 : decode mX8_edge.2.1 22 = .ok (.invokestatic 51, 3) := by decide +kernel
theorem eX8_edge_25 : decode mX8_edge.2.1 25 = .ok (.ifCond .ne 5, 3) := by decide +kernel
theorem eX8_edge_28 : decode mX8_edge.2.1 28 = .ok (.iconst 0, 1) := by decide +kernel
theorem eX8_edge_29 : decode mX8_edge.2.1 29 = .ok (.ireturn, 1) := by decide +kernel
theorem eX8_edge_30 : decode mX8_edge.2.1 30 = .ok (.aload 4, 2) := by decide +kernel
theorem eX8_edge_32 : decode mX8_edge.2.1 32 = .ok (.iload_n 2, 1) := by decide +kernel
theorem eX8_edge_33 : decode mX8_edge.2.1 33 = .ok (.invokevirtual 127, 3) := by decide +kernel
theorem eX8_edge_36 : decode mX8_edge.2.1 36 = .ok (.astore 5, 2) := by decide +kernel
theorem eX8_edge_38 : decode mX8_edge.2.1 38 = .ok (.aload 5, 2) := by decide +kernel
theorem eX8_edge_40 : decode mX8_edge.2.1 40 = .ok (.ifnonnull 5, 3) := by decide +kernel
theorem eX8_edge_43 : decode mX8_edge.2.1 43 = .ok (.iconst 0, 1) := by decide +kernel
theorem eX8_edge_44 : decode mX8_edge.2.1 44 = .ok (.ireturn, 1) := by decide +kernel
theorem eX8_edge_45 : decode mX8_edge.2.1 45 = .ok (.new 35, 3) := by decide +kernel
theorem eX8_edge_48 : decode mX8_edge.2.1 48 = .ok (.dup, 1) := by decide +kernel
theorem eX8_edge_49 : decode mX8_edge.2.1 49 = .ok (.iconst 4, 1) := by decide +kernel
theorem eX8_edge_50 : decode mX8_edge.2.1 50 = .ok (.iload_n 1, 1) := by decide +kernel
theorem eX8_edge_51 : decode mX8_edge.2.1 51 = .ok (.iload_n 2, 1) := by decide +kernel
theorem eX8_edge_52 : decode mX8_edge.2.1 52 = .ok (.iconst 0, 1) := by decide +kernel
theorem eX8_edge_53 : decode mX8_edge.2.1 53 = .ok (.invokespecial 69, 3) := by decide +kernel
theorem eX8_edge_56 : decode mX8_edge.2.1 56 = .ok (.astore 6, 2) := by decide +kernel
theorem eX8_edge_58 : decode mX8_edge.2.1 58 = .ok (.aload 6, 2) := by decide +kernel
theorem eX8_edge_60 : decode mX8_edge.2.1 60 = .ok (.aload 5, 2) := by decide +kernel
theorem eX8_edge_62 : decode mX8_edge.2.1 62 = .ok (.getfield 131, 3) := by decide +kernel
theorem eX8_edge_65 : decode mX8_edge.2.1 65 = .ok (.putfield 134, 3) := by decide +kernel
theorem eX8_edge_68 : decode mX8_edge.2.1 68 = .ok (.aload 5, 2) := by decide +kernel
theorem eX8_edge_70 : decode mX8_edge.2.1 70 = .ok (.iload_n 3, 1) := by decide +kernel
theorem eX8_edge_71 : decode mX8_edge.2.1 71 = .ok (.ifCond .le 9, 3) := by decide +kernel
theorem eX8_edge_74 : decode mX8_edge.2.1 74 = .ok (.iload_n 3, 1) := by decide +kernel
theorem eX8_edge_75 : decode mX8_edge.2.1 75 = .ok (.newarray .short, 2) := by decide +kernel
theorem eX8_edge_77 : decode mX8_edge.2.1 77 = .ok (.goto 4, 3) := by decide +kernel
theorem eX8_edge_80 : decode mX8_edge.2.1 80 = .ok (.aconst_null, 1) := by decide +kernel
theorem eX8_edge_81 : decode mX8_edge.2.1 81 = .ok (.putfield 131, 3) := by decide +kernel
theorem eX8_edge_84 : decode mX8_edge.2.1 84 = .ok (.aload_n 0, 1) := by decide +kernel
theorem eX8_edge_85 : decode mX8_edge.2.1 85 = .ok (.aload 6, 2) := by decide +kernel
theorem eX8_edge_87 : decode mX8_edge.2.1 87 = .ok (.invokevirtual 72, 3) := by decide +kernel
theorem eX8_edge_90 : decode mX8_edge.2.1 90 = .ok (.iconst 1, 1) := by decide +kernel
theorem eX8_edge_91 : decode mX8_edge.2.1 91 = .ok (.ireturn, 1) := by decide +kernel
theorem eX8_stand_0 : decode mX8_stand.2.1 0 = .ok (.aload_n 0, 1) := by decide +kernel
theorem eX8_stand_1 : decode mX8_stand.2.1 1 = .ok (.iload_n 1, 1) := by decide +kernel
theorem eX8_stand_2 : decode mX8_stand.2.1 2 = .ok (.iconst 0, 1) := by decide +kernel
theorem eX8_stand_3 : decode mX8_stand.2.1 3 = .ok (.invokevirtual 120, 3) := by decide +kernel
theorem eX8_stand_6 : decode mX8_stand.2.1 6 = .ok (.astore 5, 2) := by decide +kernel
theorem eX8_stand_8 : decode mX8_stand.2.1 8 = .ok (.aload 5, 2) := by decide +kernel
theorem eX8_stand_10 : decode mX8_stand.2.1 10 = .ok (.ifnull 17, 3) := by decide +kernel
theorem eX8_stand_13 : decode mX8_stand.2.1 13 = .ok (.iload 4, 2) := by decide +kernel
theorem eX8_stand_15 : decode mX8_stand.2.1 15 = .ok (.sipush (-200), 3) := by decide +kernel
theorem eX8_stand_18 : decode mX8_stand.2.1 18 = .ok (.sipush 200, 3) := by decide +kernel
theorem eX8_stand_21 : decode mX8_stand.2.1 21 = .ok (.invokestatic 51, 3) := by decide +kernel
theorem eX8_stand_24 : decode mX8_stand.2.1 24 = .ok (.ifCond .ne 5, 3) := by decide +kernel
theorem eX8_stand_27 : decode mX8_stand.2.1 27 = .ok (.iconst 0, 1) := by decide +kernel
theorem eX8_stand_28 : decode mX8_stand.2.1 28 = .ok (.ireturn, 1) := by decide +kernel
theorem eX8_stand_29 : decode mX8_stand.2.1 29 = .ok (.aload 5, 2) := by decide +kernel
theorem eX8_stand_31 : decode mX8_stand.2.1 31 = .ok (.iload_n 2, 1) := by decide +kernel
theorem eX8_stand_32 : decode mX8_stand.2.1 32 = .ok (.invokevirtual 127, 3) := by decide +kernel
theorem eX8_stand_35 : decode mX8_stand.2.1 35 = .ok (.astore 6, 2) := by decide +kernel
theorem eX8_stand_37 : decode mX8_stand.2.1 37 = .ok (.aload 6, 2) := by decide +kernel
theorem eX8_stand_39 : decode mX8_stand.2.1 39 = .ok (.ifnull 12, 3) := by decide +kernel
theorem eX8_stand_42 : decode mX8_stand.2.1 42 = .ok (.aload 6, 2) := by decide +kernel
theorem eX8_stand_44 : decode mX8_stand.2.1 44 = .ok (.iload_n 3, 1) := by decide +kernel
theorem eX8_stand_45 : decode mX8_stand.2.1 45 = .ok (.invokevirtual 137, 3) := by decide +kernel
theorem eX8_stand_48 : decode mX8_stand.2.1 48 = .ok (.ifCond .ne 5, 3) := by decide +kernel
theorem eX8_stand_51 : decode mX8_stand.2.1 51 = .ok (.iconst 0, 1) := by decide +kernel
theorem eX8_stand_52 : decode mX8_stand.2.1 52 = .ok (.ireturn, 1) := by decide +kernel
theorem eX8_stand_53 : decode mX8_stand.2.1 53 = .ok (.new 35, 3) := by decide +kernel
theorem eX8_stand_56 : decode mX8_stand.2.1 56 = .ok (.dup, 1) := by decide +kernel
theorem eX8_stand_57 : decode mX8_stand.2.1 57 = .ok (.iconst 5, 1) := by decide +kernel
theorem eX8_stand_58 : decode mX8_stand.2.1 58 = .ok (.iload_n 1, 1) := by decide +kernel
theorem eX8_stand_59 : decode mX8_stand.2.1 59 = .ok (.iload_n 2, 1) := by decide +kernel
theorem eX8_stand_60 : decode mX8_stand.2.1 60 = .ok (.aload 6, 2) := by decide +kernel
theorem eX8_stand_62 : decode mX8_stand.2.1 62 = .ok (.iload_n 3, 1) := by decide +kernel
theorem eX8_stand_63 : decode mX8_stand.2.1 63 = .ok (.invokevirtual 140, 3) := by decide +kernel
theorem eX8_stand_66 : decode mX8_stand.2.1 66 = .ok (.invokespecial 69, 3) := by decide +kernel
theorem eX8_stand_69 : decode mX8_stand.2.1 69 = .ok (.astore 7, 2) := by decide +kernel
theorem eX8_stand_71 : decode mX8_stand.2.1 71 = .ok (.aload 7, 2) := by decide +kernel
theorem eX8_stand_73 : decode mX8_stand.2.1 73 = .ok (.iload_n 3, 1) := by decide +kernel
theorem eX8_stand_74 : decode mX8_stand.2.1 74 = .ok (.putfield 143, 3) := by decide +kernel
theorem eX8_stand_77 : decode mX8_stand.2.1 77 = .ok (.aload 6, 2) := by decide +kernel
theorem eX8_stand_79 : decode mX8_stand.2.1 79 = .ok (.iload_n 3, 1) := by decide +kernel
theorem eX8_stand_80 : decode mX8_stand.2.1 80 = .ok (.iload 4, 2) := by decide +kernel
theorem eX8_stand_82 : decode mX8_stand.2.1 82 = .ok (.invokevirtual 146, 3) := by decide +kernel
theorem eX8_stand_85 : decode mX8_stand.2.1 85 = .ok (.aload_n 0, 1) := by decide +kernel
theorem eX8_stand_86 : decode mX8_stand.2.1 86 = .ok (.aload 7, 2) := by decide +kernel
theorem eX8_stand_88 : decode mX8_stand.2.1 88 = .ok (.invokevirtual 72, 3) := by decide +kernel
theorem eX8_stand_91 : decode mX8_stand.2.1 91 = .ok (.iconst 1, 1) := by decide +kernel
theorem eX8_stand_92 : decode mX8_stand.2.1 92 = .ok (.ireturn, 1) := by decide +kernel
theorem eX8_at_0 : decode mX8_at.2.1 0 = .ok (.aload_n 0, 1) := by decide +kernel
theorem eX8_at_1 : decode mX8_at.2.1 1 = .ok (.iload_n 1, 1) := by decide +kernel
theorem eX8_at_2 : decode mX8_at.2.1 2 = .ok (.invokevirtual 149, 3) := by decide +kernel
theorem eX8_at_5 : decode mX8_at.2.1 5 = .ok (.astore 4, 2) := by decide +kernel
theorem eX8_at_7 : decode mX8_at.2.1 7 = .ok (.aload 4, 2) := by decide +kernel
theorem eX8_at_9 : decode mX8_at.2.1 9 = .ok (.ifnull 16, 3) := by decide +kernel
theorem eX8_at_12 : decode mX8_at.2.1 12 = .ok (.iload_n 3, 1) := by decide +kernel
theorem eX8_at_13 : decode mX8_at.2.1 13 = .ok (.iconst 0, 1) := by decide +kernel
theorem eX8_at_14 : decode mX8_at.2.1 14 = .ok (.aload 4, 2) := by decide +kernel
theorem eX8_at_16 : decode mX8_at.2.1 16 = .ok (.getfield 124, 3) := by decide +kernel
theorem eX8_at_19 : decode mX8_at.2.1 19 = .ok (.invokestatic 51, 3) := by decide +kernel
theorem eX8_at_22 : decode mX8_at.2.1 22 = .ok (.ifCond .ne 7, 3) := by decide +kernel
theorem eX8_at_25 : decode mX8_at.2.1 25 = .ok (.sipush (-10000), 3) := by decide +kernel
theorem eX8_at_28 : decode mX8_at.2.1 28 = .ok (.ireturn, 1) := by decide +kernel
theorem eX8_at_29 : decode mX8_at.2.1 29 = .ok (.aload 4, 2) := by decide +kernel
theorem eX8_at_31 : decode mX8_at.2.1 31 = .ok (.iload_n 2, 1) := by decide +kernel
theorem eX8_at_32 : decode mX8_at.2.1 32 = .ok (.invokevirtual 127, 3) := by decide +kernel
theorem eX8_at_35 : decode mX8_at.2.1 35 = .ok (.astore 5, 2) := by decide +kernel
theorem eX8_at_37 : decode mX8_at.2.1 37 = .ok (.aload 5, 2) := by decide +kernel
theorem eX8_at_39 : decode mX8_at.2.1 39 = .ok (.ifnonnull 9, 3) := by decide +kernel
theorem eX8_at_42 : decode mX8_at.2.1 42 = .ok (.sipush (-10000), 3) := by decide +kernel
theorem eX8_at_45 : decode mX8_at.2.1 45 = .ok (.goto 14, 3) := by decide +kernel
theorem eX8_at_48 : decode mX8_at.2.1 48 = .ok (.aload 5, 2) := by decide +kernel
theorem eX8_at_50 : decode mX8_at.2.1 50 = .ok (.iload_n 3, 1) := by decide +kernel
theorem eX8_at_51 : decode mX8_at.2.1 51 = .ok (.aload 4, 2) := by decide +kernel
theorem eX8_at_53 : decode mX8_at.2.1 53 = .ok (.getfield 124, 3) := by decide +kernel
theorem eX8_at_56 : decode mX8_at.2.1 56 = .ok (.invokevirtual 153, 3) := by decide +kernel
theorem eX8_at_59 : decode mX8_at.2.1 59 = .ok (.ireturn, 1) := by decide +kernel
theorem eX8_cut_0 : decode mX8_cut.2.1 0 = .ok (.aload_n 0, 1) := by decide +kernel
theorem eX8_cut_1 : decode mX8_cut.2.1 1 = .ok (.iload_n 1, 1) := by decide +kernel
theorem eX8_cut_2 : decode mX8_cut.2.1 2 = .ok (.iconst 0, 1) := by decide +kernel
theorem eX8_cut_3 : decode mX8_cut.2.1 3 = .ok (.invokevirtual 120, 3) := by decide +kernel
theorem eX8_cut_6 : decode mX8_cut.2.1 6 = .ok (.astore 4, 2) := by decide +kernel
theorem eX8_cut_8 : decode mX8_cut.2.1 8 = .ok (.aload 4, 2) := by decide +kernel
theorem eX8_cut_10 : decode mX8_cut.2.1 10 = .ok (.ifnull 24, 3) := by decide +kernel
theorem eX8_cut_13 : decode mX8_cut.2.1 13 = .ok (.iload_n 2, 1) := by decide +kernel
theorem eX8_cut_14 : decode mX8_cut.2.1 14 = .ok (.iconst 2, 1) := by decide +kernel
theorem eX8_cut_15 : decode mX8_cut.2.1 15 = .ok (.bipush 20, 2) := by decide +kernel
theorem eX8_cut_17 : decode mX8_cut.2.1 17 = .ok (.invokestatic 51, 3) := by decide +kernel
theorem eX8_cut_20 : decode mX8_cut.2.1 20 = .ok (.ifCond .eq 14, 3) := by decide +kernel
theorem eX8_cut_23 : decode mX8_cut.2.1 23 = .ok (.iload_n 3, 1) := by decide +kernel
theorem eX8_cut_24 : decode mX8_cut.2.1 24 = .ok (.iconst 1, 1) := by decide +kernel
theorem eX8_cut_25 : decode mX8_cut.2.1 25 = .ok (.iload_n 2, 1) := by decide +kernel
theorem eX8_cut_26 : decode mX8_cut.2.1 26 = .ok (.iconst 1, 1) := by decide +kernel
theorem eX8_cut_27 : decode mX8_cut.2.1 27 = .ok (.isub, 1) := by decide +kernel
theorem eX8_cut_28 : decode mX8_cut.2.1 28 = .ok (.invokestatic 51, 3) := by decide +kernel
theorem eX8_cut_31 : decode mX8_cut.2.1 31 = .ok (.ifCond .ne 5, 3) := by decide +kernel
theorem eX8_cut_34 : decode mX8_cut.2.1 34 = .ok (.iconst (-1), 1) := by decide +kernel
theorem eX8_cut_35 : decode mX8_cut.2.1 35 = .ok (.ireturn, 1) := by decide +kernel
theorem eX8_cut_36 : decode mX8_cut.2.1 36 = .ok (.aload 4, 2) := by decide +kernel
theorem eX8_cut_38 : decode mX8_cut.2.1 38 = .ok (.iload_n 2, 1) := by decide +kernel
theorem eX8_cut_39 : decode mX8_cut.2.1 39 = .ok (.iload_n 3, 1) := by decide +kernel
theorem eX8_cut_40 : decode mX8_cut.2.1 40 = .ok (.isub, 1) := by decide +kernel
theorem eX8_cut_41 : decode mX8_cut.2.1 41 = .ok (.invokevirtual 157, 3) := by decide +kernel
theorem eX8_cut_44 : decode mX8_cut.2.1 44 = .ok (.bipush 40, 2) := by decide +kernel
theorem eX8_cut_46 : decode mX8_cut.2.1 46 = .ok (.if_icmp .gt 11, 3) := by decide +kernel
theorem eX8_cut_49 : decode mX8_cut.2.1 49 = .ok (.aload 4, 2) := by decide +kernel
theorem eX8_cut_51 : decode mX8_cut.2.1 51 = .ok (.invokevirtual 160, 3) := by decide +kernel
theorem eX8_cut_54 : decode mX8_cut.2.1 54 = .ok (.ifCond .eq 5, 3) := by decide +kernel
theorem eX8_cut_57 : decode mX8_cut.2.1 57 = .ok (.iconst (-1), 1) := by decide +kernel
theorem eX8_cut_58 : decode mX8_cut.2.1 58 = .ok (.ireturn, 1) := by decide +kernel
theorem eX8_cut_59 : decode mX8_cut.2.1 59 = .ok (.aload 4, 2) := by decide +kernel
theorem eX8_cut_61 : decode mX8_cut.2.1 61 = .ok (.iload_n 2, 1) := by decide +kernel
theorem eX8_cut_62 : decode mX8_cut.2.1 62 = .ok (.iload_n 3, 1) := by decide +kernel
theorem eX8_cut_63 : decode mX8_cut.2.1 63 = .ok (.isub, 1) := by decide +kernel
theorem eX8_cut_64 : decode mX8_cut.2.1 64 = .ok (.iload_n 3, 1) := by decide +kernel
theorem eX8_cut_65 : decode mX8_cut.2.1 65 = .ok (.invokevirtual 164, 3) := by decide +kernel
theorem eX8_cut_68 : decode mX8_cut.2.1 68 = .ok (.aload_n 0, 1) := by decide +kernel
theorem eX8_cut_69 : decode mX8_cut.2.1 69 = .ok (.new 35, 3) := by decide +kernel
theorem eX8_cut_72 : decode mX8_cut.2.1 72 = .ok (.dup, 1) := by decide +kernel
theorem eX8_cut_73 : decode mX8_cut.2.1 73 = .ok (.bipush 6, 2) := by decide +kernel
theorem eX8_cut_75 : decode mX8_cut.2.1 75 = .ok (.iload_n 1, 1) := by decide +kernel
theorem eX8_cut_76 : decode mX8_cut.2.1 76 = .ok (.iconst 0, 1) := by decide +kernel
theorem eX8_cut_77 : decode mX8_cut.2.1 77 = .ok (.iconst 0, 1) := by decide +kernel
theorem eX8_cut_78 : decode mX8_cut.2.1 78 = .ok (.invokespecial 69, 3) := by decide +kernel
theorem eX8_cut_81 : decode mX8_cut.2.1 81 = .ok (.invokevirtual 72, 3) := by decide +kernel
theorem eX8_cut_84 : decode mX8_cut.2.1 84 = .ok (.aload 4, 2) := by decide +kernel
theorem eX8_cut_86 : decode mX8_cut.2.1 86 = .ok (.getfield 167, 3) := by decide +kernel
theorem eX8_cut_89 : decode mX8_cut.2.1 89 = .ok (.ireturn, 1) := by decide +kernel
theorem eX8_narrow_0 : decode mX8_narrow.2.1 0 = .ok (.aload_n 0, 1) := by decide +kernel
theorem eX8_narrow_1 : decode mX8_narrow.2.1 1 = .ok (.iload_n 1, 1) := by decide +kernel
theorem eX8_narrow_2 : decode mX8_narrow.2.1 2 = .ok (.iconst 1, 1) := by decide +kernel
theorem eX8_narrow_3 : decode mX8_narrow.2.1 3 = .ok (.invokevirtual 120, 3) := by decide +kernel
theorem eX8_narrow_6 : decode mX8_narrow.2.1 6 = .ok (.astore 4, 2) := by decide +kernel
theorem eX8_narrow_8 : decode mX8_narrow.2.1 8 = .ok (.aload 4, 2) := by decide +kernel
theorem eX8_narrow_10 : decode mX8_narrow.2.1 10 = .ok (.ifnull 28, 3) := by decide +kernel
theorem eX8_narrow_13 : decode mX8_narrow.2.1 13 = .ok (.iload_n 2, 1) := by decide +kernel
theorem eX8_narrow_14 : decode mX8_narrow.2.1 14 = .ok (.iconst 0, 1) := by decide +kernel
theorem eX8_narrow_15 : decode mX8_narrow.2.1 15 = .ok (.aload 4, 2) := by decide +kernel
theorem eX8_narrow_17 : decode mX8_narrow.2.1 17 = .ok (.getfield 167, 3) := by decide +kernel
theorem eX8_narrow_20 : decode mX8_narrow.2.1 20 = .ok (.iconst 2, 1) := by decide +kernel
theorem eX8_narrow_21 : decode mX8_narrow.2.1 21 = .ok (.isub, 1) := by decide +kernel
theorem eX8_narrow_22 : decode mX8_narrow.2.1 22 = .ok (.invokestatic 51, 3) := by decide +kernel
theorem eX8_narrow_25 : decode mX8_narrow.2.1 25 = .ok (.ifCond .eq 13, 3) := by decide +kernel
theorem eX8_narrow_28 : decode mX8_narrow.2.1 28 = .ok (.iload_n 3, 1) := by decide +kernel
theorem eX8_narrow_29 : decode mX8_narrow.2.1 29 = .ok (.iconst 0, 1) := by decide +kernel
theorem eX8_narrow_30 : decode mX8_narrow.2.1 30 = .ok (.bipush 50, 2) := by decide +kernel
theorem eX8_narrow_32 : decode mX8_narrow.2.1 32 = .ok (.invokestatic 51, 3) := by decide +kernel
theorem eX8_narrow_35 : decode mX8_narrow.2.1 35 = .ok (.ifCond .ne 5, 3) := by decide +kernel
theorem eX8_narrow_38 : decode mX8_narrow.2.1 38 = .ok (.iconst 0, 1) := by decide +kernel
theorem eX8_narrow_39 : decode mX8_narrow.2.1 39 = .ok (.ireturn, 1) := by decide +kernel
theorem eX8_narrow_40 : decode mX8_narrow.2.1 40 = .ok (.aload 4, 2) := by decide +kernel
theorem eX8_narrow_42 : decode mX8_narrow.2.1 42 = .ok (.iload_n 2, 1) := by decide +kernel
theorem eX8_narrow_43 : decode mX8_narrow.2.1 43 = .ok (.invokevirtual 170, 3) := by decide +kernel
theorem eX8_narrow_46 : decode mX8_narrow.2.1 46 = .ok (.astore 5, 2) := by decide +kernel
theorem eX8_narrow_48 : decode mX8_narrow.2.1 48 = .ok (.aload 5, 2) := by decide +kernel
theorem eX8_narrow_50 : decode mX8_narrow.2.1 50 = .ok (.ifnonnull 5, 3) := by decide +kernel
theorem eX8_narrow_53 : decode mX8_narrow.2.1 53 = .ok (.iconst 0, 1) := by decide +kernel
theorem eX8_narrow_54 : decode mX8_narrow.2.1 54 = .ok (.ireturn, 1) := by decide +kernel
theorem eX8_narrow_55 : decode mX8_narrow.2.1 55 = .ok (.aload_n 0, 1) := by decide +kernel
theorem eX8_narrow_56 : decode mX8_narrow.2.1 56 = .ok (.new 35, 3) := by decide +kernel
theorem eX8_narrow_59 : decode mX8_narrow.2.1 59 = .ok (.dup, 1) := by decide +kernel
theorem eX8_narrow_60 : decode mX8_narrow.2.1 60 = .ok (.bipush 7, 2) := by decide +kernel
theorem eX8_narrow_62 : decode mX8_narrow.2.1 62 = .ok (.iload_n 1, 1) := by decide +kernel
theorem eX8_narrow_63 : decode mX8_narrow.2.1 63 = .ok (.iload_n 2, 1) := by decide +kernel
theorem eX8_narrow_64 : decode mX8_narrow.2.1 64 = .ok (.aload 5, 2) := by decide +kernel
theorem eX8_narrow_66 : decode mX8_narrow.2.1 66 = .ok (.getfield 174, 3) := by decide +kernel
theorem eX8_narrow_69 : decode mX8_narrow.2.1 69 = .ok (.invokespecial 69, 3) := by decide +kernel
theorem eX8_narrow_72 : decode mX8_narrow.2.1 72 = .ok (.invokevirtual 72, 3) := by decide +kernel
theorem eX8_narrow_75 : decode mX8_narrow.2.1 75 = .ok (.aload 5, 2) := by decide +kernel
theorem eX8_narrow_77 : decode mX8_narrow.2.1 77 = .ok (.iload_n 3, 1) := by decide +kernel
theorem eX8_narrow_78 : decode mX8_narrow.2.1 78 = .ok (.putfield 174, 3) := by decide +kernel
theorem eX8_narrow_81 : decode mX8_narrow.2.1 81 = .ok (.iconst 1, 1) := by decide +kernel
theorem eX8_narrow_82 : decode mX8_narrow.2.1 82 = .ok (.ireturn, 1) := by decide +kernel
theorem eX8_patch_0 : decode mX8_patch.2.1 0 = .ok (.aload_n 0, 1) := by decide +kernel
theorem eX8_patch_1 : decode mX8_patch.2.1 1 = .ok (.iload_n 1, 1) := by decide +kernel
theorem eX8_patch_2 : decode mX8_patch.2.1 2 = .ok (.iconst 1, 1) := by decide +kernel
theorem eX8_patch_3 : decode mX8_patch.2.1 3 = .ok (.invokevirtual 120, 3) := by decide +kernel
theorem eX8_patch_6 : decode mX8_patch.2.1 6 = .ok (.astore 5, 2) := by decide +kernel
theorem eX8_patch_8 : decode mX8_patch.2.1 8 = .ok (.aload 5, 2) := by decide +kernel
theorem eX8_patch_10 : decode mX8_patch.2.1 10 = .ok (.ifnull 49, 3) := by decide +kernel
theorem eX8_patch_13 : decode mX8_patch.2.1 13 = .ok (.aload 5, 2) := by decide +kernel
theorem eX8_patch_15 : decode mX8_patch.2.1 15 = .ok (.getfield 179, 3) := by decide +kernel
theorem eX8_patch_18 : decode mX8_patch.2.1 18 = .ok (.bipush 40, 2) := by decide +kernel
theorem eX8_patch_20 : decode mX8_patch.2.1 20 = .ok (.if_icmp .ge 39, 3) := by decide +kernel
theorem eX8_patch_23 : decode mX8_patch.2.1 23 = .ok (.iload_n 2, 1) := by decide +kernel
theorem eX8_patch_24 : decode mX8_patch.2.1 24 = .ok (.iconst 0, 1) := by decide +kernel
theorem eX8_patch_25 : decode mX8_patch.2.1 25 = .ok (.aload 5, 2) := by decide +kernel
theorem eX8_patch_27 : decode mX8_patch.2.1 27 = .ok (.getfield 124, 3) := by decide +kernel
theorem eX8_patch_30 : decode mX8_patch.2.1 30 = .ok (.iconst 1, 1) := by decide +kernel
theorem eX8_patch_31 : decode mX8_patch.2.1 31 = .ok (.isub, 1) := by decide +kernel
theorem eX8_patch_32 : decode mX8_patch.2.1 32 = .ok (.invokestatic 51, 3) := by decide +kernel
theorem eX8_patch_35 : decode mX8_patch.2.1 35 = .ok (.ifCond .eq 24, 3) := by decide +kernel
theorem eX8_patch_38 : decode mX8_patch.2.1 38 = .ok (.iload_n 3, 1) := by decide +kernel
theorem eX8_patch_39 : decode mX8_patch.2.1 39 = .ok (.iconst 1, 1) := by decide +kernel
theorem eX8_patch_40 : decode mX8_patch.2.1 40 = .ok (.bipush 20, 2) := by decide +kernel
theorem eX8_patch_42 : decode mX8_patch.2.1 42 = .ok (.invokestatic 51, 3) := by decide +kernel
theorem eX8_patch_45 : decode mX8_patch.2.1 45 = .ok (.ifCond .eq 14, 3) := by decide +kernel
theorem eX8_patch_48 : decode mX8_patch.2.1 48 = .ok (.iload 4, 2) := by decide +kernel
theorem eX8_patch_50 : decode mX8_patch.2.1 50 = .ok (.iconst 1, 1) := by decide +kernel
theorem eX8_patch_51 : decode mX8_patch.2.1 51 = .ok (.bipush 100, 2) := by decide +kernel
theorem eX8_patch_53 : decode mX8_patch.2.1 53 = .ok (.invokestatic 51, 3) := by decide +kernel
theorem eX8_patch_56 : decode mX8_patch.2.1 56 = .ok (.ifCond .ne 5, 3) := by decide +kernel
theorem eX8_patch_59 : decode mX8_patch.2.1 59 = .ok (.iconst (-1), 1) := by decide +kernel
theorem eX8_patch_60 : decode mX8_patch.2.1 60 = .ok (.ireturn, 1) := by decide +kernel
theorem eX8_patch_61 : decode mX8_patch.2.1 61 = .ok (.aload 5, 2) := by decide +kernel
theorem eX8_patch_63 : decode mX8_patch.2.1 63 = .ok (.getfield 179, 3) := by decide +kernel
theorem eX8_patch_66 : decode mX8_patch.2.1 66 = .ok (.istore 6, 2) := by decide +kernel
theorem eX8_patch_68 : decode mX8_patch.2.1 68 = .ok (.aload 5, 2) := by decide +kernel
theorem eX8_patch_70 : decode mX8_patch.2.1 70 = .ok (.iload_n 2, 1) := by decide +kernel
theorem eX8_patch_71 : decode mX8_patch.2.1 71 = .ok (.iload_n 3, 1) := by decide +kernel
theorem eX8_patch_72 : decode mX8_patch.2.1 72 = .ok (.iload 4, 2) := by decide +kernel
theorem eX8_patch_74 : decode mX8_patch.2.1 74 = .ok (.invokevirtual 182, 3) := by decide +kernel
theorem eX8_patch_77 : decode mX8_patch.2.1 77 = .ok (.aload_n 0, 1) := by decide +kernel
theorem eX8_patch_78 : decode mX8_patch.2.1 78 = .ok (.new 35, 3) := by decide +kernel
theorem eX8_patch_81 : decode mX8_patch.2.1 81 = .ok (.dup, 1) := by decide +kernel
theorem eX8_patch_82 : decode mX8_patch.2.1 82 = .ok (.bipush 8, 2) := by decide +kernel
theorem eX8_patch_84 : decode mX8_patch.2.1 84 = .ok (.iload_n 1, 1) := by decide +kernel
theorem eX8_patch_85 : decode mX8_patch.2.1 85 = .ok (.iload 6, 2) := by decide +kernel
theorem eX8_patch_87 : decode mX8_patch.2.1 87 = .ok (.iconst 0, 1) := by decide +kernel
theorem eX8_patch_88 : decode mX8_patch.2.1 88 = .ok (.invokespecial 69, 3) := by decide +kernel
theorem eX8_patch_91 : decode mX8_patch.2.1 91 = .ok (.invokevirtual 72, 3) := by decide +kernel
theorem eX8_patch_94 : decode mX8_patch.2.1 94 = .ok (.iload 6, 2) := by decide +kernel
theorem eX8_patch_96 : decode mX8_patch.2.1 96 = .ok (.ireturn, 1) := by decide +kernel
theorem eX8_told_0 : decode mX8_told.2.1 0 = .ok (.aload_n 0, 1) := by decide +kernel
theorem eX8_told_1 : decode mX8_told.2.1 1 = .ok (.iload_n 1, 1) := by decide +kernel
theorem eX8_told_2 : decode mX8_told.2.1 2 = .ok (.invokevirtual 149, 3) := by decide +kernel
theorem eX8_told_5 : decode mX8_told.2.1 5 = .ok (.astore_n 3, 1) := by decide +kernel
theorem eX8_told_6 : decode mX8_told.2.1 6 = .ok (.aload_n 3, 1) := by decide +kernel
theorem eX8_told_7 : decode mX8_told.2.1 7 = .ok (.ifnonnull 5, 3) := by decide +kernel
theorem eX8_told_10 : decode mX8_told.2.1 10 = .ok (.iconst (-1), 1) := by decide +kernel
theorem eX8_told_11 : decode mX8_told.2.1 11 = .ok (.ireturn, 1) := by decide +kernel
theorem eX8_told_12 : decode mX8_told.2.1 12 = .ok (.iload_n 2, 1) := by decide +kernel
theorem eX8_told_13 : decode mX8_told.2.1 13 = .ok (.tableswitch 115 0 8 #[51, 56, 61, 71, 81, 86, 99, 105, 110], 51) := by decide +kernel
theorem eX8_told_64 : decode mX8_told.2.1 64 = .ok (.aload_n 3, 1) := by decide +kernel
theorem eX8_told_65 : decode mX8_told.2.1 65 = .ok (.getfield 186, 3) := by decide +kernel
theorem eX8_told_68 : decode mX8_told.2.1 68 = .ok (.ireturn, 1) := by decide +kernel
theorem eX8_told_69 : decode mX8_told.2.1 69 = .ok (.aload_n 3, 1) := by decide +kernel
theorem eX8_told_70 : decode mX8_told.2.1 70 = .ok (.getfield 167, 3) := by decide +kernel
theorem eX8_told_73 : decode mX8_told.2.1 73 = .ok (.ireturn, 1) := by decide +kernel
theorem eX8_told_74 : decode mX8_told.2.1 74 = .ok (.aload_n 3, 1) := by decide +kernel
theorem eX8_told_75 : decode mX8_told.2.1 75 = .ok (.getfield 179, 3) := by decide +kernel
theorem eX8_told_78 : decode mX8_told.2.1 78 = .ok (.aload_n 3, 1) := by decide +kernel
theorem eX8_told_79 : decode mX8_told.2.1 79 = .ok (.getfield 167, 3) := by decide +kernel
theorem eX8_told_82 : decode mX8_told.2.1 82 = .ok (.isub, 1) := by decide +kernel
theorem eX8_told_83 : decode mX8_told.2.1 83 = .ok (.ireturn, 1) := by decide +kernel
theorem eX8_told_84 : decode mX8_told.2.1 84 = .ok (.aload_n 3, 1) := by decide +kernel
theorem eX8_told_85 : decode mX8_told.2.1 85 = .ok (.iconst 0, 1) := by decide +kernel
theorem eX8_told_86 : decode mX8_told.2.1 86 = .ok (.aload_n 3, 1) := by decide +kernel
theorem eX8_told_87 : decode mX8_told.2.1 87 = .ok (.getfield 124, 3) := by decide +kernel
theorem eX8_told_90 : decode mX8_told.2.1 90 = .ok (.invokevirtual 189, 3) := by decide +kernel
theorem eX8_told_93 : decode mX8_told.2.1 93 = .ok (.ireturn, 1) := by decide +kernel
theorem eX8_told_94 : decode mX8_told.2.1 94 = .ok (.aload_n 3, 1) := by decide +kernel
theorem eX8_told_95 : decode mX8_told.2.1 95 = .ok (.getfield 192, 3) := by decide +kernel
theorem eX8_told_98 : decode mX8_told.2.1 98 = .ok (.ireturn, 1) := by decide +kernel
theorem eX8_told_99 : decode mX8_told.2.1 99 = .ok (.aload_n 3, 1) := by decide +kernel
theorem eX8_told_100 : decode mX8_told.2.1 100 = .ok (.getfield 195, 3) := by decide +kernel
theorem eX8_told_103 : decode mX8_told.2.1 103 = .ok (.ifCond .eq 7, 3) := by decide +kernel
theorem eX8_told_106 : decode mX8_told.2.1 106 = .ok (.iconst 1, 1) := by decide +kernel
theorem eX8_told_107 : decode mX8_told.2.1 107 = .ok (.goto 4, 3) := by decide +kernel
theorem eX8_told_110 : decode mX8_told.2.1 110 = .ok (.iconst 0, 1) := by decide +kernel
theorem eX8_told_111 : decode mX8_told.2.1 111 = .ok (.ireturn, 1) := by decide +kernel
theorem eX8_told_112 : decode mX8_told.2.1 112 = .ok (.aload_n 0, 1) := by decide +kernel
theorem eX8_told_113 : decode mX8_told.2.1 113 = .ok (.aload_n 3, 1) := by decide +kernel
theorem eX8_told_114 : decode mX8_told.2.1 114 = .ok (.invokevirtual 199, 3) := by decide +kernel
theorem eX8_told_117 : decode mX8_told.2.1 117 = .ok (.ireturn, 1) := by decide +kernel
theorem eX8_told_118 : decode mX8_told.2.1 118 = .ok (.aload_n 3, 1) := by decide +kernel
theorem eX8_told_119 : decode mX8_told.2.1 119 = .ok (.getfield 203, 3) := by decide +kernel
theorem eX8_told_122 : decode mX8_told.2.1 122 = .ok (.ireturn, 1) := by decide +kernel
theorem eX8_told_123 : decode mX8_told.2.1 123 = .ok (.aload_n 3, 1) := by decide +kernel
theorem eX8_told_124 : decode mX8_told.2.1 124 = .ok (.getfield 124, 3) := by decide +kernel
theorem eX8_told_127 : decode mX8_told.2.1 127 = .ok (.ireturn, 1) := by decide +kernel
theorem eX8_told_128 : decode mX8_told.2.1 128 = .ok (.iconst (-1), 1) := by decide +kernel
theorem eX8_told_129 : decode mX8_told.2.1 129 = .ok (.ireturn, 1) := by decide +kernel
theorem eX8_panel_0 : decode mX8_panel.2.1 0 = .ok (.aload_n 0, 1) := by decide +kernel
theorem eX8_panel_1 : decode mX8_panel.2.1 1 = .ok (.iload_n 1, 1) := by decide +kernel
theorem eX8_panel_2 : decode mX8_panel.2.1 2 = .ok (.invokevirtual 149, 3) := by decide +kernel
theorem eX8_panel_5 : decode mX8_panel.2.1 5 = .ok (.iload_n 2, 1) := by decide +kernel
theorem eX8_panel_6 : decode mX8_panel.2.1 6 = .ok (.invokestatic 206, 3) := by decide +kernel
theorem eX8_panel_9 : decode mX8_panel.2.1 9 = .ok (.astore 4, 2) := by decide +kernel
theorem eX8_panel_11 : decode mX8_panel.2.1 11 = .ok (.aload 4, 2) := by decide +kernel
theorem eX8_panel_13 : decode mX8_panel.2.1 13 = .ok (.ifnonnull 5, 3) := by decide +kernel
theorem eX8_panel_16 : decode mX8_panel.2.1 16 = .ok (.iconst (-1), 1) := by decide +kernel
theorem eX8_panel_17 : decode mX8_panel.2.1 17 = .ok (.ireturn, 1) := by decide +kernel
theorem eX8_panel_18 : decode mX8_panel.2.1 18 = .ok (.iload_n 3, 1) := by decide +kernel
theorem eX8_panel_19 : decode mX8_panel.2.1 19 = .ok (.tableswitch 115 0 9 #[53, 60, 66, 72, 78, 84, 90, 96, 102, 109], 53) := by decide +kernel
theorem eX8_panel_72 : decode mX8_panel.2.1 72 = .ok (.aload_n 0, 1) := by decide +kernel
theorem eX8_panel_73 : decode mX8_panel.2.1 73 = .ok (.aload 4, 2) := by decide +kernel
theorem eX8_panel_75 : decode mX8_panel.2.1 75 = .ok (.invokevirtual 210, 3) := by decide +kernel
theorem eX8_panel_78 : decode mX8_panel.2.1 78 = .ok (.ireturn, 1) := by decide +kernel
theorem eX8_panel_79 : decode mX8_panel.2.1 79 = .ok (.aload 4, 2) := by decide +kernel
theorem eX8_panel_81 : decode mX8_panel.2.1 81 = .ok (.getfield 214, 3) := by decide +kernel
theorem eX8_panel_84 : decode mX8_panel.2.1 84 = .ok (.ireturn, 1) := by decide +kernel
theorem eX8_panel_85 : decode mX8_panel.2.1 85 = .ok (.aload 4, 2) := by decide +kernel
theorem eX8_panel_87 : decode mX8_panel.2.1 87 = .ok (.getfield 217, 3) := by decide +kernel
theorem eX8_panel_90 : decode mX8_panel.2.1 90 = .ok (.ireturn, 1) := by decide +kernel
theorem eX8_panel_91 : decode mX8_panel.2.1 91 = .ok (.aload 4, 2) := by decide +kernel
theorem eX8_panel_93 : decode mX8_panel.2.1 93 = .ok (.getfield 220, 3) := by decide +kernel
theorem eX8_panel_96 : decode mX8_panel.2.1 96 = .ok (.ireturn, 1) := by decide +kernel
theorem eX8_panel_97 : decode mX8_panel.2.1 97 = .ok (.aload 4, 2) := by decide +kernel
theorem eX8_panel_99 : decode mX8_panel.2.1 99 = .ok (.getfield 221, 3) := by decide +kernel
theorem eX8_panel_102 : decode mX8_panel.2.1 102 = .ok (.ireturn, 1) := by decide +kernel
theorem eX8_panel_103 : decode mX8_panel.2.1 103 = .ok (.aload 4, 2) := by decide +kernel
theorem eX8_panel_105 : decode mX8_panel.2.1 105 = .ok (.getfield 224, 3) := by decide +kernel
theorem eX8_panel_108 : decode mX8_panel.2.1 108 = .ok (.ireturn, 1) := by decide +kernel
theorem eX8_panel_109 : decode mX8_panel.2.1 109 = .ok (.aload 4, 2) := by decide +kernel
theorem eX8_panel_111 : decode mX8_panel.2.1 111 = .ok (.getfield 227, 3) := by decide +kernel
theorem eX8_panel_114 : decode mX8_panel.2.1 114 = .ok (.ireturn, 1) := by decide +kernel
theorem eX8_panel_115 : decode mX8_panel.2.1 115 = .ok (.aload 4, 2) := by decide +kernel
theorem eX8_panel_117 : decode mX8_panel.2.1 117 = .ok (.getfield 230, 3) := by decide +kernel
theorem eX8_panel_120 : decode mX8_panel.2.1 120 = .ok (.ireturn, 1) := by decide +kernel
theorem eX8_panel_121 : decode mX8_panel.2.1 121 = .ok (.aload_n 0, 1) := by decide +kernel
theorem eX8_panel_122 : decode mX8_panel.2.1 122 = .ok (.aload 4, 2) := by decide +kernel
theorem eX8_panel_124 : decode mX8_panel.2.1 124 = .ok (.invokevirtual 231, 3) := by decide +kernel
theorem eX8_panel_127 : decode mX8_panel.2.1 127 = .ok (.ireturn, 1) := by decide +kernel
theorem eX8_panel_128 : decode mX8_panel.2.1 128 = .ok (.aload 4, 2) := by decide +kernel
theorem eX8_panel_130 : decode mX8_panel.2.1 130 = .ok (.getfield 174, 3) := by decide +kernel
theorem eX8_panel_133 : decode mX8_panel.2.1 133 = .ok (.ireturn, 1) := by decide +kernel
theorem eX8_panel_134 : decode mX8_panel.2.1 134 = .ok (.iconst (-1), 1) := by decide +kernel
theorem eX8_panel_135 : decode mX8_panel.2.1 135 = .ok (.ireturn, 1) := by decide +kernel
theorem eX8_full_0 : decode mX8_full.2.1 0 = .ok (.aload_n 0, 1) := by decide +kernel
theorem eX8_full_1 : decode mX8_full.2.1 1 = .ok (.iload_n 1, 1) := by decide +kernel
theorem eX8_full_2 : decode mX8_full.2.1 2 = .ok (.iconst 1, 1) := by decide +kernel
theorem eX8_full_3 : decode mX8_full.2.1 3 = .ok (.invokevirtual 120, 3) := by decide +kernel
theorem eX8_full_6 : decode mX8_full.2.1 6 = .ok (.astore_n 3, 1) := by decide +kernel
theorem eX8_full_7 : decode mX8_full.2.1 7 = .ok (.aload_n 3, 1) := by decide +kernel
theorem eX8_full_8 : decode mX8_full.2.1 8 = .ok (.ifnull 15, 3) := by decide +kernel
theorem eX8_full_11 : decode mX8_full.2.1 11 = .ok (.iload_n 2, 1) := by decide +kernel
theorem eX8_full_12 : decode mX8_full.2.1 12 = .ok (.iconst 0, 1) := by decide +kernel
theorem eX8_full_13 : decode mX8_full.2.1 13 = .ok (.aload_n 3, 1) := by decide +kernel
theorem eX8_full_14 : decode mX8_full.2.1 14 = .ok (.getfield 124, 3) := by decide +kernel
theorem eX8_full_17 : decode mX8_full.2.1 17 = .ok (.invokestatic 51, 3) := by decide +kernel
theorem eX8_full_20 : decode mX8_full.2.1 20 = .ok (.ifCond .ne 7, 3) := by decide +kernel
theorem eX8_full_23 : decode mX8_full.2.1 23 = .ok (.iconst (-1), 1) := by decide +kernel
theorem eX8_full_24 : decode mX8_full.2.1 24 = .ok (.goto 8, 3) := by decide +kernel
theorem eX8_full_27 : decode mX8_full.2.1 27 = .ok (.aload_n 3, 1) := by decide +kernel
theorem eX8_full_28 : decode mX8_full.2.1 28 = .ok (.iload_n 2, 1) := by decide +kernel
theorem eX8_full_29 : decode mX8_full.2.1 29 = .ok (.invokevirtual 234, 3) := by decide +kernel
theorem eX8_full_32 : decode mX8_full.2.1 32 = .ok (.ireturn, 1) := by decide +kernel
theorem eX8_lay_0 : decode mX8_lay.2.1 0 = .ok (.aload_n 0, 1) := by decide +kernel
theorem eX8_lay_1 : decode mX8_lay.2.1 1 = .ok (.iload_n 1, 1) := by decide +kernel
theorem eX8_lay_2 : decode mX8_lay.2.1 2 = .ok (.iconst 1, 1) := by decide +kernel
theorem eX8_lay_3 : decode mX8_lay.2.1 3 = .ok (.invokevirtual 120, 3) := by decide +kernel
theorem eX8_lay_6 : decode mX8_lay.2.1 6 = .ok (.iload_n 2, 1) := by decide +kernel
theorem eX8_lay_7 : decode mX8_lay.2.1 7 = .ok (.invokestatic 206, 3) := by decide +kernel
theorem eX8_lay_10 : decode mX8_lay.2.1 10 = .ok (.astore 6, 2) := by decide +kernel
theorem eX8_lay_12 : decode mX8_lay.2.1 12 = .ok (.aload_n 0, 1) := by decide +kernel
theorem eX8_lay_13 : decode mX8_lay.2.1 13 = .ok (.iload_n 3, 1) := by decide +kernel
theorem eX8_lay_14 : decode mX8_lay.2.1 14 = .ok (.invokevirtual 76, 3) := by decide +kernel
theorem eX8_lay_17 : decode mX8_lay.2.1 17 = .ok (.astore 7, 2) := by decide +kernel
theorem eX8_lay_19 : decode mX8_lay.2.1 19 = .ok (.aload 6, 2) := by decide +kernel
theorem eX8_lay_21 : decode mX8_lay.2.1 21 = .ok (.ifnull 42, 3) := by decide +kernel
theorem eX8_lay_24 : decode mX8_lay.2.1 24 = .ok (.aload 7, 2) := by decide +kernel
theorem eX8_lay_26 : decode mX8_lay.2.1 26 = .ok (.ifnull 37, 3) := by decide +kernel
theorem eX8_lay_29 : decode mX8_lay.2.1 29 = .ok (.aload 6, 2) := by decide +kernel
theorem eX8_lay_31 : decode mX8_lay.2.1 31 = .ok (.getfield 227, 3) := by decide +kernel
theorem eX8_lay_34 : decode mX8_lay.2.1 34 = .ok (.iconst (-1), 1) := by decide +kernel
theorem eX8_lay_35 : decode mX8_lay.2.1 35 = .ok (.if_icmp .ne 28, 3) := by decide +kernel
theorem eX8_lay_38 : decode mX8_lay.2.1 38 = .ok (.iload 5, 2) := by decide +kernel
theorem eX8_lay_40 : decode mX8_lay.2.1 40 = .ok (.iconst 0, 1) := by decide +kernel
theorem eX8_lay_41 : decode mX8_lay.2.1 41 = .ok (.bipush 100, 2) := by decide +kernel
theorem eX8_lay_43 : decode mX8_lay.2.1 43 = .ok (.invokestatic 51, 3) := by decide +kernel
theorem eX8_lay_46 : decode mX8_lay.2.1 46 = .ok (.ifCond .eq 17, 3) := by decide +kernel
theorem eX8_lay_49 : decode mX8_lay.2.1 49 = .ok (.aload 7, 2) := by decide +kernel
theorem eX8_lay_51 : decode mX8_lay.2.1 51 = .ok (.aload 6, 2) := by decide +kernel
theorem eX8_lay_53 : decode mX8_lay.2.1 53 = .ok (.iload 4, 2) := by decide +kernel
theorem eX8_lay_55 : decode mX8_lay.2.1 55 = .ok (.iload 5, 2) := by decide +kernel
theorem eX8_lay_57 : decode mX8_lay.2.1 57 = .ok (.invokevirtual 237, 3) := by decide +kernel
theorem eX8_lay_60 : decode mX8_lay.2.1 60 = .ok (.ifCond .ne 5, 3) := by decide +kernel
theorem eX8_lay_63 : decode mX8_lay.2.1 63 = .ok (.iconst 0, 1) := by decide +kernel
theorem eX8_lay_64 : decode mX8_lay.2.1 64 = .ok (.ireturn, 1) := by decide +kernel
theorem eX8_lay_65 : decode mX8_lay.2.1 65 = .ok (.aload_n 0, 1) := by decide +kernel
theorem eX8_lay_66 : decode mX8_lay.2.1 66 = .ok (.iload_n 1, 1) := by decide +kernel
theorem eX8_lay_67 : decode mX8_lay.2.1 67 = .ok (.iload_n 2, 1) := by decide +kernel
theorem eX8_lay_68 : decode mX8_lay.2.1 68 = .ok (.iload_n 3, 1) := by decide +kernel
theorem eX8_lay_69 : decode mX8_lay.2.1 69 = .ok (.iload 4, 2) := by decide +kernel
theorem eX8_lay_71 : decode mX8_lay.2.1 71 = .ok (.invokevirtual 241, 3) := by decide +kernel
theorem eX8_lay_74 : decode mX8_lay.2.1 74 = .ok (.aload_n 0, 1) := by decide +kernel
theorem eX8_lay_75 : decode mX8_lay.2.1 75 = .ok (.new 35, 3) := by decide +kernel
theorem eX8_lay_78 : decode mX8_lay.2.1 78 = .ok (.dup, 1) := by decide +kernel
theorem eX8_lay_79 : decode mX8_lay.2.1 79 = .ok (.bipush 9, 2) := by decide +kernel
theorem eX8_lay_81 : decode mX8_lay.2.1 81 = .ok (.iload_n 1, 1) := by decide +kernel
theorem eX8_lay_82 : decode mX8_lay.2.1 82 = .ok (.iload_n 2, 1) := by decide +kernel
theorem eX8_lay_83 : decode mX8_lay.2.1 83 = .ok (.iconst 0, 1) := by decide +kernel
theorem eX8_lay_84 : decode mX8_lay.2.1 84 = .ok (.invokespecial 69, 3) := by decide +kernel
theorem eX8_lay_87 : decode mX8_lay.2.1 87 = .ok (.invokevirtual 72, 3) := by decide +kernel
theorem eX8_lay_90 : decode mX8_lay.2.1 90 = .ok (.iconst 1, 1) := by decide +kernel
theorem eX8_lay_91 : decode mX8_lay.2.1 91 = .ok (.ireturn, 1) := by decide +kernel
theorem eX8_lift_0 : decode mX8_lift.2.1 0 = .ok (.aload_n 0, 1) := by decide +kernel
theorem eX8_lift_1 : decode mX8_lift.2.1 1 = .ok (.iload_n 1, 1) := by decide +kernel
theorem eX8_lift_2 : decode mX8_lift.2.1 2 = .ok (.iconst 1, 1) := by decide +kernel
theorem eX8_lift_3 : decode mX8_lift.2.1 3 = .ok (.invokevirtual 120, 3) := by decide +kernel
theorem eX8_lift_6 : decode mX8_lift.2.1 6 = .ok (.iload_n 2, 1) := by decide +kernel
theorem eX8_lift_7 : decode mX8_lift.2.1 7 = .ok (.invokestatic 206, 3) := by decide +kernel
theorem eX8_lift_10 : decode mX8_lift.2.1 10 = .ok (.astore_n 3, 1) := by decide +kernel
theorem eX8_lift_11 : decode mX8_lift.2.1 11 = .ok (.aload_n 3, 1) := by decide +kernel
theorem eX8_lift_12 : decode mX8_lift.2.1 12 = .ok (.ifnull 11, 3) := by decide +kernel
theorem eX8_lift_15 : decode mX8_lift.2.1 15 = .ok (.aload_n 3, 1) := by decide +kernel
theorem eX8_lift_16 : decode mX8_lift.2.1 16 = .ok (.getfield 227, 3) := by decide +kernel
theorem eX8_lift_19 : decode mX8_lift.2.1 19 = .ok (.iconst (-1), 1) := by decide +kernel
theorem eX8_lift_20 : decode mX8_lift.2.1 20 = .ok (.if_icmp .ne 5, 3) := by decide +kernel
theorem eX8_lift_23 : decode mX8_lift.2.1 23 = .ok (.iconst 0, 1) := by decide +kernel
theorem eX8_lift_24 : decode mX8_lift.2.1 24 = .ok (.ireturn, 1) := by decide +kernel
theorem eX8_lift_25 : decode mX8_lift.2.1 25 = .ok (.new 35, 3) := by decide +kernel
theorem eX8_lift_28 : decode mX8_lift.2.1 28 = .ok (.dup, 1) := by decide +kernel
theorem eX8_lift_29 : decode mX8_lift.2.1 29 = .ok (.bipush 10, 2) := by decide +kernel
theorem eX8_lift_31 : decode mX8_lift.2.1 31 = .ok (.iload_n 1, 1) := by decide +kernel
theorem eX8_lift_32 : decode mX8_lift.2.1 32 = .ok (.iload_n 2, 1) := by decide +kernel
theorem eX8_lift_33 : decode mX8_lift.2.1 33 = .ok (.aload_n 3, 1) := by decide +kernel
theorem eX8_lift_34 : decode mX8_lift.2.1 34 = .ok (.getfield 227, 3) := by decide +kernel
theorem eX8_lift_37 : decode mX8_lift.2.1 37 = .ok (.invokespecial 69, 3) := by decide +kernel
theorem eX8_lift_40 : decode mX8_lift.2.1 40 = .ok (.astore 4, 2) := by decide +kernel
theorem eX8_lift_42 : decode mX8_lift.2.1 42 = .ok (.aload 4, 2) := by decide +kernel
theorem eX8_lift_44 : decode mX8_lift.2.1 44 = .ok (.aload_n 3, 1) := by decide +kernel
theorem eX8_lift_45 : decode mX8_lift.2.1 45 = .ok (.getfield 230, 3) := by decide +kernel
theorem eX8_lift_48 : decode mX8_lift.2.1 48 = .ok (.putfield 143, 3) := by decide +kernel
theorem eX8_lift_51 : decode mX8_lift.2.1 51 = .ok (.aload_n 0, 1) := by decide +kernel
theorem eX8_lift_52 : decode mX8_lift.2.1 52 = .ok (.iload_n 1, 1) := by decide +kernel
theorem eX8_lift_53 : decode mX8_lift.2.1 53 = .ok (.iload_n 2, 1) := by decide +kernel
theorem eX8_lift_54 : decode mX8_lift.2.1 54 = .ok (.invokevirtual 244, 3) := by decide +kernel
theorem eX8_lift_57 : decode mX8_lift.2.1 57 = .ok (.aload_n 0, 1) := by decide +kernel
theorem eX8_lift_58 : decode mX8_lift.2.1 58 = .ok (.aload 4, 2) := by decide +kernel
theorem eX8_lift_60 : decode mX8_lift.2.1 60 = .ok (.invokevirtual 72, 3) := by decide +kernel
theorem eX8_lift_63 : decode mX8_lift.2.1 63 = .ok (.iconst 1, 1) := by decide +kernel
theorem eX8_lift_64 : decode mX8_lift.2.1 64 = .ok (.ireturn, 1) := by decide +kernel
theorem eX8_plan_0 : decode mX8_plan.2.1 0 = .ok (.iload_n 1, 1) := by decide +kernel
theorem eX8_plan_1 : decode mX8_plan.2.1 1 = .ok (.iconst 0, 1) := by decide +kernel
theorem eX8_plan_2 : decode mX8_plan.2.1 2 = .ok (.bipush 100, 2) := by decide +kernel
theorem eX8_plan_4 : decode mX8_plan.2.1 4 = .ok (.invokestatic 51, 3) := by decide +kernel
theorem eX8_plan_7 : decode mX8_plan.2.1 7 = .ok (.ifCond .ne 6, 3) := by decide +kernel
theorem eX8_plan_10 : decode mX8_plan.2.1 10 = .ok (.bipush (-2), 2) := by decide +kernel
theorem eX8_plan_12 : decode mX8_plan.2.1 12 = .ok (.ireturn, 1) := by decide +kernel
theorem eX8_plan_13 : decode mX8_plan.2.1 13 = .ok (.aload_n 0, 1) := by decide +kernel
theorem eX8_plan_14 : decode mX8_plan.2.1 14 = .ok (.invokevirtual 247, 3) := by decide +kernel
theorem eX8_plan_17 : decode mX8_plan.2.1 17 = .ok (.newarray .int, 2) := by decide +kernel
theorem eX8_plan_19 : decode mX8_plan.2.1 19 = .ok (.astore_n 2, 1) := by decide +kernel
theorem eX8_plan_20 : decode mX8_plan.2.1 20 = .ok (.iconst 0, 1) := by decide +kernel
theorem eX8_plan_21 : decode mX8_plan.2.1 21 = .ok (.istore_n 3, 1) := by decide +kernel
theorem eX8_plan_22 : decode mX8_plan.2.1 22 = .ok (.iconst (-1), 1) := by decide +kernel
theorem eX8_plan_23 : decode mX8_plan.2.1 23 = .ok (.istore 4, 2) := by decide +kernel
theorem eX8_plan_25 : decode mX8_plan.2.1 25 = .ok (.iconst 0, 1) := by decide +kernel
theorem eX8_plan_26 : decode mX8_plan.2.1 26 = .ok (.istore 5, 2) := by decide +kernel
theorem eX8_plan_28 : decode mX8_plan.2.1 28 = .ok (.iload 5, 2) := by decide +kernel
theorem eX8_plan_30 : decode mX8_plan.2.1 30 = .ok (.aload_n 0, 1) := by decide +kernel
theorem eX8_plan_31 : decode mX8_plan.2.1 31 = .ok (.getfield 25, 3) := by decide +kernel
theorem eX8_plan_34 : decode mX8_plan.2.1 34 = .ok (.if_icmp .ge 102, 3) := by decide +kernel
theorem eX8_plan_37 : decode mX8_plan.2.1 37 = .ok (.iload 4, 2) := by decide +kernel
theorem eX8_plan_39 : decode mX8_plan.2.1 39 = .ok (.iconst (-1), 1) := by decide +kernel
theorem eX8_plan_40 : decode mX8_plan.2.1 40 = .ok (.if_icmp .ne 96, 3) := by decide +kernel
theorem eX8_plan_43 : decode mX8_plan.2.1 43 = .ok (.aload_n 0, 1) := by decide +kernel
theorem eX8_plan_44 : decode mX8_plan.2.1 44 = .ok (.iload 5, 2) := by decide +kernel
theorem eX8_plan_46 : decode mX8_plan.2.1 46 = .ok (.invokevirtual 251, 3) := by decide +kernel
theorem eX8_plan_49 : decode mX8_plan.2.1 49 = .ok (.istore 6, 2) := by decide +kernel
theorem eX8_plan_51 : decode mX8_plan.2.1 51 = .ok (.iconst 0, 1) := by decide +kernel
theorem eX8_plan_52 : decode mX8_plan.2.1 52 = .ok (.istore 7, 2) := by decide +kernel
theorem eX8_plan_54 : decode mX8_plan.2.1 54 = .ok (.iload 7, 2) := by decide +kernel
theorem eX8_plan_56 : decode mX8_plan.2.1 56 = .ok (.iload 6, 2) := by decide +kernel
theorem eX8_plan_58 : decode mX8_plan.2.1 58 = .ok (.if_icmp .ge 72, 3) := by decide +kernel
theorem eX8_plan_61 : decode mX8_plan.2.1 61 = .ok (.iload 4, 2) := by decide +kernel
theorem eX8_plan_63 : decode mX8_plan.2.1 63 = .ok (.iconst (-1), 1) := by decide +kernel
theorem eX8_plan_64 : decode mX8_plan.2.1 64 = .ok (.if_icmp .ne 66, 3) := by decide +kernel
theorem eX8_plan_67 : decode mX8_plan.2.1 67 = .ok (.aload_n 0, 1) := by decide +kernel
theorem eX8_plan_68 : decode mX8_plan.2.1 68 = .ok (.iload 5, 2) := by decide +kernel
theorem eX8_plan_70 : decode mX8_plan.2.1 70 = .ok (.iload 7, 2) := by decide +kernel
theorem eX8_plan_72 : decode mX8_plan.2.1 72 = .ok (.invokevirtual 254, 3) := by decide +kernel
theorem eX8_plan_75 : decode mX8_plan.2.1 75 = .ok (.ifCond .ne 6, 3) := by decide +kernel
theorem eX8_plan_78 : decode mX8_plan.2.1 78 = .ok (.goto 46, 3) := by decide +kernel
theorem eX8_plan_81 : decode mX8_plan.2.1 81 = .ok (.iload_n 3, 1) := by decide +kernel
theorem eX8_plan_82 : decode mX8_plan.2.1 82 = .ok (.aload_n 2, 1) := by decide +kernel
theorem eX8_plan_83 : decode mX8_plan.2.1 83 = .ok (.arraylength, 1) := by decide +kernel
theorem eX8_plan_84 : decode mX8_plan.2.1 84 = .ok (.if_icmp .ge 31, 3) := by decide +kernel
theorem eX8_plan_87 : decode mX8_plan.2.1 87 = .ok (.aload_n 0, 1) := by decide +kernel
theorem eX8_plan_88 : decode mX8_plan.2.1 88 = .ok (.iload 5, 2) := by decide +kernel
theorem eX8_plan_90 : decode mX8_plan.2.1 90 = .ok (.iload 7, 2) := by decide +kernel
theorem eX8_plan_92 : decode mX8_plan.2.1 92 = .ok (.iload_n 1, 1) := by decide +kernel
theorem eX8_plan_93 : decode mX8_plan.2.1 93 = .ok (.invokevirtual 258, 3) := by decide +kernel
theorem eX8_plan_96 : decode mX8_plan.2.1 96 = .ok (.ifCond .eq 19, 3) := by decide +kernel
theorem eX8_plan_99 : decode mX8_plan.2.1 99 = .ok (.aload_n 2, 1) := by decide +kernel
theorem eX8_plan_100 : decode mX8_plan.2.1 100 = .ok (.iload_n 3, 1) := by decide +kernel
theorem eX8_plan_101 : decode mX8_plan.2.1 101 = .ok (.iload 5, 2) := by decide +kernel
theorem eX8_plan_103 : decode mX8_plan.2.1 103 = .ok (.iload 7, 2) := by decide +kernel
theorem eX8_plan_105 : decode mX8_plan.2.1 105 = .ok (.invokestatic 261, 3) := by decide +kernel
theorem eX8_plan_108 : decode mX8_plan.2.1 108 = .ok (.iastore, 1) := by decide +kernel
theorem eX8_plan_109 : decode mX8_plan.2.1 109 = .ok (.iinc 3 1, 3) := by decide +kernel
theorem eX8_plan_112 : decode mX8_plan.2.1 112 = .ok (.goto 12, 3) := by decide +kernel
theorem eX8_plan_115 : decode mX8_plan.2.1 115 = .ok (.iload 5, 2) := by decide +kernel
theorem eX8_plan_117 : decode mX8_plan.2.1 117 = .ok (.iload 7, 2) := by decide +kernel
theorem eX8_plan_119 : decode mX8_plan.2.1 119 = .ok (.invokestatic 261, 3) := by decide +kernel
theorem eX8_plan_122 : decode mX8_plan.2.1 122 = .ok (.istore 4, 2) := by decide +kernel
theorem eX8_plan_124 : decode mX8_plan.2.1 124 = .ok (.iinc 7 1, 3) := by decide +kernel
theorem eX8_plan_127 : decode mX8_plan.2.1 127 = .ok (.goto (-73), 3) := by decide +kernel
theorem eX8_plan_130 : decode mX8_plan.2.1 130 = .ok (.iinc 5 1, 3) := by decide +kernel
theorem eX8_plan_133 : decode mX8_plan.2.1 133 = .ok (.goto (-105), 3) := by decide +kernel
theorem eX8_plan_136 : decode mX8_plan.2.1 136 = .ok (.iload_n 3, 1) := by decide +kernel
theorem eX8_plan_137 : decode mX8_plan.2.1 137 = .ok (.ifCond .le 29, 3) := by decide +kernel
theorem eX8_plan_140 : decode mX8_plan.2.1 140 = .ok (.new 35, 3) := by decide +kernel
theorem eX8_plan_143 : decode mX8_plan.2.1 143 = .ok (.dup, 1) := by decide +kernel
theorem eX8_plan_144 : decode mX8_plan.2.1 144 = .ok (.bipush 11, 2) := by decide +kernel
theorem eX8_plan_146 : decode mX8_plan.2.1 146 = .ok (.iconst (-1), 1) := by decide +kernel
theorem eX8_plan_147 : decode mX8_plan.2.1 147 = .ok (.iload_n 3, 1) := by decide +kernel
theorem eX8_plan_148 : decode mX8_plan.2.1 148 = .ok (.iconst 0, 1) := by decide +kernel
theorem eX8_plan_149 : decode mX8_plan.2.1 149 = .ok (.invokespecial 69, 3) := by decide +kernel
theorem eX8_plan_152 : decode mX8_plan.2.1 152 = .ok (.astore 5, 2) := by decide +kernel
theorem eX8_plan_154 : decode mX8_plan.2.1 154 = .ok (.aload 5, 2) := by decide +kernel
theorem eX8_plan_156 : decode mX8_plan.2.1 156 = .ok (.aload_n 2, 1) := by decide +kernel
theorem eX8_plan_157 : decode mX8_plan.2.1 157 = .ok (.putfield 264, 3) := by decide +kernel
theorem eX8_plan_160 : decode mX8_plan.2.1 160 = .ok (.aload_n 0, 1) := by decide +kernel
theorem eX8_plan_161 : decode mX8_plan.2.1 161 = .ok (.aload 5, 2) := by decide +kernel
theorem eX8_plan_163 : decode mX8_plan.2.1 163 = .ok (.invokevirtual 72, 3) := by decide +kernel
theorem eX8_plan_166 : decode mX8_plan.2.1 166 = .ok (.iload 4, 2) := by decide +kernel
theorem eX8_plan_168 : decode mX8_plan.2.1 168 = .ok (.ireturn, 1) := by decide +kernel
theorem eX8_fewest_0 : decode mX8_fewest.2.1 0 = .ok (.aload_n 0, 1) := by decide +kernel
theorem eX8_fewest_1 : decode mX8_fewest.2.1 1 = .ok (.iload_n 1, 1) := by decide +kernel
theorem eX8_fewest_2 : decode mX8_fewest.2.1 2 = .ok (.iconst 1, 1) := by decide +kernel
theorem eX8_fewest_3 : decode mX8_fewest.2.1 3 = .ok (.invokevirtual 120, 3) := by decide +kernel
theorem eX8_fewest_6 : decode mX8_fewest.2.1 6 = .ok (.astore_n 3, 1) := by decide +kernel
theorem eX8_fewest_7 : decode mX8_fewest.2.1 7 = .ok (.aload_n 3, 1) := by decide +kernel
theorem eX8_fewest_8 : decode mX8_fewest.2.1 8 = .ok (.ifnull 22, 3) := by decide +kernel
theorem eX8_fewest_11 : decode mX8_fewest.2.1 11 = .ok (.iload_n 2, 1) := by decide +kernel
theorem eX8_fewest_12 : decode mX8_fewest.2.1 12 = .ok (.iconst 0, 1) := by decide +kernel
theorem eX8_fewest_13 : decode mX8_fewest.2.1 13 = .ok (.bipush 100, 2) := by decide +kernel
theorem eX8_fewest_15 : decode mX8_fewest.2.1 15 = .ok (.invokestatic 51, 3) := by decide +kernel
theorem eX8_fewest_18 : decode mX8_fewest.2.1 18 = .ok (.ifCond .eq 12, 3) := by decide +kernel
theorem eX8_fewest_21 : decode mX8_fewest.2.1 21 = .ok (.aload_n 3, 1) := by decide +kernel
theorem eX8_fewest_22 : decode mX8_fewest.2.1 22 = .ok (.invokevirtual 268, 3) := by decide +kernel
theorem eX8_fewest_25 : decode mX8_fewest.2.1 25 = .ok (.bipush 8, 2) := by decide +kernel
theorem eX8_fewest_27 : decode mX8_fewest.2.1 27 = .ok (.if_icmp .le 5, 3) := by decide +kernel
theorem eX8_fewest_30 : decode mX8_fewest.2.1 30 = .ok (.iconst (-1), 1) := by decide +kernel
theorem eX8_fewest_31 : decode mX8_fewest.2.1 31 = .ok (.ireturn, 1) := by decide +kernel
theorem eX8_fewest_32 : decode mX8_fewest.2.1 32 = .ok (.aload_n 0, 1) := by decide +kernel
theorem eX8_fewest_33 : decode mX8_fewest.2.1 33 = .ok (.getfield 47, 3) := by decide +kernel
theorem eX8_fewest_36 : decode mX8_fewest.2.1 36 = .ok (.ifnonnull 14, 3) := by decide +kernel
theorem eX8_fewest_39 : decode mX8_fewest.2.1 39 = .ok (.aload_n 0, 1) := by decide +kernel
theorem eX8_fewest_40 : decode mX8_fewest.2.1 40 = .ok (.new 269, 3) := by decide +kernel
theorem eX8_fewest_43 : decode mX8_fewest.2.1 43 = .ok (.dup, 1) := by decide +kernel
theorem eX8_fewest_44 : decode mX8_fewest.2.1 44 = .ok (.invokespecial 271, 3) := by decide +kernel
theorem eX8_fewest_47 : decode mX8_fewest.2.1 47 = .ok (.putfield 47, 3) := by decide +kernel
theorem eX8_fewest_50 : decode mX8_fewest.2.1 50 = .ok (.aload_n 0, 1) := by decide +kernel
theorem eX8_fewest_51 : decode mX8_fewest.2.1 51 = .ok (.getfield 47, 3) := by decide +kernel
theorem eX8_fewest_54 : decode mX8_fewest.2.1 54 = .ok (.invokevirtual 272, 3) := by decide +kernel
theorem eX8_fewest_57 : decode mX8_fewest.2.1 57 = .ok (.iconst 0, 1) := by decide +kernel
theorem eX8_fewest_58 : decode mX8_fewest.2.1 58 = .ok (.istore 4, 2) := by decide +kernel
theorem eX8_fewest_60 : decode mX8_fewest.2.1 60 = .ok (.iload 4, 2) := by decide +kernel
theorem eX8_fewest_62 : decode mX8_fewest.2.1 62 = .ok (.aload_n 3, 1) := by decide +kernel
theorem eX8_fewest_63 : decode mX8_fewest.2.1 63 = .ok (.getfield 179, 3) := by decide +kernel
theorem eX8_fewest_66 : decode mX8_fewest.2.1 66 = .ok (.if_icmp .ge 40, 3) := by decide +kernel
theorem eX8_fewest_69 : decode mX8_fewest.2.1 69 = .ok (.aload_n 3, 1) := by decide +kernel
theorem eX8_fewest_70 : decode mX8_fewest.2.1 70 = .ok (.iload 4, 2) := by decide +kernel
theorem eX8_fewest_72 : decode mX8_fewest.2.1 72 = .ok (.invokevirtual 170, 3) := by decide +kernel
theorem eX8_fewest_75 : decode mX8_fewest.2.1 75 = .ok (.astore 5, 2) := by decide +kernel
theorem eX8_fewest_77 : decode mX8_fewest.2.1 77 = .ok (.aload 5, 2) := by decide +kernel
theorem eX8_fewest_79 : decode mX8_fewest.2.1 79 = .ok (.ifnull 21, 3) := by decide +kernel
theorem eX8_fewest_82 : decode mX8_fewest.2.1 82 = .ok (.aload 5, 2) := by decide +kernel
theorem eX8_fewest_84 : decode mX8_fewest.2.1 84 = .ok (.getfield 227, 3) := by decide +kernel
theorem eX8_fewest_87 : decode mX8_fewest.2.1 87 = .ok (.iconst (-1), 1) := by decide +kernel
theorem eX8_fewest_88 : decode mX8_fewest.2.1 88 = .ok (.if_icmp .ne 12, 3) := by decide +kernel
theorem eX8_fewest_91 : decode mX8_fewest.2.1 91 = .ok (.aload_n 0, 1) := by decide +kernel
theorem eX8_fewest_92 : decode mX8_fewest.2.1 92 = .ok (.getfield 47, 3) := by decide +kernel
theorem eX8_fewest_95 : decode mX8_fewest.2.1 95 = .ok (.aload 5, 2) := by decide +kernel
theorem eX8_fewest_97 : decode mX8_fewest.2.1 97 = .ok (.invokevirtual 275, 3) := by decide +kernel
theorem eX8_fewest_100 : decode mX8_fewest.2.1 100 = .ok (.iinc 4 1, 3) := by decide +kernel
theorem eX8_fewest_103 : decode mX8_fewest.2.1 103 = .ok (.goto (-43), 3) := by decide +kernel
theorem eX8_fewest_106 : decode mX8_fewest.2.1 106 = .ok (.iconst 0, 1) := by decide +kernel
theorem eX8_fewest_107 : decode mX8_fewest.2.1 107 = .ok (.istore 4, 2) := by decide +kernel
theorem eX8_fewest_109 : decode mX8_fewest.2.1 109 = .ok (.iload 4, 2) := by decide +kernel
theorem eX8_fewest_111 : decode mX8_fewest.2.1 111 = .ok (.aload_n 0, 1) := by decide +kernel
theorem eX8_fewest_112 : decode mX8_fewest.2.1 112 = .ok (.getfield 15, 3) := by decide +kernel
theorem eX8_fewest_115 : decode mX8_fewest.2.1 115 = .ok (.if_icmp .ge 48, 3) := by decide +kernel
theorem eX8_fewest_118 : decode mX8_fewest.2.1 118 = .ok (.aload_n 0, 1) := by decide +kernel
theorem eX8_fewest_119 : decode mX8_fewest.2.1 119 = .ok (.iload 4, 2) := by decide +kernel
theorem eX8_fewest_121 : decode mX8_fewest.2.1 121 = .ok (.invokevirtual 76, 3) := by decide +kernel
theorem eX8_fewest_124 : decode mX8_fewest.2.1 124 = .ok (.astore 5, 2) := by decide +kernel
theorem eX8_fewest_126 : decode mX8_fewest.2.1 126 = .ok (.aload 5, 2) := by decide +kernel
theorem eX8_fewest_128 : decode mX8_fewest.2.1 128 = .ok (.ifnull 29, 3) := by decide +kernel
theorem eX8_fewest_131 : decode mX8_fewest.2.1 131 = .ok (.aload 5, 2) := by decide +kernel
theorem eX8_fewest_133 : decode mX8_fewest.2.1 133 = .ok (.getfield 83, 3) := by decide +kernel
theorem eX8_fewest_136 : decode mX8_fewest.2.1 136 = .ok (.ifCond .ne 21, 3) := by decide +kernel
theorem eX8_fewest_139 : decode mX8_fewest.2.1 139 = .ok (.aload 5, 2) := by decide +kernel
theorem eX8_fewest_141 : decode mX8_fewest.2.1 141 = .ok (.iload_n 2, 1) := by decide +kernel
theorem eX8_fewest_142 : decode mX8_fewest.2.1 142 = .ok (.invokevirtual 279, 3) := by decide +kernel
theorem eX8_fewest_145 : decode mX8_fewest.2.1 145 = .ok (.ifCond .eq 12, 3) := by decide +kernel
theorem eX8_fewest_148 : decode mX8_fewest.2.1 148 = .ok (.aload_n 0, 1) := by decide +kernel
theorem eX8_fewest_149 : decode mX8_fewest.2.1 149 = .ok (.getfield 47, 3) := by decide +kernel
theorem eX8_fewest_152 : decode mX8_fewest.2.1 152 = .ok (.aload 5, 2) := by decide +kernel
theorem eX8_fewest_154 : decode mX8_fewest.2.1 154 = .ok (.invokevirtual 282, 3) := by decide +kernel
theorem eX8_fewest_157 : decode mX8_fewest.2.1 157 = .ok (.iinc 4 1, 3) := by decide +kernel
theorem eX8_fewest_160 : decode mX8_fewest.2.1 160 = .ok (.goto (-51), 3) := by decide +kernel
theorem eX8_fewest_163 : decode mX8_fewest.2.1 163 = .ok (.aload_n 0, 1) := by decide +kernel
theorem eX8_fewest_164 : decode mX8_fewest.2.1 164 = .ok (.getfield 47, 3) := by decide +kernel
theorem eX8_fewest_167 : decode mX8_fewest.2.1 167 = .ok (.invokevirtual 286, 3) := by decide +kernel
theorem eX8_fewest_170 : decode mX8_fewest.2.1 170 = .ok (.ireturn, 1) := by decide +kernel
theorem eX8_take_0 : decode mX8_take.2.1 0 = .ok (.aload_n 0, 1) := by decide +kernel
theorem eX8_take_1 : decode mX8_take.2.1 1 = .ok (.iload_n 1, 1) := by decide +kernel
theorem eX8_take_2 : decode mX8_take.2.1 2 = .ok (.iconst 1, 1) := by decide +kernel
theorem eX8_take_3 : decode mX8_take.2.1 3 = .ok (.invokevirtual 120, 3) := by decide +kernel
theorem eX8_take_6 : decode mX8_take.2.1 6 = .ok (.astore_n 2, 1) := by decide +kernel
theorem eX8_take_7 : decode mX8_take.2.1 7 = .ok (.aload_n 2, 1) := by decide +kernel
theorem eX8_take_8 : decode mX8_take.2.1 8 = .ok (.ifnull 24, 3) := by decide +kernel
theorem eX8_take_11 : decode mX8_take.2.1 11 = .ok (.aload_n 2, 1) := by decide +kernel
theorem eX8_take_12 : decode mX8_take.2.1 12 = .ok (.invokevirtual 268, 3) := by decide +kernel
theorem eX8_take_15 : decode mX8_take.2.1 15 = .ok (.ifCond .gt 17, 3) := by decide +kernel
theorem eX8_take_18 : decode mX8_take.2.1 18 = .ok (.aload_n 2, 1) := by decide +kernel
theorem eX8_take_19 : decode mX8_take.2.1 19 = .ok (.getfield 179, 3) := by decide +kernel
theorem eX8_take_22 : decode mX8_take.2.1 22 = .ok (.bipush 24, 2) := by decide +kernel
theorem eX8_take_24 : decode mX8_take.2.1 24 = .ok (.aload_n 0, 1) := by decide +kernel
theorem eX8_take_25 : decode mX8_take.2.1 25 = .ok (.getfield 15, 3) := by decide +kernel
theorem eX8_take_28 : decode mX8_take.2.1 28 = .ok (.isub, 1) := by decide +kernel
theorem eX8_take_29 : decode mX8_take.2.1 29 = .ok (.if_icmp .le 5, 3) := by decide +kernel
theorem eX8_take_32 : decode mX8_take.2.1 32 = .ok (.iconst (-1), 1) := by decide +kernel
theorem eX8_take_33 : decode mX8_take.2.1 33 = .ok (.ireturn, 1) := by decide +kernel
theorem eX8_take_34 : decode mX8_take.2.1 34 = .ok (.iconst 0, 1) := by decide +kernel
theorem eX8_take_35 : decode mX8_take.2.1 35 = .ok (.istore_n 3, 1) := by decide +kernel
theorem eX8_take_36 : decode mX8_take.2.1 36 = .ok (.iload_n 3, 1) := by decide +kernel
theorem eX8_take_37 : decode mX8_take.2.1 37 = .ok (.aload_n 2, 1) := by decide +kernel
theorem eX8_take_38 : decode mX8_take.2.1 38 = .ok (.getfield 179, 3) := by decide +kernel
theorem eX8_take_41 : decode mX8_take.2.1 41 = .ok (.if_icmp .ge 19, 3) := by decide +kernel
theorem eX8_take_44 : decode mX8_take.2.1 44 = .ok (.aload_n 0, 1) := by decide +kernel
theorem eX8_take_45 : decode mX8_take.2.1 45 = .ok (.aload_n 2, 1) := by decide +kernel
theorem eX8_take_46 : decode mX8_take.2.1 46 = .ok (.iload_n 3, 1) := by decide +kernel
theorem eX8_take_47 : decode mX8_take.2.1 47 = .ok (.invokevirtual 170, 3) := by decide +kernel
theorem eX8_take_50 : decode mX8_take.2.1 50 = .ok (.iload_n 1, 1) := by decide +kernel
theorem eX8_take_51 : decode mX8_take.2.1 51 = .ok (.invokevirtual 289, 3) := by decide +kernel
theorem eX8_take_54 : decode mX8_take.2.1 54 = .ok (.iinc 3 1, 3) := by decide +kernel
theorem eX8_take_57 : decode mX8_take.2.1 57 = .ok (.goto (-21), 3) := by decide +kernel
theorem eX8_take_60 : decode mX8_take.2.1 60 = .ok (.aload_n 0, 1) := by decide +kernel
theorem eX8_take_61 : decode mX8_take.2.1 61 = .ok (.new 35, 3) := by decide +kernel
theorem eX8_take_64 : decode mX8_take.2.1 64 = .ok (.dup, 1) := by decide +kernel
theorem eX8_take_65 : decode mX8_take.2.1 65 = .ok (.bipush 15, 2) := by decide +kernel
theorem eX8_take_67 : decode mX8_take.2.1 67 = .ok (.iload_n 1, 1) := by decide +kernel
theorem eX8_take_68 : decode mX8_take.2.1 68 = .ok (.aload_n 2, 1) := by decide +kernel
theorem eX8_take_69 : decode mX8_take.2.1 69 = .ok (.getfield 179, 3) := by decide +kernel
theorem eX8_take_72 : decode mX8_take.2.1 72 = .ok (.aload_n 2, 1) := by decide +kernel
theorem eX8_take_73 : decode mX8_take.2.1 73 = .ok (.getfield 195, 3) := by decide +kernel
theorem eX8_take_76 : decode mX8_take.2.1 76 = .ok (.ifCond .eq 7, 3) := by decide +kernel
theorem eX8_take_79 : decode mX8_take.2.1 79 = .ok (.iconst 1, 1) := by decide +kernel
theorem eX8_take_80 : decode mX8_take.2.1 80 = .ok (.goto 4, 3) := by decide +kernel
theorem eX8_take_83 : decode mX8_take.2.1 83 = .ok (.iconst 0, 1) := by decide +kernel
theorem eX8_take_84 : decode mX8_take.2.1 84 = .ok (.invokespecial 69, 3) := by decide +kernel
theorem eX8_take_87 : decode mX8_take.2.1 87 = .ok (.invokevirtual 72, 3) := by decide +kernel
theorem eX8_take_90 : decode mX8_take.2.1 90 = .ok (.aload_n 2, 1) := by decide +kernel
theorem eX8_take_91 : decode mX8_take.2.1 91 = .ok (.iconst 2, 1) := by decide +kernel
theorem eX8_take_92 : decode mX8_take.2.1 92 = .ok (.putfield 186, 3) := by decide +kernel
theorem eX8_take_95 : decode mX8_take.2.1 95 = .ok (.aload_n 2, 1) := by decide +kernel
theorem eX8_take_96 : decode mX8_take.2.1 96 = .ok (.iconst 0, 1) := by decide +kernel
theorem eX8_take_97 : decode mX8_take.2.1 97 = .ok (.putfield 195, 3) := by decide +kernel
theorem eX8_take_100 : decode mX8_take.2.1 100 = .ok (.aload_n 2, 1) := by decide +kernel
theorem eX8_take_101 : decode mX8_take.2.1 101 = .ok (.getfield 179, 3) := by decide +kernel
theorem eX8_take_104 : decode mX8_take.2.1 104 = .ok (.ireturn, 1) := by decide +kernel
theorem eX8_mast_0 : decode mX8_mast.2.1 0 = .ok (.iload_n 1, 1) := by decide +kernel
theorem eX8_mast_1 : decode mX8_mast.2.1 1 = .ok (.iconst 0, 1) := by decide +kernel
theorem eX8_mast_2 : decode mX8_mast.2.1 2 = .ok (.bipush 60, 2) := by decide +kernel
theorem eX8_mast_4 : decode mX8_mast.2.1 4 = .ok (.invokestatic 51, 3) := by decide +kernel
theorem eX8_mast_7 : decode mX8_mast.2.1 7 = .ok (.ifCond .eq 14, 3) := by decide +kernel
theorem eX8_mast_10 : decode mX8_mast.2.1 10 = .ok (.iload_n 2, 1) := by decide +kernel
theorem eX8_mast_11 : decode mX8_mast.2.1 11 = .ok (.iconst 0, 1) := by decide +kernel
theorem eX8_mast_12 : decode mX8_mast.2.1 12 = .ok (.ldc_w 293, 3) := by decide +kernel
theorem eX8_mast_15 : decode mX8_mast.2.1 15 = .ok (.invokestatic 51, 3) := by decide +kernel
theorem eX8_mast_18 : decode mX8_mast.2.1 18 = .ok (.ifCond .ne 5, 3) := by decide +kernel
theorem eX8_mast_21 : decode mX8_mast.2.1 21 = .ok (.iconst 0, 1) := by decide +kernel
theorem eX8_mast_22 : decode mX8_mast.2.1 22 = .ok (.ireturn, 1) := by decide +kernel
theorem eX8_mast_23 : decode mX8_mast.2.1 23 = .ok (.aload_n 0, 1) := by decide +kernel
theorem eX8_mast_24 : decode mX8_mast.2.1 24 = .ok (.getfield 31, 3) := by decide +kernel
theorem eX8_mast_27 : decode mX8_mast.2.1 27 = .ok (.getfield 294, 3) := by decide +kernel
theorem eX8_mast_30 : decode mX8_mast.2.1 30 = .ok (.iload_n 1, 1) := by decide +kernel
theorem eX8_mast_31 : decode mX8_mast.2.1 31 = .ok (.iload_n 2, 1) := by decide +kernel
theorem eX8_mast_32 : decode mX8_mast.2.1 32 = .ok (.iastore, 1) := by decide +kernel
theorem eX8_mast_33 : decode mX8_mast.2.1 33 = .ok (.iconst 1, 1) := by decide +kernel
theorem eX8_mast_34 : decode mX8_mast.2.1 34 = .ok (.ireturn, 1) := by decide +kernel
theorem eX8_wind_0 : decode mX8_wind.2.1 0 = .ok (.iload_n 1, 1) := by decide +kernel
theorem eX8_wind_1 : decode mX8_wind.2.1 1 = .ok (.iconst 0, 1) := by decide +kernel
theorem eX8_wind_2 : decode mX8_wind.2.1 2 = .ok (.bipush 59, 2) := by decide +kernel
theorem eX8_wind_4 : decode mX8_wind.2.1 4 = .ok (.invokestatic 51, 3) := by decide +kernel
theorem eX8_wind_7 : decode mX8_wind.2.1 7 = .ok (.ifCond .eq 14, 3) := by decide +kernel
theorem eX8_wind_10 : decode mX8_wind.2.1 10 = .ok (.iload_n 2, 1) := by decide +kernel
theorem eX8_wind_11 : decode mX8_wind.2.1 11 = .ok (.iconst 0, 1) := by decide +kernel
theorem eX8_wind_12 : decode mX8_wind.2.1 12 = .ok (.sipush 1000, 3) := by decide +kernel
theorem eX8_wind_15 : decode mX8_wind.2.1 15 = .ok (.invokestatic 51, 3) := by decide +kernel
theorem eX8_wind_18 : decode mX8_wind.2.1 18 = .ok (.ifCond .ne 5, 3) := by decide +kernel
theorem eX8_wind_21 : decode mX8_wind.2.1 21 = .ok (.iconst 0, 1) := by decide +kernel
theorem eX8_wind_22 : decode mX8_wind.2.1 22 = .ok (.ireturn, 1) := by decide +kernel
theorem eX8_wind_23 : decode mX8_wind.2.1 23 = .ok (.aload_n 0, 1) := by decide +kernel
theorem eX8_wind_24 : decode mX8_wind.2.1 24 = .ok (.getfield 31, 3) := by decide +kernel
theorem eX8_wind_27 : decode mX8_wind.2.1 27 = .ok (.getfield 297, 3) := by decide +kernel
theorem eX8_wind_30 : decode mX8_wind.2.1 30 = .ok (.iload_n 1, 1) := by decide +kernel
theorem eX8_wind_31 : decode mX8_wind.2.1 31 = .ok (.iload_n 2, 1) := by decide +kernel
theorem eX8_wind_32 : decode mX8_wind.2.1 32 = .ok (.iastore, 1) := by decide +kernel
theorem eX8_wind_33 : decode mX8_wind.2.1 33 = .ok (.iconst 1, 1) := by decide +kernel
theorem eX8_wind_34 : decode mX8_wind.2.1 34 = .ok (.ireturn, 1) := by decide +kernel
theorem eX8_set_0 : decode mX8_set.2.1 0 = .ok (.aload_n 0, 1) := by decide +kernel
theorem eX8_set_1 : decode mX8_set.2.1 1 = .ok (.iload_n 1, 1) := by decide +kernel
theorem eX8_set_2 : decode mX8_set.2.1 2 = .ok (.iconst 1, 1) := by decide +kernel
theorem eX8_set_3 : decode mX8_set.2.1 3 = .ok (.invokevirtual 120, 3) := by decide +kernel
theorem eX8_set_6 : decode mX8_set.2.1 6 = .ok (.astore_n 3, 1) := by decide +kernel
theorem eX8_set_7 : decode mX8_set.2.1 7 = .ok (.aload_n 3, 1) := by decide +kernel
theorem eX8_set_8 : decode mX8_set.2.1 8 = .ok (.ifnull 11, 3) := by decide +kernel
theorem eX8_set_11 : decode mX8_set.2.1 11 = .ok (.aload_n 3, 1) := by decide +kernel
theorem eX8_set_12 : decode mX8_set.2.1 12 = .ok (.getfield 195, 3) := by decide +kernel
theorem eX8_set_15 : decode mX8_set.2.1 15 = .ok (.iload_n 2, 1) := by decide +kernel
theorem eX8_set_16 : decode mX8_set.2.1 16 = .ok (.if_icmp .ne 5, 3) := by decide +kernel
theorem eX8_set_19 : decode mX8_set.2.1 19 = .ok (.iconst 0, 1) := by decide +kernel
theorem eX8_set_20 : decode mX8_set.2.1 20 = .ok (.ireturn, 1) := by decide +kernel
theorem eX8_set_21 : decode mX8_set.2.1 21 = .ok (.aload_n 0, 1) := by decide +kernel
theorem eX8_set_22 : decode mX8_set.2.1 22 = .ok (.new 35, 3) := by decide +kernel
theorem eX8_set_25 : decode mX8_set.2.1 25 = .ok (.dup, 1) := by decide +kernel
theorem eX8_set_26 : decode mX8_set.2.1 26 = .ok (.bipush 12, 2) := by decide +kernel
theorem eX8_set_28 : decode mX8_set.2.1 28 = .ok (.iload_n 1, 1) := by decide +kernel
theorem eX8_set_29 : decode mX8_set.2.1 29 = .ok (.iconst 0, 1) := by decide +kernel
theorem eX8_set_30 : decode mX8_set.2.1 30 = .ok (.aload_n 3, 1) := by decide +kernel
theorem eX8_set_31 : decode mX8_set.2.1 31 = .ok (.getfield 195, 3) := by decide +kernel
theorem eX8_set_34 : decode mX8_set.2.1 34 = .ok (.ifCond .eq 7, 3) := by decide +kernel
theorem eX8_set_37 : decode mX8_set.2.1 37 = .ok (.iconst 1, 1) := by decide +kernel
theorem eX8_set_38 : decode mX8_set.2.1 38 = .ok (.goto 4, 3) := by decide +kernel
theorem eX8_set_41 : decode mX8_set.2.1 41 = .ok (.iconst 0, 1) := by decide +kernel
theorem eX8_set_42 : decode mX8_set.2.1 42 = .ok (.invokespecial 69, 3) := by decide +kernel
theorem eX8_set_45 : decode mX8_set.2.1 45 = .ok (.invokevirtual 72, 3) := by decide +kernel
theorem eX8_set_48 : decode mX8_set.2.1 48 = .ok (.aload_n 3, 1) := by decide +kernel
theorem eX8_set_49 : decode mX8_set.2.1 49 = .ok (.iload_n 2, 1) := by decide +kernel
theorem eX8_set_50 : decode mX8_set.2.1 50 = .ok (.putfield 195, 3) := by decide +kernel
theorem eX8_set_53 : decode mX8_set.2.1 53 = .ok (.iconst 1, 1) := by decide +kernel
theorem eX8_set_54 : decode mX8_set.2.1 54 = .ok (.ireturn, 1) := by decide +kernel
theorem eX8_reef_0 : decode mX8_reef.2.1 0 = .ok (.aload_n 0, 1) := by decide +kernel
theorem eX8_reef_1 : decode mX8_reef.2.1 1 = .ok (.iload_n 1, 1) := by decide +kernel
theorem eX8_reef_2 : decode mX8_reef.2.1 2 = .ok (.iconst 1, 1) := by decide +kernel
theorem eX8_reef_3 : decode mX8_reef.2.1 3 = .ok (.invokevirtual 120, 3) := by decide +kernel
theorem eX8_reef_6 : decode mX8_reef.2.1 6 = .ok (.astore_n 3, 1) := by decide +kernel
theorem eX8_reef_7 : decode mX8_reef.2.1 7 = .ok (.aload_n 3, 1) := by decide +kernel
theorem eX8_reef_8 : decode mX8_reef.2.1 8 = .ok (.ifnull 23, 3) := by decide +kernel
theorem eX8_reef_11 : decode mX8_reef.2.1 11 = .ok (.iload_n 2, 1) := by decide +kernel
theorem eX8_reef_12 : decode mX8_reef.2.1 12 = .ok (.iconst 0, 1) := by decide +kernel
theorem eX8_reef_13 : decode mX8_reef.2.1 13 = .ok (.aload_n 3, 1) := by decide +kernel
theorem eX8_reef_14 : decode mX8_reef.2.1 14 = .ok (.getfield 124, 3) := by decide +kernel
theorem eX8_reef_17 : decode mX8_reef.2.1 17 = .ok (.invokestatic 51, 3) := by decide +kernel
theorem eX8_reef_20 : decode mX8_reef.2.1 20 = .ok (.ifCond .eq 11, 3) := by decide +kernel
theorem eX8_reef_23 : decode mX8_reef.2.1 23 = .ok (.aload_n 3, 1) := by decide +kernel
theorem eX8_reef_24 : decode mX8_reef.2.1 24 = .ok (.getfield 192, 3) := by decide +kernel
theorem eX8_reef_27 : decode mX8_reef.2.1 27 = .ok (.iload_n 2, 1) := by decide +kernel
theorem eX8_reef_28 : decode mX8_reef.2.1 28 = .ok (.if_icmp .ne 5, 3) := by decide +kernel
theorem eX8_reef_31 : decode mX8_reef.2.1 31 = .ok (.iconst 0, 1) := by decide +kernel
theorem eX8_reef_32 : decode mX8_reef.2.1 32 = .ok (.ireturn, 1) := by decide +kernel
theorem eX8_reef_33 : decode mX8_reef.2.1 33 = .ok (.aload_n 0, 1) := by decide +kernel
theorem eX8_reef_34 : decode mX8_reef.2.1 34 = .ok (.new 35, 3) := by decide +kernel
theorem eX8_reef_37 : decode mX8_reef.2.1 37 = .ok (.dup, 1) := by decide +kernel
theorem eX8_reef_38 : decode mX8_reef.2.1 38 = .ok (.bipush 13, 2) := by decide +kernel
theorem eX8_reef_40 : decode mX8_reef.2.1 40 = .ok (.iload_n 1, 1) := by decide +kernel
theorem eX8_reef_41 : decode mX8_reef.2.1 41 = .ok (.iconst 0, 1) := by decide +kernel
theorem eX8_reef_42 : decode mX8_reef.2.1 42 = .ok (.aload_n 3, 1) := by decide +kernel
theorem eX8_reef_43 : decode mX8_reef.2.1 43 = .ok (.getfield 192, 3) := by decide +kernel
theorem eX8_reef_46 : decode mX8_reef.2.1 46 = .ok (.invokespecial 69, 3) := by decide +kernel
theorem eX8_reef_49 : decode mX8_reef.2.1 49 = .ok (.invokevirtual 72, 3) := by decide +kernel
theorem eX8_reef_52 : decode mX8_reef.2.1 52 = .ok (.aload_n 3, 1) := by decide +kernel
theorem eX8_reef_53 : decode mX8_reef.2.1 53 = .ok (.iload_n 2, 1) := by decide +kernel
theorem eX8_reef_54 : decode mX8_reef.2.1 54 = .ok (.putfield 192, 3) := by decide +kernel
theorem eX8_reef_57 : decode mX8_reef.2.1 57 = .ok (.iconst 1, 1) := by decide +kernel
theorem eX8_reef_58 : decode mX8_reef.2.1 58 = .ok (.ireturn, 1) := by decide +kernel
theorem eX8_line_0 : decode mX8_line.2.1 0 = .ok (.aload_n 0, 1) := by decide +kernel
theorem eX8_line_1 : decode mX8_line.2.1 1 = .ok (.iload_n 1, 1) := by decide +kernel
theorem eX8_line_2 : decode mX8_line.2.1 2 = .ok (.invokevirtual 149, 3) := by decide +kernel
theorem eX8_line_5 : decode mX8_line.2.1 5 = .ok (.astore_n 3, 1) := by decide +kernel
theorem eX8_line_6 : decode mX8_line.2.1 6 = .ok (.aload_n 3, 1) := by decide +kernel
theorem eX8_line_7 : decode mX8_line.2.1 7 = .ok (.ifnull 31, 3) := by decide +kernel
theorem eX8_line_10 : decode mX8_line.2.1 10 = .ok (.aload_n 3, 1) := by decide +kernel
theorem eX8_line_11 : decode mX8_line.2.1 11 = .ok (.getfield 186, 3) := by decide +kernel
theorem eX8_line_14 : decode mX8_line.2.1 14 = .ok (.iconst 2, 1) := by decide +kernel
theorem eX8_line_15 : decode mX8_line.2.1 15 = .ok (.if_icmp .eq 23, 3) := by decide +kernel
theorem eX8_line_18 : decode mX8_line.2.1 18 = .ok (.iload_n 2, 1) := by decide +kernel
theorem eX8_line_19 : decode mX8_line.2.1 19 = .ok (.iconst 1, 1) := by decide +kernel
theorem eX8_line_20 : decode mX8_line.2.1 20 = .ok (.aload_n 3, 1) := by decide +kernel
theorem eX8_line_21 : decode mX8_line.2.1 21 = .ok (.getfield 124, 3) := by decide +kernel
theorem eX8_line_24 : decode mX8_line.2.1 24 = .ok (.invokestatic 51, 3) := by decide +kernel
theorem eX8_line_27 : decode mX8_line.2.1 27 = .ok (.ifCond .eq 11, 3) := by decide +kernel
theorem eX8_line_30 : decode mX8_line.2.1 30 = .ok (.aload_n 3, 1) := by decide +kernel
theorem eX8_line_31 : decode mX8_line.2.1 31 = .ok (.iload_n 2, 1) := by decide +kernel
theorem eX8_line_32 : decode mX8_line.2.1 32 = .ok (.invokevirtual 300, 3) := by decide +kernel
theorem eX8_line_35 : decode mX8_line.2.1 35 = .ok (.ifCond .ne 5, 3) := by decide +kernel
theorem eX8_line_38 : decode mX8_line.2.1 38 = .ok (.iconst (-1), 1) := by decide +kernel
theorem eX8_line_39 : decode mX8_line.2.1 39 = .ok (.ireturn, 1) := by decide +kernel
theorem eX8_line_40 : decode mX8_line.2.1 40 = .ok (.aload_n 0, 1) := by decide +kernel
theorem eX8_line_41 : decode mX8_line.2.1 41 = .ok (.new 35, 3) := by decide +kernel
theorem eX8_line_44 : decode mX8_line.2.1 44 = .ok (.dup, 1) := by decide +kernel
theorem eX8_line_45 : decode mX8_line.2.1 45 = .ok (.bipush 14, 2) := by decide +kernel
theorem eX8_line_47 : decode mX8_line.2.1 47 = .ok (.iload_n 1, 1) := by decide +kernel
theorem eX8_line_48 : decode mX8_line.2.1 48 = .ok (.iconst 0, 1) := by decide +kernel
theorem eX8_line_49 : decode mX8_line.2.1 49 = .ok (.iconst 0, 1) := by decide +kernel
theorem eX8_line_50 : decode mX8_line.2.1 50 = .ok (.invokespecial 69, 3) := by decide +kernel
theorem eX8_line_53 : decode mX8_line.2.1 53 = .ok (.invokevirtual 72, 3) := by decide +kernel
theorem eX8_line_56 : decode mX8_line.2.1 56 = .ok (.aload_n 3, 1) := by decide +kernel
theorem eX8_line_57 : decode mX8_line.2.1 57 = .ok (.getfield 203, 3) := by decide +kernel
theorem eX8_line_60 : decode mX8_line.2.1 60 = .ok (.ireturn, 1) := by decide +kernel
theorem eX8_push_0 : decode mX8_push.2.1 0 = .ok (.iload_n 1, 1) := by decide +kernel
theorem eX8_push_1 : decode mX8_push.2.1 1 = .ok (.iconst 0, 1) := by decide +kernel
theorem eX8_push_2 : decode mX8_push.2.1 2 = .ok (.bipush 60, 2) := by decide +kernel
theorem eX8_push_4 : decode mX8_push.2.1 4 = .ok (.invokestatic 51, 3) := by decide +kernel
theorem eX8_push_7 : decode mX8_push.2.1 7 = .ok (.ifCond .ne 7, 3) := by decide +kernel
theorem eX8_push_10 : decode mX8_push.2.1 10 = .ok (.ldc2_w 303, 3) := by decide +kernel
theorem eX8_push_13 : decode mX8_push.2.1 13 = .ok (.lreturn, 1) := by decide +kernel
theorem eX8_push_14 : decode mX8_push.2.1 14 = .ok (.aload_n 0, 1) := by decide +kernel
theorem eX8_push_15 : decode mX8_push.2.1 15 = .ok (.invokevirtual 305, 3) := by decide +kernel
theorem eX8_push_18 : decode mX8_push.2.1 18 = .ok (.aload_n 0, 1) := by decide +kernel
theorem eX8_push_19 : decode mX8_push.2.1 19 = .ok (.getfield 31, 3) := by decide +kernel
theorem eX8_push_22 : decode mX8_push.2.1 22 = .ok (.iload_n 1, 1) := by decide +kernel
theorem eX8_push_23 : decode mX8_push.2.1 23 = .ok (.invokevirtual 308, 3) := by decide +kernel
theorem eX8_push_26 : decode mX8_push.2.1 26 = .ok (.lreturn, 1) := by decide +kernel
theorem eX8_bears_0 : decode mX8_bears.2.1 0 = .ok (.aload_n 0, 1) := by decide +kernel
theorem eX8_bears_1 : decode mX8_bears.2.1 1 = .ok (.invokevirtual 305, 3) := by decide +kernel
theorem eX8_bears_4 : decode mX8_bears.2.1 4 = .ok (.aload_n 0, 1) := by decide +kernel
theorem eX8_bears_5 : decode mX8_bears.2.1 5 = .ok (.getfield 31, 3) := by decide +kernel
theorem eX8_bears_8 : decode mX8_bears.2.1 8 = .ok (.invokevirtual 312, 3) := by decide +kernel
theorem eX8_bears_11 : decode mX8_bears.2.1 11 = .ok (.ireturn, 1) := by decide +kernel
theorem eX8_least_0 : decode mX8_least.2.1 0 = .ok (.aload_n 0, 1) := by decide +kernel
theorem eX8_least_1 : decode mX8_least.2.1 1 = .ok (.invokevirtual 305, 3) := by decide +kernel
theorem eX8_least_4 : decode mX8_least.2.1 4 = .ok (.aload_n 0, 1) := by decide +kernel
theorem eX8_least_5 : decode mX8_least.2.1 5 = .ok (.getfield 31, 3) := by decide +kernel
theorem eX8_least_8 : decode mX8_least.2.1 8 = .ok (.invokevirtual 312, 3) := by decide +kernel
theorem eX8_least_11 : decode mX8_least.2.1 11 = .ok (.iconst (-1), 1) := by decide +kernel
theorem eX8_least_12 : decode mX8_least.2.1 12 = .ok (.if_icmp .ne 5, 3) := by decide +kernel
theorem eX8_least_15 : decode mX8_least.2.1 15 = .ok (.iconst 0, 1) := by decide +kernel
theorem eX8_least_16 : decode mX8_least.2.1 16 = .ok (.ireturn, 1) := by decide +kernel
theorem eX8_least_17 : decode mX8_least.2.1 17 = .ok (.iconst 0, 1) := by decide +kernel
theorem eX8_least_18 : decode mX8_least.2.1 18 = .ok (.istore_n 1, 1) := by decide +kernel
theorem eX8_least_19 : decode mX8_least.2.1 19 = .ok (.iconst 0, 1) := by decide +kernel
theorem eX8_least_20 : decode mX8_least.2.1 20 = .ok (.istore_n 2, 1) := by decide +kernel
theorem eX8_least_21 : decode mX8_least.2.1 21 = .ok (.iload_n 2, 1) := by decide +kernel
theorem eX8_least_22 : decode mX8_least.2.1 22 = .ok (.iconst 3, 1) := by decide +kernel
theorem eX8_least_23 : decode mX8_least.2.1 23 = .ok (.if_icmp .ge 73, 3) := by decide +kernel
theorem eX8_least_26 : decode mX8_least.2.1 26 = .ok (.iconst 0, 1) := by decide +kernel
theorem eX8_least_27 : decode mX8_least.2.1 27 = .ok (.istore_n 3, 1) := by decide +kernel
theorem eX8_least_28 : decode mX8_least.2.1 28 = .ok (.iload_n 3, 1) := by decide +kernel
theorem eX8_least_29 : decode mX8_least.2.1 29 = .ok (.aload_n 0, 1) := by decide +kernel
theorem eX8_least_30 : decode mX8_least.2.1 30 = .ok (.getfield 25, 3) := by decide +kernel
theorem eX8_least_33 : decode mX8_least.2.1 33 = .ok (.if_icmp .ge 57, 3) := by decide +kernel
theorem eX8_least_36 : decode mX8_least.2.1 36 = .ok (.aload_n 0, 1) := by decide +kernel
theorem eX8_least_37 : decode mX8_least.2.1 37 = .ok (.iload_n 3, 1) := by decide +kernel
theorem eX8_least_38 : decode mX8_least.2.1 38 = .ok (.invokevirtual 149, 3) := by decide +kernel
theorem eX8_least_41 : decode mX8_least.2.1 41 = .ok (.astore 4, 2) := by decide +kernel
theorem eX8_least_43 : decode mX8_least.2.1 43 = .ok (.aload 4, 2) := by decide +kernel
theorem eX8_least_45 : decode mX8_least.2.1 45 = .ok (.ifnull 39, 3) := by decide +kernel
theorem eX8_least_48 : decode mX8_least.2.1 48 = .ok (.aload 4, 2) := by decide +kernel
theorem eX8_least_50 : decode mX8_least.2.1 50 = .ok (.getfield 195, 3) := by decide +kernel
theorem eX8_least_53 : decode mX8_least.2.1 53 = .ok (.ifCond .eq 31, 3) := by decide +kernel
theorem eX8_least_56 : decode mX8_least.2.1 56 = .ok (.aload_n 0, 1) := by decide +kernel
theorem eX8_least_57 : decode mX8_least.2.1 57 = .ok (.getfield 31, 3) := by decide +kernel
theorem eX8_least_60 : decode mX8_least.2.1 60 = .ok (.aload 4, 2) := by decide +kernel
theorem eX8_least_62 : decode mX8_least.2.1 62 = .ok (.invokevirtual 315, 3) := by decide +kernel
theorem eX8_least_65 : decode mX8_least.2.1 65 = .ok (.ifCond .eq 19, 3) := by decide +kernel
theorem eX8_least_68 : decode mX8_least.2.1 68 = .ok (.iinc 1 1, 3) := by decide +kernel
theorem eX8_least_71 : decode mX8_least.2.1 71 = .ok (.aload_n 0, 1) := by decide +kernel
theorem eX8_least_72 : decode mX8_least.2.1 72 = .ok (.getfield 31, 3) := by decide +kernel
theorem eX8_least_75 : decode mX8_least.2.1 75 = .ok (.invokevirtual 312, 3) := by decide +kernel
theorem eX8_least_78 : decode mX8_least.2.1 78 = .ok (.iconst (-1), 1) := by decide +kernel
theorem eX8_least_79 : decode mX8_least.2.1 79 = .ok (.if_icmp .ne 5, 3) := by decide +kernel
theorem eX8_least_82 : decode mX8_least.2.1 82 = .ok (.iload_n 1, 1) := by decide +kernel
theorem eX8_least_83 : decode mX8_least.2.1 83 = .ok (.ireturn, 1) := by decide +kernel
theorem eX8_least_84 : decode mX8_least.2.1 84 = .ok (.iinc 3 1, 3) := by decide +kernel
theorem eX8_least_87 : decode mX8_least.2.1 87 = .ok (.goto (-59), 3) := by decide +kernel
theorem eX8_least_90 : decode mX8_least.2.1 90 = .ok (.iinc 2 1, 3) := by decide +kernel
theorem eX8_least_93 : decode mX8_least.2.1 93 = .ok (.goto (-72), 3) := by decide +kernel
theorem eX8_least_96 : decode mX8_least.2.1 96 = .ok (.iconst (-1), 1) := by decide +kernel
theorem eX8_least_97 : decode mX8_least.2.1 97 = .ok (.ireturn, 1) := by decide +kernel
theorem eX8_undo_0 : decode mX8_undo.2.1 0 = .ok (.aload_n 0, 1) := by decide +kernel
theorem eX8_undo_1 : decode mX8_undo.2.1 1 = .ok (.getfield 44, 3) := by decide +kernel
theorem eX8_undo_4 : decode mX8_undo.2.1 4 = .ok (.ifCond .gt 5, 3) := by decide +kernel
theorem eX8_undo_7 : decode mX8_undo.2.1 7 = .ok (.iconst 0, 1) := by decide +kernel
theorem eX8_undo_8 : decode mX8_undo.2.1 8 = .ok (.ireturn, 1) := by decide +kernel
theorem eX8_undo_9 : decode mX8_undo.2.1 9 = .ok (.aload_n 0, 1) := by decide +kernel
theorem eX8_undo_10 : decode mX8_undo.2.1 10 = .ok (.dup, 1) := by decide +kernel
theorem eX8_undo_11 : decode mX8_undo.2.1 11 = .ok (.getfield 44, 3) := by decide +kernel
theorem eX8_undo_14 : decode mX8_undo.2.1 14 = .ok (.iconst 1, 1) := by decide +kernel
theorem eX8_undo_15 : decode mX8_undo.2.1 15 = .ok (.isub, 1) := by decide +kernel
theorem eX8_undo_16 : decode mX8_undo.2.1 16 = .ok (.putfield 44, 3) := by decide +kernel
theorem eX8_undo_19 : decode mX8_undo.2.1 19 = .ok (.aload_n 0, 1) := by decide +kernel
theorem eX8_undo_20 : decode mX8_undo.2.1 20 = .ok (.aload_n 0, 1) := by decide +kernel
theorem eX8_undo_21 : decode mX8_undo.2.1 21 = .ok (.getfield 41, 3) := by decide +kernel
theorem eX8_undo_24 : decode mX8_undo.2.1 24 = .ok (.ifCond .le 12, 3) := by decide +kernel
theorem eX8_undo_27 : decode mX8_undo.2.1 27 = .ok (.aload_n 0, 1) := by decide +kernel
theorem eX8_undo_28 : decode mX8_undo.2.1 28 = .ok (.getfield 41, 3) := by decide +kernel
theorem eX8_undo_31 : decode mX8_undo.2.1 31 = .ok (.iconst 1, 1) := by decide +kernel
theorem eX8_undo_32 : decode mX8_undo.2.1 32 = .ok (.isub, 1) := by decide +kernel
theorem eX8_undo_33 : decode mX8_undo.2.1 33 = .ok (.goto 5, 3) := by decide +kernel
theorem eX8_undo_36 : decode mX8_undo.2.1 36 = .ok (.bipush 15, 2) := by decide +kernel
theorem eX8_undo_38 : decode mX8_undo.2.1 38 = .ok (.putfield 41, 3) := by decide +kernel
theorem eX8_undo_41 : decode mX8_undo.2.1 41 = .ok (.aload_n 0, 1) := by decide +kernel
theorem eX8_undo_42 : decode mX8_undo.2.1 42 = .ok (.getfield 41, 3) := by decide +kernel
theorem eX8_undo_45 : decode mX8_undo.2.1 45 = .ok (.aload_n 0, 1) := by decide +kernel
theorem eX8_undo_46 : decode mX8_undo.2.1 46 = .ok (.getfield 37, 3) := by decide +kernel
theorem eX8_undo_49 : decode mX8_undo.2.1 49 = .ok (.arraylength, 1) := by decide +kernel
theorem eX8_undo_50 : decode mX8_undo.2.1 50 = .ok (.if_icmp .ge 15, 3) := by decide +kernel
theorem eX8_undo_53 : decode mX8_undo.2.1 53 = .ok (.aload_n 0, 1) := by decide +kernel
theorem eX8_undo_54 : decode mX8_undo.2.1 54 = .ok (.getfield 37, 3) := by decide +kernel
theorem eX8_undo_57 : decode mX8_undo.2.1 57 = .ok (.aload_n 0, 1) := by decide +kernel
theorem eX8_undo_58 : decode mX8_undo.2.1 58 = .ok (.getfield 41, 3) := by decide +kernel
theorem eX8_undo_61 : decode mX8_undo.2.1 61 = .ok (.aaload, 1) := by decide +kernel
theorem eX8_undo_62 : decode mX8_undo.2.1 62 = .ok (.goto 4, 3) := by decide +kernel
theorem eX8_undo_65 : decode mX8_undo.2.1 65 = .ok (.aconst_null, 1) := by decide +kernel
theorem eX8_undo_66 : decode mX8_undo.2.1 66 = .ok (.astore_n 1, 1) := by decide +kernel
theorem eX8_undo_67 : decode mX8_undo.2.1 67 = .ok (.aload_n 1, 1) := by decide +kernel
theorem eX8_undo_68 : decode mX8_undo.2.1 68 = .ok (.ifnonnull 5, 3) := by decide +kernel
theorem eX8_undo_71 : decode mX8_undo.2.1 71 = .ok (.iconst 0, 1) := by decide +kernel
theorem eX8_undo_72 : decode mX8_undo.2.1 72 = .ok (.ireturn, 1) := by decide +kernel
theorem eX8_undo_73 : decode mX8_undo.2.1 73 = .ok (.aload_n 0, 1) := by decide +kernel
theorem eX8_undo_74 : decode mX8_undo.2.1 74 = .ok (.aload_n 1, 1) := by decide +kernel
theorem eX8_undo_75 : decode mX8_undo.2.1 75 = .ok (.invokevirtual 319, 3) := by decide +kernel
theorem eX8_undo_78 : decode mX8_undo.2.1 78 = .ok (.iconst 1, 1) := by decide +kernel
theorem eX8_undo_79 : decode mX8_undo.2.1 79 = .ok (.ireturn, 1) := by decide +kernel
theorem eX8_count_0 : decode mX8_count.2.1 0 = .ok (.iload_n 1, 1) := by decide +kernel
theorem eX8_count_1 : decode mX8_count.2.1 1 = .ok (.tableswitch 42 0 2 #[27, 32, 37], 27) := by decide +kernel
theorem eX8_count_28 : decode mX8_count.2.1 28 = .ok (.aload_n 0, 1) := by decide +kernel
theorem eX8_count_29 : decode mX8_count.2.1 29 = .ok (.getfield 15, 3) := by decide +kernel
theorem eX8_count_32 : decode mX8_count.2.1 32 = .ok (.ireturn, 1) := by decide +kernel
theorem eX8_count_33 : decode mX8_count.2.1 33 = .ok (.aload_n 0, 1) := by decide +kernel
theorem eX8_count_34 : decode mX8_count.2.1 34 = .ok (.getfield 25, 3) := by decide +kernel
theorem eX8_count_37 : decode mX8_count.2.1 37 = .ok (.ireturn, 1) := by decide +kernel
theorem eX8_count_38 : decode mX8_count.2.1 38 = .ok (.aload_n 0, 1) := by decide +kernel
theorem eX8_count_39 : decode mX8_count.2.1 39 = .ok (.getfield 44, 3) := by decide +kernel
theorem eX8_count_42 : decode mX8_count.2.1 42 = .ok (.ireturn, 1) := by decide +kernel
theorem eX8_count_43 : decode mX8_count.2.1 43 = .ok (.iconst (-1), 1) := by decide +kernel
theorem eX8_count_44 : decode mX8_count.2.1 44 = .ok (.ireturn, 1) := by decide +kernel
theorem eX8_remember_0 : decode mX8_remember.2.1 0 = .ok (.aload_n 0, 1) := by decide +kernel
theorem eX8_remember_1 : decode mX8_remember.2.1 1 = .ok (.getfield 41, 3) := by decide +kernel
theorem eX8_remember_4 : decode mX8_remember.2.1 4 = .ok (.iconst 0, 1) := by decide +kernel
theorem eX8_remember_5 : decode mX8_remember.2.1 5 = .ok (.aload_n 0, 1) := by decide +kernel
theorem eX8_remember_6 : decode mX8_remember.2.1 6 = .ok (.getfield 37, 3) := by decide +kernel
theorem eX8_remember_9 : decode mX8_remember.2.1 9 = .ok (.arraylength, 1) := by decide +kernel
theorem eX8_remember_10 : decode mX8_remember.2.1 10 = .ok (.iconst 1, 1) := by decide +kernel
theorem eX8_remember_11 : decode mX8_remember.2.1 11 = .ok (.isub, 1) := by decide +kernel
theorem eX8_remember_12 : decode mX8_remember.2.1 12 = .ok (.invokestatic 51, 3) := by decide +kernel
theorem eX8_remember_15 : decode mX8_remember.2.1 15 = .ok (.ifCond .eq 13, 3) := by decide +kernel
theorem eX8_remember_18 : decode mX8_remember.2.1 18 = .ok (.aload_n 0, 1) := by decide +kernel
theorem eX8_remember_19 : decode mX8_remember.2.1 19 = .ok (.getfield 37, 3) := by decide +kernel
theorem eX8_remember_22 : decode mX8_remember.2.1 22 = .ok (.aload_n 0, 1) := by decide +kernel
theorem eX8_remember_23 : decode mX8_remember.2.1 23 = .ok (.getfield 41, 3) := by decide +kernel
theorem eX8_remember_26 : decode mX8_remember.2.1 26 = .ok (.aload_n 1, 1) := by decide +kernel
theorem eX8_remember_27 : decode mX8_remember.2.1 27 = .ok (.aastore, 1) := by decide +kernel
theorem eX8_remember_28 : decode mX8_remember.2.1 28 = .ok (.aload_n 0, 1) := by decide +kernel
theorem eX8_remember_29 : decode mX8_remember.2.1 29 = .ok (.aload_n 0, 1) := by decide +kernel
theorem eX8_remember_30 : decode mX8_remember.2.1 30 = .ok (.getfield 41, 3) := by decide +kernel
theorem eX8_remember_33 : decode mX8_remember.2.1 33 = .ok (.iconst 1, 1) := by decide +kernel
theorem eX8_remember_34 : decode mX8_remember.2.1 34 = .ok (.iadd, 1) := by decide +kernel
theorem eX8_remember_35 : decode mX8_remember.2.1 35 = .ok (.bipush 16, 2) := by decide +kernel
theorem eX8_remember_37 : decode mX8_remember.2.1 37 = .ok (.irem, 1) := by decide +kernel
theorem eX8_remember_38 : decode mX8_remember.2.1 38 = .ok (.putfield 41, 3) := by decide +kernel
theorem eX8_remember_41 : decode mX8_remember.2.1 41 = .ok (.aload_n 0, 1) := by decide +kernel
theorem eX8_remember_42 : decode mX8_remember.2.1 42 = .ok (.aload_n 0, 1) := by decide +kernel
theorem eX8_remember_43 : decode mX8_remember.2.1 43 = .ok (.getfield 44, 3) := by decide +kernel
theorem eX8_remember_46 : decode mX8_remember.2.1 46 = .ok (.iconst 1, 1) := by decide +kernel
theorem eX8_remember_47 : decode mX8_remember.2.1 47 = .ok (.iadd, 1) := by decide +kernel
theorem eX8_remember_48 : decode mX8_remember.2.1 48 = .ok (.bipush 16, 2) := by decide +kernel
theorem eX8_remember_50 : decode mX8_remember.2.1 50 = .ok (.invokestatic 322, 3) := by decide +kernel
theorem eX8_remember_53 : decode mX8_remember.2.1 53 = .ok (.putfield 44, 3) := by decide +kernel
theorem eX8_remember_56 : decode mX8_remember.2.1 56 = .ok (.return_, 1) := by decide +kernel
theorem eX8_reverse_0 : decode mX8_reverse.2.1 0 = .ok (.aload_n 1, 1) := by decide +kernel
theorem eX8_reverse_1 : decode mX8_reverse.2.1 1 = .ok (.getfield 327, 3) := by decide +kernel
theorem eX8_reverse_4 : decode mX8_reverse.2.1 4 = .ok (.tableswitch 155 0 11 #[64, 79, 79, 72, 140, 140, 140, 140, 140, 94, 109, 132], 64) := by decide +kernel
theorem eX8_reverse_68 : decode mX8_reverse.2.1 68 = .ok (.aload_n 0, 1) := by decide +kernel
theorem eX8_reverse_69 : decode mX8_reverse.2.1 69 = .ok (.iconst 1, 1) := by decide +kernel
theorem eX8_reverse_70 : decode mX8_reverse.2.1 70 = .ok (.invokevirtual 330, 3) := by decide +kernel
theorem eX8_reverse_73 : decode mX8_reverse.2.1 73 = .ok (.goto 99, 3) := by decide +kernel
theorem eX8_reverse_76 : decode mX8_reverse.2.1 76 = .ok (.aload_n 0, 1) := by decide +kernel
theorem eX8_reverse_77 : decode mX8_reverse.2.1 77 = .ok (.invokevirtual 334, 3) := by decide +kernel
theorem eX8_reverse_80 : decode mX8_reverse.2.1 80 = .ok (.goto 92, 3) := by decide +kernel
theorem eX8_reverse_83 : decode mX8_reverse.2.1 83 = .ok (.aload_n 1, 1) := by decide +kernel
theorem eX8_reverse_84 : decode mX8_reverse.2.1 84 = .ok (.aload_n 0, 1) := by decide +kernel
theorem eX8_reverse_85 : decode mX8_reverse.2.1 85 = .ok (.aload_n 1, 1) := by decide +kernel
theorem eX8_reverse_86 : decode mX8_reverse.2.1 86 = .ok (.getfield 337, 3) := by decide +kernel
theorem eX8_reverse_89 : decode mX8_reverse.2.1 89 = .ok (.invokevirtual 76, 3) := by decide +kernel
theorem eX8_reverse_92 : decode mX8_reverse.2.1 92 = .ok (.invokestatic 340, 3) := by decide +kernel
theorem eX8_reverse_95 : decode mX8_reverse.2.1 95 = .ok (.goto 77, 3) := by decide +kernel
theorem eX8_reverse_98 : decode mX8_reverse.2.1 98 = .ok (.aload_n 0, 1) := by decide +kernel
theorem eX8_reverse_99 : decode mX8_reverse.2.1 99 = .ok (.aload_n 1, 1) := by decide +kernel
theorem eX8_reverse_100 : decode mX8_reverse.2.1 100 = .ok (.getfield 337, 3) := by decide +kernel
theorem eX8_reverse_103 : decode mX8_reverse.2.1 103 = .ok (.aload_n 1, 1) := by decide +kernel
theorem eX8_reverse_104 : decode mX8_reverse.2.1 104 = .ok (.getfield 344, 3) := by decide +kernel
theorem eX8_reverse_107 : decode mX8_reverse.2.1 107 = .ok (.invokevirtual 244, 3) := by decide +kernel
theorem eX8_reverse_110 : decode mX8_reverse.2.1 110 = .ok (.goto 62, 3) := by decide +kernel
theorem eX8_reverse_113 : decode mX8_reverse.2.1 113 = .ok (.aload_n 0, 1) := by decide +kernel
theorem eX8_reverse_114 : decode mX8_reverse.2.1 114 = .ok (.aload_n 1, 1) := by decide +kernel
theorem eX8_reverse_115 : decode mX8_reverse.2.1 115 = .ok (.getfield 337, 3) := by decide +kernel
theorem eX8_reverse_118 : decode mX8_reverse.2.1 118 = .ok (.aload_n 1, 1) := by decide +kernel
theorem eX8_reverse_119 : decode mX8_reverse.2.1 119 = .ok (.getfield 344, 3) := by decide +kernel
theorem eX8_reverse_122 : decode mX8_reverse.2.1 122 = .ok (.aload_n 1, 1) := by decide +kernel
theorem eX8_reverse_123 : decode mX8_reverse.2.1 123 = .ok (.getfield 347, 3) := by decide +kernel
theorem eX8_reverse_126 : decode mX8_reverse.2.1 126 = .ok (.aload_n 1, 1) := by decide +kernel
theorem eX8_reverse_127 : decode mX8_reverse.2.1 127 = .ok (.getfield 143, 3) := by decide +kernel
theorem eX8_reverse_130 : decode mX8_reverse.2.1 130 = .ok (.invokevirtual 241, 3) := by decide +kernel
theorem eX8_reverse_133 : decode mX8_reverse.2.1 133 = .ok (.goto 39, 3) := by decide +kernel
theorem eX8_reverse_136 : decode mX8_reverse.2.1 136 = .ok (.aload_n 0, 1) := by decide +kernel
theorem eX8_reverse_137 : decode mX8_reverse.2.1 137 = .ok (.aload_n 1, 1) := by decide +kernel
theorem eX8_reverse_138 : decode mX8_reverse.2.1 138 = .ok (.invokevirtual 350, 3) := by decide +kernel
theorem eX8_reverse_141 : decode mX8_reverse.2.1 141 = .ok (.goto 31, 3) := by decide +kernel
theorem eX8_reverse_144 : decode mX8_reverse.2.1 144 = .ok (.aload_n 1, 1) := by decide +kernel
theorem eX8_reverse_145 : decode mX8_reverse.2.1 145 = .ok (.aload_n 0, 1) := by decide +kernel
theorem eX8_reverse_146 : decode mX8_reverse.2.1 146 = .ok (.aload_n 1, 1) := by decide +kernel
theorem eX8_reverse_147 : decode mX8_reverse.2.1 147 = .ok (.getfield 337, 3) := by decide +kernel
theorem eX8_reverse_150 : decode mX8_reverse.2.1 150 = .ok (.invokevirtual 149, 3) := by decide +kernel
theorem eX8_reverse_153 : decode mX8_reverse.2.1 153 = .ok (.invokestatic 353, 3) := by decide +kernel
theorem eX8_reverse_156 : decode mX8_reverse.2.1 156 = .ok (.goto 16, 3) := by decide +kernel
theorem eX8_reverse_159 : decode mX8_reverse.2.1 159 = .ok (.aload_n 0, 1) := by decide +kernel
theorem eX8_reverse_160 : decode mX8_reverse.2.1 160 = .ok (.aload_n 1, 1) := by decide +kernel
theorem eX8_reverse_161 : decode mX8_reverse.2.1 161 = .ok (.aload_n 0, 1) := by decide +kernel
theorem eX8_reverse_162 : decode mX8_reverse.2.1 162 = .ok (.aload_n 1, 1) := by decide +kernel
theorem eX8_reverse_163 : decode mX8_reverse.2.1 163 = .ok (.getfield 337, 3) := by decide +kernel
theorem eX8_reverse_166 : decode mX8_reverse.2.1 166 = .ok (.invokevirtual 149, 3) := by decide +kernel
theorem eX8_reverse_169 : decode mX8_reverse.2.1 169 = .ok (.invokevirtual 357, 3) := by decide +kernel
theorem eX8_reverse_172 : decode mX8_reverse.2.1 172 = .ok (.return_, 1) := by decide +kernel
theorem eX8_reverseOnBolt_0 : decode mX8_reverseOnBolt.2.1 0 = .ok (.aload_n 1, 1) := by decide +kernel
theorem eX8_reverseOnBolt_1 : decode mX8_reverseOnBolt.2.1 1 = .ok (.ifnonnull 4, 3) := by decide +kernel
theorem eX8_reverseOnBolt_4 : decode mX8_reverseOnBolt.2.1 4 = .ok (.return_, 1) := by decide +kernel
theorem eX8_reverseOnBolt_5 : decode mX8_reverseOnBolt.2.1 5 = .ok (.aload_n 0, 1) := by decide +kernel
theorem eX8_reverseOnBolt_6 : decode mX8_reverseOnBolt.2.1 6 = .ok (.getfield 327, 3) := by decide +kernel
theorem eX8_reverseOnBolt_9 : decode mX8_reverseOnBolt.2.1 9 = .ok (.iconst 1, 1) := by decide +kernel
theorem eX8_reverseOnBolt_10 : decode mX8_reverseOnBolt.2.1 10 = .ok (.if_icmp .ne 14, 3) := by decide +kernel
theorem eX8_reverseOnBolt_13 : decode mX8_reverseOnBolt.2.1 13 = .ok (.aload_n 1, 1) := by decide +kernel
theorem eX8_reverseOnBolt_14 : decode mX8_reverseOnBolt.2.1 14 = .ok (.aload_n 0, 1) := by decide +kernel
theorem eX8_reverseOnBolt_15 : decode mX8_reverseOnBolt.2.1 15 = .ok (.getfield 90, 3) := by decide +kernel
theorem eX8_reverseOnBolt_18 : decode mX8_reverseOnBolt.2.1 18 = .ok (.putfield 86, 3) := by decide +kernel
theorem eX8_reverseOnBolt_21 : decode mX8_reverseOnBolt.2.1 21 = .ok (.goto 15, 3) := by decide +kernel
theorem eX8_reverseOnBolt_24 : decode mX8_reverseOnBolt.2.1 24 = .ok (.aload_n 1, 1) := by decide +kernel
theorem eX8_reverseOnBolt_25 : decode mX8_reverseOnBolt.2.1 25 = .ok (.aload_n 0, 1) := by decide +kernel
theorem eX8_reverseOnBolt_26 : decode mX8_reverseOnBolt.2.1 26 = .ok (.getfield 344, 3) := by decide +kernel
theorem eX8_reverseOnBolt_29 : decode mX8_reverseOnBolt.2.1 29 = .ok (.aload_n 0, 1) := by decide +kernel
theorem eX8_reverseOnBolt_30 : decode mX8_reverseOnBolt.2.1 30 = .ok (.getfield 347, 3) := by decide +kernel
theorem eX8_reverseOnBolt_33 : decode mX8_reverseOnBolt.2.1 33 = .ok (.invokevirtual 100, 3) := by decide +kernel
theorem eX8_reverseOnBolt_36 : decode mX8_reverseOnBolt.2.1 36 = .ok (.return_, 1) := by decide +kernel
theorem eX8_reverseMaking_0 : decode mX8_reverseMaking.2.1 0 = .ok (.aload_n 1, 1) := by decide +kernel
theorem eX8_reverseMaking_1 : decode mX8_reverseMaking.2.1 1 = .ok (.ifnonnull 4, 3) := by decide +kernel
theorem eX8_reverseMaking_4 : decode mX8_reverseMaking.2.1 4 = .ok (.return_, 1) := by decide +kernel
theorem eX8_reverseMaking_5 : decode mX8_reverseMaking.2.1 5 = .ok (.aload_n 1, 1) := by decide +kernel
theorem eX8_reverseMaking_6 : decode mX8_reverseMaking.2.1 6 = .ok (.aload_n 0, 1) := by decide +kernel
theorem eX8_reverseMaking_7 : decode mX8_reverseMaking.2.1 7 = .ok (.getfield 344, 3) := by decide +kernel
theorem eX8_reverseMaking_10 : decode mX8_reverseMaking.2.1 10 = .ok (.invokevirtual 127, 3) := by decide +kernel
theorem eX8_reverseMaking_13 : decode mX8_reverseMaking.2.1 13 = .ok (.astore_n 2, 1) := by decide +kernel
theorem eX8_reverseMaking_14 : decode mX8_reverseMaking.2.1 14 = .ok (.aload_n 1, 1) := by decide +kernel
theorem eX8_reverseMaking_15 : decode mX8_reverseMaking.2.1 15 = .ok (.aload_n 0, 1) := by decide +kernel
theorem eX8_reverseMaking_16 : decode mX8_reverseMaking.2.1 16 = .ok (.getfield 344, 3) := by decide +kernel
theorem eX8_reverseMaking_19 : decode mX8_reverseMaking.2.1 19 = .ok (.invokevirtual 170, 3) := by decide +kernel
theorem eX8_reverseMaking_22 : decode mX8_reverseMaking.2.1 22 = .ok (.astore_n 3, 1) := by decide +kernel
theorem eX8_reverseMaking_23 : decode mX8_reverseMaking.2.1 23 = .ok (.aload_n 0, 1) := by decide +kernel
theorem eX8_reverseMaking_24 : decode mX8_reverseMaking.2.1 24 = .ok (.getfield 327, 3) := by decide +kernel
theorem eX8_reverseMaking_27 : decode mX8_reverseMaking.2.1 27 = .ok (.iconst 4, 1) := by decide +kernel
theorem eX8_reverseMaking_28 : decode mX8_reverseMaking.2.1 28 = .ok (.if_icmp .ne 18, 3) := by decide +kernel
theorem eX8_reverseMaking_31 : decode mX8_reverseMaking.2.1 31 = .ok (.aload_n 2, 1) := by decide +kernel
theorem eX8_reverseMaking_32 : decode mX8_reverseMaking.2.1 32 = .ok (.ifnull 14, 3) := by decide +kernel
theorem eX8_reverseMaking_35 : decode mX8_reverseMaking.2.1 35 = .ok (.aload_n 2, 1) := by decide +kernel
theorem eX8_reverseMaking_36 : decode mX8_reverseMaking.2.1 36 = .ok (.aload_n 0, 1) := by decide +kernel
theorem eX8_reverseMaking_37 : decode mX8_reverseMaking.2.1 37 = .ok (.getfield 134, 3) := by decide +kernel
theorem eX8_reverseMaking_40 : decode mX8_reverseMaking.2.1 40 = .ok (.putfield 131, 3) := by decide +kernel
theorem eX8_reverseMaking_43 : decode mX8_reverseMaking.2.1 43 = .ok (.goto 83, 3) := by decide +kernel
theorem eX8_reverseMaking_46 : decode mX8_reverseMaking.2.1 46 = .ok (.aload_n 0, 1) := by decide +kernel
theorem eX8_reverseMaking_47 : decode mX8_reverseMaking.2.1 47 = .ok (.getfield 327, 3) := by decide +kernel
theorem eX8_reverseMaking_50 : decode mX8_reverseMaking.2.1 50 = .ok (.iconst 5, 1) := by decide +kernel
theorem eX8_reverseMaking_51 : decode mX8_reverseMaking.2.1 51 = .ok (.if_icmp .ne 22, 3) := by decide +kernel
theorem eX8_reverseMaking_54 : decode mX8_reverseMaking.2.1 54 = .ok (.aload_n 2, 1) := by decide +kernel
theorem eX8_reverseMaking_55 : decode mX8_reverseMaking.2.1 55 = .ok (.ifnull 18, 3) := by decide +kernel
theorem eX8_reverseMaking_58 : decode mX8_reverseMaking.2.1 58 = .ok (.aload_n 2, 1) := by decide +kernel
theorem eX8_reverseMaking_59 : decode mX8_reverseMaking.2.1 59 = .ok (.aload_n 0, 1) := by decide +kernel
theorem eX8_reverseMaking_60 : decode mX8_reverseMaking.2.1 60 = .ok (.getfield 143, 3) := by decide +kernel
theorem eX8_reverseMaking_63 : decode mX8_reverseMaking.2.1 63 = .ok (.aload_n 0, 1) := by decide +kernel
theorem eX8_reverseMaking_64 : decode mX8_reverseMaking.2.1 64 = .ok (.getfield 347, 3) := by decide +kernel
theorem eX8_reverseMaking_67 : decode mX8_reverseMaking.2.1 67 = .ok (.invokevirtual 146, 3) := by decide +kernel
theorem eX8_reverseMaking_70 : decode mX8_reverseMaking.2.1 70 = .ok (.goto 56, 3) := by decide +kernel
theorem eX8_reverseMaking_73 : decode mX8_reverseMaking.2.1 73 = .ok (.aload_n 0, 1) := by decide +kernel
theorem eX8_reverseMaking_74 : decode mX8_reverseMaking.2.1 74 = .ok (.getfield 327, 3) := by decide +kernel
theorem eX8_reverseMaking_77 : decode mX8_reverseMaking.2.1 77 = .ok (.bipush 6, 2) := by decide +kernel
theorem eX8_reverseMaking_79 : decode mX8_reverseMaking.2.1 79 = .ok (.if_icmp .ne 10, 3) := by decide +kernel
theorem eX8_reverseMaking_82 : decode mX8_reverseMaking.2.1 82 = .ok (.aload_n 1, 1) := by decide +kernel
theorem eX8_reverseMaking_83 : decode mX8_reverseMaking.2.1 83 = .ok (.invokevirtual 360, 3) := by decide +kernel
theorem eX8_reverseMaking_86 : decode mX8_reverseMaking.2.1 86 = .ok (.goto 40, 3) := by decide +kernel
theorem eX8_reverseMaking_89 : decode mX8_reverseMaking.2.1 89 = .ok (.aload_n 0, 1) := by decide +kernel
theorem eX8_reverseMaking_90 : decode mX8_reverseMaking.2.1 90 = .ok (.getfield 327, 3) := by decide +kernel
theorem eX8_reverseMaking_93 : decode mX8_reverseMaking.2.1 93 = .ok (.bipush 7, 2) := by decide +kernel
theorem eX8_reverseMaking_95 : decode mX8_reverseMaking.2.1 95 = .ok (.if_icmp .ne 18, 3) := by decide +kernel
theorem eX8_reverseMaking_98 : decode mX8_reverseMaking.2.1 98 = .ok (.aload_n 3, 1) := by decide +kernel
theorem eX8_reverseMaking_99 : decode mX8_reverseMaking.2.1 99 = .ok (.ifnull 14, 3) := by decide +kernel
theorem eX8_reverseMaking_102 : decode mX8_reverseMaking.2.1 102 = .ok (.aload_n 3, 1) := by decide +kernel
theorem eX8_reverseMaking_103 : decode mX8_reverseMaking.2.1 103 = .ok (.aload_n 0, 1) := by decide +kernel
theorem eX8_reverseMaking_104 : decode mX8_reverseMaking.2.1 104 = .ok (.getfield 347, 3) := by decide +kernel
theorem eX8_reverseMaking_107 : decode mX8_reverseMaking.2.1 107 = .ok (.putfield 174, 3) := by decide +kernel
theorem eX8_reverseMaking_110 : decode mX8_reverseMaking.2.1 110 = .ok (.goto 16, 3) := by decide +kernel
theorem eX8_reverseMaking_113 : decode mX8_reverseMaking.2.1 113 = .ok (.aload_n 0, 1) := by decide +kernel
theorem eX8_reverseMaking_114 : decode mX8_reverseMaking.2.1 114 = .ok (.getfield 327, 3) := by decide +kernel
theorem eX8_reverseMaking_117 : decode mX8_reverseMaking.2.1 117 = .ok (.bipush 8, 2) := by decide +kernel
theorem eX8_reverseMaking_119 : decode mX8_reverseMaking.2.1 119 = .ok (.if_icmp .ne 7, 3) := by decide +kernel
theorem eX8_reverseMaking_122 : decode mX8_reverseMaking.2.1 122 = .ok (.aload_n 1, 1) := by decide +kernel
theorem eX8_reverseMaking_123 : decode mX8_reverseMaking.2.1 123 = .ok (.invokevirtual 363, 3) := by decide +kernel
theorem eX8_reverseMaking_126 : decode mX8_reverseMaking.2.1 126 = .ok (.return_, 1) := by decide +kernel
theorem eX8_reverseSailing_0 : decode mX8_reverseSailing.2.1 0 = .ok (.aload_n 2, 1) := by decide +kernel
theorem eX8_reverseSailing_1 : decode mX8_reverseSailing.2.1 1 = .ok (.ifnonnull 4, 3) := by decide +kernel
theorem eX8_reverseSailing_4 : decode mX8_reverseSailing.2.1 4 = .ok (.return_, 1) := by decide +kernel
theorem eX8_reverseSailing_5 : decode mX8_reverseSailing.2.1 5 = .ok (.aload_n 1, 1) := by decide +kernel
theorem eX8_reverseSailing_6 : decode mX8_reverseSailing.2.1 6 = .ok (.getfield 327, 3) := by decide +kernel
theorem eX8_reverseSailing_9 : decode mX8_reverseSailing.2.1 9 = .ok (.bipush 12, 2) := by decide +kernel
theorem eX8_reverseSailing_11 : decode mX8_reverseSailing.2.1 11 = .ok (.if_icmp .ne 23, 3) := by decide +kernel
theorem eX8_reverseSailing_14 : decode mX8_reverseSailing.2.1 14 = .ok (.aload_n 2, 1) := by decide +kernel
theorem eX8_reverseSailing_15 : decode mX8_reverseSailing.2.1 15 = .ok (.aload_n 1, 1) := by decide +kernel
theorem eX8_reverseSailing_16 : decode mX8_reverseSailing.2.1 16 = .ok (.getfield 347, 3) := by decide +kernel
theorem eX8_reverseSailing_19 : decode mX8_reverseSailing.2.1 19 = .ok (.iconst 1, 1) := by decide +kernel
theorem eX8_reverseSailing_20 : decode mX8_reverseSailing.2.1 20 = .ok (.if_icmp .ne 7, 3) := by decide +kernel
theorem eX8_reverseSailing_23 : decode mX8_reverseSailing.2.1 23 = .ok (.iconst 1, 1) := by decide +kernel
theorem eX8_reverseSailing_24 : decode mX8_reverseSailing.2.1 24 = .ok (.goto 4, 3) := by decide +kernel
theorem eX8_reverseSailing_27 : decode mX8_reverseSailing.2.1 27 = .ok (.iconst 0, 1) := by decide +kernel
theorem eX8_reverseSailing_28 : decode mX8_reverseSailing.2.1 28 = .ok (.putfield 195, 3) := by decide +kernel
theorem eX8_reverseSailing_31 : decode mX8_reverseSailing.2.1 31 = .ok (.goto 78, 3) := by decide +kernel
theorem eX8_reverseSailing_34 : decode mX8_reverseSailing.2.1 34 = .ok (.aload_n 1, 1) := by decide +kernel
theorem eX8_reverseSailing_35 : decode mX8_reverseSailing.2.1 35 = .ok (.getfield 327, 3) := by decide +kernel
theorem eX8_reverseSailing_38 : decode mX8_reverseSailing.2.1 38 = .ok (.bipush 13, 2) := by decide +kernel
theorem eX8_reverseSailing_40 : decode mX8_reverseSailing.2.1 40 = .ok (.if_icmp .ne 14, 3) := by decide +kernel
theorem eX8_reverseSailing_43 : decode mX8_reverseSailing.2.1 43 = .ok (.aload_n 2, 1) := by decide +kernel
theorem eX8_reverseSailing_44 : decode mX8_reverseSailing.2.1 44 = .ok (.aload_n 1, 1) := by decide +kernel
theorem eX8_reverseSailing_45 : decode mX8_reverseSailing.2.1 45 = .ok (.getfield 347, 3) := by decide +kernel
theorem eX8_reverseSailing_48 : decode mX8_reverseSailing.2.1 48 = .ok (.putfield 192, 3) := by decide +kernel
theorem eX8_reverseSailing_51 : decode mX8_reverseSailing.2.1 51 = .ok (.goto 58, 3) := by decide +kernel
theorem eX8_reverseSailing_54 : decode mX8_reverseSailing.2.1 54 = .ok (.aload_n 1, 1) := by decide +kernel
theorem eX8_reverseSailing_55 : decode mX8_reverseSailing.2.1 55 = .ok (.getfield 327, 3) := by decide +kernel
theorem eX8_reverseSailing_58 : decode mX8_reverseSailing.2.1 58 = .ok (.bipush 14, 2) := by decide +kernel
theorem eX8_reverseSailing_60 : decode mX8_reverseSailing.2.1 60 = .ok (.if_icmp .ne 10, 3) := by decide +kernel
theorem eX8_reverseSailing_63 : decode mX8_reverseSailing.2.1 63 = .ok (.aload_n 2, 1) := by decide +kernel
theorem eX8_reverseSailing_64 : decode mX8_reverseSailing.2.1 64 = .ok (.invokevirtual 366, 3) := by decide +kernel
theorem eX8_reverseSailing_67 : decode mX8_reverseSailing.2.1 67 = .ok (.goto 42, 3) := by decide +kernel
theorem eX8_reverseSailing_70 : decode mX8_reverseSailing.2.1 70 = .ok (.aload_n 1, 1) := by decide +kernel
theorem eX8_reverseSailing_71 : decode mX8_reverseSailing.2.1 71 = .ok (.getfield 327, 3) := by decide +kernel
theorem eX8_reverseSailing_74 : decode mX8_reverseSailing.2.1 74 = .ok (.bipush 15, 2) := by decide +kernel
theorem eX8_reverseSailing_76 : decode mX8_reverseSailing.2.1 76 = .ok (.if_icmp .ne 33, 3) := by decide +kernel
theorem eX8_reverseSailing_79 : decode mX8_reverseSailing.2.1 79 = .ok (.aload_n 0, 1) := by decide +kernel
theorem eX8_reverseSailing_80 : decode mX8_reverseSailing.2.1 80 = .ok (.aload_n 1, 1) := by decide +kernel
theorem eX8_reverseSailing_81 : decode mX8_reverseSailing.2.1 81 = .ok (.getfield 344, 3) := by decide +kernel
theorem eX8_reverseSailing_84 : decode mX8_reverseSailing.2.1 84 = .ok (.invokevirtual 330, 3) := by decide +kernel
theorem eX8_reverseSailing_87 : decode mX8_reverseSailing.2.1 87 = .ok (.aload_n 2, 1) := by decide +kernel
theorem eX8_reverseSailing_88 : decode mX8_reverseSailing.2.1 88 = .ok (.iconst 1, 1) := by decide +kernel
theorem eX8_reverseSailing_89 : decode mX8_reverseSailing.2.1 89 = .ok (.putfield 186, 3) := by decide +kernel
theorem eX8_reverseSailing_92 : decode mX8_reverseSailing.2.1 92 = .ok (.aload_n 2, 1) := by decide +kernel
theorem eX8_reverseSailing_93 : decode mX8_reverseSailing.2.1 93 = .ok (.aload_n 1, 1) := by decide +kernel
theorem eX8_reverseSailing_94 : decode mX8_reverseSailing.2.1 94 = .ok (.getfield 347, 3) := by decide +kernel
theorem eX8_reverseSailing_97 : decode mX8_reverseSailing.2.1 97 = .ok (.iconst 1, 1) := by decide +kernel
theorem eX8_reverseSailing_98 : decode mX8_reverseSailing.2.1 98 = .ok (.if_icmp .ne 7, 3) := by decide +kernel
theorem eX8_reverseSailing_101 : decode mX8_reverseSailing.2.1 101 = .ok (.iconst 1, 1) := by decide +kernel
theorem eX8_reverseSailing_102 : decode mX8_reverseSailing.2.1 102 = .ok (.goto 4, 3) := by decide +kernel
theorem eX8_reverseSailing_105 : decode mX8_reverseSailing.2.1 105 = .ok (.iconst 0, 1) := by decide +kernel
theorem eX8_reverseSailing_106 : decode mX8_reverseSailing.2.1 106 = .ok (.putfield 195, 3) := by decide +kernel
theorem eX8_reverseSailing_109 : decode mX8_reverseSailing.2.1 109 = .ok (.return_, 1) := by decide +kernel
theorem eX8_reversePlan_0 : decode mX8_reversePlan.2.1 0 = .ok (.aload_n 1, 1) := by decide +kernel
theorem eX8_reversePlan_1 : decode mX8_reversePlan.2.1 1 = .ok (.getfield 264, 3) := by decide +kernel
theorem eX8_reversePlan_4 : decode mX8_reversePlan.2.1 4 = .ok (.ifnonnull 4, 3) := by decide +kernel
theorem eX8_reversePlan_7 : decode mX8_reversePlan.2.1 7 = .ok (.return_, 1) := by decide +kernel
theorem eX8_reversePlan_8 : decode mX8_reversePlan.2.1 8 = .ok (.iconst 0, 1) := by decide +kernel
theorem eX8_reversePlan_9 : decode mX8_reversePlan.2.1 9 = .ok (.istore_n 2, 1) := by decide +kernel
theorem eX8_reversePlan_10 : decode mX8_reversePlan.2.1 10 = .ok (.iload_n 2, 1) := by decide +kernel
theorem eX8_reversePlan_11 : decode mX8_reversePlan.2.1 11 = .ok (.aload_n 1, 1) := by decide +kernel
theorem eX8_reversePlan_12 : decode mX8_reversePlan.2.1 12 = .ok (.getfield 344, 3) := by decide +kernel
theorem eX8_reversePlan_15 : decode mX8_reversePlan.2.1 15 = .ok (.if_icmp .ge 40, 3) := by decide +kernel
theorem eX8_reversePlan_18 : decode mX8_reversePlan.2.1 18 = .ok (.iload_n 2, 1) := by decide +kernel
theorem eX8_reversePlan_19 : decode mX8_reversePlan.2.1 19 = .ok (.aload_n 1, 1) := by decide +kernel
theorem eX8_reversePlan_20 : decode mX8_reversePlan.2.1 20 = .ok (.getfield 264, 3) := by decide +kernel
theorem eX8_reversePlan_23 : decode mX8_reversePlan.2.1 23 = .ok (.arraylength, 1) := by decide +kernel
theorem eX8_reversePlan_24 : decode mX8_reversePlan.2.1 24 = .ok (.if_icmp .ge 31, 3) := by decide +kernel
theorem eX8_reversePlan_27 : decode mX8_reversePlan.2.1 27 = .ok (.aload_n 0, 1) := by decide +kernel
theorem eX8_reversePlan_28 : decode mX8_reversePlan.2.1 28 = .ok (.aload_n 1, 1) := by decide +kernel
theorem eX8_reversePlan_29 : decode mX8_reversePlan.2.1 29 = .ok (.getfield 264, 3) := by decide +kernel
theorem eX8_reversePlan_32 : decode mX8_reversePlan.2.1 32 = .ok (.iload_n 2, 1) := by decide +kernel
theorem eX8_reversePlan_33 : decode mX8_reversePlan.2.1 33 = .ok (.iaload, 1) := by decide +kernel
theorem eX8_reversePlan_34 : decode mX8_reversePlan.2.1 34 = .ok (.bipush 100, 2) := by decide +kernel
theorem eX8_reversePlan_36 : decode mX8_reversePlan.2.1 36 = .ok (.idiv, 1) := by decide +kernel
theorem eX8_reversePlan_37 : decode mX8_reversePlan.2.1 37 = .ok (.aload_n 1, 1) := by decide +kernel
theorem eX8_reversePlan_38 : decode mX8_reversePlan.2.1 38 = .ok (.getfield 264, 3) := by decide +kernel
theorem eX8_reversePlan_41 : decode mX8_reversePlan.2.1 41 = .ok (.iload_n 2, 1) := by decide +kernel
theorem eX8_reversePlan_42 : decode mX8_reversePlan.2.1 42 = .ok (.iaload, 1) := by decide +kernel
theorem eX8_reversePlan_43 : decode mX8_reversePlan.2.1 43 = .ok (.bipush 100, 2) := by decide +kernel
theorem eX8_reversePlan_45 : decode mX8_reversePlan.2.1 45 = .ok (.irem, 1) := by decide +kernel
theorem eX8_reversePlan_46 : decode mX8_reversePlan.2.1 46 = .ok (.invokevirtual 244, 3) := by decide +kernel
theorem eX8_reversePlan_49 : decode mX8_reversePlan.2.1 49 = .ok (.iinc 2 1, 3) := by decide +kernel
theorem eX8_reversePlan_52 : decode mX8_reversePlan.2.1 52 = .ok (.goto (-42), 3) := by decide +kernel
theorem eX8_reversePlan_55 : decode mX8_reversePlan.2.1 55 = .ok (.return_, 1) := by decide +kernel
theorem eX8_isWithin_0 : decode mX8_isWithin.2.1 0 = .ok (.iload_n 0, 1) := by decide +kernel
theorem eX8_isWithin_1 : decode mX8_isWithin.2.1 1 = .ok (.iload_n 1, 1) := by decide +kernel
theorem eX8_isWithin_2 : decode mX8_isWithin.2.1 2 = .ok (.if_icmp .lt 12, 3) := by decide +kernel
theorem eX8_isWithin_5 : decode mX8_isWithin.2.1 5 = .ok (.iload_n 0, 1) := by decide +kernel
theorem eX8_isWithin_6 : decode mX8_isWithin.2.1 6 = .ok (.iload_n 2, 1) := by decide +kernel
theorem eX8_isWithin_7 : decode mX8_isWithin.2.1 7 = .ok (.if_icmp .gt 7, 3) := by decide +kernel
theorem eX8_isWithin_10 : decode mX8_isWithin.2.1 10 = .ok (.iconst 1, 1) := by decide +kernel
theorem eX8_isWithin_11 : decode mX8_isWithin.2.1 11 = .ok (.goto 4, 3) := by decide +kernel
theorem eX8_isWithin_14 : decode mX8_isWithin.2.1 14 = .ok (.iconst 0, 1) := by decide +kernel
theorem eX8_isWithin_15 : decode mX8_isWithin.2.1 15 = .ok (.ireturn, 1) := by decide +kernel
theorem eX8_codeOf_0 : decode mX8_codeOf.2.1 0 = .ok (.bipush 100, 2) := by decide +kernel
theorem eX8_codeOf_2 : decode mX8_codeOf.2.1 2 = .ok (.iload_n 0, 1) := by decide +kernel
theorem eX8_codeOf_3 : decode mX8_codeOf.2.1 3 = .ok (.imul, 1) := by decide +kernel
theorem eX8_codeOf_4 : decode mX8_codeOf.2.1 4 = .ok (.iload_n 1, 1) := by decide +kernel
theorem eX8_codeOf_5 : decode mX8_codeOf.2.1 5 = .ok (.iadd, 1) := by decide +kernel
theorem eX8_codeOf_6 : decode mX8_codeOf.2.1 6 = .ok (.ireturn, 1) := by decide +kernel
theorem eX8_boltNumbered_0 : decode mX8_boltNumbered.2.1 0 = .ok (.iload_n 1, 1) := by decide +kernel
theorem eX8_boltNumbered_1 : decode mX8_boltNumbered.2.1 1 = .ok (.iconst 0, 1) := by decide +kernel
theorem eX8_boltNumbered_2 : decode mX8_boltNumbered.2.1 2 = .ok (.aload_n 0, 1) := by decide +kernel
theorem eX8_boltNumbered_3 : decode mX8_boltNumbered.2.1 3 = .ok (.getfield 15, 3) := by decide +kernel
theorem eX8_boltNumbered_6 : decode mX8_boltNumbered.2.1 6 = .ok (.aload_n 0, 1) := by decide +kernel
theorem eX8_boltNumbered_7 : decode mX8_boltNumbered.2.1 7 = .ok (.getfield 11, 3) := by decide +kernel
theorem eX8_boltNumbered_10 : decode mX8_boltNumbered.2.1 10 = .ok (.arraylength, 1) := by decide +kernel
theorem eX8_boltNumbered_11 : decode mX8_boltNumbered.2.1 11 = .ok (.invokestatic 322, 3) := by decide +kernel
theorem eX8_boltNumbered_14 : decode mX8_boltNumbered.2.1 14 = .ok (.iconst 1, 1) := by decide +kernel
theorem eX8_boltNumbered_15 : decode mX8_boltNumbered.2.1 15 = .ok (.isub, 1) := by decide +kernel
theorem eX8_boltNumbered_16 : decode mX8_boltNumbered.2.1 16 = .ok (.invokestatic 51, 3) := by decide +kernel
theorem eX8_boltNumbered_19 : decode mX8_boltNumbered.2.1 19 = .ok (.ifCond .eq 12, 3) := by decide +kernel
theorem eX8_boltNumbered_22 : decode mX8_boltNumbered.2.1 22 = .ok (.aload_n 0, 1) := by decide +kernel
theorem eX8_boltNumbered_23 : decode mX8_boltNumbered.2.1 23 = .ok (.getfield 11, 3) := by decide +kernel
theorem eX8_boltNumbered_26 : decode mX8_boltNumbered.2.1 26 = .ok (.iload_n 1, 1) := by decide +kernel
theorem eX8_boltNumbered_27 : decode mX8_boltNumbered.2.1 27 = .ok (.aaload, 1) := by decide +kernel
theorem eX8_boltNumbered_28 : decode mX8_boltNumbered.2.1 28 = .ok (.goto 4, 3) := by decide +kernel
theorem eX8_boltNumbered_31 : decode mX8_boltNumbered.2.1 31 = .ok (.aconst_null, 1) := by decide +kernel
theorem eX8_boltNumbered_32 : decode mX8_boltNumbered.2.1 32 = .ok (.areturn, 1) := by decide +kernel
theorem eX8_sailNumbered_0 : decode mX8_sailNumbered.2.1 0 = .ok (.iload_n 1, 1) := by decide +kernel
theorem eX8_sailNumbered_1 : decode mX8_sailNumbered.2.1 1 = .ok (.iconst 0, 1) := by decide +kernel
theorem eX8_sailNumbered_2 : decode mX8_sailNumbered.2.1 2 = .ok (.aload_n 0, 1) := by decide +kernel
theorem eX8_sailNumbered_3 : decode mX8_sailNumbered.2.1 3 = .ok (.getfield 25, 3) := by decide +kernel
theorem eX8_sailNumbered_6 : decode mX8_sailNumbered.2.1 6 = .ok (.aload_n 0, 1) := by decide +kernel
theorem eX8_sailNumbered_7 : decode mX8_sailNumbered.2.1 7 = .ok (.getfield 21, 3) := by decide +kernel
theorem eX8_sailNumbered_10 : decode mX8_sailNumbered.2.1 10 = .ok (.arraylength, 1) := by decide +kernel
theorem eX8_sailNumbered_11 : decode mX8_sailNumbered.2.1 11 = .ok (.invokestatic 322, 3) := by decide +kernel
theorem eX8_sailNumbered_14 : decode mX8_sailNumbered.2.1 14 = .ok (.iconst 1, 1) := by decide +kernel
theorem eX8_sailNumbered_15 : decode mX8_sailNumbered.2.1 15 = .ok (.isub, 1) := by decide +kernel
theorem eX8_sailNumbered_16 : decode mX8_sailNumbered.2.1 16 = .ok (.invokestatic 51, 3) := by decide +kernel
theorem eX8_sailNumbered_19 : decode mX8_sailNumbered.2.1 19 = .ok (.ifCond .eq 12, 3) := by decide +kernel
theorem eX8_sailNumbered_22 : decode mX8_sailNumbered.2.1 22 = .ok (.aload_n 0, 1) := by decide +kernel
theorem eX8_sailNumbered_23 : decode mX8_sailNumbered.2.1 23 = .ok (.getfield 21, 3) := by decide +kernel
theorem eX8_sailNumbered_26 : decode mX8_sailNumbered.2.1 26 = .ok (.iload_n 1, 1) := by decide +kernel
theorem eX8_sailNumbered_27 : decode mX8_sailNumbered.2.1 27 = .ok (.aaload, 1) := by decide +kernel
theorem eX8_sailNumbered_28 : decode mX8_sailNumbered.2.1 28 = .ok (.goto 4, 3) := by decide +kernel
theorem eX8_sailNumbered_31 : decode mX8_sailNumbered.2.1 31 = .ok (.aconst_null, 1) := by decide +kernel
theorem eX8_sailNumbered_32 : decode mX8_sailNumbered.2.1 32 = .ok (.areturn, 1) := by decide +kernel
theorem eX8_sailInState_0 : decode mX8_sailInState.2.1 0 = .ok (.aload_n 0, 1) := by decide +kernel
theorem eX8_sailInState_1 : decode mX8_sailInState.2.1 1 = .ok (.iload_n 1, 1) := by decide +kernel
theorem eX8_sailInState_2 : decode mX8_sailInState.2.1 2 = .ok (.invokevirtual 149, 3) := by decide +kernel
theorem eX8_sailInState_5 : decode mX8_sailInState.2.1 5 = .ok (.astore_n 3, 1) := by decide +kernel
theorem eX8_sailInState_6 : decode mX8_sailInState.2.1 6 = .ok (.aload_n 3, 1) := by decide +kernel
theorem eX8_sailInState_7 : decode mX8_sailInState.2.1 7 = .ok (.ifnull 15, 3) := by decide +kernel
theorem eX8_sailInState_10 : decode mX8_sailInState.2.1 10 = .ok (.aload_n 3, 1) := by decide +kernel
theorem eX8_sailInState_11 : decode mX8_sailInState.2.1 11 = .ok (.getfield 186, 3) := by decide +kernel
theorem eX8_sailInState_14 : decode mX8_sailInState.2.1 14 = .ok (.iload_n 2, 1) := by decide +kernel
theorem eX8_sailInState_15 : decode mX8_sailInState.2.1 15 = .ok (.if_icmp .ne 7, 3) := by decide +kernel
theorem eX8_sailInState_18 : decode mX8_sailInState.2.1 18 = .ok (.aload_n 3, 1) := by decide +kernel
theorem eX8_sailInState_19 : decode mX8_sailInState.2.1 19 = .ok (.goto 4, 3) := by decide +kernel
theorem eX8_sailInState_22 : decode mX8_sailInState.2.1 22 = .ok (.aconst_null, 1) := by decide +kernel
theorem eX8_sailInState_23 : decode mX8_sailInState.2.1 23 = .ok (.areturn, 1) := by decide +kernel
theorem eX8_pieceOf_0 : decode mX8_pieceOf.2.1 0 = .ok (.aload_n 0, 1) := by decide +kernel
theorem eX8_pieceOf_1 : decode mX8_pieceOf.2.1 1 = .ok (.ifnonnull 7, 3) := by decide +kernel
theorem eX8_pieceOf_4 : decode mX8_pieceOf.2.1 4 = .ok (.aconst_null, 1) := by decide +kernel
theorem eX8_pieceOf_5 : decode mX8_pieceOf.2.1 5 = .ok (.goto 8, 3) := by decide +kernel
theorem eX8_pieceOf_8 : decode mX8_pieceOf.2.1 8 = .ok (.aload_n 0, 1) := by decide +kernel
theorem eX8_pieceOf_9 : decode mX8_pieceOf.2.1 9 = .ok (.iload_n 1, 1) := by decide +kernel
theorem eX8_pieceOf_10 : decode mX8_pieceOf.2.1 10 = .ok (.invokevirtual 170, 3) := by decide +kernel
theorem eX8_pieceOf_13 : decode mX8_pieceOf.2.1 13 = .ok (.areturn, 1) := by decide +kernel
theorem eX8_addBolt_0 : decode mX8_addBolt.2.1 0 = .ok (.aload_n 0, 1) := by decide +kernel
theorem eX8_addBolt_1 : decode mX8_addBolt.2.1 1 = .ok (.getfield 15, 3) := by decide +kernel
theorem eX8_addBolt_4 : decode mX8_addBolt.2.1 4 = .ok (.aload_n 0, 1) := by decide +kernel
theorem eX8_addBolt_5 : decode mX8_addBolt.2.1 5 = .ok (.getfield 11, 3) := by decide +kernel
theorem eX8_addBolt_8 : decode mX8_addBolt.2.1 8 = .ok (.arraylength, 1) := by decide +kernel
theorem eX8_addBolt_9 : decode mX8_addBolt.2.1 9 = .ok (.if_icmp .lt 4, 3) := by decide +kernel
theorem eX8_addBolt_12 : decode mX8_addBolt.2.1 12 = .ok (.return_, 1) := by decide +kernel
theorem eX8_addBolt_13 : decode mX8_addBolt.2.1 13 = .ok (.aload_n 0, 1) := by decide +kernel
theorem eX8_addBolt_14 : decode mX8_addBolt.2.1 14 = .ok (.getfield 11, 3) := by decide +kernel
theorem eX8_addBolt_17 : decode mX8_addBolt.2.1 17 = .ok (.aload_n 0, 1) := by decide +kernel
theorem eX8_addBolt_18 : decode mX8_addBolt.2.1 18 = .ok (.getfield 15, 3) := by decide +kernel
theorem eX8_addBolt_21 : decode mX8_addBolt.2.1 21 = .ok (.aaload, 1) := by decide +kernel
theorem eX8_addBolt_22 : decode mX8_addBolt.2.1 22 = .ok (.astore 5, 2) := by decide +kernel
theorem eX8_addBolt_24 : decode mX8_addBolt.2.1 24 = .ok (.aload 5, 2) := by decide +kernel
theorem eX8_addBolt_26 : decode mX8_addBolt.2.1 26 = .ok (.ifnonnull 23, 3) := by decide +kernel
theorem eX8_addBolt_29 : decode mX8_addBolt.2.1 29 = .ok (.new 9, 3) := by decide +kernel
theorem eX8_addBolt_32 : decode mX8_addBolt.2.1 32 = .ok (.dup, 1) := by decide +kernel
theorem eX8_addBolt_33 : decode mX8_addBolt.2.1 33 = .ok (.invokespecial 369, 3) := by decide +kernel
theorem eX8_addBolt_36 : decode mX8_addBolt.2.1 36 = .ok (.astore 5, 2) := by decide +kernel
theorem eX8_addBolt_38 : decode mX8_addBolt.2.1 38 = .ok (.aload_n 0, 1) := by decide +kernel
theorem eX8_addBolt_39 : decode mX8_addBolt.2.1 39 = .ok (.getfield 11, 3) := by decide +kernel
theorem eX8_addBolt_42 : decode mX8_addBolt.2.1 42 = .ok (.aload_n 0, 1) := by decide +kernel
theorem eX8_addBolt_43 : decode mX8_addBolt.2.1 43 = .ok (.getfield 15, 3) := by decide +kernel
theorem eX8_addBolt_46 : decode mX8_addBolt.2.1 46 = .ok (.aload 5, 2) := by decide +kernel
theorem eX8_addBolt_48 : decode mX8_addBolt.2.1 48 = .ok (.aastore, 1) := by decide +kernel
theorem eX8_addBolt_49 : decode mX8_addBolt.2.1 49 = .ok (.aload 5, 2) := by decide +kernel
theorem eX8_addBolt_51 : decode mX8_addBolt.2.1 51 = .ok (.iload_n 1, 1) := by decide +kernel
theorem eX8_addBolt_52 : decode mX8_addBolt.2.1 52 = .ok (.iload_n 2, 1) := by decide +kernel
theorem eX8_addBolt_53 : decode mX8_addBolt.2.1 53 = .ok (.fload_n 3, 1) := by decide +kernel
theorem eX8_addBolt_54 : decode mX8_addBolt.2.1 54 = .ok (.iload 4, 2) := by decide +kernel
theorem eX8_addBolt_56 : decode mX8_addBolt.2.1 56 = .ok (.invokevirtual 370, 3) := by decide +kernel
theorem eX8_addBolt_59 : decode mX8_addBolt.2.1 59 = .ok (.aload_n 0, 1) := by decide +kernel
theorem eX8_addBolt_60 : decode mX8_addBolt.2.1 60 = .ok (.dup, 1) := by decide +kernel
theorem eX8_addBolt_61 : decode mX8_addBolt.2.1 61 = .ok (.getfield 15, 3) := by decide +kernel
theorem eX8_addBolt_64 : decode mX8_addBolt.2.1 64 = .ok (.iconst 1, 1) := by decide +kernel
theorem eX8_addBolt_65 : decode mX8_addBolt.2.1 65 = .ok (.iadd, 1) := by decide +kernel
theorem eX8_addBolt_66 : decode mX8_addBolt.2.1 66 = .ok (.putfield 15, 3) := by decide +kernel
theorem eX8_addBolt_69 : decode mX8_addBolt.2.1 69 = .ok (.return_, 1) := by decide +kernel
theorem eX8_addBoltOf_0 : decode mX8_addBoltOf.2.1 0 = .ok (.aload_n 1, 1) := by decide +kernel
theorem eX8_addBoltOf_1 : decode mX8_addBoltOf.2.1 1 = .ok (.ifnonnull 4, 3) := by decide +kernel
theorem eX8_addBoltOf_4 : decode mX8_addBoltOf.2.1 4 = .ok (.return_, 1) := by decide +kernel
theorem eX8_addBoltOf_5 : decode mX8_addBoltOf.2.1 5 = .ok (.aload_n 0, 1) := by decide +kernel
theorem eX8_addBoltOf_6 : decode mX8_addBoltOf.2.1 6 = .ok (.aload_n 1, 1) := by decide +kernel
theorem eX8_addBoltOf_7 : decode mX8_addBoltOf.2.1 7 = .ok (.getfield 227, 3) := by decide +kernel
theorem eX8_addBoltOf_10 : decode mX8_addBoltOf.2.1 10 = .ok (.invokevirtual 76, 3) := by decide +kernel
theorem eX8_addBoltOf_13 : decode mX8_addBoltOf.2.1 13 = .ok (.astore_n 3, 1) := by decide +kernel
theorem eX8_addBoltOf_14 : decode mX8_addBoltOf.2.1 14 = .ok (.aload_n 3, 1) := by decide +kernel
theorem eX8_addBoltOf_15 : decode mX8_addBoltOf.2.1 15 = .ok (.ifnonnull 7, 3) := by decide +kernel
theorem eX8_addBoltOf_18 : decode mX8_addBoltOf.2.1 18 = .ok (.fconst 0, 1) := by decide +kernel
theorem eX8_addBoltOf_19 : decode mX8_addBoltOf.2.1 19 = .ok (.goto 7, 3) := by decide +kernel
theorem eX8_addBoltOf_22 : decode mX8_addBoltOf.2.1 22 = .ok (.aload_n 3, 1) := by decide +kernel
theorem eX8_addBoltOf_23 : decode mX8_addBoltOf.2.1 23 = .ok (.getfield 372, 3) := by decide +kernel
theorem eX8_addBoltOf_26 : decode mX8_addBoltOf.2.1 26 = .ok (.fstore 4, 2) := by decide +kernel
theorem eX8_addBoltOf_28 : decode mX8_addBoltOf.2.1 28 = .ok (.aload_n 0, 1) := by decide +kernel
theorem eX8_addBoltOf_29 : decode mX8_addBoltOf.2.1 29 = .ok (.aload_n 1, 1) := by decide +kernel
theorem eX8_addBoltOf_30 : decode mX8_addBoltOf.2.1 30 = .ok (.getfield 221, 3) := by decide +kernel
theorem eX8_addBoltOf_33 : decode mX8_addBoltOf.2.1 33 = .ok (.iconst 2, 1) := by decide +kernel
theorem eX8_addBoltOf_34 : decode mX8_addBoltOf.2.1 34 = .ok (.invokestatic 376, 3) := by decide +kernel
theorem eX8_addBoltOf_37 : decode mX8_addBoltOf.2.1 37 = .ok (.aload_n 1, 1) := by decide +kernel
theorem eX8_addBoltOf_38 : decode mX8_addBoltOf.2.1 38 = .ok (.getfield 220, 3) := by decide +kernel
theorem eX8_addBoltOf_41 : decode mX8_addBoltOf.2.1 41 = .ok (.sipush 200, 3) := by decide +kernel
theorem eX8_addBoltOf_44 : decode mX8_addBoltOf.2.1 44 = .ok (.invokestatic 322, 3) := by decide +kernel
theorem eX8_addBoltOf_47 : decode mX8_addBoltOf.2.1 47 = .ok (.fload 4, 2) := by decide +kernel
theorem eX8_addBoltOf_49 : decode mX8_addBoltOf.2.1 49 = .ok (.iload_n 2, 1) := by decide +kernel
theorem eX8_addBoltOf_50 : decode mX8_addBoltOf.2.1 50 = .ok (.invokevirtual 65, 3) := by decide +kernel
theorem eX8_addBoltOf_53 : decode mX8_addBoltOf.2.1 53 = .ok (.return_, 1) := by decide +kernel
theorem eX8_dropBolts_0 : decode mX8_dropBolts.2.1 0 = .ok (.aload_n 0, 1) := by decide +kernel
theorem eX8_dropBolts_1 : decode mX8_dropBolts.2.1 1 = .ok (.iconst 0, 1) := by decide +kernel
theorem eX8_dropBolts_2 : decode mX8_dropBolts.2.1 2 = .ok (.aload_n 0, 1) := by decide +kernel
theorem eX8_dropBolts_3 : decode mX8_dropBolts.2.1 3 = .ok (.getfield 15, 3) := by decide +kernel
theorem eX8_dropBolts_6 : decode mX8_dropBolts.2.1 6 = .ok (.iload_n 1, 1) := by decide +kernel
theorem eX8_dropBolts_7 : decode mX8_dropBolts.2.1 7 = .ok (.isub, 1) := by decide +kernel
theorem eX8_dropBolts_8 : decode mX8_dropBolts.2.1 8 = .ok (.invokestatic 376, 3) := by decide +kernel
theorem eX8_dropBolts_11 : decode mX8_dropBolts.2.1 11 = .ok (.putfield 15, 3) := by decide +kernel
theorem eX8_dropBolts_14 : decode mX8_dropBolts.2.1 14 = .ok (.return_, 1) := by decide +kernel
theorem eX8_dropSail_0 : decode mX8_dropSail.2.1 0 = .ok (.aload_n 0, 1) := by decide +kernel
theorem eX8_dropSail_1 : decode mX8_dropSail.2.1 1 = .ok (.getfield 25, 3) := by decide +kernel
theorem eX8_dropSail_4 : decode mX8_dropSail.2.1 4 = .ok (.ifCond .le 23, 3) := by decide +kernel
theorem eX8_dropSail_7 : decode mX8_dropSail.2.1 7 = .ok (.aload_n 0, 1) := by decide +kernel
theorem eX8_dropSail_8 : decode mX8_dropSail.2.1 8 = .ok (.dup, 1) := by decide +kernel
theorem eX8_dropSail_9 : decode mX8_dropSail.2.1 9 = .ok (.getfield 25, 3) := by decide +kernel
theorem eX8_dropSail_12 : decode mX8_dropSail.2.1 12 = .ok (.iconst 1, 1) := by decide +kernel
theorem eX8_dropSail_13 : decode mX8_dropSail.2.1 13 = .ok (.isub, 1) := by decide +kernel
theorem eX8_dropSail_14 : decode mX8_dropSail.2.1 14 = .ok (.putfield 25, 3) := by decide +kernel
theorem eX8_dropSail_17 : decode mX8_dropSail.2.1 17 = .ok (.aload_n 0, 1) := by decide +kernel
theorem eX8_dropSail_18 : decode mX8_dropSail.2.1 18 = .ok (.getfield 21, 3) := by decide +kernel
theorem eX8_dropSail_21 : decode mX8_dropSail.2.1 21 = .ok (.aload_n 0, 1) := by decide +kernel
theorem eX8_dropSail_22 : decode mX8_dropSail.2.1 22 = .ok (.getfield 25, 3) := by decide +kernel
theorem eX8_dropSail_25 : decode mX8_dropSail.2.1 25 = .ok (.aconst_null, 1) := by decide +kernel
theorem eX8_dropSail_26 : decode mX8_dropSail.2.1 26 = .ok (.aastore, 1) := by decide +kernel
theorem eX8_dropSail_27 : decode mX8_dropSail.2.1 27 = .ok (.return_, 1) := by decide +kernel
theorem eX8_kindOf_0 : decode mX8_kindOf.2.1 0 = .ok (.aload_n 1, 1) := by decide +kernel
theorem eX8_kindOf_1 : decode mX8_kindOf.2.1 1 = .ok (.getfield 379, 3) := by decide +kernel
theorem eX8_kindOf_4 : decode mX8_kindOf.2.1 4 = .ok (.ifCond .eq 5, 3) := by decide +kernel
theorem eX8_kindOf_7 : decode mX8_kindOf.2.1 7 = .ok (.iconst 2, 1) := by decide +kernel
theorem eX8_kindOf_8 : decode mX8_kindOf.2.1 8 = .ok (.ireturn, 1) := by decide +kernel
theorem eX8_kindOf_9 : decode mX8_kindOf.2.1 9 = .ok (.aload_n 0, 1) := by decide +kernel
theorem eX8_kindOf_10 : decode mX8_kindOf.2.1 10 = .ok (.aload_n 1, 1) := by decide +kernel
theorem eX8_kindOf_11 : decode mX8_kindOf.2.1 11 = .ok (.getfield 227, 3) := by decide +kernel
theorem eX8_kindOf_14 : decode mX8_kindOf.2.1 14 = .ok (.invokevirtual 76, 3) := by decide +kernel
theorem eX8_kindOf_17 : decode mX8_kindOf.2.1 17 = .ok (.astore_n 2, 1) := by decide +kernel
theorem eX8_kindOf_18 : decode mX8_kindOf.2.1 18 = .ok (.aload_n 2, 1) := by decide +kernel
theorem eX8_kindOf_19 : decode mX8_kindOf.2.1 19 = .ok (.ifnull 13, 3) := by decide +kernel
theorem eX8_kindOf_22 : decode mX8_kindOf.2.1 22 = .ok (.aload_n 2, 1) := by decide +kernel
theorem eX8_kindOf_23 : decode mX8_kindOf.2.1 23 = .ok (.getfield 110, 3) := by decide +kernel
theorem eX8_kindOf_26 : decode mX8_kindOf.2.1 26 = .ok (.iconst (-1), 1) := by decide +kernel
theorem eX8_kindOf_27 : decode mX8_kindOf.2.1 27 = .ok (.if_icmp .eq 5, 3) := by decide +kernel
theorem eX8_kindOf_30 : decode mX8_kindOf.2.1 30 = .ok (.iconst 3, 1) := by decide +kernel
theorem eX8_kindOf_31 : decode mX8_kindOf.2.1 31 = .ok (.ireturn, 1) := by decide +kernel
theorem eX8_kindOf_32 : decode mX8_kindOf.2.1 32 = .ok (.aload_n 1, 1) := by decide +kernel
theorem eX8_kindOf_33 : decode mX8_kindOf.2.1 33 = .ok (.getfield 174, 3) := by decide +kernel
theorem eX8_kindOf_36 : decode mX8_kindOf.2.1 36 = .ok (.ifCond .le 7, 3) := by decide +kernel
theorem eX8_kindOf_39 : decode mX8_kindOf.2.1 39 = .ok (.iconst 1, 1) := by decide +kernel
theorem eX8_kindOf_40 : decode mX8_kindOf.2.1 40 = .ok (.goto 4, 3) := by decide +kernel
theorem eX8_kindOf_43 : decode mX8_kindOf.2.1 43 = .ok (.iconst 0, 1) := by decide +kernel
theorem eX8_kindOf_44 : decode mX8_kindOf.2.1 44 = .ok (.ireturn, 1) := by decide +kernel
theorem eX8_weightOf_0 : decode mX8_weightOf.2.1 0 = .ok (.aload_n 0, 1) := by decide +kernel
theorem eX8_weightOf_1 : decode mX8_weightOf.2.1 1 = .ok (.aload_n 1, 1) := by decide +kernel
theorem eX8_weightOf_2 : decode mX8_weightOf.2.1 2 = .ok (.getfield 227, 3) := by decide +kernel
theorem eX8_weightOf_5 : decode mX8_weightOf.2.1 5 = .ok (.invokevirtual 76, 3) := by decide +kernel
theorem eX8_weightOf_8 : decode mX8_weightOf.2.1 8 = .ok (.astore_n 2, 1) := by decide +kernel
theorem eX8_weightOf_9 : decode mX8_weightOf.2.1 9 = .ok (.aload_n 2, 1) := by decide +kernel
theorem eX8_weightOf_10 : decode mX8_weightOf.2.1 10 = .ok (.ifnonnull 5, 3) := by decide +kernel
theorem eX8_weightOf_13 : decode mX8_weightOf.2.1 13 = .ok (.iconst 0, 1) := by decide +kernel
theorem eX8_weightOf_14 : decode mX8_weightOf.2.1 14 = .ok (.ireturn, 1) := by decide +kernel
theorem eX8_weightOf_15 : decode mX8_weightOf.2.1 15 = .ok (.aload_n 2, 1) := by decide +kernel
theorem eX8_weightOf_16 : decode mX8_weightOf.2.1 16 = .ok (.getfield 372, 3) := by decide +kernel
theorem eX8_weightOf_19 : decode mX8_weightOf.2.1 19 = .ok (.aload_n 1, 1) := by decide +kernel
theorem eX8_weightOf_20 : decode mX8_weightOf.2.1 20 = .ok (.getfield 224, 3) := by decide +kernel
theorem eX8_weightOf_23 : decode mX8_weightOf.2.1 23 = .ok (.i2f, 1) := by decide +kernel
theorem eX8_weightOf_24 : decode mX8_weightOf.2.1 24 = .ok (.fmul, 1) := by decide +kernel
theorem eX8_weightOf_25 : decode mX8_weightOf.2.1 25 = .ok (.fconst 2, 1) := by decide +kernel
theorem eX8_weightOf_26 : decode mX8_weightOf.2.1 26 = .ok (.fdiv, 1) := by decide +kernel
theorem eX8_weightOf_27 : decode mX8_weightOf.2.1 27 = .ok (.fstore_n 3, 1) := by decide +kernel
theorem eX8_weightOf_28 : decode mX8_weightOf.2.1 28 = .ok (.fload_n 3, 1) := by decide +kernel
theorem eX8_weightOf_29 : decode mX8_weightOf.2.1 29 = .ok (.f2i, 1) := by decide +kernel
theorem eX8_weightOf_30 : decode mX8_weightOf.2.1 30 = .ok (.ldc_w 382, 3) := by decide +kernel
theorem eX8_weightOf_33 : decode mX8_weightOf.2.1 33 = .ok (.invokestatic 322, 3) := by decide +kernel
theorem eX8_weightOf_36 : decode mX8_weightOf.2.1 36 = .ok (.ireturn, 1) := by decide +kernel
theorem eX8_weightOfAll_0 : decode mX8_weightOfAll.2.1 0 = .ok (.iconst 0, 1) := by decide +kernel
theorem eX8_weightOfAll_1 : decode mX8_weightOfAll.2.1 1 = .ok (.istore_n 2, 1) := by decide +kernel
theorem eX8_weightOfAll_2 : decode mX8_weightOfAll.2.1 2 = .ok (.iconst 0, 1) := by decide +kernel
theorem eX8_weightOfAll_3 : decode mX8_weightOfAll.2.1 3 = .ok (.istore_n 3, 1) := by decide +kernel
theorem eX8_weightOfAll_4 : decode mX8_weightOfAll.2.1 4 = .ok (.iload_n 3, 1) := by decide +kernel
theorem eX8_weightOfAll_5 : decode mX8_weightOfAll.2.1 5 = .ok (.aload_n 1, 1) := by decide +kernel
theorem eX8_weightOfAll_6 : decode mX8_weightOfAll.2.1 6 = .ok (.getfield 179, 3) := by decide +kernel
theorem eX8_weightOfAll_9 : decode mX8_weightOfAll.2.1 9 = .ok (.if_icmp .ge 30, 3) := by decide +kernel
theorem eX8_weightOfAll_12 : decode mX8_weightOfAll.2.1 12 = .ok (.aload_n 1, 1) := by decide +kernel
theorem eX8_weightOfAll_13 : decode mX8_weightOfAll.2.1 13 = .ok (.iload_n 3, 1) := by decide +kernel
theorem eX8_weightOfAll_14 : decode mX8_weightOfAll.2.1 14 = .ok (.invokevirtual 170, 3) := by decide +kernel
theorem eX8_weightOfAll_17 : decode mX8_weightOfAll.2.1 17 = .ok (.astore 4, 2) := by decide +kernel
theorem eX8_weightOfAll_19 : decode mX8_weightOfAll.2.1 19 = .ok (.aload 4, 2) := by decide +kernel
theorem eX8_weightOfAll_21 : decode mX8_weightOfAll.2.1 21 = .ok (.ifnull 12, 3) := by decide +kernel
theorem eX8_weightOfAll_24 : decode mX8_weightOfAll.2.1 24 = .ok (.iload_n 2, 1) := by decide +kernel
theorem eX8_weightOfAll_25 : decode mX8_weightOfAll.2.1 25 = .ok (.aload_n 0, 1) := by decide +kernel
theorem eX8_weightOfAll_26 : decode mX8_weightOfAll.2.1 26 = .ok (.aload 4, 2) := by decide +kernel
theorem eX8_weightOfAll_28 : decode mX8_weightOfAll.2.1 28 = .ok (.invokevirtual 231, 3) := by decide +kernel
theorem eX8_weightOfAll_31 : decode mX8_weightOfAll.2.1 31 = .ok (.iadd, 1) := by decide +kernel
theorem eX8_weightOfAll_32 : decode mX8_weightOfAll.2.1 32 = .ok (.istore_n 2, 1) := by decide +kernel
theorem eX8_weightOfAll_33 : decode mX8_weightOfAll.2.1 33 = .ok (.iinc 3 1, 3) := by decide +kernel
theorem eX8_weightOfAll_36 : decode mX8_weightOfAll.2.1 36 = .ok (.goto (-32), 3) := by decide +kernel
theorem eX8_weightOfAll_39 : decode mX8_weightOfAll.2.1 39 = .ok (.iload_n 2, 1) := by decide +kernel
theorem eX8_weightOfAll_40 : decode mX8_weightOfAll.2.1 40 = .ok (.ireturn, 1) := by decide +kernel
theorem eX8_putDown_0 : decode mX8_putDown.2.1 0 = .ok (.aload_n 0, 1) := by decide +kernel
theorem eX8_putDown_1 : decode mX8_putDown.2.1 1 = .ok (.iload_n 1, 1) := by decide +kernel
theorem eX8_putDown_2 : decode mX8_putDown.2.1 2 = .ok (.invokevirtual 149, 3) := by decide +kernel
theorem eX8_putDown_5 : decode mX8_putDown.2.1 5 = .ok (.iload_n 2, 1) := by decide +kernel
theorem eX8_putDown_6 : decode mX8_putDown.2.1 6 = .ok (.invokestatic 206, 3) := by decide +kernel
theorem eX8_putDown_9 : decode mX8_putDown.2.1 9 = .ok (.astore 5, 2) := by decide +kernel
theorem eX8_putDown_11 : decode mX8_putDown.2.1 11 = .ok (.aload_n 0, 1) := by decide +kernel
theorem eX8_putDown_12 : decode mX8_putDown.2.1 12 = .ok (.iload_n 3, 1) := by decide +kernel
theorem eX8_putDown_13 : decode mX8_putDown.2.1 13 = .ok (.invokevirtual 76, 3) := by decide +kernel
theorem eX8_putDown_16 : decode mX8_putDown.2.1 16 = .ok (.astore 6, 2) := by decide +kernel
theorem eX8_putDown_18 : decode mX8_putDown.2.1 18 = .ok (.aload 5, 2) := by decide +kernel
theorem eX8_putDown_20 : decode mX8_putDown.2.1 20 = .ok (.ifnull 8, 3) := by decide +kernel
theorem eX8_putDown_23 : decode mX8_putDown.2.1 23 = .ok (.aload 6, 2) := by decide +kernel
theorem eX8_putDown_25 : decode mX8_putDown.2.1 25 = .ok (.ifnonnull 4, 3) := by decide +kernel
theorem eX8_putDown_28 : decode mX8_putDown.2.1 28 = .ok (.return_, 1) := by decide +kernel
theorem eX8_putDown_29 : decode mX8_putDown.2.1 29 = .ok (.aload 6, 2) := by decide +kernel
theorem eX8_putDown_31 : decode mX8_putDown.2.1 31 = .ok (.iload 4, 2) := by decide +kernel
theorem eX8_putDown_33 : decode mX8_putDown.2.1 33 = .ok (.aload 5, 2) := by decide +kernel
theorem eX8_putDown_35 : decode mX8_putDown.2.1 35 = .ok (.getfield 220, 3) := by decide +kernel
theorem eX8_putDown_38 : decode mX8_putDown.2.1 38 = .ok (.iload_n 1, 1) := by decide +kernel
theorem eX8_putDown_39 : decode mX8_putDown.2.1 39 = .ok (.iload_n 2, 1) := by decide +kernel
theorem eX8_putDown_40 : decode mX8_putDown.2.1 40 = .ok (.invokestatic 261, 3) := by decide +kernel
theorem eX8_putDown_43 : decode mX8_putDown.2.1 43 = .ok (.invokevirtual 383, 3) := by decide +kernel
theorem eX8_putDown_46 : decode mX8_putDown.2.1 46 = .ok (.aload 5, 2) := by decide +kernel
theorem eX8_putDown_48 : decode mX8_putDown.2.1 48 = .ok (.iload_n 3, 1) := by decide +kernel
theorem eX8_putDown_49 : decode mX8_putDown.2.1 49 = .ok (.putfield 227, 3) := by decide +kernel
theorem eX8_putDown_52 : decode mX8_putDown.2.1 52 = .ok (.aload 5, 2) := by decide +kernel
theorem eX8_putDown_54 : decode mX8_putDown.2.1 54 = .ok (.iload 4, 2) := by decide +kernel
theorem eX8_putDown_56 : decode mX8_putDown.2.1 56 = .ok (.putfield 230, 3) := by decide +kernel
theorem eX8_putDown_59 : decode mX8_putDown.2.1 59 = .ok (.return_, 1) := by decide +kernel
theorem eX8_pickUp_0 : decode mX8_pickUp.2.1 0 = .ok (.aload_n 0, 1) := by decide +kernel
theorem eX8_pickUp_1 : decode mX8_pickUp.2.1 1 = .ok (.iload_n 1, 1) := by decide +kernel
theorem eX8_pickUp_2 : decode mX8_pickUp.2.1 2 = .ok (.invokevirtual 149, 3) := by decide +kernel
theorem eX8_pickUp_5 : decode mX8_pickUp.2.1 5 = .ok (.iload_n 2, 1) := by decide +kernel
theorem eX8_pickUp_6 : decode mX8_pickUp.2.1 6 = .ok (.invokestatic 206, 3) := by decide +kernel
theorem eX8_pickUp_9 : decode mX8_pickUp.2.1 9 = .ok (.astore_n 3, 1) := by decide +kernel
theorem eX8_pickUp_10 : decode mX8_pickUp.2.1 10 = .ok (.aload_n 3, 1) := by decide +kernel
theorem eX8_pickUp_11 : decode mX8_pickUp.2.1 11 = .ok (.ifnonnull 4, 3) := by decide +kernel
theorem eX8_pickUp_14 : decode mX8_pickUp.2.1 14 = .ok (.return_, 1) := by decide +kernel
theorem eX8_pickUp_15 : decode mX8_pickUp.2.1 15 = .ok (.aload_n 0, 1) := by decide +kernel
theorem eX8_pickUp_16 : decode mX8_pickUp.2.1 16 = .ok (.aload_n 3, 1) := by decide +kernel
theorem eX8_pickUp_17 : decode mX8_pickUp.2.1 17 = .ok (.getfield 227, 3) := by decide +kernel
theorem eX8_pickUp_20 : decode mX8_pickUp.2.1 20 = .ok (.invokevirtual 76, 3) := by decide +kernel
theorem eX8_pickUp_23 : decode mX8_pickUp.2.1 23 = .ok (.astore 4, 2) := by decide +kernel
theorem eX8_pickUp_25 : decode mX8_pickUp.2.1 25 = .ok (.aload 4, 2) := by decide +kernel
theorem eX8_pickUp_27 : decode mX8_pickUp.2.1 27 = .ok (.ifnonnull 4, 3) := by decide +kernel
theorem eX8_pickUp_30 : decode mX8_pickUp.2.1 30 = .ok (.return_, 1) := by decide +kernel
theorem eX8_pickUp_31 : decode mX8_pickUp.2.1 31 = .ok (.aload 4, 2) := by decide +kernel
theorem eX8_pickUp_33 : decode mX8_pickUp.2.1 33 = .ok (.aload_n 3, 1) := by decide +kernel
theorem eX8_pickUp_34 : decode mX8_pickUp.2.1 34 = .ok (.getfield 230, 3) := by decide +kernel
theorem eX8_pickUp_37 : decode mX8_pickUp.2.1 37 = .ok (.aload_n 3, 1) := by decide +kernel
theorem eX8_pickUp_38 : decode mX8_pickUp.2.1 38 = .ok (.getfield 220, 3) := by decide +kernel
theorem eX8_pickUp_41 : decode mX8_pickUp.2.1 41 = .ok (.invokevirtual 386, 3) := by decide +kernel
theorem eX8_pickUp_44 : decode mX8_pickUp.2.1 44 = .ok (.aload_n 3, 1) := by decide +kernel
theorem eX8_pickUp_45 : decode mX8_pickUp.2.1 45 = .ok (.iconst (-1), 1) := by decide +kernel
theorem eX8_pickUp_46 : decode mX8_pickUp.2.1 46 = .ok (.putfield 227, 3) := by decide +kernel
theorem eX8_pickUp_49 : decode mX8_pickUp.2.1 49 = .ok (.aload_n 3, 1) := by decide +kernel
theorem eX8_pickUp_50 : decode mX8_pickUp.2.1 50 = .ok (.iconst (-1), 1) := by decide +kernel
theorem eX8_pickUp_51 : decode mX8_pickUp.2.1 51 = .ok (.putfield 230, 3) := by decide +kernel
theorem eX8_pickUp_54 : decode mX8_pickUp.2.1 54 = .ok (.return_, 1) := by decide +kernel
theorem eX8_piecesToLay_0 : decode mX8_piecesToLay.2.1 0 = .ok (.aload_n 0, 1) := by decide +kernel
theorem eX8_piecesToLay_1 : decode mX8_piecesToLay.2.1 1 = .ok (.iload_n 1, 1) := by decide +kernel
theorem eX8_piecesToLay_2 : decode mX8_piecesToLay.2.1 2 = .ok (.iconst 1, 1) := by decide +kernel
theorem eX8_piecesToLay_3 : decode mX8_piecesToLay.2.1 3 = .ok (.invokevirtual 120, 3) := by decide +kernel
theorem eX8_piecesToLay_6 : decode mX8_piecesToLay.2.1 6 = .ok (.astore_n 2, 1) := by decide +kernel
theorem eX8_piecesToLay_7 : decode mX8_piecesToLay.2.1 7 = .ok (.aload_n 2, 1) := by decide +kernel
theorem eX8_piecesToLay_8 : decode mX8_piecesToLay.2.1 8 = .ok (.ifnonnull 7, 3) := by decide +kernel
theorem eX8_piecesToLay_11 : decode mX8_piecesToLay.2.1 11 = .ok (.iconst 0, 1) := by decide +kernel
theorem eX8_piecesToLay_12 : decode mX8_piecesToLay.2.1 12 = .ok (.goto 7, 3) := by decide +kernel
theorem eX8_piecesToLay_15 : decode mX8_piecesToLay.2.1 15 = .ok (.aload_n 2, 1) := by decide +kernel
theorem eX8_piecesToLay_16 : decode mX8_piecesToLay.2.1 16 = .ok (.getfield 179, 3) := by decide +kernel
theorem eX8_piecesToLay_19 : decode mX8_piecesToLay.2.1 19 = .ok (.ireturn, 1) := by decide +kernel
theorem eX8_isLoose_0 : decode mX8_isLoose.2.1 0 = .ok (.aload_n 0, 1) := by decide +kernel
theorem eX8_isLoose_1 : decode mX8_isLoose.2.1 1 = .ok (.iload_n 1, 1) := by decide +kernel
theorem eX8_isLoose_2 : decode mX8_isLoose.2.1 2 = .ok (.iconst 1, 1) := by decide +kernel
theorem eX8_isLoose_3 : decode mX8_isLoose.2.1 3 = .ok (.invokevirtual 120, 3) := by decide +kernel
theorem eX8_isLoose_6 : decode mX8_isLoose.2.1 6 = .ok (.iload_n 2, 1) := by decide +kernel
theorem eX8_isLoose_7 : decode mX8_isLoose.2.1 7 = .ok (.invokestatic 206, 3) := by decide +kernel
theorem eX8_isLoose_10 : decode mX8_isLoose.2.1 10 = .ok (.astore_n 3, 1) := by decide +kernel
theorem eX8_isLoose_11 : decode mX8_isLoose.2.1 11 = .ok (.aload_n 3, 1) := by decide +kernel
theorem eX8_isLoose_12 : decode mX8_isLoose.2.1 12 = .ok (.ifnull 15, 3) := by decide +kernel
theorem eX8_isLoose_15 : decode mX8_isLoose.2.1 15 = .ok (.aload_n 3, 1) := by decide +kernel
theorem eX8_isLoose_16 : decode mX8_isLoose.2.1 16 = .ok (.getfield 227, 3) := by decide +kernel
theorem eX8_isLoose_19 : decode mX8_isLoose.2.1 19 = .ok (.iconst (-1), 1) := by decide +kernel
theorem eX8_isLoose_20 : decode mX8_isLoose.2.1 20 = .ok (.if_icmp .ne 7, 3) := by decide +kernel
theorem eX8_isLoose_23 : decode mX8_isLoose.2.1 23 = .ok (.iconst 1, 1) := by decide +kernel
theorem eX8_isLoose_24 : decode mX8_isLoose.2.1 24 = .ok (.goto 4, 3) := by decide +kernel
theorem eX8_isLoose_27 : decode mX8_isLoose.2.1 27 = .ok (.iconst 0, 1) := by decide +kernel
theorem eX8_isLoose_28 : decode mX8_isLoose.2.1 28 = .ok (.ireturn, 1) := by decide +kernel
theorem eX8_countLoose_0 : decode mX8_countLoose.2.1 0 = .ok (.iconst 0, 1) := by decide +kernel
theorem eX8_countLoose_1 : decode mX8_countLoose.2.1 1 = .ok (.istore_n 1, 1) := by decide +kernel
theorem eX8_countLoose_2 : decode mX8_countLoose.2.1 2 = .ok (.iconst 0, 1) := by decide +kernel
theorem eX8_countLoose_3 : decode mX8_countLoose.2.1 3 = .ok (.istore_n 2, 1) := by decide +kernel
theorem eX8_countLoose_4 : decode mX8_countLoose.2.1 4 = .ok (.iload_n 2, 1) := by decide +kernel
theorem eX8_countLoose_5 : decode mX8_countLoose.2.1 5 = .ok (.aload_n 0, 1) := by decide +kernel
theorem eX8_countLoose_6 : decode mX8_countLoose.2.1 6 = .ok (.getfield 25, 3) := by decide +kernel
theorem eX8_countLoose_9 : decode mX8_countLoose.2.1 9 = .ok (.if_icmp .ge 27, 3) := by decide +kernel
theorem eX8_countLoose_12 : decode mX8_countLoose.2.1 12 = .ok (.aload_n 0, 1) := by decide +kernel
theorem eX8_countLoose_13 : decode mX8_countLoose.2.1 13 = .ok (.iload_n 2, 1) := by decide +kernel
theorem eX8_countLoose_14 : decode mX8_countLoose.2.1 14 = .ok (.iconst 1, 1) := by decide +kernel
theorem eX8_countLoose_15 : decode mX8_countLoose.2.1 15 = .ok (.invokevirtual 120, 3) := by decide +kernel
theorem eX8_countLoose_18 : decode mX8_countLoose.2.1 18 = .ok (.astore_n 3, 1) := by decide +kernel
theorem eX8_countLoose_19 : decode mX8_countLoose.2.1 19 = .ok (.aload_n 3, 1) := by decide +kernel
theorem eX8_countLoose_20 : decode mX8_countLoose.2.1 20 = .ok (.ifnull 10, 3) := by decide +kernel
theorem eX8_countLoose_23 : decode mX8_countLoose.2.1 23 = .ok (.iload_n 1, 1) := by decide +kernel
theorem eX8_countLoose_24 : decode mX8_countLoose.2.1 24 = .ok (.aload_n 3, 1) := by decide +kernel
theorem eX8_countLoose_25 : decode mX8_countLoose.2.1 25 = .ok (.invokevirtual 268, 3) := by decide +kernel
theorem eX8_countLoose_28 : decode mX8_countLoose.2.1 28 = .ok (.iadd, 1) := by decide +kernel
theorem eX8_countLoose_29 : decode mX8_countLoose.2.1 29 = .ok (.istore_n 1, 1) := by decide +kernel
theorem eX8_countLoose_30 : decode mX8_countLoose.2.1 30 = .ok (.iinc 2 1, 3) := by decide +kernel
theorem eX8_countLoose_33 : decode mX8_countLoose.2.1 33 = .ok (.goto (-29), 3) := by decide +kernel
theorem eX8_countLoose_36 : decode mX8_countLoose.2.1 36 = .ok (.iload_n 1, 1) := by decide +kernel
theorem eX8_countLoose_37 : decode mX8_countLoose.2.1 37 = .ok (.ireturn, 1) := by decide +kernel
theorem eX8_layAtFirst_0 : decode mX8_layAtFirst.2.1 0 = .ok (.aload_n 0, 1) := by decide +kernel
theorem eX8_layAtFirst_1 : decode mX8_layAtFirst.2.1 1 = .ok (.iload_n 1, 1) := by decide +kernel
theorem eX8_layAtFirst_2 : decode mX8_layAtFirst.2.1 2 = .ok (.invokevirtual 149, 3) := by decide +kernel
theorem eX8_layAtFirst_5 : decode mX8_layAtFirst.2.1 5 = .ok (.iload_n 2, 1) := by decide +kernel
theorem eX8_layAtFirst_6 : decode mX8_layAtFirst.2.1 6 = .ok (.invokestatic 206, 3) := by decide +kernel
theorem eX8_layAtFirst_9 : decode mX8_layAtFirst.2.1 9 = .ok (.astore 4, 2) := by decide +kernel
theorem eX8_layAtFirst_11 : decode mX8_layAtFirst.2.1 11 = .ok (.aload 4, 2) := by decide +kernel
theorem eX8_layAtFirst_13 : decode mX8_layAtFirst.2.1 13 = .ok (.ifnonnull 5, 3) := by decide +kernel
theorem eX8_layAtFirst_16 : decode mX8_layAtFirst.2.1 16 = .ok (.iconst 0, 1) := by decide +kernel
theorem eX8_layAtFirst_17 : decode mX8_layAtFirst.2.1 17 = .ok (.ireturn, 1) := by decide +kernel
theorem eX8_layAtFirst_18 : decode mX8_layAtFirst.2.1 18 = .ok (.iconst 0, 1) := by decide +kernel
theorem eX8_layAtFirst_19 : decode mX8_layAtFirst.2.1 19 = .ok (.istore 5, 2) := by decide +kernel
theorem eX8_layAtFirst_21 : decode mX8_layAtFirst.2.1 21 = .ok (.iload 5, 2) := by decide +kernel
theorem eX8_layAtFirst_23 : decode mX8_layAtFirst.2.1 23 = .ok (.aload_n 0, 1) := by decide +kernel
theorem eX8_layAtFirst_24 : decode mX8_layAtFirst.2.1 24 = .ok (.getfield 15, 3) := by decide +kernel
theorem eX8_layAtFirst_27 : decode mX8_layAtFirst.2.1 27 = .ok (.if_icmp .ge 54, 3) := by decide +kernel
theorem eX8_layAtFirst_30 : decode mX8_layAtFirst.2.1 30 = .ok (.aload_n 0, 1) := by decide +kernel
theorem eX8_layAtFirst_31 : decode mX8_layAtFirst.2.1 31 = .ok (.iload 5, 2) := by decide +kernel
theorem eX8_layAtFirst_33 : decode mX8_layAtFirst.2.1 33 = .ok (.invokevirtual 76, 3) := by decide +kernel
theorem eX8_layAtFirst_36 : decode mX8_layAtFirst.2.1 36 = .ok (.astore 6, 2) := by decide +kernel
theorem eX8_layAtFirst_38 : decode mX8_layAtFirst.2.1 38 = .ok (.aload 6, 2) := by decide +kernel
theorem eX8_layAtFirst_40 : decode mX8_layAtFirst.2.1 40 = .ok (.ifnonnull 7, 3) := by decide +kernel
theorem eX8_layAtFirst_43 : decode mX8_layAtFirst.2.1 43 = .ok (.iconst (-1), 1) := by decide +kernel
theorem eX8_layAtFirst_44 : decode mX8_layAtFirst.2.1 44 = .ok (.goto 11, 3) := by decide +kernel
theorem eX8_layAtFirst_47 : decode mX8_layAtFirst.2.1 47 = .ok (.aload 6, 2) := by decide +kernel
theorem eX8_layAtFirst_49 : decode mX8_layAtFirst.2.1 49 = .ok (.aload 4, 2) := by decide +kernel
theorem eX8_layAtFirst_51 : decode mX8_layAtFirst.2.1 51 = .ok (.iload_n 3, 1) := by decide +kernel
theorem eX8_layAtFirst_52 : decode mX8_layAtFirst.2.1 52 = .ok (.invokevirtual 389, 3) := by decide +kernel
theorem eX8_layAtFirst_55 : decode mX8_layAtFirst.2.1 55 = .ok (.istore 7, 2) := by decide +kernel
theorem eX8_layAtFirst_57 : decode mX8_layAtFirst.2.1 57 = .ok (.iload 7, 2) := by decide +kernel
theorem eX8_layAtFirst_59 : decode mX8_layAtFirst.2.1 59 = .ok (.iconst (-1), 1) := by decide +kernel
theorem eX8_layAtFirst_60 : decode mX8_layAtFirst.2.1 60 = .ok (.if_icmp .eq 15, 3) := by decide +kernel
theorem eX8_layAtFirst_63 : decode mX8_layAtFirst.2.1 63 = .ok (.aload_n 0, 1) := by decide +kernel
theorem eX8_layAtFirst_64 : decode mX8_layAtFirst.2.1 64 = .ok (.iload_n 1, 1) := by decide +kernel
theorem eX8_layAtFirst_65 : decode mX8_layAtFirst.2.1 65 = .ok (.iload_n 2, 1) := by decide +kernel
theorem eX8_layAtFirst_66 : decode mX8_layAtFirst.2.1 66 = .ok (.iload 5, 2) := by decide +kernel
theorem eX8_layAtFirst_68 : decode mX8_layAtFirst.2.1 68 = .ok (.iload 7, 2) := by decide +kernel
theorem eX8_layAtFirst_70 : decode mX8_layAtFirst.2.1 70 = .ok (.invokevirtual 241, 3) := by decide +kernel
theorem eX8_layAtFirst_73 : decode mX8_layAtFirst.2.1 73 = .ok (.iconst 1, 1) := by decide +kernel
theorem eX8_layAtFirst_74 : decode mX8_layAtFirst.2.1 74 = .ok (.ireturn, 1) := by decide +kernel
theorem eX8_layAtFirst_75 : decode mX8_layAtFirst.2.1 75 = .ok (.iinc 5 1, 3) := by decide +kernel
theorem eX8_layAtFirst_78 : decode mX8_layAtFirst.2.1 78 = .ok (.goto (-57), 3) := by decide +kernel
theorem eX8_layAtFirst_81 : decode mX8_layAtFirst.2.1 81 = .ok (.iconst 0, 1) := by decide +kernel
theorem eX8_layAtFirst_82 : decode mX8_layAtFirst.2.1 82 = .ok (.ireturn, 1) := by decide +kernel
theorem eX8_hoistAll_0 : decode mX8_hoistAll.2.1 0 = .ok (.aload_n 0, 1) := by decide +kernel
theorem eX8_hoistAll_1 : decode mX8_hoistAll.2.1 1 = .ok (.getfield 31, 3) := by decide +kernel
theorem eX8_hoistAll_4 : decode mX8_hoistAll.2.1 4 = .ok (.invokevirtual 393, 3) := by decide +kernel
theorem eX8_hoistAll_7 : decode mX8_hoistAll.2.1 7 = .ok (.iconst 0, 1) := by decide +kernel
theorem eX8_hoistAll_8 : decode mX8_hoistAll.2.1 8 = .ok (.istore_n 1, 1) := by decide +kernel
theorem eX8_hoistAll_9 : decode mX8_hoistAll.2.1 9 = .ok (.iload_n 1, 1) := by decide +kernel
theorem eX8_hoistAll_10 : decode mX8_hoistAll.2.1 10 = .ok (.aload_n 0, 1) := by decide +kernel
theorem eX8_hoistAll_11 : decode mX8_hoistAll.2.1 11 = .ok (.getfield 25, 3) := by decide +kernel
theorem eX8_hoistAll_14 : decode mX8_hoistAll.2.1 14 = .ok (.if_icmp .ge 34, 3) := by decide +kernel
theorem eX8_hoistAll_17 : decode mX8_hoistAll.2.1 17 = .ok (.aload_n 0, 1) := by decide +kernel
theorem eX8_hoistAll_18 : decode mX8_hoistAll.2.1 18 = .ok (.iload_n 1, 1) := by decide +kernel
theorem eX8_hoistAll_19 : decode mX8_hoistAll.2.1 19 = .ok (.invokevirtual 149, 3) := by decide +kernel
theorem eX8_hoistAll_22 : decode mX8_hoistAll.2.1 22 = .ok (.astore_n 2, 1) := by decide +kernel
theorem eX8_hoistAll_23 : decode mX8_hoistAll.2.1 23 = .ok (.aload_n 2, 1) := by decide +kernel
theorem eX8_hoistAll_24 : decode mX8_hoistAll.2.1 24 = .ok (.ifnull 18, 3) := by decide +kernel
theorem eX8_hoistAll_27 : decode mX8_hoistAll.2.1 27 = .ok (.aload_n 2, 1) := by decide +kernel
theorem eX8_hoistAll_28 : decode mX8_hoistAll.2.1 28 = .ok (.getfield 195, 3) := by decide +kernel
theorem eX8_hoistAll_31 : decode mX8_hoistAll.2.1 31 = .ok (.ifCond .eq 11, 3) := by decide +kernel
theorem eX8_hoistAll_34 : decode mX8_hoistAll.2.1 34 = .ok (.aload_n 0, 1) := by decide +kernel
theorem eX8_hoistAll_35 : decode mX8_hoistAll.2.1 35 = .ok (.getfield 31, 3) := by decide +kernel
theorem eX8_hoistAll_38 : decode mX8_hoistAll.2.1 38 = .ok (.aload_n 2, 1) := by decide +kernel
theorem eX8_hoistAll_39 : decode mX8_hoistAll.2.1 39 = .ok (.invokevirtual 396, 3) := by decide +kernel
theorem eX8_hoistAll_42 : decode mX8_hoistAll.2.1 42 = .ok (.iinc 1 1, 3) := by decide +kernel
theorem eX8_hoistAll_45 : decode mX8_hoistAll.2.1 45 = .ok (.goto (-36), 3) := by decide +kernel
theorem eX8_hoistAll_48 : decode mX8_hoistAll.2.1 48 = .ok (.return_, 1) := by decide +kernel
