theorem eX0_init_0 : decode mX0_init.2.1 0 = .ok (.aload_n 0, 1) := by decide +kernel
theorem eX0_init_1 : decode mX0_init.2.1 1 = .ok (.invokespecial 1, 3) := by decide +kernel
theorem eX0_init_4 : decode mX0_init.2.1 4 = .ok (.aload_n 0, 1) := by decide +kernel
theorem eX0_init_5 : decode mX0_init.2.1 5 = .ok (.iconst 0, 1) := by decide +kernel
theorem eX0_init_6 : decode mX0_init.2.1 6 = .ok (.putfield 7, 3) := by decide +kernel
theorem eX0_init_9 : decode mX0_init.2.1 9 = .ok (.aload_n 0, 1) := by decide +kernel
theorem eX0_init_10 : decode mX0_init.2.1 10 = .ok (.aconst_null, 1) := by decide +kernel
theorem eX0_init_11 : decode mX0_init.2.1 11 = .ok (.putfield 13, 3) := by decide +kernel
theorem eX0_init_14 : decode mX0_init.2.1 14 = .ok (.aload_n 0, 1) := by decide +kernel
theorem eX0_init_15 : decode mX0_init.2.1 15 = .ok (.aconst_null, 1) := by decide +kernel
theorem eX0_init_16 : decode mX0_init.2.1 16 = .ok (.putfield 17, 3) := by decide +kernel
theorem eX0_init_19 : decode mX0_init.2.1 19 = .ok (.aload_n 0, 1) := by decide +kernel
theorem eX0_init_20 : decode mX0_init.2.1 20 = .ok (.aconst_null, 1) := by decide +kernel
theorem eX0_init_21 : decode mX0_init.2.1 21 = .ok (.putfield 21, 3) := by decide +kernel
theorem eX0_init_24 : decode mX0_init.2.1 24 = .ok (.aload_n 0, 1) := by decide +kernel
theorem eX0_init_25 : decode mX0_init.2.1 25 = .ok (.iload_n 1, 1) := by decide +kernel
theorem eX0_init_26 : decode mX0_init.2.1 26 = .ok (.putfield 25, 3) := by decide +kernel
theorem eX0_init_29 : decode mX0_init.2.1 29 = .ok (.aload_n 0, 1) := by decide +kernel
theorem eX0_init_30 : decode mX0_init.2.1 30 = .ok (.iload_n 2, 1) := by decide +kernel
theorem eX0_init_31 : decode mX0_init.2.1 31 = .ok (.putfield 28, 3) := by decide +kernel
theorem eX0_init_34 : decode mX0_init.2.1 34 = .ok (.aload_n 0, 1) := by decide +kernel
theorem eX0_init_35 : decode mX0_init.2.1 35 = .ok (.iload_n 3, 1) := by decide +kernel
theorem eX0_init_36 : decode mX0_init.2.1 36 = .ok (.putfield 31, 3) := by decide +kernel
theorem eX0_init_39 : decode mX0_init.2.1 39 = .ok (.aload_n 0, 1) := by decide +kernel
theorem eX0_init_40 : decode mX0_init.2.1 40 = .ok (.iload 4, 2) := by decide +kernel
theorem eX0_init_42 : decode mX0_init.2.1 42 = .ok (.putfield 34, 3) := by decide +kernel
theorem eX0_init_45 : decode mX0_init.2.1 45 = .ok (.return_, 1) := by decide +kernel
theorem eX1_init_0 : decode mX1_init.2.1 0 = .ok (.aload_n 0, 1) := by decide +kernel
theorem eX1_init_1 : decode mX1_init.2.1 1 = .ok (.invokespecial 3, 3) := by decide +kernel
theorem eX1_init_4 : decode mX1_init.2.1 4 = .ok (.aload_n 0, 1) := by decide +kernel
theorem eX1_init_5 : decode mX1_init.2.1 5 = .ok (.iconst 0, 1) := by decide +kernel
theorem eX1_init_6 : decode mX1_init.2.1 6 = .ok (.putfield 9, 3) := by decide +kernel
theorem eX1_init_9 : decode mX1_init.2.1 9 = .ok (.aload_n 0, 1) := by decide +kernel
theorem eX1_init_10 : decode mX1_init.2.1 10 = .ok (.iconst 0, 1) := by decide +kernel
theorem eX1_init_11 : decode mX1_init.2.1 11 = .ok (.putfield 15, 3) := by decide +kernel
theorem eX1_init_14 : decode mX1_init.2.1 14 = .ok (.aload_n 0, 1) := by decide +kernel
theorem eX1_init_15 : decode mX1_init.2.1 15 = .ok (.fconst 0, 1) := by decide +kernel
theorem eX1_init_16 : decode mX1_init.2.1 16 = .ok (.putfield 18, 3) := by decide +kernel
theorem eX1_init_19 : decode mX1_init.2.1 19 = .ok (.aload_n 0, 1) := by decide +kernel
theorem eX1_init_20 : decode mX1_init.2.1 20 = .ok (.iconst (-1), 1) := by decide +kernel
theorem eX1_init_21 : decode mX1_init.2.1 21 = .ok (.putfield 22, 3) := by decide +kernel
theorem eX1_init_24 : decode mX1_init.2.1 24 = .ok (.aload_n 0, 1) := by decide +kernel
theorem eX1_init_25 : decode mX1_init.2.1 25 = .ok (.aconst_null, 1) := by decide +kernel
theorem eX1_init_26 : decode mX1_init.2.1 26 = .ok (.putfield 25, 3) := by decide +kernel
theorem eX1_init_29 : decode mX1_init.2.1 29 = .ok (.aload_n 0, 1) := by decide +kernel
theorem eX1_init_30 : decode mX1_init.2.1 30 = .ok (.iconst 0, 1) := by decide +kernel
theorem eX1_init_31 : decode mX1_init.2.1 31 = .ok (.putfield 29, 3) := by decide +kernel
theorem eX1_init_34 : decode mX1_init.2.1 34 = .ok (.aload_n 0, 1) := by decide +kernel
theorem eX1_init_35 : decode mX1_init.2.1 35 = .ok (.sipush 200, 3) := by decide +kernel
theorem eX1_init_38 : decode mX1_init.2.1 38 = .ok (.newarray .short, 2) := by decide +kernel
theorem eX1_init_40 : decode mX1_init.2.1 40 = .ok (.putfield 32, 3) := by decide +kernel
theorem eX1_init_43 : decode mX1_init.2.1 43 = .ok (.return_, 1) := by decide +kernel
theorem eX1_begin_0 : decode mX1_begin.2.1 0 = .ok (.aload_n 0, 1) := by decide +kernel
theorem eX1_begin_1 : decode mX1_begin.2.1 1 = .ok (.iload_n 1, 1) := by decide +kernel
theorem eX1_begin_2 : decode mX1_begin.2.1 2 = .ok (.putfield 9, 3) := by decide +kernel
theorem eX1_begin_5 : decode mX1_begin.2.1 5 = .ok (.aload_n 0, 1) := by decide +kernel
theorem eX1_begin_6 : decode mX1_begin.2.1 6 = .ok (.iload_n 2, 1) := by decide +kernel
theorem eX1_begin_7 : decode mX1_begin.2.1 7 = .ok (.putfield 15, 3) := by decide +kernel
theorem eX1_begin_10 : decode mX1_begin.2.1 10 = .ok (.aload_n 0, 1) := by decide +kernel
theorem eX1_begin_11 : decode mX1_begin.2.1 11 = .ok (.fload_n 3, 1) := by decide +kernel
theorem eX1_begin_12 : decode mX1_begin.2.1 12 = .ok (.putfield 18, 3) := by decide +kernel
theorem eX1_begin_15 : decode mX1_begin.2.1 15 = .ok (.aload_n 0, 1) := by decide +kernel
theorem eX1_begin_16 : decode mX1_begin.2.1 16 = .ok (.iload 4, 2) := by decide +kernel
theorem eX1_begin_18 : decode mX1_begin.2.1 18 = .ok (.putfield 22, 3) := by decide +kernel
theorem eX1_begin_21 : decode mX1_begin.2.1 21 = .ok (.aload_n 0, 1) := by decide +kernel
theorem eX1_begin_22 : decode mX1_begin.2.1 22 = .ok (.aconst_null, 1) := by decide +kernel
theorem eX1_begin_23 : decode mX1_begin.2.1 23 = .ok (.putfield 25, 3) := by decide +kernel
theorem eX1_begin_26 : decode mX1_begin.2.1 26 = .ok (.aload_n 0, 1) := by decide +kernel
theorem eX1_begin_27 : decode mX1_begin.2.1 27 = .ok (.iconst 0, 1) := by decide +kernel
theorem eX1_begin_28 : decode mX1_begin.2.1 28 = .ok (.putfield 29, 3) := by decide +kernel
theorem eX1_begin_31 : decode mX1_begin.2.1 31 = .ok (.aload_n 0, 1) := by decide +kernel
theorem eX1_begin_32 : decode mX1_begin.2.1 32 = .ok (.getfield 32, 3) := by decide +kernel
theorem eX1_begin_35 : decode mX1_begin.2.1 35 = .ok (.iconst (-1), 1) := by decide +kernel
theorem eX1_begin_36 : decode mX1_begin.2.1 36 = .ok (.invokestatic 36, 3) := by decide +kernel
theorem eX1_begin_39 : decode mX1_begin.2.1 39 = .ok (.return_, 1) := by decide +kernel
theorem eX1_hasPlace_0 : decode mX1_hasPlace.2.1 0 = .ok (.iload_n 1, 1) := by decide +kernel
theorem eX1_hasPlace_1 : decode mX1_hasPlace.2.1 1 = .ok (.ifCond .lt 24, 3) := by decide +kernel
theorem eX1_hasPlace_4 : decode mX1_hasPlace.2.1 4 = .ok (.iload_n 1, 1) := by decide +kernel
theorem eX1_hasPlace_5 : decode mX1_hasPlace.2.1 5 = .ok (.aload_n 0, 1) := by decide +kernel
theorem eX1_hasPlace_6 : decode mX1_hasPlace.2.1 6 = .ok (.getfield 15, 3) := by decide +kernel
theorem eX1_hasPlace_9 : decode mX1_hasPlace.2.1 9 = .ok (.if_icmp .ge 16, 3) := by decide +kernel
theorem eX1_hasPlace_12 : decode mX1_hasPlace.2.1 12 = .ok (.iload_n 1, 1) := by decide +kernel
theorem eX1_hasPlace_13 : decode mX1_hasPlace.2.1 13 = .ok (.aload_n 0, 1) := by decide +kernel
theorem eX1_hasPlace_14 : decode mX1_hasPlace.2.1 14 = .ok (.getfield 32, 3) := by decide +kernel
theorem eX1_hasPlace_17 : decode mX1_hasPlace.2.1 17 = .ok (.arraylength, 1) := by decide +kernel
theorem eX1_hasPlace_18 : decode mX1_hasPlace.2.1 18 = .ok (.if_icmp .ge 7, 3) := by decide +kernel
theorem eX1_hasPlace_21 : decode mX1_hasPlace.2.1 21 = .ok (.iconst 1, 1) := by decide +kernel
theorem eX1_hasPlace_22 : decode mX1_hasPlace.2.1 22 = .ok (.goto 4, 3) := by decide +kernel
theorem eX1_hasPlace_25 : decode mX1_hasPlace.2.1 25 = .ok (.iconst 0, 1) := by decide +kernel
theorem eX1_hasPlace_26 : decode mX1_hasPlace.2.1 26 = .ok (.ireturn, 1) := by decide +kernel
theorem eX1_tellsPlace_0 : decode mX1_tellsPlace.2.1 0 = .ok (.aload_n 0, 1) := by decide +kernel
theorem eX1_tellsPlace_1 : decode mX1_tellsPlace.2.1 1 = .ok (.getfield 25, 3) := by decide +kernel
theorem eX1_tellsPlace_4 : decode mX1_tellsPlace.2.1 4 = .ok (.ifnull 20, 3) := by decide +kernel
theorem eX1_tellsPlace_7 : decode mX1_tellsPlace.2.1 7 = .ok (.iload_n 1, 1) := by decide +kernel
theorem eX1_tellsPlace_8 : decode mX1_tellsPlace.2.1 8 = .ok (.ifCond .lt 16, 3) := by decide +kernel
theorem eX1_tellsPlace_11 : decode mX1_tellsPlace.2.1 11 = .ok (.iload_n 1, 1) := by decide +kernel
theorem eX1_tellsPlace_12 : decode mX1_tellsPlace.2.1 12 = .ok (.aload_n 0, 1) := by decide +kernel
theorem eX1_tellsPlace_13 : decode mX1_tellsPlace.2.1 13 = .ok (.getfield 25, 3) := by decide +kernel
theorem eX1_tellsPlace_16 : decode mX1_tellsPlace.2.1 16 = .ok (.arraylength, 1) := by decide +kernel
theorem eX1_tellsPlace_17 : decode mX1_tellsPlace.2.1 17 = .ok (.if_icmp .ge 7, 3) := by decide +kernel
theorem eX1_tellsPlace_20 : decode mX1_tellsPlace.2.1 20 = .ok (.iconst 1, 1) := by decide +kernel
theorem eX1_tellsPlace_21 : decode mX1_tellsPlace.2.1 21 = .ok (.goto 4, 3) := by decide +kernel
theorem eX1_tellsPlace_24 : decode mX1_tellsPlace.2.1 24 = .ok (.iconst 0, 1) := by decide +kernel
theorem eX1_tellsPlace_25 : decode mX1_tellsPlace.2.1 25 = .ok (.ireturn, 1) := by decide +kernel
theorem eX1_wornAt_0 : decode mX1_wornAt.2.1 0 = .ok (.aload_n 0, 1) := by decide +kernel
theorem eX1_wornAt_1 : decode mX1_wornAt.2.1 1 = .ok (.iload_n 1, 1) := by decide +kernel
theorem eX1_wornAt_2 : decode mX1_wornAt.2.1 2 = .ok (.invokevirtual 42, 3) := by decide +kernel
theorem eX1_wornAt_5 : decode mX1_wornAt.2.1 5 = .ok (.ifCond .eq 12, 3) := by decide +kernel
theorem eX1_wornAt_8 : decode mX1_wornAt.2.1 8 = .ok (.aload_n 0, 1) := by decide +kernel
theorem eX1_wornAt_9 : decode mX1_wornAt.2.1 9 = .ok (.getfield 25, 3) := by decide +kernel
theorem eX1_wornAt_12 : decode mX1_wornAt.2.1 12 = .ok (.iload_n 1, 1) := by decide +kernel
theorem eX1_wornAt_13 : decode mX1_wornAt.2.1 13 = .ok (.baload, 1) := by decide +kernel
theorem eX1_wornAt_14 : decode mX1_wornAt.2.1 14 = .ok (.goto 4, 3) := by decide +kernel
theorem eX1_wornAt_17 : decode mX1_wornAt.2.1 17 = .ok (.iconst 0, 1) := by decide +kernel
theorem eX1_wornAt_18 : decode mX1_wornAt.2.1 18 = .ok (.ireturn, 1) := by decide +kernel
theorem eX1_putWorn_0 : decode mX1_putWorn.2.1 0 = .ok (.aload_n 0, 1) := by decide +kernel
theorem eX1_putWorn_1 : decode mX1_putWorn.2.1 1 = .ok (.iload_n 1, 1) := by decide +kernel
theorem eX1_putWorn_2 : decode mX1_putWorn.2.1 2 = .ok (.invokevirtual 42, 3) := by decide +kernel
theorem eX1_putWorn_5 : decode mX1_putWorn.2.1 5 = .ok (.ifCond .eq 11, 3) := by decide +kernel
theorem eX1_putWorn_8 : decode mX1_putWorn.2.1 8 = .ok (.aload_n 0, 1) := by decide +kernel
theorem eX1_putWorn_9 : decode mX1_putWorn.2.1 9 = .ok (.getfield 25, 3) := by decide +kernel
theorem eX1_putWorn_12 : decode mX1_putWorn.2.1 12 = .ok (.iload_n 1, 1) := by decide +kernel
theorem eX1_putWorn_13 : decode mX1_putWorn.2.1 13 = .ok (.iload_n 2, 1) := by decide +kernel
theorem eX1_putWorn_14 : decode mX1_putWorn.2.1 14 = .ok (.i2b, 1) := by decide +kernel
theorem eX1_putWorn_15 : decode mX1_putWorn.2.1 15 = .ok (.bastore, 1) := by decide +kernel
theorem eX1_putWorn_16 : decode mX1_putWorn.2.1 16 = .ok (.return_, 1) := by decide +kernel
theorem eX1_codeAt_0 : decode mX1_codeAt.2.1 0 = .ok (.aload_n 0, 1) := by decide +kernel
theorem eX1_codeAt_1 : decode mX1_codeAt.2.1 1 = .ok (.iload_n 1, 1) := by decide +kernel
theorem eX1_codeAt_2 : decode mX1_codeAt.2.1 2 = .ok (.invokevirtual 46, 3) := by decide +kernel
theorem eX1_codeAt_5 : decode mX1_codeAt.2.1 5 = .ok (.ifCond .eq 12, 3) := by decide +kernel
theorem eX1_codeAt_8 : decode mX1_codeAt.2.1 8 = .ok (.aload_n 0, 1) := by decide +kernel
theorem eX1_codeAt_9 : decode mX1_codeAt.2.1 9 = .ok (.getfield 32, 3) := by decide +kernel
theorem eX1_codeAt_12 : decode mX1_codeAt.2.1 12 = .ok (.iload_n 1, 1) := by decide +kernel
theorem eX1_codeAt_13 : decode mX1_codeAt.2.1 13 = .ok (.saload, 1) := by decide +kernel
theorem eX1_codeAt_14 : decode mX1_codeAt.2.1 14 = .ok (.goto 4, 3) := by decide +kernel
theorem eX1_codeAt_17 : decode mX1_codeAt.2.1 17 = .ok (.iconst (-1), 1) := by decide +kernel
theorem eX1_codeAt_18 : decode mX1_codeAt.2.1 18 = .ok (.ireturn, 1) := by decide +kernel
theorem eX1_isFree_0 : decode mX1_isFree.2.1 0 = .ok (.aload_n 0, 1) := by decide +kernel
theorem eX1_isFree_1 : decode mX1_isFree.2.1 1 = .ok (.iload_n 1, 1) := by decide +kernel
theorem eX1_isFree_2 : decode mX1_isFree.2.1 2 = .ok (.invokevirtual 46, 3) := by decide +kernel
theorem eX1_isFree_5 : decode mX1_isFree.2.1 5 = .ok (.ifCond .eq 26, 3) := by decide +kernel
theorem eX1_isFree_8 : decode mX1_isFree.2.1 8 = .ok (.aload_n 0, 1) := by decide +kernel
theorem eX1_isFree_9 : decode mX1_isFree.2.1 9 = .ok (.getfield 32, 3) := by decide +kernel
theorem eX1_isFree_12 : decode mX1_isFree.2.1 12 = .ok (.iload_n 1, 1) := by decide +kernel
theorem eX1_isFree_13 : decode mX1_isFree.2.1 13 = .ok (.saload, 1) := by decide +kernel
theorem eX1_isFree_14 : decode mX1_isFree.2.1 14 = .ok (.iconst (-1), 1) := by decide +kernel
theorem eX1_isFree_15 : decode mX1_isFree.2.1 15 = .ok (.if_icmp .ne 16, 3) := by decide +kernel
theorem eX1_isFree_18 : decode mX1_isFree.2.1 18 = .ok (.aload_n 0, 1) := by decide +kernel
theorem eX1_isFree_19 : decode mX1_isFree.2.1 19 = .ok (.iload_n 1, 1) := by decide +kernel
theorem eX1_isFree_20 : decode mX1_isFree.2.1 20 = .ok (.invokevirtual 49, 3) := by decide +kernel
theorem eX1_isFree_23 : decode mX1_isFree.2.1 23 = .ok (.iload_n 2, 1) := by decide +kernel
theorem eX1_isFree_24 : decode mX1_isFree.2.1 24 = .ok (.if_icmp .gt 7, 3) := by decide +kernel
theorem eX1_isFree_27 : decode mX1_isFree.2.1 27 = .ok (.iconst 1, 1) := by decide +kernel
theorem eX1_isFree_28 : decode mX1_isFree.2.1 28 = .ok (.goto 4, 3) := by decide +kernel
theorem eX1_isFree_31 : decode mX1_isFree.2.1 31 = .ok (.iconst 0, 1) := by decide +kernel
theorem eX1_isFree_32 : decode mX1_isFree.2.1 32 = .ok (.ireturn, 1) := by decide +kernel
theorem eX1_isWornAtMost_0 : decode mX1_isWornAtMost.2.1 0 = .ok (.iconst 0, 1) := by decide +kernel
theorem eX1_isWornAtMost_1 : decode mX1_isWornAtMost.2.1 1 = .ok (.istore_n 2, 1) := by decide +kernel
theorem eX1_isWornAtMost_2 : decode mX1_isWornAtMost.2.1 2 = .ok (.iload_n 2, 1) := by decide +kernel
theorem eX1_isWornAtMost_3 : decode mX1_isWornAtMost.2.1 3 = .ok (.aload_n 0, 1) := by decide +kernel
theorem eX1_isWornAtMost_4 : decode mX1_isWornAtMost.2.1 4 = .ok (.getfield 15, 3) := by decide +kernel
theorem eX1_isWornAtMost_7 : decode mX1_isWornAtMost.2.1 7 = .ok (.if_icmp .ge 20, 3) := by decide +kernel
theorem eX1_isWornAtMost_10 : decode mX1_isWornAtMost.2.1 10 = .ok (.aload_n 0, 1) := by decide +kernel
theorem eX1_isWornAtMost_11 : decode mX1_isWornAtMost.2.1 11 = .ok (.iload_n 2, 1) := by decide +kernel
theorem eX1_isWornAtMost_12 : decode mX1_isWornAtMost.2.1 12 = .ok (.invokevirtual 49, 3) := by decide +kernel
theorem eX1_isWornAtMost_15 : decode mX1_isWornAtMost.2.1 15 = .ok (.iload_n 1, 1) := by decide +kernel
theorem eX1_isWornAtMost_16 : decode mX1_isWornAtMost.2.1 16 = .ok (.if_icmp .le 5, 3) := by decide +kernel
theorem eX1_isWornAtMost_19 : decode mX1_isWornAtMost.2.1 19 = .ok (.iconst 0, 1) := by decide +kernel
theorem eX1_isWornAtMost_20 : decode mX1_isWornAtMost.2.1 20 = .ok (.ireturn, 1) := by decide +kernel
theorem eX1_isWornAtMost_21 : decode mX1_isWornAtMost.2.1 21 = .ok (.iinc 2 1, 3) := by decide +kernel
theorem eX1_isWornAtMost_24 : decode mX1_isWornAtMost.2.1 24 = .ok (.goto (-22), 3) := by decide +kernel
theorem eX1_isWornAtMost_27 : decode mX1_isWornAtMost.2.1 27 = .ok (.iconst 1, 1) := by decide +kernel
theorem eX1_isWornAtMost_28 : decode mX1_isWornAtMost.2.1 28 = .ok (.ireturn, 1) := by decide +kernel
theorem eX1_takes_0 : decode mX1_takes.2.1 0 = .ok (.aload_n 1, 1) := by decide +kernel
theorem eX1_takes_1 : decode mX1_takes.2.1 1 = .ok (.getfield 53, 3) := by decide +kernel
theorem eX1_takes_4 : decode mX1_takes.2.1 4 = .ok (.aload_n 0, 1) := by decide +kernel
theorem eX1_takes_5 : decode mX1_takes.2.1 5 = .ok (.getfield 9, 3) := by decide +kernel
theorem eX1_takes_8 : decode mX1_takes.2.1 8 = .ok (.if_icmp .gt 20, 3) := by decide +kernel
theorem eX1_takes_11 : decode mX1_takes.2.1 11 = .ok (.iload_n 2, 1) := by decide +kernel
theorem eX1_takes_12 : decode mX1_takes.2.1 12 = .ok (.ifCond .lt 16, 3) := by decide +kernel
theorem eX1_takes_15 : decode mX1_takes.2.1 15 = .ok (.iload_n 2, 1) := by decide +kernel
theorem eX1_takes_16 : decode mX1_takes.2.1 16 = .ok (.aload_n 0, 1) := by decide +kernel
theorem eX1_takes_17 : decode mX1_takes.2.1 17 = .ok (.getfield 15, 3) := by decide +kernel
theorem eX1_takes_20 : decode mX1_takes.2.1 20 = .ok (.aload_n 1, 1) := by decide +kernel
theorem eX1_takes_21 : decode mX1_takes.2.1 21 = .ok (.getfield 58, 3) := by decide +kernel
theorem eX1_takes_24 : decode mX1_takes.2.1 24 = .ok (.isub, 1) := by decide +kernel
theorem eX1_takes_25 : decode mX1_takes.2.1 25 = .ok (.if_icmp .le 5, 3) := by decide +kernel
theorem eX1_takes_28 : decode mX1_takes.2.1 28 = .ok (.iconst 0, 1) := by decide +kernel
theorem eX1_takes_29 : decode mX1_takes.2.1 29 = .ok (.ireturn, 1) := by decide +kernel
theorem eX1_takes_30 : decode mX1_takes.2.1 30 = .ok (.iload_n 2, 1) := by decide +kernel
theorem eX1_takes_31 : decode mX1_takes.2.1 31 = .ok (.istore 4, 2) := by decide +kernel
theorem eX1_takes_33 : decode mX1_takes.2.1 33 = .ok (.iload 4, 2) := by decide +kernel
theorem eX1_takes_35 : decode mX1_takes.2.1 35 = .ok (.iload_n 2, 1) := by decide +kernel
theorem eX1_takes_36 : decode mX1_takes.2.1 36 = .ok (.aload_n 1, 1) := by decide +kernel
theorem eX1_takes_37 : decode mX1_takes.2.1 37 = .ok (.getfield 58, 3) := by decide +kernel
theorem eX1_takes_40 : decode mX1_takes.2.1 40 = .ok (.iadd, 1) := by decide +kernel
theorem eX1_takes_41 : decode mX1_takes.2.1 41 = .ok (.if_icmp .ge 21, 3) := by decide +kernel
theorem eX1_takes_44 : decode mX1_takes.2.1 44 = .ok (.aload_n 0, 1) := by decide +kernel
theorem eX1_takes_45 : decode mX1_takes.2.1 45 = .ok (.iload 4, 2) := by decide +kernel
theorem eX1_takes_47 : decode mX1_takes.2.1 47 = .ok (.iload_n 3, 1) := by decide +kernel
theorem eX1_takes_48 : decode mX1_takes.2.1 48 = .ok (.invokevirtual 59, 3) := by decide +kernel
theorem eX1_takes_51 : decode mX1_takes.2.1 51 = .ok (.ifCond .ne 5, 3) := by decide +kernel
theorem eX1_takes_54 : decode mX1_takes.2.1 54 = .ok (.iconst 0, 1) := by decide +kernel
theorem eX1_takes_55 : decode mX1_takes.2.1 55 = .ok (.ireturn, 1) := by decide +kernel
theorem eX1_takes_56 : decode mX1_takes.2.1 56 = .ok (.iinc 4 1, 3) := by decide +kernel
theorem eX1_takes_59 : decode mX1_takes.2.1 59 = .ok (.goto (-26), 3) := by decide +kernel
theorem eX1_takes_62 : decode mX1_takes.2.1 62 = .ok (.iconst 1, 1) := by decide +kernel
theorem eX1_takes_63 : decode mX1_takes.2.1 63 = .ok (.ireturn, 1) := by decide +kernel
theorem eX1_firstPlaceFor_0 : decode mX1_firstPlaceFor.2.1 0 = .ok (.aload_n 1, 1) := by decide +kernel
theorem eX1_firstPlaceFor_1 : decode mX1_firstPlaceFor.2.1 1 = .ok (.getfield 53, 3) := by decide +kernel
theorem eX1_firstPlaceFor_4 : decode mX1_firstPlaceFor.2.1 4 = .ok (.aload_n 0, 1) := by decide +kernel
theorem eX1_firstPlaceFor_5 : decode mX1_firstPlaceFor.2.1 5 = .ok (.getfield 9, 3) := by decide +kernel
theorem eX1_firstPlaceFor_8 : decode mX1_firstPlaceFor.2.1 8 = .ok (.if_icmp .gt 19, 3) := by decide +kernel
theorem eX1_firstPlaceFor_11 : decode mX1_firstPlaceFor.2.1 11 = .ok (.aload_n 1, 1) := by decide +kernel
theorem eX1_firstPlaceFor_12 : decode mX1_firstPlaceFor.2.1 12 = .ok (.getfield 58, 3) := by decide +kernel
theorem eX1_firstPlaceFor_15 : decode mX1_firstPlaceFor.2.1 15 = .ok (.aload_n 0, 1) := by decide +kernel
theorem eX1_firstPlaceFor_16 : decode mX1_firstPlaceFor.2.1 16 = .ok (.getfield 15, 3) := by decide +kernel
theorem eX1_firstPlaceFor_19 : decode mX1_firstPlaceFor.2.1 19 = .ok (.aload_n 0, 1) := by decide +kernel
theorem eX1_firstPlaceFor_20 : decode mX1_firstPlaceFor.2.1 20 = .ok (.getfield 29, 3) := by decide +kernel
theorem eX1_firstPlaceFor_23 : decode mX1_firstPlaceFor.2.1 23 = .ok (.isub, 1) := by decide +kernel
theorem eX1_firstPlaceFor_24 : decode mX1_firstPlaceFor.2.1 24 = .ok (.if_icmp .le 5, 3) := by decide +kernel
theorem eX1_firstPlaceFor_27 : decode mX1_firstPlaceFor.2.1 27 = .ok (.iconst (-1), 1) := by decide +kernel
theorem eX1_firstPlaceFor_28 : decode mX1_firstPlaceFor.2.1 28 = .ok (.ireturn, 1) := by decide +kernel
theorem eX1_firstPlaceFor_29 : decode mX1_firstPlaceFor.2.1 29 = .ok (.iconst 0, 1) := by decide +kernel
theorem eX1_firstPlaceFor_30 : decode mX1_firstPlaceFor.2.1 30 = .ok (.istore_n 3, 1) := by decide +kernel
theorem eX1_firstPlaceFor_31 : decode mX1_firstPlaceFor.2.1 31 = .ok (.iconst 0, 1) := by decide +kernel
theorem eX1_firstPlaceFor_32 : decode mX1_firstPlaceFor.2.1 32 = .ok (.istore 4, 2) := by decide +kernel
theorem eX1_firstPlaceFor_34 : decode mX1_firstPlaceFor.2.1 34 = .ok (.iload 4, 2) := by decide +kernel
theorem eX1_firstPlaceFor_36 : decode mX1_firstPlaceFor.2.1 36 = .ok (.aload_n 0, 1) := by decide +kernel
theorem eX1_firstPlaceFor_37 : decode mX1_firstPlaceFor.2.1 37 = .ok (.getfield 15, 3) := by decide +kernel
theorem eX1_firstPlaceFor_40 : decode mX1_firstPlaceFor.2.1 40 = .ok (.if_icmp .ge 42, 3) := by decide +kernel
theorem eX1_firstPlaceFor_43 : decode mX1_firstPlaceFor.2.1 43 = .ok (.aload_n 0, 1) := by decide +kernel
theorem eX1_firstPlaceFor_44 : decode mX1_firstPlaceFor.2.1 44 = .ok (.iload 4, 2) := by decide +kernel
theorem eX1_firstPlaceFor_46 : decode mX1_firstPlaceFor.2.1 46 = .ok (.iload_n 2, 1) := by decide +kernel
theorem eX1_firstPlaceFor_47 : decode mX1_firstPlaceFor.2.1 47 = .ok (.invokevirtual 59, 3) := by decide +kernel
theorem eX1_firstPlaceFor_50 : decode mX1_firstPlaceFor.2.1 50 = .ok (.ifCond .eq 9, 3) := by decide +kernel
theorem eX1_firstPlaceFor_53 : decode mX1_firstPlaceFor.2.1 53 = .ok (.iload_n 3, 1) := by decide +kernel
theorem eX1_firstPlaceFor_54 : decode mX1_firstPlaceFor.2.1 54 = .ok (.iconst 1, 1) := by decide +kernel
theorem eX1_firstPlaceFor_55 : decode mX1_firstPlaceFor.2.1 55 = .ok (.iadd, 1) := by decide +kernel
theorem eX1_firstPlaceFor_56 : decode mX1_firstPlaceFor.2.1 56 = .ok (.goto 4, 3) := by decide +kernel
theorem eX1_firstPlaceFor_59 : decode mX1_firstPlaceFor.2.1 59 = .ok (.iconst 0, 1) := by decide +kernel
theorem eX1_firstPlaceFor_60 : decode mX1_firstPlaceFor.2.1 60 = .ok (.istore_n 3, 1) := by decide +kernel
theorem eX1_firstPlaceFor_61 : decode mX1_firstPlaceFor.2.1 61 = .ok (.iload_n 3, 1) := by decide +kernel
theorem eX1_firstPlaceFor_62 : decode mX1_firstPlaceFor.2.1 62 = .ok (.aload_n 1, 1) := by decide +kernel
theorem eX1_firstPlaceFor_63 : decode mX1_firstPlaceFor.2.1 63 = .ok (.getfield 58, 3) := by decide +kernel
theorem eX1_firstPlaceFor_66 : decode mX1_firstPlaceFor.2.1 66 = .ok (.if_icmp .ne 10, 3) := by decide +kernel
theorem eX1_firstPlaceFor_69 : decode mX1_firstPlaceFor.2.1 69 = .ok (.iload 4, 2) := by decide +kernel
theorem eX1_firstPlaceFor_71 : decode mX1_firstPlaceFor.2.1 71 = .ok (.iload_n 3, 1) := by decide +kernel
theorem eX1_firstPlaceFor_72 : decode mX1_firstPlaceFor.2.1 72 = .ok (.isub, 1) := by decide +kernel
theorem eX1_firstPlaceFor_73 : decode mX1_firstPlaceFor.2.1 73 = .ok (.iconst 1, 1) := by decide +kernel
theorem eX1_firstPlaceFor_74 : decode mX1_firstPlaceFor.2.1 74 = .ok (.iadd, 1) := by decide +kernel
theorem eX1_firstPlaceFor_75 : decode mX1_firstPlaceFor.2.1 75 = .ok (.ireturn, 1) := by decide +kernel
theorem eX1_firstPlaceFor_76 : decode mX1_firstPlaceFor.2.1 76 = .ok (.iinc 4 1, 3) := by decide +kernel
theorem eX1_firstPlaceFor_79 : decode mX1_firstPlaceFor.2.1 79 = .ok (.goto (-45), 3) := by decide +kernel
theorem eX1_firstPlaceFor_82 : decode mX1_firstPlaceFor.2.1 82 = .ok (.iconst (-1), 1) := by decide +kernel
theorem eX1_firstPlaceFor_83 : decode mX1_firstPlaceFor.2.1 83 = .ok (.ireturn, 1) := by decide +kernel
theorem eX1_cover_0 : decode mX1_cover.2.1 0 = .ok (.aload_n 0, 1) := by decide +kernel
theorem eX1_cover_1 : decode mX1_cover.2.1 1 = .ok (.iload_n 1, 1) := by decide +kernel
theorem eX1_cover_2 : decode mX1_cover.2.1 2 = .ok (.iload_n 2, 1) := by decide +kernel
theorem eX1_cover_3 : decode mX1_cover.2.1 3 = .ok (.iload_n 3, 1) := by decide +kernel
theorem eX1_cover_4 : decode mX1_cover.2.1 4 = .ok (.invokevirtual 63, 3) := by decide +kernel
theorem eX1_cover_7 : decode mX1_cover.2.1 7 = .ok (.aload_n 0, 1) := by decide +kernel
theorem eX1_cover_8 : decode mX1_cover.2.1 8 = .ok (.dup, 1) := by decide +kernel
theorem eX1_cover_9 : decode mX1_cover.2.1 9 = .ok (.getfield 29, 3) := by decide +kernel
theorem eX1_cover_12 : decode mX1_cover.2.1 12 = .ok (.iload_n 2, 1) := by decide +kernel
theorem eX1_cover_13 : decode mX1_cover.2.1 13 = .ok (.iadd, 1) := by decide +kernel
theorem eX1_cover_14 : decode mX1_cover.2.1 14 = .ok (.putfield 29, 3) := by decide +kernel
theorem eX1_cover_17 : decode mX1_cover.2.1 17 = .ok (.return_, 1) := by decide +kernel
theorem eX1_uncover_0 : decode mX1_uncover.2.1 0 = .ok (.aload_n 0, 1) := by decide +kernel
theorem eX1_uncover_1 : decode mX1_uncover.2.1 1 = .ok (.iload_n 1, 1) := by decide +kernel
theorem eX1_uncover_2 : decode mX1_uncover.2.1 2 = .ok (.iload_n 2, 1) := by decide +kernel
theorem eX1_uncover_3 : decode mX1_uncover.2.1 3 = .ok (.iconst (-1), 1) := by decide +kernel
theorem eX1_uncover_4 : decode mX1_uncover.2.1 4 = .ok (.invokevirtual 63, 3) := by decide +kernel
theorem eX1_uncover_7 : decode mX1_uncover.2.1 7 = .ok (.aload_n 0, 1) := by decide +kernel
theorem eX1_uncover_8 : decode mX1_uncover.2.1 8 = .ok (.dup, 1) := by decide +kernel
theorem eX1_uncover_9 : decode mX1_uncover.2.1 9 = .ok (.getfield 29, 3) := by decide +kernel
theorem eX1_uncover_12 : decode mX1_uncover.2.1 12 = .ok (.iload_n 2, 1) := by decide +kernel
theorem eX1_uncover_13 : decode mX1_uncover.2.1 13 = .ok (.isub, 1) := by decide +kernel
theorem eX1_uncover_14 : decode mX1_uncover.2.1 14 = .ok (.putfield 29, 3) := by decide +kernel
theorem eX1_uncover_17 : decode mX1_uncover.2.1 17 = .ok (.return_, 1) := by decide +kernel
theorem eX1_fill_0 : decode mX1_fill.2.1 0 = .ok (.iload_n 1, 1) := by decide +kernel
theorem eX1_fill_1 : decode mX1_fill.2.1 1 = .ok (.istore 4, 2) := by decide +kernel
theorem eX1_fill_3 : decode mX1_fill.2.1 3 = .ok (.iload 4, 2) := by decide +kernel
theorem eX1_fill_5 : decode mX1_fill.2.1 5 = .ok (.iload_n 1, 1) := by decide +kernel
theorem eX1_fill_6 : decode mX1_fill.2.1 6 = .ok (.iload_n 2, 1) := by decide +kernel
theorem eX1_fill_7 : decode mX1_fill.2.1 7 = .ok (.iadd, 1) := by decide +kernel
theorem eX1_fill_8 : decode mX1_fill.2.1 8 = .ok (.if_icmp .ge 27, 3) := by decide +kernel
theorem eX1_fill_11 : decode mX1_fill.2.1 11 = .ok (.aload_n 0, 1) := by decide +kernel
theorem eX1_fill_12 : decode mX1_fill.2.1 12 = .ok (.iload 4, 2) := by decide +kernel
theorem eX1_fill_14 : decode mX1_fill.2.1 14 = .ok (.invokevirtual 46, 3) := by decide +kernel
theorem eX1_fill_17 : decode mX1_fill.2.1 17 = .ok (.ifCond .eq 12, 3) := by decide +kernel
theorem eX1_fill_20 : decode mX1_fill.2.1 20 = .ok (.aload_n 0, 1) := by decide +kernel
theorem eX1_fill_21 : decode mX1_fill.2.1 21 = .ok (.getfield 32, 3) := by decide +kernel
theorem eX1_fill_24 : decode mX1_fill.2.1 24 = .ok (.iload 4, 2) := by decide +kernel
theorem eX1_fill_26 : decode mX1_fill.2.1 26 = .ok (.iload_n 3, 1) := by decide +kernel
theorem eX1_fill_27 : decode mX1_fill.2.1 27 = .ok (.i2s, 1) := by decide +kernel
theorem eX1_fill_28 : decode mX1_fill.2.1 28 = .ok (.sastore, 1) := by decide +kernel
theorem eX1_fill_29 : decode mX1_fill.2.1 29 = .ok (.iinc 4 1, 3) := by decide +kernel
theorem eX1_fill_32 : decode mX1_fill.2.1 32 = .ok (.goto (-29), 3) := by decide +kernel
theorem eX1_fill_35 : decode mX1_fill.2.1 35 = .ok (.return_, 1) := by decide +kernel
theorem eX2_areTold_0 : decode mX2_areTold.2.1 0 = .ok (.iload_n 0, 1) := by decide +kernel
theorem eX2_areTold_1 : decode mX2_areTold.2.1 1 = .ok (.ldc 9, 2) := by decide +kernel
theorem eX2_areTold_3 : decode mX2_areTold.2.1 3 = .ok (.if_icmp .eq 13, 3) := by decide +kernel
theorem eX2_areTold_6 : decode mX2_areTold.2.1 6 = .ok (.iload_n 0, 1) := by decide +kernel
theorem eX2_areTold_7 : decode mX2_areTold.2.1 7 = .ok (.iconst 0, 1) := by decide +kernel
theorem eX2_areTold_8 : decode mX2_areTold.2.1 8 = .ok (.ldc 10, 2) := by decide +kernel
theorem eX2_areTold_10 : decode mX2_areTold.2.1 10 = .ok (.invokestatic 11, 3) := by decide +kernel
theorem eX2_areTold_13 : decode mX2_areTold.2.1 13 = .ok (.ifCond .eq 7, 3) := by decide +kernel
theorem eX2_areTold_16 : decode mX2_areTold.2.1 16 = .ok (.iconst 1, 1) := by decide +kernel
theorem eX2_areTold_17 : decode mX2_areTold.2.1 17 = .ok (.goto 4, 3) := by decide +kernel
theorem eX2_areTold_20 : decode mX2_areTold.2.1 20 = .ok (.iconst 0, 1) := by decide +kernel
theorem eX2_areTold_21 : decode mX2_areTold.2.1 21 = .ok (.ireturn, 1) := by decide +kernel
theorem eX2_ofBits_0 : decode mX2_ofBits.2.1 0 = .ok (.iload_n 0, 1) := by decide +kernel
theorem eX2_ofBits_1 : decode mX2_ofBits.2.1 1 = .ok (.ldc 17, 2) := by decide +kernel
theorem eX2_ofBits_3 : decode mX2_ofBits.2.1 3 = .ok (.iand, 1) := by decide +kernel
theorem eX2_ofBits_4 : decode mX2_ofBits.2.1 4 = .ok (.istore_n 1, 1) := by decide +kernel
theorem eX2_ofBits_5 : decode mX2_ofBits.2.1 5 = .ok (.iload_n 0, 1) := by decide +kernel
theorem eX2_ofBits_6 : decode mX2_ofBits.2.1 6 = .ok (.bipush 23, 2) := by decide +kernel
theorem eX2_ofBits_8 : decode mX2_ofBits.2.1 8 = .ok (.ishr, 1) := by decide +kernel
theorem eX2_ofBits_9 : decode mX2_ofBits.2.1 9 = .ok (.sipush 255, 3) := by decide +kernel
theorem eX2_ofBits_12 : decode mX2_ofBits.2.1 12 = .ok (.iand, 1) := by decide +kernel
theorem eX2_ofBits_13 : decode mX2_ofBits.2.1 13 = .ok (.istore_n 2, 1) := by decide +kernel
theorem eX2_ofBits_14 : decode mX2_ofBits.2.1 14 = .ok (.iload_n 2, 1) := by decide +kernel
theorem eX2_ofBits_15 : decode mX2_ofBits.2.1 15 = .ok (.ifCond .ne 7, 3) := by decide +kernel
theorem eX2_ofBits_18 : decode mX2_ofBits.2.1 18 = .ok (.iload_n 1, 1) := by decide +kernel
theorem eX2_ofBits_19 : decode mX2_ofBits.2.1 19 = .ok (.goto 7, 3) := by decide +kernel
theorem eX2_ofBits_22 : decode mX2_ofBits.2.1 22 = .ok (.iload_n 1, 1) := by decide +kernel
theorem eX2_ofBits_23 : decode mX2_ofBits.2.1 23 = .ok (.ldc 18, 2) := by decide +kernel
theorem eX2_ofBits_25 : decode mX2_ofBits.2.1 25 = .ok (.iadd, 1) := by decide +kernel
theorem eX2_ofBits_26 : decode mX2_ofBits.2.1 26 = .ok (.i2f, 1) := by decide +kernel
theorem eX2_ofBits_27 : decode mX2_ofBits.2.1 27 = .ok (.fstore_n 3, 1) := by decide +kernel
theorem eX2_ofBits_28 : decode mX2_ofBits.2.1 28 = .ok (.sipush 150, 3) := by decide +kernel
theorem eX2_ofBits_31 : decode mX2_ofBits.2.1 31 = .ok (.iload_n 2, 1) := by decide +kernel
theorem eX2_ofBits_32 : decode mX2_ofBits.2.1 32 = .ok (.iconst 1, 1) := by decide +kernel
theorem eX2_ofBits_33 : decode mX2_ofBits.2.1 33 = .ok (.invokestatic 19, 3) := by decide +kernel
theorem eX2_ofBits_36 : decode mX2_ofBits.2.1 36 = .ok (.isub, 1) := by decide +kernel
theorem eX2_ofBits_37 : decode mX2_ofBits.2.1 37 = .ok (.istore 4, 2) := by decide +kernel
theorem eX2_ofBits_39 : decode mX2_ofBits.2.1 39 = .ok (.iconst 0, 1) := by decide +kernel
theorem eX2_ofBits_40 : decode mX2_ofBits.2.1 40 = .ok (.istore 5, 2) := by decide +kernel
theorem eX2_ofBits_42 : decode mX2_ofBits.2.1 42 = .ok (.iload 5, 2) := by decide +kernel
theorem eX2_ofBits_44 : decode mX2_ofBits.2.1 44 = .ok (.iload 4, 2) := by decide +kernel
theorem eX2_ofBits_46 : decode mX2_ofBits.2.1 46 = .ok (.if_icmp .ge 13, 3) := by decide +kernel
theorem eX2_ofBits_49 : decode mX2_ofBits.2.1 49 = .ok (.fload_n 3, 1) := by decide +kernel
theorem eX2_ofBits_50 : decode mX2_ofBits.2.1 50 = .ok (.fconst 2, 1) := by decide +kernel
theorem eX2_ofBits_51 : decode mX2_ofBits.2.1 51 = .ok (.fdiv, 1) := by decide +kernel
theorem eX2_ofBits_52 : decode mX2_ofBits.2.1 52 = .ok (.fstore_n 3, 1) := by decide +kernel
theorem eX2_ofBits_53 : decode mX2_ofBits.2.1 53 = .ok (.iinc 5 1, 3) := by decide +kernel
theorem eX2_ofBits_56 : decode mX2_ofBits.2.1 56 = .ok (.goto (-14), 3) := by decide +kernel
theorem eX2_ofBits_59 : decode mX2_ofBits.2.1 59 = .ok (.fload_n 3, 1) := by decide +kernel
theorem eX2_ofBits_60 : decode mX2_ofBits.2.1 60 = .ok (.freturn, 1) := by decide +kernel
theorem eX3_init_0 : decode mX3_init.2.1 0 = .ok (.aload_n 0, 1) := by decide +kernel
theorem eX3_init_1 : decode mX3_init.2.1 1 = .ok (.invokespecial 3, 3) := by decide +kernel
theorem eX3_init_4 : decode mX3_init.2.1 4 = .ok (.aload_n 0, 1) := by decide +kernel
theorem eX3_init_5 : decode mX3_init.2.1 5 = .ok (.sipush 256, 3) := by decide +kernel
theorem eX3_init_8 : decode mX3_init.2.1 8 = .ok (.newarray .int, 2) := by decide +kernel
theorem eX3_init_10 : decode mX3_init.2.1 10 = .ok (.putfield 11, 3) := by decide +kernel
theorem eX3_init_13 : decode mX3_init.2.1 13 = .ok (.aload_n 0, 1) := by decide +kernel
theorem eX3_init_14 : decode mX3_init.2.1 14 = .ok (.sipush 256, 3) := by decide +kernel
theorem eX3_init_17 : decode mX3_init.2.1 17 = .ok (.newarray .int, 2) := by decide +kernel
theorem eX3_init_19 : decode mX3_init.2.1 19 = .ok (.putfield 15, 3) := by decide +kernel
theorem eX3_init_22 : decode mX3_init.2.1 22 = .ok (.aload_n 0, 1) := by decide +kernel
theorem eX3_init_23 : decode mX3_init.2.1 23 = .ok (.sipush 256, 3) := by decide +kernel
theorem eX3_init_26 : decode mX3_init.2.1 26 = .ok (.newarray .int, 2) := by decide +kernel
theorem eX3_init_28 : decode mX3_init.2.1 28 = .ok (.putfield 18, 3) := by decide +kernel
theorem eX3_init_31 : decode mX3_init.2.1 31 = .ok (.aload_n 0, 1) := by decide +kernel
theorem eX3_init_32 : decode mX3_init.2.1 32 = .ok (.iconst 1, 1) := by decide +kernel
theorem eX3_init_33 : decode mX3_init.2.1 33 = .ok (.putfield 21, 3) := by decide +kernel
theorem eX3_init_36 : decode mX3_init.2.1 36 = .ok (.return_, 1) := by decide +kernel
theorem eX3_begin_0 : decode mX3_begin.2.1 0 = .ok (.aload_n 0, 1) := by decide +kernel
theorem eX3_begin_1 : decode mX3_begin.2.1 1 = .ok (.iconst 1, 1) := by decide +kernel
theorem eX3_begin_2 : decode mX3_begin.2.1 2 = .ok (.putfield 21, 3) := by decide +kernel
theorem eX3_begin_5 : decode mX3_begin.2.1 5 = .ok (.aload_n 0, 1) := by decide +kernel
theorem eX3_begin_6 : decode mX3_begin.2.1 6 = .ok (.getfield 11, 3) := by decide +kernel
theorem eX3_begin_9 : decode mX3_begin.2.1 9 = .ok (.iconst 0, 1) := by decide +kernel
theorem eX3_begin_10 : decode mX3_begin.2.1 10 = .ok (.iconst 0, 1) := by decide +kernel
theorem eX3_begin_11 : decode mX3_begin.2.1 11 = .ok (.iastore, 1) := by decide +kernel
theorem eX3_begin_12 : decode mX3_begin.2.1 12 = .ok (.aload_n 0, 1) := by decide +kernel
theorem eX3_begin_13 : decode mX3_begin.2.1 13 = .ok (.getfield 15, 3) := by decide +kernel
theorem eX3_begin_16 : decode mX3_begin.2.1 16 = .ok (.iconst 0, 1) := by decide +kernel
theorem eX3_begin_17 : decode mX3_begin.2.1 17 = .ok (.iconst 0, 1) := by decide +kernel
theorem eX3_begin_18 : decode mX3_begin.2.1 18 = .ok (.iastore, 1) := by decide +kernel
theorem eX3_begin_19 : decode mX3_begin.2.1 19 = .ok (.aload_n 0, 1) := by decide +kernel
theorem eX3_begin_20 : decode mX3_begin.2.1 20 = .ok (.getfield 18, 3) := by decide +kernel
theorem eX3_begin_23 : decode mX3_begin.2.1 23 = .ok (.iconst 0, 1) := by decide +kernel
theorem eX3_begin_24 : decode mX3_begin.2.1 24 = .ok (.iconst 0, 1) := by decide +kernel
theorem eX3_begin_25 : decode mX3_begin.2.1 25 = .ok (.iastore, 1) := by decide +kernel
theorem eX3_begin_26 : decode mX3_begin.2.1 26 = .ok (.return_, 1) := by decide +kernel
theorem eX3_addPiece_0 : decode mX3_addPiece.2.1 0 = .ok (.aload_n 0, 1) := by decide +kernel
theorem eX3_addPiece_1 : decode mX3_addPiece.2.1 1 = .ok (.getfield 21, 3) := by decide +kernel
theorem eX3_addPiece_4 : decode mX3_addPiece.2.1 4 = .ok (.iconst 1, 1) := by decide +kernel
theorem eX3_addPiece_5 : decode mX3_addPiece.2.1 5 = .ok (.if_icmp .lt 13, 3) := by decide +kernel
theorem eX3_addPiece_8 : decode mX3_addPiece.2.1 8 = .ok (.aload_n 0, 1) := by decide +kernel
theorem eX3_addPiece_9 : decode mX3_addPiece.2.1 9 = .ok (.getfield 21, 3) := by decide +kernel
theorem eX3_addPiece_12 : decode mX3_addPiece.2.1 12 = .ok (.sipush 128, 3) := by decide +kernel
theorem eX3_addPiece_15 : decode mX3_addPiece.2.1 15 = .ok (.if_icmp .le 4, 3) := by decide +kernel
theorem eX3_addPiece_18 : decode mX3_addPiece.2.1 18 = .ok (.return_, 1) := by decide +kernel
theorem eX3_addPiece_19 : decode mX3_addPiece.2.1 19 = .ok (.iconst 0, 1) := by decide +kernel
theorem eX3_addPiece_20 : decode mX3_addPiece.2.1 20 = .ok (.istore_n 2, 1) := by decide +kernel
theorem eX3_addPiece_21 : decode mX3_addPiece.2.1 21 = .ok (.iload_n 2, 1) := by decide +kernel
theorem eX3_addPiece_22 : decode mX3_addPiece.2.1 22 = .ok (.aload_n 0, 1) := by decide +kernel
theorem eX3_addPiece_23 : decode mX3_addPiece.2.1 23 = .ok (.getfield 21, 3) := by decide +kernel
theorem eX3_addPiece_26 : decode mX3_addPiece.2.1 26 = .ok (.if_icmp .ge 60, 3) := by decide +kernel
theorem eX3_addPiece_29 : decode mX3_addPiece.2.1 29 = .ok (.iload_n 2, 1) := by decide +kernel
theorem eX3_addPiece_30 : decode mX3_addPiece.2.1 30 = .ok (.aload_n 0, 1) := by decide +kernel
theorem eX3_addPiece_31 : decode mX3_addPiece.2.1 31 = .ok (.getfield 21, 3) := by decide +kernel
theorem eX3_addPiece_34 : decode mX3_addPiece.2.1 34 = .ok (.iadd, 1) := by decide +kernel
theorem eX3_addPiece_35 : decode mX3_addPiece.2.1 35 = .ok (.istore_n 3, 1) := by decide +kernel
theorem eX3_addPiece_36 : decode mX3_addPiece.2.1 36 = .ok (.aload_n 0, 1) := by decide +kernel
theorem eX3_addPiece_37 : decode mX3_addPiece.2.1 37 = .ok (.getfield 11, 3) := by decide +kernel
theorem eX3_addPiece_40 : decode mX3_addPiece.2.1 40 = .ok (.iload_n 3, 1) := by decide +kernel
theorem eX3_addPiece_41 : decode mX3_addPiece.2.1 41 = .ok (.aload_n 0, 1) := by decide +kernel
theorem eX3_addPiece_42 : decode mX3_addPiece.2.1 42 = .ok (.getfield 11, 3) := by decide +kernel
theorem eX3_addPiece_45 : decode mX3_addPiece.2.1 45 = .ok (.iload_n 2, 1) := by decide +kernel
theorem eX3_addPiece_46 : decode mX3_addPiece.2.1 46 = .ok (.iaload, 1) := by decide +kernel
theorem eX3_addPiece_47 : decode mX3_addPiece.2.1 47 = .ok (.aload_n 1, 1) := by decide +kernel
theorem eX3_addPiece_48 : decode mX3_addPiece.2.1 48 = .ok (.getfield 25, 3) := by decide +kernel
theorem eX3_addPiece_51 : decode mX3_addPiece.2.1 51 = .ok (.iadd, 1) := by decide +kernel
theorem eX3_addPiece_52 : decode mX3_addPiece.2.1 52 = .ok (.iastore, 1) := by decide +kernel
theorem eX3_addPiece_53 : decode mX3_addPiece.2.1 53 = .ok (.aload_n 0, 1) := by decide +kernel
theorem eX3_addPiece_54 : decode mX3_addPiece.2.1 54 = .ok (.getfield 15, 3) := by decide +kernel
theorem eX3_addPiece_57 : decode mX3_addPiece.2.1 57 = .ok (.iload_n 3, 1) := by decide +kernel
theorem eX3_addPiece_58 : decode mX3_addPiece.2.1 58 = .ok (.aload_n 0, 1) := by decide +kernel
theorem eX3_addPiece_59 : decode mX3_addPiece.2.1 59 = .ok (.getfield 15, 3) := by decide +kernel
theorem eX3_addPiece_62 : decode mX3_addPiece.2.1 62 = .ok (.iload_n 2, 1) := by decide +kernel
theorem eX3_addPiece_63 : decode mX3_addPiece.2.1 63 = .ok (.iaload, 1) := by decide +kernel
theorem eX3_addPiece_64 : decode mX3_addPiece.2.1 64 = .ok (.aload_n 1, 1) := by decide +kernel
theorem eX3_addPiece_65 : decode mX3_addPiece.2.1 65 = .ok (.getfield 30, 3) := by decide +kernel
theorem eX3_addPiece_68 : decode mX3_addPiece.2.1 68 = .ok (.invokestatic 33, 3) := by decide +kernel
theorem eX3_addPiece_71 : decode mX3_addPiece.2.1 71 = .ok (.iastore, 1) := by decide +kernel
theorem eX3_addPiece_72 : decode mX3_addPiece.2.1 72 = .ok (.aload_n 0, 1) := by decide +kernel
theorem eX3_addPiece_73 : decode mX3_addPiece.2.1 73 = .ok (.getfield 18, 3) := by decide +kernel
theorem eX3_addPiece_76 : decode mX3_addPiece.2.1 76 = .ok (.iload_n 3, 1) := by decide +kernel
theorem eX3_addPiece_77 : decode mX3_addPiece.2.1 77 = .ok (.bipush 25, 2) := by decide +kernel
theorem eX3_addPiece_79 : decode mX3_addPiece.2.1 79 = .ok (.iastore, 1) := by decide +kernel
theorem eX3_addPiece_80 : decode mX3_addPiece.2.1 80 = .ok (.iinc 2 1, 3) := by decide +kernel
theorem eX3_addPiece_83 : decode mX3_addPiece.2.1 83 = .ok (.goto (-62), 3) := by decide +kernel
theorem eX3_addPiece_86 : decode mX3_addPiece.2.1 86 = .ok (.aload_n 0, 1) := by decide +kernel
theorem eX3_addPiece_87 : decode mX3_addPiece.2.1 87 = .ok (.iconst 2, 1) := by decide +kernel
theorem eX3_addPiece_88 : decode mX3_addPiece.2.1 88 = .ok (.aload_n 0, 1) := by decide +kernel
theorem eX3_addPiece_89 : decode mX3_addPiece.2.1 89 = .ok (.getfield 21, 3) := by decide +kernel
theorem eX3_addPiece_92 : decode mX3_addPiece.2.1 92 = .ok (.imul, 1) := by decide +kernel
theorem eX3_addPiece_93 : decode mX3_addPiece.2.1 93 = .ok (.putfield 21, 3) := by decide +kernel
theorem eX3_addPiece_96 : decode mX3_addPiece.2.1 96 = .ok (.return_, 1) := by decide +kernel
theorem eX3_offer_0 : decode mX3_offer.2.1 0 = .ok (.aload_n 0, 1) := by decide +kernel
theorem eX3_offer_1 : decode mX3_offer.2.1 1 = .ok (.getfield 21, 3) := by decide +kernel
theorem eX3_offer_4 : decode mX3_offer.2.1 4 = .ok (.sipush 256, 3) := by decide +kernel
theorem eX3_offer_7 : decode mX3_offer.2.1 7 = .ok (.invokestatic 39, 3) := by decide +kernel
theorem eX3_offer_10 : decode mX3_offer.2.1 10 = .ok (.iconst 1, 1) := by decide +kernel
theorem eX3_offer_11 : decode mX3_offer.2.1 11 = .ok (.isub, 1) := by decide +kernel
theorem eX3_offer_12 : decode mX3_offer.2.1 12 = .ok (.istore_n 2, 1) := by decide +kernel
theorem eX3_offer_13 : decode mX3_offer.2.1 13 = .ok (.iload_n 2, 1) := by decide +kernel
theorem eX3_offer_14 : decode mX3_offer.2.1 14 = .ok (.ifCond .le 44, 3) := by decide +kernel
theorem eX3_offer_17 : decode mX3_offer.2.1 17 = .ok (.aload_n 0, 1) := by decide +kernel
theorem eX3_offer_18 : decode mX3_offer.2.1 18 = .ok (.aload_n 1, 1) := by decide +kernel
theorem eX3_offer_19 : decode mX3_offer.2.1 19 = .ok (.iload_n 2, 1) := by decide +kernel
theorem eX3_offer_20 : decode mX3_offer.2.1 20 = .ok (.invokevirtual 42, 3) := by decide +kernel
theorem eX3_offer_23 : decode mX3_offer.2.1 23 = .ok (.ifCond .eq 13, 3) := by decide +kernel
theorem eX3_offer_26 : decode mX3_offer.2.1 26 = .ok (.aload_n 0, 1) := by decide +kernel
theorem eX3_offer_27 : decode mX3_offer.2.1 27 = .ok (.getfield 18, 3) := by decide +kernel
theorem eX3_offer_30 : decode mX3_offer.2.1 30 = .ok (.iload_n 2, 1) := by decide +kernel
theorem eX3_offer_31 : decode mX3_offer.2.1 31 = .ok (.iconst 1, 1) := by decide +kernel
theorem eX3_offer_32 : decode mX3_offer.2.1 32 = .ok (.iastore, 1) := by decide +kernel
theorem eX3_offer_33 : decode mX3_offer.2.1 33 = .ok (.goto 19, 3) := by decide +kernel
theorem eX3_offer_36 : decode mX3_offer.2.1 36 = .ok (.aload_n 0, 1) := by decide +kernel
theorem eX3_offer_37 : decode mX3_offer.2.1 37 = .ok (.getfield 18, 3) := by decide +kernel
theorem eX3_offer_40 : decode mX3_offer.2.1 40 = .ok (.iload_n 2, 1) := by decide +kernel
theorem eX3_offer_41 : decode mX3_offer.2.1 41 = .ok (.iaload, 1) := by decide +kernel
theorem eX3_offer_42 : decode mX3_offer.2.1 42 = .ok (.iconst 2, 1) := by decide +kernel
theorem eX3_offer_43 : decode mX3_offer.2.1 43 = .ok (.if_icmp .le 9, 3) := by decide +kernel
theorem eX3_offer_46 : decode mX3_offer.2.1 46 = .ok (.aload_n 0, 1) := by decide +kernel
theorem eX3_offer_47 : decode mX3_offer.2.1 47 = .ok (.aload_n 1, 1) := by decide +kernel
theorem eX3_offer_48 : decode mX3_offer.2.1 48 = .ok (.iload_n 2, 1) := by decide +kernel
theorem eX3_offer_49 : decode mX3_offer.2.1 49 = .ok (.invokevirtual 46, 3) := by decide +kernel
theorem eX3_offer_52 : decode mX3_offer.2.1 52 = .ok (.iinc 2 (-1), 3) := by decide +kernel
theorem eX3_offer_55 : decode mX3_offer.2.1 55 = .ok (.goto (-42), 3) := by decide +kernel
theorem eX3_offer_58 : decode mX3_offer.2.1 58 = .ok (.return_, 1) := by decide +kernel
theorem eX3_fits_0 : decode mX3_fits.2.1 0 = .ok (.aload_n 0, 1) := by decide +kernel
theorem eX3_fits_1 : decode mX3_fits.2.1 1 = .ok (.getfield 11, 3) := by decide +kernel
theorem eX3_fits_4 : decode mX3_fits.2.1 4 = .ok (.iload_n 2, 1) := by decide +kernel
theorem eX3_fits_5 : decode mX3_fits.2.1 5 = .ok (.iaload, 1) := by decide +kernel
theorem eX3_fits_6 : decode mX3_fits.2.1 6 = .ok (.aload_n 1, 1) := by decide +kernel
theorem eX3_fits_7 : decode mX3_fits.2.1 7 = .ok (.getfield 50, 3) := by decide +kernel
theorem eX3_fits_10 : decode mX3_fits.2.1 10 = .ok (.if_icmp .gt 20, 3) := by decide +kernel
theorem eX3_fits_13 : decode mX3_fits.2.1 13 = .ok (.aload_n 0, 1) := by decide +kernel
theorem eX3_fits_14 : decode mX3_fits.2.1 14 = .ok (.getfield 15, 3) := by decide +kernel
theorem eX3_fits_17 : decode mX3_fits.2.1 17 = .ok (.iload_n 2, 1) := by decide +kernel
theorem eX3_fits_18 : decode mX3_fits.2.1 18 = .ok (.iaload, 1) := by decide +kernel
theorem eX3_fits_19 : decode mX3_fits.2.1 19 = .ok (.aload_n 1, 1) := by decide +kernel
theorem eX3_fits_20 : decode mX3_fits.2.1 20 = .ok (.getfield 53, 3) := by decide +kernel
theorem eX3_fits_23 : decode mX3_fits.2.1 23 = .ok (.if_icmp .gt 7, 3) := by decide +kernel
theorem eX3_fits_26 : decode mX3_fits.2.1 26 = .ok (.iconst 1, 1) := by decide +kernel
theorem eX3_fits_27 : decode mX3_fits.2.1 27 = .ok (.goto 4, 3) := by decide +kernel
theorem eX3_fits_30 : decode mX3_fits.2.1 30 = .ok (.iconst 0, 1) := by decide +kernel
theorem eX3_fits_31 : decode mX3_fits.2.1 31 = .ok (.ireturn, 1) := by decide +kernel
theorem eX3_betterBy_0 : decode mX3_betterBy.2.1 0 = .ok (.aload_n 0, 1) := by decide +kernel
theorem eX3_betterBy_1 : decode mX3_betterBy.2.1 1 = .ok (.getfield 18, 3) := by decide +kernel
theorem eX3_betterBy_4 : decode mX3_betterBy.2.1 4 = .ok (.iload_n 2, 1) := by decide +kernel
theorem eX3_betterBy_5 : decode mX3_betterBy.2.1 5 = .ok (.iaload, 1) := by decide +kernel
theorem eX3_betterBy_6 : decode mX3_betterBy.2.1 6 = .ok (.istore_n 3, 1) := by decide +kernel
theorem eX3_betterBy_7 : decode mX3_betterBy.2.1 7 = .ok (.iload_n 2, 1) := by decide +kernel
theorem eX3_betterBy_8 : decode mX3_betterBy.2.1 8 = .ok (.istore 4, 2) := by decide +kernel
theorem eX3_betterBy_10 : decode mX3_betterBy.2.1 10 = .ok (.iload 4, 2) := by decide +kernel
theorem eX3_betterBy_12 : decode mX3_betterBy.2.1 12 = .ok (.ifCond .le 40, 3) := by decide +kernel
theorem eX3_betterBy_15 : decode mX3_betterBy.2.1 15 = .ok (.aload_n 0, 1) := by decide +kernel
theorem eX3_betterBy_16 : decode mX3_betterBy.2.1 16 = .ok (.aload_n 1, 1) := by decide +kernel
theorem eX3_betterBy_17 : decode mX3_betterBy.2.1 17 = .ok (.iload 4, 2) := by decide +kernel
theorem eX3_betterBy_19 : decode mX3_betterBy.2.1 19 = .ok (.invokevirtual 42, 3) := by decide +kernel
theorem eX3_betterBy_22 : decode mX3_betterBy.2.1 22 = .ok (.ifCond .eq 19, 3) := by decide +kernel
theorem eX3_betterBy_25 : decode mX3_betterBy.2.1 25 = .ok (.iload_n 3, 1) := by decide +kernel
theorem eX3_betterBy_26 : decode mX3_betterBy.2.1 26 = .ok (.aload_n 0, 1) := by decide +kernel
theorem eX3_betterBy_27 : decode mX3_betterBy.2.1 27 = .ok (.getfield 18, 3) := by decide +kernel
theorem eX3_betterBy_30 : decode mX3_betterBy.2.1 30 = .ok (.iload_n 2, 1) := by decide +kernel
theorem eX3_betterBy_31 : decode mX3_betterBy.2.1 31 = .ok (.iload 4, 2) := by decide +kernel
theorem eX3_betterBy_33 : decode mX3_betterBy.2.1 33 = .ok (.isub, 1) := by decide +kernel
theorem eX3_betterBy_34 : decode mX3_betterBy.2.1 34 = .ok (.iaload, 1) := by decide +kernel
theorem eX3_betterBy_35 : decode mX3_betterBy.2.1 35 = .ok (.iconst 1, 1) := by decide +kernel
theorem eX3_betterBy_36 : decode mX3_betterBy.2.1 36 = .ok (.iadd, 1) := by decide +kernel
theorem eX3_betterBy_37 : decode mX3_betterBy.2.1 37 = .ok (.invokestatic 39, 3) := by decide +kernel
theorem eX3_betterBy_40 : decode mX3_betterBy.2.1 40 = .ok (.istore_n 3, 1) := by decide +kernel
theorem eX3_betterBy_41 : decode mX3_betterBy.2.1 41 = .ok (.iload 4, 2) := by decide +kernel
theorem eX3_betterBy_43 : decode mX3_betterBy.2.1 43 = .ok (.iconst 1, 1) := by decide +kernel
theorem eX3_betterBy_44 : decode mX3_betterBy.2.1 44 = .ok (.isub, 1) := by decide +kernel
theorem eX3_betterBy_45 : decode mX3_betterBy.2.1 45 = .ok (.iload_n 2, 1) := by decide +kernel
theorem eX3_betterBy_46 : decode mX3_betterBy.2.1 46 = .ok (.iand, 1) := by decide +kernel
theorem eX3_betterBy_47 : decode mX3_betterBy.2.1 47 = .ok (.istore 4, 2) := by decide +kernel
theorem eX3_betterBy_49 : decode mX3_betterBy.2.1 49 = .ok (.goto (-39), 3) := by decide +kernel
theorem eX3_betterBy_52 : decode mX3_betterBy.2.1 52 = .ok (.aload_n 0, 1) := by decide +kernel
theorem eX3_betterBy_53 : decode mX3_betterBy.2.1 53 = .ok (.getfield 18, 3) := by decide +kernel
theorem eX3_betterBy_56 : decode mX3_betterBy.2.1 56 = .ok (.iload_n 2, 1) := by decide +kernel
theorem eX3_betterBy_57 : decode mX3_betterBy.2.1 57 = .ok (.iload_n 3, 1) := by decide +kernel
theorem eX3_betterBy_58 : decode mX3_betterBy.2.1 58 = .ok (.iastore, 1) := by decide +kernel
theorem eX3_betterBy_59 : decode mX3_betterBy.2.1 59 = .ok (.return_, 1) := by decide +kernel
theorem eX3_neededForAll_0 : decode mX3_neededForAll.2.1 0 = .ok (.aload_n 0, 1) := by decide +kernel
theorem eX3_neededForAll_1 : decode mX3_neededForAll.2.1 1 = .ok (.getfield 21, 3) := by decide +kernel
theorem eX3_neededForAll_4 : decode mX3_neededForAll.2.1 4 = .ok (.sipush 256, 3) := by decide +kernel
theorem eX3_neededForAll_7 : decode mX3_neededForAll.2.1 7 = .ok (.invokestatic 39, 3) := by decide +kernel
theorem eX3_neededForAll_10 : decode mX3_neededForAll.2.1 10 = .ok (.iconst 1, 1) := by decide +kernel
theorem eX3_neededForAll_11 : decode mX3_neededForAll.2.1 11 = .ok (.isub, 1) := by decide +kernel
theorem eX3_neededForAll_12 : decode mX3_neededForAll.2.1 12 = .ok (.istore_n 1, 1) := by decide +kernel
theorem eX3_neededForAll_13 : decode mX3_neededForAll.2.1 13 = .ok (.iload_n 1, 1) := by decide +kernel
theorem eX3_neededForAll_14 : decode mX3_neededForAll.2.1 14 = .ok (.ifCond .lt 14, 3) := by decide +kernel
theorem eX3_neededForAll_17 : decode mX3_neededForAll.2.1 17 = .ok (.aload_n 0, 1) := by decide +kernel
theorem eX3_neededForAll_18 : decode mX3_neededForAll.2.1 18 = .ok (.getfield 18, 3) := by decide +kernel
theorem eX3_neededForAll_21 : decode mX3_neededForAll.2.1 21 = .ok (.iload_n 1, 1) := by decide +kernel
theorem eX3_neededForAll_22 : decode mX3_neededForAll.2.1 22 = .ok (.iaload, 1) := by decide +kernel
theorem eX3_neededForAll_23 : decode mX3_neededForAll.2.1 23 = .ok (.bipush 25, 2) := by decide +kernel
theorem eX3_neededForAll_25 : decode mX3_neededForAll.2.1 25 = .ok (.if_icmp .lt 7, 3) := by decide +kernel
theorem eX3_neededForAll_28 : decode mX3_neededForAll.2.1 28 = .ok (.iconst (-1), 1) := by decide +kernel
theorem eX3_neededForAll_29 : decode mX3_neededForAll.2.1 29 = .ok (.goto 9, 3) := by decide +kernel
theorem eX3_neededForAll_32 : decode mX3_neededForAll.2.1 32 = .ok (.aload_n 0, 1) := by decide +kernel
theorem eX3_neededForAll_33 : decode mX3_neededForAll.2.1 33 = .ok (.getfield 18, 3) := by decide +kernel
theorem eX3_neededForAll_36 : decode mX3_neededForAll.2.1 36 = .ok (.iload_n 1, 1) := by decide +kernel
theorem eX3_neededForAll_37 : decode mX3_neededForAll.2.1 37 = .ok (.iaload, 1) := by decide +kernel
theorem eX3_neededForAll_38 : decode mX3_neededForAll.2.1 38 = .ok (.ireturn, 1) := by decide +kernel
theorem eX4_init_0 : decode mX4_init.2.1 0 = .ok (.aload_n 0, 1) := by decide +kernel
theorem eX4_init_1 : decode mX4_init.2.1 1 = .ok (.invokespecial 3, 3) := by decide +kernel
theorem eX4_init_4 : decode mX4_init.2.1 4 = .ok (.aload_n 0, 1) := by decide +kernel
theorem eX4_init_5 : decode mX4_init.2.1 5 = .ok (.iconst 0, 1) := by decide +kernel
theorem eX4_init_6 : decode mX4_init.2.1 6 = .ok (.putfield 9, 3) := by decide +kernel
theorem eX4_init_9 : decode mX4_init.2.1 9 = .ok (.aload_n 0, 1) := by decide +kernel
theorem eX4_init_10 : decode mX4_init.2.1 10 = .ok (.iconst (-1), 1) := by decide +kernel
theorem eX4_init_11 : decode mX4_init.2.1 11 = .ok (.putfield 15, 3) := by decide +kernel
theorem eX4_init_14 : decode mX4_init.2.1 14 = .ok (.aload_n 0, 1) := by decide +kernel
theorem eX4_init_15 : decode mX4_init.2.1 15 = .ok (.iconst (-1), 1) := by decide +kernel
theorem eX4_init_16 : decode mX4_init.2.1 16 = .ok (.putfield 18, 3) := by decide +kernel
theorem eX4_init_19 : decode mX4_init.2.1 19 = .ok (.aload_n 0, 1) := by decide +kernel
theorem eX4_init_20 : decode mX4_init.2.1 20 = .ok (.iload_n 1, 1) := by decide +kernel
theorem eX4_init_21 : decode mX4_init.2.1 21 = .ok (.putfield 21, 3) := by decide +kernel
theorem eX4_init_24 : decode mX4_init.2.1 24 = .ok (.aload_n 0, 1) := by decide +kernel
theorem eX4_init_25 : decode mX4_init.2.1 25 = .ok (.iload_n 2, 1) := by decide +kernel
theorem eX4_init_26 : decode mX4_init.2.1 26 = .ok (.putfield 25, 3) := by decide +kernel
theorem eX4_init_29 : decode mX4_init.2.1 29 = .ok (.aload_n 0, 1) := by decide +kernel
theorem eX4_init_30 : decode mX4_init.2.1 30 = .ok (.iload_n 3, 1) := by decide +kernel
theorem eX4_init_31 : decode mX4_init.2.1 31 = .ok (.putfield 28, 3) := by decide +kernel
theorem eX4_init_34 : decode mX4_init.2.1 34 = .ok (.aload_n 0, 1) := by decide +kernel
theorem eX4_init_35 : decode mX4_init.2.1 35 = .ok (.iload 4, 2) := by decide +kernel
theorem eX4_init_37 : decode mX4_init.2.1 37 = .ok (.putfield 31, 3) := by decide +kernel
theorem eX4_init_40 : decode mX4_init.2.1 40 = .ok (.aload_n 0, 1) := by decide +kernel
theorem eX4_init_41 : decode mX4_init.2.1 41 = .ok (.iload 5, 2) := by decide +kernel
theorem eX4_init_43 : decode mX4_init.2.1 43 = .ok (.putfield 34, 3) := by decide +kernel
theorem eX4_init_46 : decode mX4_init.2.1 46 = .ok (.aload_n 0, 1) := by decide +kernel
theorem eX4_init_47 : decode mX4_init.2.1 47 = .ok (.iload 6, 2) := by decide +kernel
theorem eX4_init_49 : decode mX4_init.2.1 49 = .ok (.putfield 37, 3) := by decide +kernel
theorem eX4_init_52 : decode mX4_init.2.1 52 = .ok (.return_, 1) := by decide +kernel
theorem eX5_init_0 : decode mX5_init.2.1 0 = .ok (.aload_n 0, 1) := by decide +kernel
theorem eX5_init_1 : decode mX5_init.2.1 1 = .ok (.invokespecial 3, 3) := by decide +kernel
theorem eX5_init_4 : decode mX5_init.2.1 4 = .ok (.aload_n 0, 1) := by decide +kernel
theorem eX5_init_5 : decode mX5_init.2.1 5 = .ok (.iconst 0, 1) := by decide +kernel
theorem eX5_init_6 : decode mX5_init.2.1 6 = .ok (.putfield 9, 3) := by decide +kernel
theorem eX5_init_9 : decode mX5_init.2.1 9 = .ok (.aload_n 0, 1) := by decide +kernel
theorem eX5_init_10 : decode mX5_init.2.1 10 = .ok (.aconst_null, 1) := by decide +kernel
theorem eX5_init_11 : decode mX5_init.2.1 11 = .ok (.putfield 15, 3) := by decide +kernel
theorem eX5_init_14 : decode mX5_init.2.1 14 = .ok (.aload_n 0, 1) := by decide +kernel
theorem eX5_init_15 : decode mX5_init.2.1 15 = .ok (.iconst 0, 1) := by decide +kernel
theorem eX5_init_16 : decode mX5_init.2.1 16 = .ok (.putfield 19, 3) := by decide +kernel
theorem eX5_init_19 : decode mX5_init.2.1 19 = .ok (.aload_n 0, 1) := by decide +kernel
theorem eX5_init_20 : decode mX5_init.2.1 20 = .ok (.iconst 0, 1) := by decide +kernel
theorem eX5_init_21 : decode mX5_init.2.1 21 = .ok (.putfield 22, 3) := by decide +kernel
theorem eX5_init_24 : decode mX5_init.2.1 24 = .ok (.aload_n 0, 1) := by decide +kernel
theorem eX5_init_25 : decode mX5_init.2.1 25 = .ok (.aconst_null, 1) := by decide +kernel
theorem eX5_init_26 : decode mX5_init.2.1 26 = .ok (.putfield 25, 3) := by decide +kernel
theorem eX5_init_29 : decode mX5_init.2.1 29 = .ok (.aload_n 0, 1) := by decide +kernel
theorem eX5_init_30 : decode mX5_init.2.1 30 = .ok (.iconst 0, 1) := by decide +kernel
theorem eX5_init_31 : decode mX5_init.2.1 31 = .ok (.putfield 29, 3) := by decide +kernel
theorem eX5_init_34 : decode mX5_init.2.1 34 = .ok (.aload_n 0, 1) := by decide +kernel
theorem eX5_init_35 : decode mX5_init.2.1 35 = .ok (.iconst 0, 1) := by decide +kernel
theorem eX5_init_36 : decode mX5_init.2.1 36 = .ok (.putfield 32, 3) := by decide +kernel
theorem eX5_init_39 : decode mX5_init.2.1 39 = .ok (.aload_n 0, 1) := by decide +kernel
theorem eX5_init_40 : decode mX5_init.2.1 40 = .ok (.iconst 3, 1) := by decide +kernel
theorem eX5_init_41 : decode mX5_init.2.1 41 = .ok (.newarray .int, 2) := by decide +kernel
theorem eX5_init_43 : decode mX5_init.2.1 43 = .ok (.putfield 36, 3) := by decide +kernel
theorem eX5_init_46 : decode mX5_init.2.1 46 = .ok (.aload_n 0, 1) := by decide +kernel
theorem eX5_init_47 : decode mX5_init.2.1 47 = .ok (.iconst 0, 1) := by decide +kernel
theorem eX5_init_48 : decode mX5_init.2.1 48 = .ok (.putfield 39, 3) := by decide +kernel
theorem eX5_init_51 : decode mX5_init.2.1 51 = .ok (.aload_n 0, 1) := by decide +kernel
theorem eX5_init_52 : decode mX5_init.2.1 52 = .ok (.iconst 0, 1) := by decide +kernel
theorem eX5_init_53 : decode mX5_init.2.1 53 = .ok (.putfield 42, 3) := by decide +kernel
theorem eX5_init_56 : decode mX5_init.2.1 56 = .ok (.aload_n 0, 1) := by decide +kernel
theorem eX5_init_57 : decode mX5_init.2.1 57 = .ok (.aload_n 1, 1) := by decide +kernel
theorem eX5_init_58 : decode mX5_init.2.1 58 = .ok (.putfield 45, 3) := by decide +kernel
theorem eX5_init_61 : decode mX5_init.2.1 61 = .ok (.aload_n 0, 1) := by decide +kernel
theorem eX5_init_62 : decode mX5_init.2.1 62 = .ok (.aload_n 2, 1) := by decide +kernel
theorem eX5_init_63 : decode mX5_init.2.1 63 = .ok (.putfield 49, 3) := by decide +kernel
theorem eX5_init_66 : decode mX5_init.2.1 66 = .ok (.aload_n 0, 1) := by decide +kernel
theorem eX5_init_67 : decode mX5_init.2.1 67 = .ok (.iload_n 3, 1) := by decide +kernel
theorem eX5_init_68 : decode mX5_init.2.1 68 = .ok (.putfield 52, 3) := by decide +kernel
theorem eX5_init_71 : decode mX5_init.2.1 71 = .ok (.return_, 1) := by decide +kernel
theorem eX5_sideNumbered_0 : decode mX5_sideNumbered.2.1 0 = .ok (.iload_n 1, 1) := by decide +kernel
theorem eX5_sideNumbered_1 : decode mX5_sideNumbered.2.1 1 = .ok (.ifCond .ne 10, 3) := by decide +kernel
theorem eX5_sideNumbered_4 : decode mX5_sideNumbered.2.1 4 = .ok (.aload_n 0, 1) := by decide +kernel
theorem eX5_sideNumbered_5 : decode mX5_sideNumbered.2.1 5 = .ok (.getfield 45, 3) := by decide +kernel
theorem eX5_sideNumbered_8 : decode mX5_sideNumbered.2.1 8 = .ok (.goto 16, 3) := by decide +kernel
theorem eX5_sideNumbered_11 : decode mX5_sideNumbered.2.1 11 = .ok (.iload_n 1, 1) := by decide +kernel
theorem eX5_sideNumbered_12 : decode mX5_sideNumbered.2.1 12 = .ok (.iconst 1, 1) := by decide +kernel
theorem eX5_sideNumbered_13 : decode mX5_sideNumbered.2.1 13 = .ok (.if_icmp .ne 10, 3) := by decide +kernel
theorem eX5_sideNumbered_16 : decode mX5_sideNumbered.2.1 16 = .ok (.aload_n 0, 1) := by decide +kernel
theorem eX5_sideNumbered_17 : decode mX5_sideNumbered.2.1 17 = .ok (.getfield 49, 3) := by decide +kernel
theorem eX5_sideNumbered_20 : decode mX5_sideNumbered.2.1 20 = .ok (.goto 4, 3) := by decide +kernel
theorem eX5_sideNumbered_23 : decode mX5_sideNumbered.2.1 23 = .ok (.aconst_null, 1) := by decide +kernel
theorem eX5_sideNumbered_24 : decode mX5_sideNumbered.2.1 24 = .ok (.areturn, 1) := by decide +kernel
theorem eX5_pieceNumbered_0 : decode mX5_pieceNumbered.2.1 0 = .ok (.aload_n 0, 1) := by decide +kernel
theorem eX5_pieceNumbered_1 : decode mX5_pieceNumbered.2.1 1 = .ok (.getfield 15, 3) := by decide +kernel
theorem eX5_pieceNumbered_4 : decode mX5_pieceNumbered.2.1 4 = .ok (.ifnull 33, 3) := by decide +kernel
theorem eX5_pieceNumbered_7 : decode mX5_pieceNumbered.2.1 7 = .ok (.iload_n 1, 1) := by decide +kernel
theorem eX5_pieceNumbered_8 : decode mX5_pieceNumbered.2.1 8 = .ok (.ifCond .lt 29, 3) := by decide +kernel
theorem eX5_pieceNumbered_11 : decode mX5_pieceNumbered.2.1 11 = .ok (.iload_n 1, 1) := by decide +kernel
theorem eX5_pieceNumbered_12 : decode mX5_pieceNumbered.2.1 12 = .ok (.aload_n 0, 1) := by decide +kernel
theorem eX5_pieceNumbered_13 : decode mX5_pieceNumbered.2.1 13 = .ok (.getfield 22, 3) := by decide +kernel
theorem eX5_pieceNumbered_16 : decode mX5_pieceNumbered.2.1 16 = .ok (.if_icmp .ge 21, 3) := by decide +kernel
theorem eX5_pieceNumbered_19 : decode mX5_pieceNumbered.2.1 19 = .ok (.iload_n 1, 1) := by decide +kernel
theorem eX5_pieceNumbered_20 : decode mX5_pieceNumbered.2.1 20 = .ok (.aload_n 0, 1) := by decide +kernel
theorem eX5_pieceNumbered_21 : decode mX5_pieceNumbered.2.1 21 = .ok (.getfield 15, 3) := by decide +kernel
theorem eX5_pieceNumbered_24 : decode mX5_pieceNumbered.2.1 24 = .ok (.arraylength, 1) := by decide +kernel
theorem eX5_pieceNumbered_25 : decode mX5_pieceNumbered.2.1 25 = .ok (.if_icmp .ge 12, 3) := by decide +kernel
theorem eX5_pieceNumbered_28 : decode mX5_pieceNumbered.2.1 28 = .ok (.aload_n 0, 1) := by decide +kernel
theorem eX5_pieceNumbered_29 : decode mX5_pieceNumbered.2.1 29 = .ok (.getfield 15, 3) := by decide +kernel
theorem eX5_pieceNumbered_32 : decode mX5_pieceNumbered.2.1 32 = .ok (.iload_n 1, 1) := by decide +kernel
theorem eX5_pieceNumbered_33 : decode mX5_pieceNumbered.2.1 33 = .ok (.aaload, 1) := by decide +kernel
theorem eX5_pieceNumbered_34 : decode mX5_pieceNumbered.2.1 34 = .ok (.goto 4, 3) := by decide +kernel
theorem eX5_pieceNumbered_37 : decode mX5_pieceNumbered.2.1 37 = .ok (.aconst_null, 1) := by decide +kernel
theorem eX5_pieceNumbered_38 : decode mX5_pieceNumbered.2.1 38 = .ok (.areturn, 1) := by decide +kernel
theorem eX5_breadthAt_0 : decode mX5_breadthAt.2.1 0 = .ok (.aload_n 0, 1) := by decide +kernel
theorem eX5_breadthAt_1 : decode mX5_breadthAt.2.1 1 = .ok (.getfield 49, 3) := by decide +kernel
theorem eX5_breadthAt_4 : decode mX5_breadthAt.2.1 4 = .ok (.iload_n 1, 1) := by decide +kernel
theorem eX5_breadthAt_5 : decode mX5_breadthAt.2.1 5 = .ok (.aload_n 0, 1) := by decide +kernel
theorem eX5_breadthAt_6 : decode mX5_breadthAt.2.1 6 = .ok (.getfield 52, 3) := by decide +kernel
theorem eX5_breadthAt_9 : decode mX5_breadthAt.2.1 9 = .ok (.invokevirtual 55, 3) := by decide +kernel
theorem eX5_breadthAt_12 : decode mX5_breadthAt.2.1 12 = .ok (.aload_n 0, 1) := by decide +kernel
theorem eX5_breadthAt_13 : decode mX5_breadthAt.2.1 13 = .ok (.getfield 45, 3) := by decide +kernel
theorem eX5_breadthAt_16 : decode mX5_breadthAt.2.1 16 = .ok (.iload_n 1, 1) := by decide +kernel
theorem eX5_breadthAt_17 : decode mX5_breadthAt.2.1 17 = .ok (.aload_n 0, 1) := by decide +kernel
theorem eX5_breadthAt_18 : decode mX5_breadthAt.2.1 18 = .ok (.getfield 52, 3) := by decide +kernel
theorem eX5_breadthAt_21 : decode mX5_breadthAt.2.1 21 = .ok (.invokevirtual 55, 3) := by decide +kernel
theorem eX5_breadthAt_24 : decode mX5_breadthAt.2.1 24 = .ok (.isub, 1) := by decide +kernel
theorem eX5_breadthAt_25 : decode mX5_breadthAt.2.1 25 = .ok (.ireturn, 1) := by decide +kernel
theorem eX5_edgesMeet_0 : decode mX5_edgesMeet.2.1 0 = .ok (.iconst 0, 1) := by decide +kernel
theorem eX5_edgesMeet_1 : decode mX5_edgesMeet.2.1 1 = .ok (.istore_n 1, 1) := by decide +kernel
theorem eX5_edgesMeet_2 : decode mX5_edgesMeet.2.1 2 = .ok (.iload_n 1, 1) := by decide +kernel
theorem eX5_edgesMeet_3 : decode mX5_edgesMeet.2.1 3 = .ok (.aload_n 0, 1) := by decide +kernel
theorem eX5_edgesMeet_4 : decode mX5_edgesMeet.2.1 4 = .ok (.getfield 52, 3) := by decide +kernel
theorem eX5_edgesMeet_7 : decode mX5_edgesMeet.2.1 7 = .ok (.if_icmp .gt 19, 3) := by decide +kernel
theorem eX5_edgesMeet_10 : decode mX5_edgesMeet.2.1 10 = .ok (.aload_n 0, 1) := by decide +kernel
theorem eX5_edgesMeet_11 : decode mX5_edgesMeet.2.1 11 = .ok (.iload_n 1, 1) := by decide +kernel
theorem eX5_edgesMeet_12 : decode mX5_edgesMeet.2.1 12 = .ok (.invokevirtual 61, 3) := by decide +kernel
theorem eX5_edgesMeet_15 : decode mX5_edgesMeet.2.1 15 = .ok (.ifCond .gt 5, 3) := by decide +kernel
theorem eX5_edgesMeet_18 : decode mX5_edgesMeet.2.1 18 = .ok (.iconst 1, 1) := by decide +kernel
theorem eX5_edgesMeet_19 : decode mX5_edgesMeet.2.1 19 = .ok (.ireturn, 1) := by decide +kernel
theorem eX5_edgesMeet_20 : decode mX5_edgesMeet.2.1 20 = .ok (.iinc 1 1, 3) := by decide +kernel
theorem eX5_edgesMeet_23 : decode mX5_edgesMeet.2.1 23 = .ok (.goto (-21), 3) := by decide +kernel
theorem eX5_edgesMeet_26 : decode mX5_edgesMeet.2.1 26 = .ok (.iconst 0, 1) := by decide +kernel
theorem eX5_edgesMeet_27 : decode mX5_edgesMeet.2.1 27 = .ok (.ireturn, 1) := by decide +kernel
theorem eX5_twiceBetween_0 : decode mX5_twiceBetween.2.1 0 = .ok (.iconst 0, 1) := by decide +kernel
theorem eX5_twiceBetween_1 : decode mX5_twiceBetween.2.1 1 = .ok (.istore_n 3, 1) := by decide +kernel
theorem eX5_twiceBetween_2 : decode mX5_twiceBetween.2.1 2 = .ok (.iload_n 1, 1) := by decide +kernel
theorem eX5_twiceBetween_3 : decode mX5_twiceBetween.2.1 3 = .ok (.istore 4, 2) := by decide +kernel
theorem eX5_twiceBetween_5 : decode mX5_twiceBetween.2.1 5 = .ok (.iload 4, 2) := by decide +kernel
theorem eX5_twiceBetween_7 : decode mX5_twiceBetween.2.1 7 = .ok (.iload_n 2, 1) := by decide +kernel
theorem eX5_twiceBetween_8 : decode mX5_twiceBetween.2.1 8 = .ok (.if_icmp .ge 27, 3) := by decide +kernel
theorem eX5_twiceBetween_11 : decode mX5_twiceBetween.2.1 11 = .ok (.iload_n 3, 1) := by decide +kernel
theorem eX5_twiceBetween_12 : decode mX5_twiceBetween.2.1 12 = .ok (.aload_n 0, 1) := by decide +kernel
theorem eX5_twiceBetween_13 : decode mX5_twiceBetween.2.1 13 = .ok (.iload 4, 2) := by decide +kernel
theorem eX5_twiceBetween_15 : decode mX5_twiceBetween.2.1 15 = .ok (.invokevirtual 61, 3) := by decide +kernel
theorem eX5_twiceBetween_18 : decode mX5_twiceBetween.2.1 18 = .ok (.aload_n 0, 1) := by decide +kernel
theorem eX5_twiceBetween_19 : decode mX5_twiceBetween.2.1 19 = .ok (.iload 4, 2) := by decide +kernel
theorem eX5_twiceBetween_21 : decode mX5_twiceBetween.2.1 21 = .ok (.iconst 1, 1) := by decide +kernel
theorem eX5_twiceBetween_22 : decode mX5_twiceBetween.2.1 22 = .ok (.iadd, 1) := by decide +kernel
theorem eX5_twiceBetween_23 : decode mX5_twiceBetween.2.1 23 = .ok (.invokevirtual 61, 3) := by decide +kernel
theorem eX5_twiceBetween_26 : decode mX5_twiceBetween.2.1 26 = .ok (.iadd, 1) := by decide +kernel
theorem eX5_twiceBetween_27 : decode mX5_twiceBetween.2.1 27 = .ok (.iadd, 1) := by decide +kernel
theorem eX5_twiceBetween_28 : decode mX5_twiceBetween.2.1 28 = .ok (.istore_n 3, 1) := by decide +kernel
theorem eX5_twiceBetween_29 : decode mX5_twiceBetween.2.1 29 = .ok (.iinc 4 1, 3) := by decide +kernel
theorem eX5_twiceBetween_32 : decode mX5_twiceBetween.2.1 32 = .ok (.goto (-27), 3) := by decide +kernel
theorem eX5_twiceBetween_35 : decode mX5_twiceBetween.2.1 35 = .ok (.iload_n 3, 1) := by decide +kernel
theorem eX5_twiceBetween_36 : decode mX5_twiceBetween.2.1 36 = .ok (.ireturn, 1) := by decide +kernel
theorem eX5_lengthBetween_0 : decode mX5_lengthBetween.2.1 0 = .ok (.aload_n 0, 1) := by decide +kernel
theorem eX5_lengthBetween_1 : decode mX5_lengthBetween.2.1 1 = .ok (.getfield 49, 3) := by decide +kernel
theorem eX5_lengthBetween_4 : decode mX5_lengthBetween.2.1 4 = .ok (.iload_n 1, 1) := by decide +kernel
theorem eX5_lengthBetween_5 : decode mX5_lengthBetween.2.1 5 = .ok (.aload_n 0, 1) := by decide +kernel
theorem eX5_lengthBetween_6 : decode mX5_lengthBetween.2.1 6 = .ok (.getfield 52, 3) := by decide +kernel
theorem eX5_lengthBetween_9 : decode mX5_lengthBetween.2.1 9 = .ok (.invokevirtual 55, 3) := by decide +kernel
theorem eX5_lengthBetween_12 : decode mX5_lengthBetween.2.1 12 = .ok (.istore_n 3, 1) := by decide +kernel
theorem eX5_lengthBetween_13 : decode mX5_lengthBetween.2.1 13 = .ok (.aload_n 0, 1) := by decide +kernel
theorem eX5_lengthBetween_14 : decode mX5_lengthBetween.2.1 14 = .ok (.getfield 45, 3) := by decide +kernel
theorem eX5_lengthBetween_17 : decode mX5_lengthBetween.2.1 17 = .ok (.iload_n 1, 1) := by decide +kernel
theorem eX5_lengthBetween_18 : decode mX5_lengthBetween.2.1 18 = .ok (.aload_n 0, 1) := by decide +kernel
theorem eX5_lengthBetween_19 : decode mX5_lengthBetween.2.1 19 = .ok (.getfield 52, 3) := by decide +kernel
theorem eX5_lengthBetween_22 : decode mX5_lengthBetween.2.1 22 = .ok (.invokevirtual 55, 3) := by decide +kernel
theorem eX5_lengthBetween_25 : decode mX5_lengthBetween.2.1 25 = .ok (.istore 4, 2) := by decide +kernel
theorem eX5_lengthBetween_27 : decode mX5_lengthBetween.2.1 27 = .ok (.iload_n 1, 1) := by decide +kernel
theorem eX5_lengthBetween_28 : decode mX5_lengthBetween.2.1 28 = .ok (.iconst 1, 1) := by decide +kernel
theorem eX5_lengthBetween_29 : decode mX5_lengthBetween.2.1 29 = .ok (.iadd, 1) := by decide +kernel
theorem eX5_lengthBetween_30 : decode mX5_lengthBetween.2.1 30 = .ok (.istore 5, 2) := by decide +kernel
theorem eX5_lengthBetween_32 : decode mX5_lengthBetween.2.1 32 = .ok (.iload 5, 2) := by decide +kernel
theorem eX5_lengthBetween_34 : decode mX5_lengthBetween.2.1 34 = .ok (.iload_n 2, 1) := by decide +kernel
theorem eX5_lengthBetween_35 : decode mX5_lengthBetween.2.1 35 = .ok (.if_icmp .gt 47, 3) := by decide +kernel
theorem eX5_lengthBetween_38 : decode mX5_lengthBetween.2.1 38 = .ok (.iload_n 3, 1) := by decide +kernel
theorem eX5_lengthBetween_39 : decode mX5_lengthBetween.2.1 39 = .ok (.aload_n 0, 1) := by decide +kernel
theorem eX5_lengthBetween_40 : decode mX5_lengthBetween.2.1 40 = .ok (.getfield 49, 3) := by decide +kernel
theorem eX5_lengthBetween_43 : decode mX5_lengthBetween.2.1 43 = .ok (.iload 5, 2) := by decide +kernel
theorem eX5_lengthBetween_45 : decode mX5_lengthBetween.2.1 45 = .ok (.aload_n 0, 1) := by decide +kernel
theorem eX5_lengthBetween_46 : decode mX5_lengthBetween.2.1 46 = .ok (.getfield 52, 3) := by decide +kernel
theorem eX5_lengthBetween_49 : decode mX5_lengthBetween.2.1 49 = .ok (.invokevirtual 55, 3) := by decide +kernel
theorem eX5_lengthBetween_52 : decode mX5_lengthBetween.2.1 52 = .ok (.invokestatic 65, 3) := by decide +kernel
theorem eX5_lengthBetween_55 : decode mX5_lengthBetween.2.1 55 = .ok (.istore_n 3, 1) := by decide +kernel
theorem eX5_lengthBetween_56 : decode mX5_lengthBetween.2.1 56 = .ok (.iload 4, 2) := by decide +kernel
theorem eX5_lengthBetween_58 : decode mX5_lengthBetween.2.1 58 = .ok (.aload_n 0, 1) := by decide +kernel
theorem eX5_lengthBetween_59 : decode mX5_lengthBetween.2.1 59 = .ok (.getfield 45, 3) := by decide +kernel
theorem eX5_lengthBetween_62 : decode mX5_lengthBetween.2.1 62 = .ok (.iload 5, 2) := by decide +kernel
theorem eX5_lengthBetween_64 : decode mX5_lengthBetween.2.1 64 = .ok (.aload_n 0, 1) := by decide +kernel
theorem eX5_lengthBetween_65 : decode mX5_lengthBetween.2.1 65 = .ok (.getfield 52, 3) := by decide +kernel
theorem eX5_lengthBetween_68 : decode mX5_lengthBetween.2.1 68 = .ok (.invokevirtual 55, 3) := by decide +kernel
theorem eX5_lengthBetween_71 : decode mX5_lengthBetween.2.1 71 = .ok (.invokestatic 70, 3) := by decide +kernel
theorem eX5_lengthBetween_74 : decode mX5_lengthBetween.2.1 74 = .ok (.istore 4, 2) := by decide +kernel
theorem eX5_lengthBetween_76 : decode mX5_lengthBetween.2.1 76 = .ok (.iinc 5 1, 3) := by decide +kernel
theorem eX5_lengthBetween_79 : decode mX5_lengthBetween.2.1 79 = .ok (.goto (-47), 3) := by decide +kernel
theorem eX5_lengthBetween_82 : decode mX5_lengthBetween.2.1 82 = .ok (.iload_n 3, 1) := by decide +kernel
theorem eX5_lengthBetween_83 : decode mX5_lengthBetween.2.1 83 = .ok (.iload 4, 2) := by decide +kernel
theorem eX5_lengthBetween_85 : decode mX5_lengthBetween.2.1 85 = .ok (.isub, 1) := by decide +kernel
theorem eX5_lengthBetween_86 : decode mX5_lengthBetween.2.1 86 = .ok (.ireturn, 1) := by decide +kernel
theorem eX5_panelsOfHeight_0 : decode mX5_panelsOfHeight.2.1 0 = .ok (.iload_n 1, 1) := by decide +kernel
theorem eX5_panelsOfHeight_1 : decode mX5_panelsOfHeight.2.1 1 = .ok (.ifCond .le 16, 3) := by decide +kernel
theorem eX5_panelsOfHeight_4 : decode mX5_panelsOfHeight.2.1 4 = .ok (.aload_n 0, 1) := by decide +kernel
theorem eX5_panelsOfHeight_5 : decode mX5_panelsOfHeight.2.1 5 = .ok (.getfield 52, 3) := by decide +kernel
theorem eX5_panelsOfHeight_8 : decode mX5_panelsOfHeight.2.1 8 = .ok (.iload_n 1, 1) := by decide +kernel
theorem eX5_panelsOfHeight_9 : decode mX5_panelsOfHeight.2.1 9 = .ok (.iadd, 1) := by decide +kernel
theorem eX5_panelsOfHeight_10 : decode mX5_panelsOfHeight.2.1 10 = .ok (.iconst 1, 1) := by decide +kernel
theorem eX5_panelsOfHeight_11 : decode mX5_panelsOfHeight.2.1 11 = .ok (.isub, 1) := by decide +kernel
theorem eX5_panelsOfHeight_12 : decode mX5_panelsOfHeight.2.1 12 = .ok (.iload_n 1, 1) := by decide +kernel
theorem eX5_panelsOfHeight_13 : decode mX5_panelsOfHeight.2.1 13 = .ok (.idiv, 1) := by decide +kernel
theorem eX5_panelsOfHeight_14 : decode mX5_panelsOfHeight.2.1 14 = .ok (.goto 4, 3) := by decide +kernel
theorem eX5_panelsOfHeight_17 : decode mX5_panelsOfHeight.2.1 17 = .ok (.iconst 0, 1) := by decide +kernel
theorem eX5_panelsOfHeight_18 : decode mX5_panelsOfHeight.2.1 18 = .ok (.ireturn, 1) := by decide +kernel
theorem eX5_cutInto_0 : decode mX5_cutInto.2.1 0 = .ok (.aload_n 0, 1) := by decide +kernel
theorem eX5_cutInto_1 : decode mX5_cutInto.2.1 1 = .ok (.bipush 40, 2) := by decide +kernel
theorem eX5_cutInto_3 : decode mX5_cutInto.2.1 3 = .ok (.anewarray 73, 3) := by decide +kernel
theorem eX5_cutInto_6 : decode mX5_cutInto.2.1 6 = .ok (.putfield 15, 3) := by decide +kernel
theorem eX5_cutInto_9 : decode mX5_cutInto.2.1 9 = .ok (.aload_n 0, 1) := by decide +kernel
theorem eX5_cutInto_10 : decode mX5_cutInto.2.1 10 = .ok (.aload_n 0, 1) := by decide +kernel
theorem eX5_cutInto_11 : decode mX5_cutInto.2.1 11 = .ok (.iload_n 1, 1) := by decide +kernel
theorem eX5_cutInto_12 : decode mX5_cutInto.2.1 12 = .ok (.invokevirtual 75, 3) := by decide +kernel
theorem eX5_cutInto_15 : decode mX5_cutInto.2.1 15 = .ok (.bipush 40, 2) := by decide +kernel
theorem eX5_cutInto_17 : decode mX5_cutInto.2.1 17 = .ok (.invokestatic 70, 3) := by decide +kernel
theorem eX5_cutInto_20 : decode mX5_cutInto.2.1 20 = .ok (.putfield 19, 3) := by decide +kernel
theorem eX5_cutInto_23 : decode mX5_cutInto.2.1 23 = .ok (.aload_n 0, 1) := by decide +kernel
theorem eX5_cutInto_24 : decode mX5_cutInto.2.1 24 = .ok (.aload_n 0, 1) := by decide +kernel
theorem eX5_cutInto_25 : decode mX5_cutInto.2.1 25 = .ok (.getfield 19, 3) := by decide +kernel
theorem eX5_cutInto_28 : decode mX5_cutInto.2.1 28 = .ok (.putfield 22, 3) := by decide +kernel
theorem eX5_cutInto_31 : decode mX5_cutInto.2.1 31 = .ok (.iconst 0, 1) := by decide +kernel
theorem eX5_cutInto_32 : decode mX5_cutInto.2.1 32 = .ok (.istore_n 3, 1) := by decide +kernel
theorem eX5_cutInto_33 : decode mX5_cutInto.2.1 33 = .ok (.iload_n 3, 1) := by decide +kernel
theorem eX5_cutInto_34 : decode mX5_cutInto.2.1 34 = .ok (.aload_n 0, 1) := by decide +kernel
theorem eX5_cutInto_35 : decode mX5_cutInto.2.1 35 = .ok (.getfield 19, 3) := by decide +kernel
theorem eX5_cutInto_38 : decode mX5_cutInto.2.1 38 = .ok (.if_icmp .ge 77, 3) := by decide +kernel
theorem eX5_cutInto_41 : decode mX5_cutInto.2.1 41 = .ok (.iload_n 3, 1) := by decide +kernel
theorem eX5_cutInto_42 : decode mX5_cutInto.2.1 42 = .ok (.aload_n 0, 1) := by decide +kernel
theorem eX5_cutInto_43 : decode mX5_cutInto.2.1 43 = .ok (.getfield 15, 3) := by decide +kernel
theorem eX5_cutInto_46 : decode mX5_cutInto.2.1 46 = .ok (.arraylength, 1) := by decide +kernel
theorem eX5_cutInto_47 : decode mX5_cutInto.2.1 47 = .ok (.if_icmp .ge 68, 3) := by decide +kernel
theorem eX5_cutInto_50 : decode mX5_cutInto.2.1 50 = .ok (.iload_n 3, 1) := by decide +kernel
theorem eX5_cutInto_51 : decode mX5_cutInto.2.1 51 = .ok (.iload_n 1, 1) := by decide +kernel
theorem eX5_cutInto_52 : decode mX5_cutInto.2.1 52 = .ok (.imul, 1) := by decide +kernel
theorem eX5_cutInto_53 : decode mX5_cutInto.2.1 53 = .ok (.istore 4, 2) := by decide +kernel
theorem eX5_cutInto_55 : decode mX5_cutInto.2.1 55 = .ok (.iload 4, 2) := by decide +kernel
theorem eX5_cutInto_57 : decode mX5_cutInto.2.1 57 = .ok (.iload_n 1, 1) := by decide +kernel
theorem eX5_cutInto_58 : decode mX5_cutInto.2.1 58 = .ok (.iadd, 1) := by decide +kernel
theorem eX5_cutInto_59 : decode mX5_cutInto.2.1 59 = .ok (.aload_n 0, 1) := by decide +kernel
theorem eX5_cutInto_60 : decode mX5_cutInto.2.1 60 = .ok (.getfield 52, 3) := by decide +kernel
theorem eX5_cutInto_63 : decode mX5_cutInto.2.1 63 = .ok (.invokestatic 70, 3) := by decide +kernel
theorem eX5_cutInto_66 : decode mX5_cutInto.2.1 66 = .ok (.istore 5, 2) := by decide +kernel
theorem eX5_cutInto_68 : decode mX5_cutInto.2.1 68 = .ok (.aload_n 0, 1) := by decide +kernel
theorem eX5_cutInto_69 : decode mX5_cutInto.2.1 69 = .ok (.getfield 15, 3) := by decide +kernel
theorem eX5_cutInto_72 : decode mX5_cutInto.2.1 72 = .ok (.iload_n 3, 1) := by decide +kernel
theorem eX5_cutInto_73 : decode mX5_cutInto.2.1 73 = .ok (.new 73, 3) := by decide +kernel
theorem eX5_cutInto_76 : decode mX5_cutInto.2.1 76 = .ok (.dup, 1) := by decide +kernel
theorem eX5_cutInto_77 : decode mX5_cutInto.2.1 77 = .ok (.iconst 0, 1) := by decide +kernel
theorem eX5_cutInto_78 : decode mX5_cutInto.2.1 78 = .ok (.iload 4, 2) := by decide +kernel
theorem eX5_cutInto_80 : decode mX5_cutInto.2.1 80 = .ok (.iload 5, 2) := by decide +kernel
theorem eX5_cutInto_82 : decode mX5_cutInto.2.1 82 = .ok (.aload_n 0, 1) := by decide +kernel
theorem eX5_cutInto_83 : decode mX5_cutInto.2.1 83 = .ok (.iload 4, 2) := by decide +kernel
theorem eX5_cutInto_85 : decode mX5_cutInto.2.1 85 = .ok (.iload 5, 2) := by decide +kernel
theorem eX5_cutInto_87 : decode mX5_cutInto.2.1 87 = .ok (.invokevirtual 78, 3) := by decide +kernel
theorem eX5_cutInto_90 : decode mX5_cutInto.2.1 90 = .ok (.iload 5, 2) := by decide +kernel
theorem eX5_cutInto_92 : decode mX5_cutInto.2.1 92 = .ok (.iload 4, 2) := by decide +kernel
theorem eX5_cutInto_94 : decode mX5_cutInto.2.1 94 = .ok (.isub, 1) := by decide +kernel
theorem eX5_cutInto_95 : decode mX5_cutInto.2.1 95 = .ok (.iload_n 2, 1) := by decide +kernel
theorem eX5_cutInto_96 : decode mX5_cutInto.2.1 96 = .ok (.iadd, 1) := by decide +kernel
theorem eX5_cutInto_97 : decode mX5_cutInto.2.1 97 = .ok (.aload_n 0, 1) := by decide +kernel
theorem eX5_cutInto_98 : decode mX5_cutInto.2.1 98 = .ok (.iload 4, 2) := by decide +kernel
theorem eX5_cutInto_100 : decode mX5_cutInto.2.1 100 = .ok (.iload 5, 2) := by decide +kernel
theorem eX5_cutInto_102 : decode mX5_cutInto.2.1 102 = .ok (.invokevirtual 81, 3) := by decide +kernel
theorem eX5_cutInto_105 : decode mX5_cutInto.2.1 105 = .ok (.invokespecial 84, 3) := by decide +kernel
theorem eX5_cutInto_108 : decode mX5_cutInto.2.1 108 = .ok (.aastore, 1) := by decide +kernel
theorem eX5_cutInto_109 : decode mX5_cutInto.2.1 109 = .ok (.iinc 3 1, 3) := by decide +kernel
theorem eX5_cutInto_112 : decode mX5_cutInto.2.1 112 = .ok (.goto (-79), 3) := by decide +kernel
theorem eX5_cutInto_115 : decode mX5_cutInto.2.1 115 = .ok (.aload_n 0, 1) := by decide +kernel
theorem eX5_cutInto_116 : decode mX5_cutInto.2.1 116 = .ok (.aload_n 0, 1) := by decide +kernel
theorem eX5_cutInto_117 : decode mX5_cutInto.2.1 117 = .ok (.getfield 52, 3) := by decide +kernel
theorem eX5_cutInto_120 : decode mX5_cutInto.2.1 120 = .ok (.ifCond .le 10, 3) := by decide +kernel
theorem eX5_cutInto_123 : decode mX5_cutInto.2.1 123 = .ok (.aload_n 0, 1) := by decide +kernel
theorem eX5_cutInto_124 : decode mX5_cutInto.2.1 124 = .ok (.getfield 52, 3) := by decide +kernel
theorem eX5_cutInto_127 : decode mX5_cutInto.2.1 127 = .ok (.goto 4, 3) := by decide +kernel
theorem eX5_cutInto_130 : decode mX5_cutInto.2.1 130 = .ok (.iconst 0, 1) := by decide +kernel
theorem eX5_cutInto_131 : decode mX5_cutInto.2.1 131 = .ok (.newarray .int, 2) := by decide +kernel
theorem eX5_cutInto_133 : decode mX5_cutInto.2.1 133 = .ok (.putfield 25, 3) := by decide +kernel
theorem eX5_cutInto_136 : decode mX5_cutInto.2.1 136 = .ok (.iconst 0, 1) := by decide +kernel
theorem eX5_cutInto_137 : decode mX5_cutInto.2.1 137 = .ok (.istore_n 3, 1) := by decide +kernel
theorem eX5_cutInto_138 : decode mX5_cutInto.2.1 138 = .ok (.iload_n 3, 1) := by decide +kernel
theorem eX5_cutInto_139 : decode mX5_cutInto.2.1 139 = .ok (.aload_n 0, 1) := by decide +kernel
theorem eX5_cutInto_140 : decode mX5_cutInto.2.1 140 = .ok (.getfield 25, 3) := by decide +kernel
theorem eX5_cutInto_143 : decode mX5_cutInto.2.1 143 = .ok (.arraylength, 1) := by decide +kernel
theorem eX5_cutInto_144 : decode mX5_cutInto.2.1 144 = .ok (.if_icmp .ge 23, 3) := by decide +kernel
theorem eX5_cutInto_147 : decode mX5_cutInto.2.1 147 = .ok (.aload_n 0, 1) := by decide +kernel
theorem eX5_cutInto_148 : decode mX5_cutInto.2.1 148 = .ok (.getfield 25, 3) := by decide +kernel
theorem eX5_cutInto_151 : decode mX5_cutInto.2.1 151 = .ok (.iload_n 3, 1) := by decide +kernel
theorem eX5_cutInto_152 : decode mX5_cutInto.2.1 152 = .ok (.aload_n 0, 1) := by decide +kernel
theorem eX5_cutInto_153 : decode mX5_cutInto.2.1 153 = .ok (.iload_n 3, 1) := by decide +kernel
theorem eX5_cutInto_154 : decode mX5_cutInto.2.1 154 = .ok (.iload_n 3, 1) := by decide +kernel
theorem eX5_cutInto_155 : decode mX5_cutInto.2.1 155 = .ok (.iconst 1, 1) := by decide +kernel
theorem eX5_cutInto_156 : decode mX5_cutInto.2.1 156 = .ok (.iadd, 1) := by decide +kernel
theorem eX5_cutInto_157 : decode mX5_cutInto.2.1 157 = .ok (.invokevirtual 81, 3) := by decide +kernel
theorem eX5_cutInto_160 : decode mX5_cutInto.2.1 160 = .ok (.iastore, 1) := by decide +kernel
theorem eX5_cutInto_161 : decode mX5_cutInto.2.1 161 = .ok (.iinc 3 1, 3) := by decide +kernel
theorem eX5_cutInto_164 : decode mX5_cutInto.2.1 164 = .ok (.goto (-26), 3) := by decide +kernel
theorem eX5_cutInto_167 : decode mX5_cutInto.2.1 167 = .ok (.aload_n 0, 1) := by decide +kernel
theorem eX5_cutInto_168 : decode mX5_cutInto.2.1 168 = .ok (.iconst 1, 1) := by decide +kernel
theorem eX5_cutInto_169 : decode mX5_cutInto.2.1 169 = .ok (.putfield 9, 3) := by decide +kernel
theorem eX5_cutInto_172 : decode mX5_cutInto.2.1 172 = .ok (.return_, 1) := by decide +kernel
theorem eX5_openAgain_0 : decode mX5_openAgain.2.1 0 = .ok (.aload_n 0, 1) := by decide +kernel
theorem eX5_openAgain_1 : decode mX5_openAgain.2.1 1 = .ok (.aconst_null, 1) := by decide +kernel
theorem eX5_openAgain_2 : decode mX5_openAgain.2.1 2 = .ok (.putfield 15, 3) := by decide +kernel
theorem eX5_openAgain_5 : decode mX5_openAgain.2.1 5 = .ok (.aload_n 0, 1) := by decide +kernel
theorem eX5_openAgain_6 : decode mX5_openAgain.2.1 6 = .ok (.iconst 0, 1) := by decide +kernel
theorem eX5_openAgain_7 : decode mX5_openAgain.2.1 7 = .ok (.putfield 19, 3) := by decide +kernel
theorem eX5_openAgain_10 : decode mX5_openAgain.2.1 10 = .ok (.aload_n 0, 1) := by decide +kernel
theorem eX5_openAgain_11 : decode mX5_openAgain.2.1 11 = .ok (.iconst 0, 1) := by decide +kernel
theorem eX5_openAgain_12 : decode mX5_openAgain.2.1 12 = .ok (.putfield 22, 3) := by decide +kernel
theorem eX5_openAgain_15 : decode mX5_openAgain.2.1 15 = .ok (.aload_n 0, 1) := by decide +kernel
theorem eX5_openAgain_16 : decode mX5_openAgain.2.1 16 = .ok (.aconst_null, 1) := by decide +kernel
theorem eX5_openAgain_17 : decode mX5_openAgain.2.1 17 = .ok (.putfield 25, 3) := by decide +kernel
theorem eX5_openAgain_20 : decode mX5_openAgain.2.1 20 = .ok (.aload_n 0, 1) := by decide +kernel
theorem eX5_openAgain_21 : decode mX5_openAgain.2.1 21 = .ok (.iconst 0, 1) := by decide +kernel
theorem eX5_openAgain_22 : decode mX5_openAgain.2.1 22 = .ok (.putfield 9, 3) := by decide +kernel
theorem eX5_openAgain_25 : decode mX5_openAgain.2.1 25 = .ok (.return_, 1) := by decide +kernel
theorem eX5_addPatch_0 : decode mX5_addPatch.2.1 0 = .ok (.aload_n 0, 1) := by decide +kernel
theorem eX5_addPatch_1 : decode mX5_addPatch.2.1 1 = .ok (.getfield 15, 3) := by decide +kernel
theorem eX5_addPatch_4 : decode mX5_addPatch.2.1 4 = .ok (.ifnull 60, 3) := by decide +kernel
theorem eX5_addPatch_7 : decode mX5_addPatch.2.1 7 = .ok (.aload_n 0, 1) := by decide +kernel
theorem eX5_addPatch_8 : decode mX5_addPatch.2.1 8 = .ok (.getfield 22, 3) := by decide +kernel
theorem eX5_addPatch_11 : decode mX5_addPatch.2.1 11 = .ok (.ifCond .lt 53, 3) := by decide +kernel
theorem eX5_addPatch_14 : decode mX5_addPatch.2.1 14 = .ok (.aload_n 0, 1) := by decide +kernel
theorem eX5_addPatch_15 : decode mX5_addPatch.2.1 15 = .ok (.getfield 22, 3) := by decide +kernel
theorem eX5_addPatch_18 : decode mX5_addPatch.2.1 18 = .ok (.aload_n 0, 1) := by decide +kernel
theorem eX5_addPatch_19 : decode mX5_addPatch.2.1 19 = .ok (.getfield 15, 3) := by decide +kernel
theorem eX5_addPatch_22 : decode mX5_addPatch.2.1 22 = .ok (.arraylength, 1) := by decide +kernel
theorem eX5_addPatch_23 : decode mX5_addPatch.2.1 23 = .ok (.if_icmp .ge 41, 3) := by decide +kernel
theorem eX5_addPatch_26 : decode mX5_addPatch.2.1 26 = .ok (.aload_n 0, 1) := by decide +kernel
theorem eX5_addPatch_27 : decode mX5_addPatch.2.1 27 = .ok (.getfield 15, 3) := by decide +kernel
theorem eX5_addPatch_30 : decode mX5_addPatch.2.1 30 = .ok (.aload_n 0, 1) := by decide +kernel
theorem eX5_addPatch_31 : decode mX5_addPatch.2.1 31 = .ok (.getfield 22, 3) := by decide +kernel
theorem eX5_addPatch_34 : decode mX5_addPatch.2.1 34 = .ok (.new 73, 3) := by decide +kernel
theorem eX5_addPatch_37 : decode mX5_addPatch.2.1 37 = .ok (.dup, 1) := by decide +kernel
theorem eX5_addPatch_38 : decode mX5_addPatch.2.1 38 = .ok (.iconst 1, 1) := by decide +kernel
theorem eX5_addPatch_39 : decode mX5_addPatch.2.1 39 = .ok (.iload_n 1, 1) := by decide +kernel
theorem eX5_addPatch_40 : decode mX5_addPatch.2.1 40 = .ok (.iload_n 1, 1) := by decide +kernel
theorem eX5_addPatch_41 : decode mX5_addPatch.2.1 41 = .ok (.iconst 1, 1) := by decide +kernel
theorem eX5_addPatch_42 : decode mX5_addPatch.2.1 42 = .ok (.iadd, 1) := by decide +kernel
theorem eX5_addPatch_43 : decode mX5_addPatch.2.1 43 = .ok (.iload_n 3, 1) := by decide +kernel
theorem eX5_addPatch_44 : decode mX5_addPatch.2.1 44 = .ok (.iload_n 2, 1) := by decide +kernel
theorem eX5_addPatch_45 : decode mX5_addPatch.2.1 45 = .ok (.iconst 2, 1) := by decide +kernel
theorem eX5_addPatch_46 : decode mX5_addPatch.2.1 46 = .ok (.iload_n 2, 1) := by decide +kernel
theorem eX5_addPatch_47 : decode mX5_addPatch.2.1 47 = .ok (.imul, 1) := by decide +kernel
theorem eX5_addPatch_48 : decode mX5_addPatch.2.1 48 = .ok (.iload_n 3, 1) := by decide +kernel
theorem eX5_addPatch_49 : decode mX5_addPatch.2.1 49 = .ok (.imul, 1) := by decide +kernel
theorem eX5_addPatch_50 : decode mX5_addPatch.2.1 50 = .ok (.invokespecial 84, 3) := by decide +kernel
theorem eX5_addPatch_53 : decode mX5_addPatch.2.1 53 = .ok (.aastore, 1) := by decide +kernel
theorem eX5_addPatch_54 : decode mX5_addPatch.2.1 54 = .ok (.aload_n 0, 1) := by decide +kernel
theorem eX5_addPatch_55 : decode mX5_addPatch.2.1 55 = .ok (.dup, 1) := by decide +kernel
theorem eX5_addPatch_56 : decode mX5_addPatch.2.1 56 = .ok (.getfield 22, 3) := by decide +kernel
theorem eX5_addPatch_59 : decode mX5_addPatch.2.1 59 = .ok (.iconst 1, 1) := by decide +kernel
theorem eX5_addPatch_60 : decode mX5_addPatch.2.1 60 = .ok (.iadd, 1) := by decide +kernel
theorem eX5_addPatch_61 : decode mX5_addPatch.2.1 61 = .ok (.putfield 22, 3) := by decide +kernel
theorem eX5_addPatch_64 : decode mX5_addPatch.2.1 64 = .ok (.return_, 1) := by decide +kernel
theorem eX5_dropPatch_0 : decode mX5_dropPatch.2.1 0 = .ok (.aload_n 0, 1) := by decide +kernel
theorem eX5_dropPatch_1 : decode mX5_dropPatch.2.1 1 = .ok (.getfield 22, 3) := by decide +kernel
theorem eX5_dropPatch_4 : decode mX5_dropPatch.2.1 4 = .ok (.aload_n 0, 1) := by decide +kernel
theorem eX5_dropPatch_5 : decode mX5_dropPatch.2.1 5 = .ok (.getfield 19, 3) := by decide +kernel
theorem eX5_dropPatch_8 : decode mX5_dropPatch.2.1 8 = .ok (.if_icmp .le 13, 3) := by decide +kernel
theorem eX5_dropPatch_11 : decode mX5_dropPatch.2.1 11 = .ok (.aload_n 0, 1) := by decide +kernel
theorem eX5_dropPatch_12 : decode mX5_dropPatch.2.1 12 = .ok (.dup, 1) := by decide +kernel
theorem eX5_dropPatch_13 : decode mX5_dropPatch.2.1 13 = .ok (.getfield 22, 3) := by decide +kernel
theorem eX5_dropPatch_16 : decode mX5_dropPatch.2.1 16 = .ok (.iconst 1, 1) := by decide +kernel
theorem eX5_dropPatch_17 : decode mX5_dropPatch.2.1 17 = .ok (.isub, 1) := by decide +kernel
theorem eX5_dropPatch_18 : decode mX5_dropPatch.2.1 18 = .ok (.putfield 22, 3) := by decide +kernel
theorem eX5_dropPatch_21 : decode mX5_dropPatch.2.1 21 = .ok (.return_, 1) := by decide +kernel
theorem eX5_letOutUpTo_0 : decode mX5_letOutUpTo.2.1 0 = .ok (.iconst 0, 1) := by decide +kernel
theorem eX5_letOutUpTo_1 : decode mX5_letOutUpTo.2.1 1 = .ok (.istore_n 2, 1) := by decide +kernel
theorem eX5_letOutUpTo_2 : decode mX5_letOutUpTo.2.1 2 = .ok (.iconst 0, 1) := by decide +kernel
theorem eX5_letOutUpTo_3 : decode mX5_letOutUpTo.2.1 3 = .ok (.istore_n 3, 1) := by decide +kernel
theorem eX5_letOutUpTo_4 : decode mX5_letOutUpTo.2.1 4 = .ok (.iload_n 3, 1) := by decide +kernel
theorem eX5_letOutUpTo_5 : decode mX5_letOutUpTo.2.1 5 = .ok (.aload_n 0, 1) := by decide +kernel
theorem eX5_letOutUpTo_6 : decode mX5_letOutUpTo.2.1 6 = .ok (.getfield 19, 3) := by decide +kernel
theorem eX5_letOutUpTo_9 : decode mX5_letOutUpTo.2.1 9 = .ok (.if_icmp .ge 38, 3) := by decide +kernel
theorem eX5_letOutUpTo_12 : decode mX5_letOutUpTo.2.1 12 = .ok (.aload_n 0, 1) := by decide +kernel
theorem eX5_letOutUpTo_13 : decode mX5_letOutUpTo.2.1 13 = .ok (.iload_n 3, 1) := by decide +kernel
theorem eX5_letOutUpTo_14 : decode mX5_letOutUpTo.2.1 14 = .ok (.invokevirtual 87, 3) := by decide +kernel
theorem eX5_letOutUpTo_17 : decode mX5_letOutUpTo.2.1 17 = .ok (.astore 4, 2) := by decide +kernel
theorem eX5_letOutUpTo_19 : decode mX5_letOutUpTo.2.1 19 = .ok (.aload 4, 2) := by decide +kernel
theorem eX5_letOutUpTo_21 : decode mX5_letOutUpTo.2.1 21 = .ok (.ifnull 20, 3) := by decide +kernel
theorem eX5_letOutUpTo_24 : decode mX5_letOutUpTo.2.1 24 = .ok (.aload 4, 2) := by decide +kernel
theorem eX5_letOutUpTo_26 : decode mX5_letOutUpTo.2.1 26 = .ok (.getfield 91, 3) := by decide +kernel
theorem eX5_letOutUpTo_29 : decode mX5_letOutUpTo.2.1 29 = .ok (.iload_n 1, 1) := by decide +kernel
theorem eX5_letOutUpTo_30 : decode mX5_letOutUpTo.2.1 30 = .ok (.if_icmp .gt 11, 3) := by decide +kernel
theorem eX5_letOutUpTo_33 : decode mX5_letOutUpTo.2.1 33 = .ok (.iload_n 2, 1) := by decide +kernel
theorem eX5_letOutUpTo_34 : decode mX5_letOutUpTo.2.1 34 = .ok (.aload 4, 2) := by decide +kernel
theorem eX5_letOutUpTo_36 : decode mX5_letOutUpTo.2.1 36 = .ok (.getfield 94, 3) := by decide +kernel
theorem eX5_letOutUpTo_39 : decode mX5_letOutUpTo.2.1 39 = .ok (.iadd, 1) := by decide +kernel
theorem eX5_letOutUpTo_40 : decode mX5_letOutUpTo.2.1 40 = .ok (.istore_n 2, 1) := by decide +kernel
theorem eX5_letOutUpTo_41 : decode mX5_letOutUpTo.2.1 41 = .ok (.iinc 3 1, 3) := by decide +kernel
theorem eX5_letOutUpTo_44 : decode mX5_letOutUpTo.2.1 44 = .ok (.goto (-40), 3) := by decide +kernel
theorem eX5_letOutUpTo_47 : decode mX5_letOutUpTo.2.1 47 = .ok (.iload_n 2, 1) := by decide +kernel
theorem eX5_letOutUpTo_48 : decode mX5_letOutUpTo.2.1 48 = .ok (.ireturn, 1) := by decide +kernel
theorem eX5_countLoose_0 : decode mX5_countLoose.2.1 0 = .ok (.iconst 0, 1) := by decide +kernel
theorem eX5_countLoose_1 : decode mX5_countLoose.2.1 1 = .ok (.istore_n 1, 1) := by decide +kernel
theorem eX5_countLoose_2 : decode mX5_countLoose.2.1 2 = .ok (.iconst 0, 1) := by decide +kernel
theorem eX5_countLoose_3 : decode mX5_countLoose.2.1 3 = .ok (.istore_n 2, 1) := by decide +kernel
theorem eX5_countLoose_4 : decode mX5_countLoose.2.1 4 = .ok (.iload_n 2, 1) := by decide +kernel
theorem eX5_countLoose_5 : decode mX5_countLoose.2.1 5 = .ok (.aload_n 0, 1) := by decide +kernel
theorem eX5_countLoose_6 : decode mX5_countLoose.2.1 6 = .ok (.getfield 22, 3) := by decide +kernel
theorem eX5_countLoose_9 : decode mX5_countLoose.2.1 9 = .ok (.if_icmp .ge 30, 3) := by decide +kernel
theorem eX5_countLoose_12 : decode mX5_countLoose.2.1 12 = .ok (.aload_n 0, 1) := by decide +kernel
theorem eX5_countLoose_13 : decode mX5_countLoose.2.1 13 = .ok (.iload_n 2, 1) := by decide +kernel
theorem eX5_countLoose_14 : decode mX5_countLoose.2.1 14 = .ok (.invokevirtual 87, 3) := by decide +kernel
theorem eX5_countLoose_17 : decode mX5_countLoose.2.1 17 = .ok (.astore_n 3, 1) := by decide +kernel
theorem eX5_countLoose_18 : decode mX5_countLoose.2.1 18 = .ok (.aload_n 3, 1) := by decide +kernel
theorem eX5_countLoose_19 : decode mX5_countLoose.2.1 19 = .ok (.ifnull 14, 3) := by decide +kernel
theorem eX5_countLoose_22 : decode mX5_countLoose.2.1 22 = .ok (.aload_n 3, 1) := by decide +kernel
theorem eX5_countLoose_23 : decode mX5_countLoose.2.1 23 = .ok (.getfield 97, 3) := by decide +kernel
theorem eX5_countLoose_26 : decode mX5_countLoose.2.1 26 = .ok (.iconst (-1), 1) := by decide +kernel
theorem eX5_countLoose_27 : decode mX5_countLoose.2.1 27 = .ok (.if_icmp .ne 6, 3) := by decide +kernel
theorem eX5_countLoose_30 : decode mX5_countLoose.2.1 30 = .ok (.iinc 1 1, 3) := by decide +kernel
theorem eX5_countLoose_33 : decode mX5_countLoose.2.1 33 = .ok (.iinc 2 1, 3) := by decide +kernel
theorem eX5_countLoose_36 : decode mX5_countLoose.2.1 36 = .ok (.goto (-32), 3) := by decide +kernel
theorem eX5_countLoose_39 : decode mX5_countLoose.2.1 39 = .ok (.iload_n 1, 1) := by decide +kernel
theorem eX5_countLoose_40 : decode mX5_countLoose.2.1 40 = .ok (.ireturn, 1) := by decide +kernel
theorem eX5_addLine_0 : decode mX5_addLine.2.1 0 = .ok (.aload_n 0, 1) := by decide +kernel
theorem eX5_addLine_1 : decode mX5_addLine.2.1 1 = .ok (.getfield 39, 3) := by decide +kernel
theorem eX5_addLine_4 : decode mX5_addLine.2.1 4 = .ok (.ifCond .lt 23, 3) := by decide +kernel
theorem eX5_addLine_7 : decode mX5_addLine.2.1 7 = .ok (.aload_n 0, 1) := by decide +kernel
theorem eX5_addLine_8 : decode mX5_addLine.2.1 8 = .ok (.getfield 39, 3) := by decide +kernel
theorem eX5_addLine_11 : decode mX5_addLine.2.1 11 = .ok (.aload_n 0, 1) := by decide +kernel
theorem eX5_addLine_12 : decode mX5_addLine.2.1 12 = .ok (.getfield 36, 3) := by decide +kernel
theorem eX5_addLine_15 : decode mX5_addLine.2.1 15 = .ok (.arraylength, 1) := by decide +kernel
theorem eX5_addLine_16 : decode mX5_addLine.2.1 16 = .ok (.if_icmp .ge 11, 3) := by decide +kernel
theorem eX5_addLine_19 : decode mX5_addLine.2.1 19 = .ok (.iload_n 1, 1) := by decide +kernel
theorem eX5_addLine_20 : decode mX5_addLine.2.1 20 = .ok (.aload_n 0, 1) := by decide +kernel
theorem eX5_addLine_21 : decode mX5_addLine.2.1 21 = .ok (.invokevirtual 100, 3) := by decide +kernel
theorem eX5_addLine_24 : decode mX5_addLine.2.1 24 = .ok (.if_icmp .gt 5, 3) := by decide +kernel
theorem eX5_addLine_27 : decode mX5_addLine.2.1 27 = .ok (.iconst 0, 1) := by decide +kernel
theorem eX5_addLine_28 : decode mX5_addLine.2.1 28 = .ok (.ireturn, 1) := by decide +kernel
theorem eX5_addLine_29 : decode mX5_addLine.2.1 29 = .ok (.aload_n 0, 1) := by decide +kernel
theorem eX5_addLine_30 : decode mX5_addLine.2.1 30 = .ok (.getfield 36, 3) := by decide +kernel
theorem eX5_addLine_33 : decode mX5_addLine.2.1 33 = .ok (.aload_n 0, 1) := by decide +kernel
theorem eX5_addLine_34 : decode mX5_addLine.2.1 34 = .ok (.getfield 39, 3) := by decide +kernel
theorem eX5_addLine_37 : decode mX5_addLine.2.1 37 = .ok (.iload_n 1, 1) := by decide +kernel
theorem eX5_addLine_38 : decode mX5_addLine.2.1 38 = .ok (.iastore, 1) := by decide +kernel
theorem eX5_addLine_39 : decode mX5_addLine.2.1 39 = .ok (.aload_n 0, 1) := by decide +kernel
theorem eX5_addLine_40 : decode mX5_addLine.2.1 40 = .ok (.dup, 1) := by decide +kernel
theorem eX5_addLine_41 : decode mX5_addLine.2.1 41 = .ok (.getfield 39, 3) := by decide +kernel
theorem eX5_addLine_44 : decode mX5_addLine.2.1 44 = .ok (.iconst 1, 1) := by decide +kernel
theorem eX5_addLine_45 : decode mX5_addLine.2.1 45 = .ok (.iadd, 1) := by decide +kernel
theorem eX5_addLine_46 : decode mX5_addLine.2.1 46 = .ok (.putfield 39, 3) := by decide +kernel
theorem eX5_addLine_49 : decode mX5_addLine.2.1 49 = .ok (.iconst 1, 1) := by decide +kernel
theorem eX5_addLine_50 : decode mX5_addLine.2.1 50 = .ok (.ireturn, 1) := by decide +kernel
theorem eX5_lastLine_0 : decode mX5_lastLine.2.1 0 = .ok (.aload_n 0, 1) := by decide +kernel
theorem eX5_lastLine_1 : decode mX5_lastLine.2.1 1 = .ok (.getfield 39, 3) := by decide +kernel
theorem eX5_lastLine_4 : decode mX5_lastLine.2.1 4 = .ok (.iconst 1, 1) := by decide +kernel
theorem eX5_lastLine_5 : decode mX5_lastLine.2.1 5 = .ok (.isub, 1) := by decide +kernel
theorem eX5_lastLine_6 : decode mX5_lastLine.2.1 6 = .ok (.istore_n 1, 1) := by decide +kernel
theorem eX5_lastLine_7 : decode mX5_lastLine.2.1 7 = .ok (.iload_n 1, 1) := by decide +kernel
theorem eX5_lastLine_8 : decode mX5_lastLine.2.1 8 = .ok (.ifCond .lt 21, 3) := by decide +kernel
theorem eX5_lastLine_11 : decode mX5_lastLine.2.1 11 = .ok (.iload_n 1, 1) := by decide +kernel
theorem eX5_lastLine_12 : decode mX5_lastLine.2.1 12 = .ok (.aload_n 0, 1) := by decide +kernel
theorem eX5_lastLine_13 : decode mX5_lastLine.2.1 13 = .ok (.getfield 36, 3) := by decide +kernel
theorem eX5_lastLine_16 : decode mX5_lastLine.2.1 16 = .ok (.arraylength, 1) := by decide +kernel
theorem eX5_lastLine_17 : decode mX5_lastLine.2.1 17 = .ok (.if_icmp .ge 12, 3) := by decide +kernel
theorem eX5_lastLine_20 : decode mX5_lastLine.2.1 20 = .ok (.aload_n 0, 1) := by decide +kernel
theorem eX5_lastLine_21 : decode mX5_lastLine.2.1 21 = .ok (.getfield 36, 3) := by decide +kernel
theorem eX5_lastLine_24 : decode mX5_lastLine.2.1 24 = .ok (.iload_n 1, 1) := by decide +kernel
theorem eX5_lastLine_25 : decode mX5_lastLine.2.1 25 = .ok (.iaload, 1) := by decide +kernel
theorem eX5_lastLine_26 : decode mX5_lastLine.2.1 26 = .ok (.goto 4, 3) := by decide +kernel
theorem eX5_lastLine_29 : decode mX5_lastLine.2.1 29 = .ok (.iconst 0, 1) := by decide +kernel
theorem eX5_lastLine_30 : decode mX5_lastLine.2.1 30 = .ok (.ireturn, 1) := by decide +kernel
theorem eX5_dropLine_0 : decode mX5_dropLine.2.1 0 = .ok (.aload_n 0, 1) := by decide +kernel
theorem eX5_dropLine_1 : decode mX5_dropLine.2.1 1 = .ok (.getfield 39, 3) := by decide +kernel
theorem eX5_dropLine_4 : decode mX5_dropLine.2.1 4 = .ok (.ifCond .le 13, 3) := by decide +kernel
theorem eX5_dropLine_7 : decode mX5_dropLine.2.1 7 = .ok (.aload_n 0, 1) := by decide +kernel
theorem eX5_dropLine_8 : decode mX5_dropLine.2.1 8 = .ok (.dup, 1) := by decide +kernel
theorem eX5_dropLine_9 : decode mX5_dropLine.2.1 9 = .ok (.getfield 39, 3) := by decide +kernel
theorem eX5_dropLine_12 : decode mX5_dropLine.2.1 12 = .ok (.iconst 1, 1) := by decide +kernel
theorem eX5_dropLine_13 : decode mX5_dropLine.2.1 13 = .ok (.isub, 1) := by decide +kernel
theorem eX5_dropLine_14 : decode mX5_dropLine.2.1 14 = .ok (.putfield 39, 3) := by decide +kernel
theorem eX5_dropLine_17 : decode mX5_dropLine.2.1 17 = .ok (.return_, 1) := by decide +kernel
theorem eX5_firstLineAbove_0 : decode mX5_firstLineAbove.2.1 0 = .ok (.iconst 0, 1) := by decide +kernel
theorem eX5_firstLineAbove_1 : decode mX5_firstLineAbove.2.1 1 = .ok (.istore_n 2, 1) := by decide +kernel
theorem eX5_firstLineAbove_2 : decode mX5_firstLineAbove.2.1 2 = .ok (.iload_n 2, 1) := by decide +kernel
theorem eX5_firstLineAbove_3 : decode mX5_firstLineAbove.2.1 3 = .ok (.aload_n 0, 1) := by decide +kernel
theorem eX5_firstLineAbove_4 : decode mX5_firstLineAbove.2.1 4 = .ok (.getfield 39, 3) := by decide +kernel
theorem eX5_firstLineAbove_7 : decode mX5_firstLineAbove.2.1 7 = .ok (.if_icmp .ge 35, 3) := by decide +kernel
theorem eX5_firstLineAbove_10 : decode mX5_firstLineAbove.2.1 10 = .ok (.iload_n 2, 1) := by decide +kernel
theorem eX5_firstLineAbove_11 : decode mX5_firstLineAbove.2.1 11 = .ok (.aload_n 0, 1) := by decide +kernel
theorem eX5_firstLineAbove_12 : decode mX5_firstLineAbove.2.1 12 = .ok (.getfield 36, 3) := by decide +kernel
theorem eX5_firstLineAbove_15 : decode mX5_firstLineAbove.2.1 15 = .ok (.arraylength, 1) := by decide +kernel
theorem eX5_firstLineAbove_16 : decode mX5_firstLineAbove.2.1 16 = .ok (.if_icmp .ge 26, 3) := by decide +kernel
theorem eX5_firstLineAbove_19 : decode mX5_firstLineAbove.2.1 19 = .ok (.aload_n 0, 1) := by decide +kernel
theorem eX5_firstLineAbove_20 : decode mX5_firstLineAbove.2.1 20 = .ok (.getfield 36, 3) := by decide +kernel
theorem eX5_firstLineAbove_23 : decode mX5_firstLineAbove.2.1 23 = .ok (.iload_n 2, 1) := by decide +kernel
theorem eX5_firstLineAbove_24 : decode mX5_firstLineAbove.2.1 24 = .ok (.iaload, 1) := by decide +kernel
theorem eX5_firstLineAbove_25 : decode mX5_firstLineAbove.2.1 25 = .ok (.iload_n 1, 1) := by decide +kernel
theorem eX5_firstLineAbove_26 : decode mX5_firstLineAbove.2.1 26 = .ok (.if_icmp .le 10, 3) := by decide +kernel
theorem eX5_firstLineAbove_29 : decode mX5_firstLineAbove.2.1 29 = .ok (.aload_n 0, 1) := by decide +kernel
theorem eX5_firstLineAbove_30 : decode mX5_firstLineAbove.2.1 30 = .ok (.getfield 36, 3) := by decide +kernel
theorem eX5_firstLineAbove_33 : decode mX5_firstLineAbove.2.1 33 = .ok (.iload_n 2, 1) := by decide +kernel
theorem eX5_firstLineAbove_34 : decode mX5_firstLineAbove.2.1 34 = .ok (.iaload, 1) := by decide +kernel
theorem eX5_firstLineAbove_35 : decode mX5_firstLineAbove.2.1 35 = .ok (.ireturn, 1) := by decide +kernel
theorem eX5_firstLineAbove_36 : decode mX5_firstLineAbove.2.1 36 = .ok (.iinc 2 1, 3) := by decide +kernel
theorem eX5_firstLineAbove_39 : decode mX5_firstLineAbove.2.1 39 = .ok (.goto (-37), 3) := by decide +kernel
theorem eX5_firstLineAbove_42 : decode mX5_firstLineAbove.2.1 42 = .ok (.iconst (-1), 1) := by decide +kernel
theorem eX5_firstLineAbove_43 : decode mX5_firstLineAbove.2.1 43 = .ok (.ireturn, 1) := by decide +kernel
theorem eX6_init_0 : decode mX6_init.2.1 0 = .ok (.aload_n 0, 1) := by decide +kernel
theorem eX6_init_1 : decode mX6_init.2.1 1 = .ok (.invokespecial 1, 3) := by decide +kernel
theorem eX6_init_4 : decode mX6_init.2.1 4 = .ok (.aload_n 0, 1) := by decide +kernel
theorem eX6_init_5 : decode mX6_init.2.1 5 = .ok (.aconst_null, 1) := by decide +kernel
theorem eX6_init_6 : decode mX6_init.2.1 6 = .ok (.putfield 7, 3) := by decide +kernel
theorem eX6_init_9 : decode mX6_init.2.1 9 = .ok (.aload_n 0, 1) := by decide +kernel
theorem eX6_init_10 : decode mX6_init.2.1 10 = .ok (.iload_n 1, 1) := by decide +kernel
theorem eX6_init_11 : decode mX6_init.2.1 11 = .ok (.putfield 13, 3) := by decide +kernel
theorem eX6_init_14 : decode mX6_init.2.1 14 = .ok (.aload_n 0, 1) := by decide +kernel
theorem eX6_init_15 : decode mX6_init.2.1 15 = .ok (.iload_n 2, 1) := by decide +kernel
theorem eX6_init_16 : decode mX6_init.2.1 16 = .ok (.putfield 17, 3) := by decide +kernel
theorem eX6_init_19 : decode mX6_init.2.1 19 = .ok (.return_, 1) := by decide +kernel
theorem eX6_tellsHeight_0 : decode mX6_tellsHeight.2.1 0 = .ok (.aload_n 0, 1) := by decide +kernel
theorem eX6_tellsHeight_1 : decode mX6_tellsHeight.2.1 1 = .ok (.getfield 7, 3) := by decide +kernel
theorem eX6_tellsHeight_4 : decode mX6_tellsHeight.2.1 4 = .ok (.ifnull 20, 3) := by decide +kernel
theorem eX6_tellsHeight_7 : decode mX6_tellsHeight.2.1 7 = .ok (.iload_n 1, 1) := by decide +kernel
theorem eX6_tellsHeight_8 : decode mX6_tellsHeight.2.1 8 = .ok (.ifCond .lt 16, 3) := by decide +kernel
theorem eX6_tellsHeight_11 : decode mX6_tellsHeight.2.1 11 = .ok (.iload_n 1, 1) := by decide +kernel
theorem eX6_tellsHeight_12 : decode mX6_tellsHeight.2.1 12 = .ok (.aload_n 0, 1) := by decide +kernel
theorem eX6_tellsHeight_13 : decode mX6_tellsHeight.2.1 13 = .ok (.getfield 7, 3) := by decide +kernel
theorem eX6_tellsHeight_16 : decode mX6_tellsHeight.2.1 16 = .ok (.arraylength, 1) := by decide +kernel
theorem eX6_tellsHeight_17 : decode mX6_tellsHeight.2.1 17 = .ok (.if_icmp .ge 7, 3) := by decide +kernel
theorem eX6_tellsHeight_20 : decode mX6_tellsHeight.2.1 20 = .ok (.iconst 1, 1) := by decide +kernel
theorem eX6_tellsHeight_21 : decode mX6_tellsHeight.2.1 21 = .ok (.goto 4, 3) := by decide +kernel
theorem eX6_tellsHeight_24 : decode mX6_tellsHeight.2.1 24 = .ok (.iconst 0, 1) := by decide +kernel
theorem eX6_tellsHeight_25 : decode mX6_tellsHeight.2.1 25 = .ok (.ireturn, 1) := by decide +kernel
theorem eX6_standAt_0 : decode mX6_standAt.2.1 0 = .ok (.aload_n 0, 1) := by decide +kernel
theorem eX6_standAt_1 : decode mX6_standAt.2.1 1 = .ok (.iload_n 1, 1) := by decide +kernel
theorem eX6_standAt_2 : decode mX6_standAt.2.1 2 = .ok (.invokevirtual 20, 3) := by decide +kernel
theorem eX6_standAt_5 : decode mX6_standAt.2.1 5 = .ok (.ifCond .eq 12, 3) := by decide +kernel
theorem eX6_standAt_8 : decode mX6_standAt.2.1 8 = .ok (.aload_n 0, 1) := by decide +kernel
theorem eX6_standAt_9 : decode mX6_standAt.2.1 9 = .ok (.getfield 7, 3) := by decide +kernel
theorem eX6_standAt_12 : decode mX6_standAt.2.1 12 = .ok (.iload_n 1, 1) := by decide +kernel
theorem eX6_standAt_13 : decode mX6_standAt.2.1 13 = .ok (.saload, 1) := by decide +kernel
theorem eX6_standAt_14 : decode mX6_standAt.2.1 14 = .ok (.goto 4, 3) := by decide +kernel
theorem eX6_standAt_17 : decode mX6_standAt.2.1 17 = .ok (.iconst 0, 1) := by decide +kernel
theorem eX6_standAt_18 : decode mX6_standAt.2.1 18 = .ok (.ireturn, 1) := by decide +kernel
theorem eX6_putStand_0 : decode mX6_putStand.2.1 0 = .ok (.aload_n 0, 1) := by decide +kernel
theorem eX6_putStand_1 : decode mX6_putStand.2.1 1 = .ok (.iload_n 1, 1) := by decide +kernel
theorem eX6_putStand_2 : decode mX6_putStand.2.1 2 = .ok (.invokevirtual 20, 3) := by decide +kernel
theorem eX6_putStand_5 : decode mX6_putStand.2.1 5 = .ok (.ifCond .eq 11, 3) := by decide +kernel
theorem eX6_putStand_8 : decode mX6_putStand.2.1 8 = .ok (.aload_n 0, 1) := by decide +kernel
theorem eX6_putStand_9 : decode mX6_putStand.2.1 9 = .ok (.getfield 7, 3) := by decide +kernel
theorem eX6_putStand_12 : decode mX6_putStand.2.1 12 = .ok (.iload_n 1, 1) := by decide +kernel
theorem eX6_putStand_13 : decode mX6_putStand.2.1 13 = .ok (.iload_n 2, 1) := by decide +kernel
theorem eX6_putStand_14 : decode mX6_putStand.2.1 14 = .ok (.i2s, 1) := by decide +kernel
theorem eX6_putStand_15 : decode mX6_putStand.2.1 15 = .ok (.sastore, 1) := by decide +kernel
theorem eX6_putStand_16 : decode mX6_putStand.2.1 16 = .ok (.return_, 1) := by decide +kernel
theorem eX6_edgeAt_0 : decode mX6_edgeAt.2.1 0 = .ok (.iload_n 2, 1) := by decide +kernel
theorem eX6_edgeAt_1 : decode mX6_edgeAt.2.1 1 = .ok (.ifCond .le 19, 3) := by decide +kernel
theorem eX6_edgeAt_4 : decode mX6_edgeAt.2.1 4 = .ok (.aload_n 0, 1) := by decide +kernel
theorem eX6_edgeAt_5 : decode mX6_edgeAt.2.1 5 = .ok (.getfield 17, 3) := by decide +kernel
theorem eX6_edgeAt_8 : decode mX6_edgeAt.2.1 8 = .ok (.aload_n 0, 1) := by decide +kernel
theorem eX6_edgeAt_9 : decode mX6_edgeAt.2.1 9 = .ok (.getfield 13, 3) := by decide +kernel
theorem eX6_edgeAt_12 : decode mX6_edgeAt.2.1 12 = .ok (.isub, 1) := by decide +kernel
theorem eX6_edgeAt_13 : decode mX6_edgeAt.2.1 13 = .ok (.iload_n 1, 1) := by decide +kernel
theorem eX6_edgeAt_14 : decode mX6_edgeAt.2.1 14 = .ok (.imul, 1) := by decide +kernel
theorem eX6_edgeAt_15 : decode mX6_edgeAt.2.1 15 = .ok (.iload_n 2, 1) := by decide +kernel
theorem eX6_edgeAt_16 : decode mX6_edgeAt.2.1 16 = .ok (.idiv, 1) := by decide +kernel
theorem eX6_edgeAt_17 : decode mX6_edgeAt.2.1 17 = .ok (.goto 4, 3) := by decide +kernel
theorem eX6_edgeAt_20 : decode mX6_edgeAt.2.1 20 = .ok (.iconst 0, 1) := by decide +kernel
theorem eX6_edgeAt_21 : decode mX6_edgeAt.2.1 21 = .ok (.istore_n 3, 1) := by decide +kernel
theorem eX6_edgeAt_22 : decode mX6_edgeAt.2.1 22 = .ok (.aload_n 0, 1) := by decide +kernel
theorem eX6_edgeAt_23 : decode mX6_edgeAt.2.1 23 = .ok (.getfield 13, 3) := by decide +kernel
theorem eX6_edgeAt_26 : decode mX6_edgeAt.2.1 26 = .ok (.iload_n 3, 1) := by decide +kernel
theorem eX6_edgeAt_27 : decode mX6_edgeAt.2.1 27 = .ok (.iadd, 1) := by decide +kernel
theorem eX6_edgeAt_28 : decode mX6_edgeAt.2.1 28 = .ok (.aload_n 0, 1) := by decide +kernel
theorem eX6_edgeAt_29 : decode mX6_edgeAt.2.1 29 = .ok (.iload_n 1, 1) := by decide +kernel
theorem eX6_edgeAt_30 : decode mX6_edgeAt.2.1 30 = .ok (.invokevirtual 24, 3) := by decide +kernel
theorem eX6_edgeAt_33 : decode mX6_edgeAt.2.1 33 = .ok (.iadd, 1) := by decide +kernel
theorem eX6_edgeAt_34 : decode mX6_edgeAt.2.1 34 = .ok (.ireturn, 1) := by decide +kernel
theorem eX7_init_0 : decode mX7_init.2.1 0 = .ok (.aload_n 0, 1) := by decide +kernel
theorem eX7_init_1 : decode mX7_init.2.1 1 = .ok (.invokespecial 3, 3) := by decide +kernel
theorem eX7_init_4 : decode mX7_init.2.1 4 = .ok (.aload_n 0, 1) := by decide +kernel
theorem eX7_init_5 : decode mX7_init.2.1 5 = .ok (.bipush 61, 2) := by decide +kernel
theorem eX7_init_7 : decode mX7_init.2.1 7 = .ok (.newarray .int, 2) := by decide +kernel
theorem eX7_init_9 : decode mX7_init.2.1 9 = .ok (.putfield 9, 3) := by decide +kernel
theorem eX7_init_12 : decode mX7_init.2.1 12 = .ok (.aload_n 0, 1) := by decide +kernel
theorem eX7_init_13 : decode mX7_init.2.1 13 = .ok (.bipush 60, 2) := by decide +kernel
theorem eX7_init_15 : decode mX7_init.2.1 15 = .ok (.newarray .int, 2) := by decide +kernel
theorem eX7_init_17 : decode mX7_init.2.1 17 = .ok (.putfield 15, 3) := by decide +kernel
theorem eX7_init_20 : decode mX7_init.2.1 20 = .ok (.aload_n 0, 1) := by decide +kernel
theorem eX7_init_21 : decode mX7_init.2.1 21 = .ok (.bipush 60, 2) := by decide +kernel
theorem eX7_init_23 : decode mX7_init.2.1 23 = .ok (.newarray .long, 2) := by decide +kernel
theorem eX7_init_25 : decode mX7_init.2.1 25 = .ok (.putfield 18, 3) := by decide +kernel
theorem eX7_init_28 : decode mX7_init.2.1 28 = .ok (.aload_n 0, 1) := by decide +kernel
theorem eX7_init_29 : decode mX7_init.2.1 29 = .ok (.getfield 9, 3) := by decide +kernel
theorem eX7_init_32 : decode mX7_init.2.1 32 = .ok (.ldc 22, 2) := by decide +kernel
theorem eX7_init_34 : decode mX7_init.2.1 34 = .ok (.invokestatic 23, 3) := by decide +kernel
theorem eX7_init_37 : decode mX7_init.2.1 37 = .ok (.return_, 1) := by decide +kernel
theorem eX7_clear_0 : decode mX7_clear.2.1 0 = .ok (.aload_n 0, 1) := by decide +kernel
theorem eX7_clear_1 : decode mX7_clear.2.1 1 = .ok (.getfield 18, 3) := by decide +kernel
theorem eX7_clear_4 : decode mX7_clear.2.1 4 = .ok (.lconst 0, 1) := by decide +kernel
theorem eX7_clear_5 : decode mX7_clear.2.1 5 = .ok (.invokestatic 29, 3) := by decide +kernel
theorem eX7_clear_8 : decode mX7_clear.2.1 8 = .ok (.return_, 1) := by decide +kernel
theorem eX7_hoist_0 : decode mX7_hoist.2.1 0 = .ok (.aload_n 1, 1) := by decide +kernel
theorem eX7_hoist_1 : decode mX7_hoist.2.1 1 = .ok (.aload_n 1, 1) := by decide +kernel
theorem eX7_hoist_2 : decode mX7_hoist.2.1 2 = .ok (.getfield 32, 3) := by decide +kernel
theorem eX7_hoist_5 : decode mX7_hoist.2.1 5 = .ok (.putfield 38, 3) := by decide +kernel
theorem eX7_hoist_8 : decode mX7_hoist.2.1 8 = .ok (.aload_n 0, 1) := by decide +kernel
theorem eX7_hoist_9 : decode mX7_hoist.2.1 9 = .ok (.aload_n 1, 1) := by decide +kernel
theorem eX7_hoist_10 : decode mX7_hoist.2.1 10 = .ok (.aload_n 1, 1) := by decide +kernel
theorem eX7_hoist_11 : decode mX7_hoist.2.1 11 = .ok (.getfield 32, 3) := by decide +kernel
theorem eX7_hoist_14 : decode mX7_hoist.2.1 14 = .ok (.aload_n 1, 1) := by decide +kernel
theorem eX7_hoist_15 : decode mX7_hoist.2.1 15 = .ok (.getfield 41, 3) := by decide +kernel
theorem eX7_hoist_18 : decode mX7_hoist.2.1 18 = .ok (.iconst 1, 1) := by decide +kernel
theorem eX7_hoist_19 : decode mX7_hoist.2.1 19 = .ok (.invokevirtual 44, 3) := by decide +kernel
theorem eX7_hoist_22 : decode mX7_hoist.2.1 22 = .ok (.return_, 1) := by decide +kernel
theorem eX7_reefOnce_0 : decode mX7_reefOnce.2.1 0 = .ok (.aload_n 1, 1) := by decide +kernel
theorem eX7_reefOnce_1 : decode mX7_reefOnce.2.1 1 = .ok (.aload_n 1, 1) := by decide +kernel
theorem eX7_reefOnce_2 : decode mX7_reefOnce.2.1 2 = .ok (.getfield 38, 3) := by decide +kernel
theorem eX7_reefOnce_5 : decode mX7_reefOnce.2.1 5 = .ok (.invokevirtual 48, 3) := by decide +kernel
theorem eX7_reefOnce_8 : decode mX7_reefOnce.2.1 8 = .ok (.istore_n 2, 1) := by decide +kernel
theorem eX7_reefOnce_9 : decode mX7_reefOnce.2.1 9 = .ok (.iload_n 2, 1) := by decide +kernel
theorem eX7_reefOnce_10 : decode mX7_reefOnce.2.1 10 = .ok (.iconst (-1), 1) := by decide +kernel
theorem eX7_reefOnce_11 : decode mX7_reefOnce.2.1 11 = .ok (.if_icmp .ne 5, 3) := by decide +kernel
theorem eX7_reefOnce_14 : decode mX7_reefOnce.2.1 14 = .ok (.iconst 0, 1) := by decide +kernel
theorem eX7_reefOnce_15 : decode mX7_reefOnce.2.1 15 = .ok (.ireturn, 1) := by decide +kernel
theorem eX7_reefOnce_16 : decode mX7_reefOnce.2.1 16 = .ok (.aload_n 0, 1) := by decide +kernel
theorem eX7_reefOnce_17 : decode mX7_reefOnce.2.1 17 = .ok (.aload_n 1, 1) := by decide +kernel
theorem eX7_reefOnce_18 : decode mX7_reefOnce.2.1 18 = .ok (.aload_n 1, 1) := by decide +kernel
theorem eX7_reefOnce_19 : decode mX7_reefOnce.2.1 19 = .ok (.getfield 38, 3) := by decide +kernel
theorem eX7_reefOnce_22 : decode mX7_reefOnce.2.1 22 = .ok (.iload_n 2, 1) := by decide +kernel
theorem eX7_reefOnce_23 : decode mX7_reefOnce.2.1 23 = .ok (.iconst (-1), 1) := by decide +kernel
theorem eX7_reefOnce_24 : decode mX7_reefOnce.2.1 24 = .ok (.invokevirtual 44, 3) := by decide +kernel
theorem eX7_reefOnce_27 : decode mX7_reefOnce.2.1 27 = .ok (.aload_n 1, 1) := by decide +kernel
theorem eX7_reefOnce_28 : decode mX7_reefOnce.2.1 28 = .ok (.iload_n 2, 1) := by decide +kernel
theorem eX7_reefOnce_29 : decode mX7_reefOnce.2.1 29 = .ok (.putfield 38, 3) := by decide +kernel
theorem eX7_reefOnce_32 : decode mX7_reefOnce.2.1 32 = .ok (.iconst 1, 1) := by decide +kernel
theorem eX7_reefOnce_33 : decode mX7_reefOnce.2.1 33 = .ok (.ireturn, 1) := by decide +kernel
theorem eX7_addStrips_0 : decode mX7_addStrips.2.1 0 = .ok (.aload_n 1, 1) := by decide +kernel
theorem eX7_addStrips_1 : decode mX7_addStrips.2.1 1 = .ok (.getfield 52, 3) := by decide +kernel
theorem eX7_addStrips_4 : decode mX7_addStrips.2.1 4 = .ok (.ifnull 7, 3) := by decide +kernel
theorem eX7_addStrips_7 : decode mX7_addStrips.2.1 7 = .ok (.iload_n 2, 1) := by decide +kernel
theorem eX7_addStrips_8 : decode mX7_addStrips.2.1 8 = .ok (.ifCond .ge 4, 3) := by decide +kernel
theorem eX7_addStrips_11 : decode mX7_addStrips.2.1 11 = .ok (.return_, 1) := by decide +kernel
theorem eX7_addStrips_12 : decode mX7_addStrips.2.1 12 = .ok (.iload_n 3, 1) := by decide +kernel
theorem eX7_addStrips_13 : decode mX7_addStrips.2.1 13 = .ok (.aload_n 1, 1) := by decide +kernel
theorem eX7_addStrips_14 : decode mX7_addStrips.2.1 14 = .ok (.getfield 52, 3) := by decide +kernel
theorem eX7_addStrips_17 : decode mX7_addStrips.2.1 17 = .ok (.arraylength, 1) := by decide +kernel
theorem eX7_addStrips_18 : decode mX7_addStrips.2.1 18 = .ok (.invokestatic 55, 3) := by decide +kernel
theorem eX7_addStrips_21 : decode mX7_addStrips.2.1 21 = .ok (.aload_n 0, 1) := by decide +kernel
theorem eX7_addStrips_22 : decode mX7_addStrips.2.1 22 = .ok (.getfield 15, 3) := by decide +kernel
theorem eX7_addStrips_25 : decode mX7_addStrips.2.1 25 = .ok (.arraylength, 1) := by decide +kernel
theorem eX7_addStrips_26 : decode mX7_addStrips.2.1 26 = .ok (.aload_n 0, 1) := by decide +kernel
theorem eX7_addStrips_27 : decode mX7_addStrips.2.1 27 = .ok (.getfield 18, 3) := by decide +kernel
theorem eX7_addStrips_30 : decode mX7_addStrips.2.1 30 = .ok (.arraylength, 1) := by decide +kernel
theorem eX7_addStrips_31 : decode mX7_addStrips.2.1 31 = .ok (.invokestatic 55, 3) := by decide +kernel
theorem eX7_addStrips_34 : decode mX7_addStrips.2.1 34 = .ok (.invokestatic 55, 3) := by decide +kernel
theorem eX7_addStrips_37 : decode mX7_addStrips.2.1 37 = .ok (.istore 5, 2) := by decide +kernel
theorem eX7_addStrips_39 : decode mX7_addStrips.2.1 39 = .ok (.iload_n 2, 1) := by decide +kernel
theorem eX7_addStrips_40 : decode mX7_addStrips.2.1 40 = .ok (.istore 6, 2) := by decide +kernel
theorem eX7_addStrips_42 : decode mX7_addStrips.2.1 42 = .ok (.iload 6, 2) := by decide +kernel
theorem eX7_addStrips_44 : decode mX7_addStrips.2.1 44 = .ok (.iload 5, 2) := by decide +kernel
theorem eX7_addStrips_46 : decode mX7_addStrips.2.1 46 = .ok (.if_icmp .ge 40, 3) := by decide +kernel
theorem eX7_addStrips_49 : decode mX7_addStrips.2.1 49 = .ok (.aload_n 0, 1) := by decide +kernel
theorem eX7_addStrips_50 : decode mX7_addStrips.2.1 50 = .ok (.getfield 18, 3) := by decide +kernel
theorem eX7_addStrips_53 : decode mX7_addStrips.2.1 53 = .ok (.iload 6, 2) := by decide +kernel
theorem eX7_addStrips_55 : decode mX7_addStrips.2.1 55 = .ok (.dup2, 1) := by decide +kernel
theorem eX7_addStrips_56 : decode mX7_addStrips.2.1 56 = .ok (.laload, 1) := by decide +kernel
theorem eX7_addStrips_57 : decode mX7_addStrips.2.1 57 = .ok (.iload 4, 2) := by decide +kernel
theorem eX7_addStrips_59 : decode mX7_addStrips.2.1 59 = .ok (.i2l, 1) := by decide +kernel
theorem eX7_addStrips_60 : decode mX7_addStrips.2.1 60 = .ok (.aload_n 1, 1) := by decide +kernel
theorem eX7_addStrips_61 : decode mX7_addStrips.2.1 61 = .ok (.getfield 52, 3) := by decide +kernel
theorem eX7_addStrips_64 : decode mX7_addStrips.2.1 64 = .ok (.iload 6, 2) := by decide +kernel
theorem eX7_addStrips_66 : decode mX7_addStrips.2.1 66 = .ok (.iaload, 1) := by decide +kernel
theorem eX7_addStrips_67 : decode mX7_addStrips.2.1 67 = .ok (.i2l, 1) := by decide +kernel
theorem eX7_addStrips_68 : decode mX7_addStrips.2.1 68 = .ok (.lmul, 1) := by decide +kernel
theorem eX7_addStrips_69 : decode mX7_addStrips.2.1 69 = .ok (.aload_n 0, 1) := by decide +kernel
theorem eX7_addStrips_70 : decode mX7_addStrips.2.1 70 = .ok (.getfield 15, 3) := by decide +kernel
theorem eX7_addStrips_73 : decode mX7_addStrips.2.1 73 = .ok (.iload 6, 2) := by decide +kernel
theorem eX7_addStrips_75 : decode mX7_addStrips.2.1 75 = .ok (.iaload, 1) := by decide +kernel
theorem eX7_addStrips_76 : decode mX7_addStrips.2.1 76 = .ok (.i2l, 1) := by decide +kernel
theorem eX7_addStrips_77 : decode mX7_addStrips.2.1 77 = .ok (.lmul, 1) := by decide +kernel
theorem eX7_addStrips_78 : decode mX7_addStrips.2.1 78 = .ok (.ladd, 1) := by decide +kernel
theorem eX7_addStrips_79 : decode mX7_addStrips.2.1 79 = .ok (.lastore, 1) := by decide +kernel
theorem eX7_addStrips_80 : decode mX7_addStrips.2.1 80 = .ok (.iinc 6 1, 3) := by decide +kernel
theorem eX7_addStrips_83 : decode mX7_addStrips.2.1 83 = .ok (.goto (-41), 3) := by decide +kernel
theorem eX7_addStrips_86 : decode mX7_addStrips.2.1 86 = .ok (.return_, 1) := by decide +kernel
theorem eX7_forceAt_0 : decode mX7_forceAt.2.1 0 = .ok (.iload_n 1, 1) := by decide +kernel
theorem eX7_forceAt_1 : decode mX7_forceAt.2.1 1 = .ok (.ifCond .lt 21, 3) := by decide +kernel
theorem eX7_forceAt_4 : decode mX7_forceAt.2.1 4 = .ok (.iload_n 1, 1) := by decide +kernel
theorem eX7_forceAt_5 : decode mX7_forceAt.2.1 5 = .ok (.aload_n 0, 1) := by decide +kernel
theorem eX7_forceAt_6 : decode mX7_forceAt.2.1 6 = .ok (.getfield 18, 3) := by decide +kernel
theorem eX7_forceAt_9 : decode mX7_forceAt.2.1 9 = .ok (.arraylength, 1) := by decide +kernel
theorem eX7_forceAt_10 : decode mX7_forceAt.2.1 10 = .ok (.if_icmp .ge 12, 3) := by decide +kernel
theorem eX7_forceAt_13 : decode mX7_forceAt.2.1 13 = .ok (.aload_n 0, 1) := by decide +kernel
theorem eX7_forceAt_14 : decode mX7_forceAt.2.1 14 = .ok (.getfield 18, 3) := by decide +kernel
theorem eX7_forceAt_17 : decode mX7_forceAt.2.1 17 = .ok (.iload_n 1, 1) := by decide +kernel
theorem eX7_forceAt_18 : decode mX7_forceAt.2.1 18 = .ok (.laload, 1) := by decide +kernel
theorem eX7_forceAt_19 : decode mX7_forceAt.2.1 19 = .ok (.goto 4, 3) := by decide +kernel
theorem eX7_forceAt_22 : decode mX7_forceAt.2.1 22 = .ok (.lconst 0, 1) := by decide +kernel
theorem eX7_forceAt_23 : decode mX7_forceAt.2.1 23 = .ok (.lreturn, 1) := by decide +kernel
theorem eX7_pushAt_0 : decode mX7_pushAt.2.1 0 = .ok (.aload_n 0, 1) := by decide +kernel
theorem eX7_pushAt_1 : decode mX7_pushAt.2.1 1 = .ok (.iload_n 1, 1) := by decide +kernel
theorem eX7_pushAt_2 : decode mX7_pushAt.2.1 2 = .ok (.iconst 1, 1) := by decide +kernel
theorem eX7_pushAt_3 : decode mX7_pushAt.2.1 3 = .ok (.isub, 1) := by decide +kernel
theorem eX7_pushAt_4 : decode mX7_pushAt.2.1 4 = .ok (.invokevirtual 61, 3) := by decide +kernel
theorem eX7_pushAt_7 : decode mX7_pushAt.2.1 7 = .ok (.aload_n 0, 1) := by decide +kernel
theorem eX7_pushAt_8 : decode mX7_pushAt.2.1 8 = .ok (.iload_n 1, 1) := by decide +kernel
theorem eX7_pushAt_9 : decode mX7_pushAt.2.1 9 = .ok (.invokevirtual 61, 3) := by decide +kernel
theorem eX7_pushAt_12 : decode mX7_pushAt.2.1 12 = .ok (.ladd, 1) := by decide +kernel
theorem eX7_pushAt_13 : decode mX7_pushAt.2.1 13 = .ok (.lreturn, 1) := by decide +kernel
theorem eX7_firstBreak_0 : decode mX7_firstBreak.2.1 0 = .ok (.iconst 0, 1) := by decide +kernel
theorem eX7_firstBreak_1 : decode mX7_firstBreak.2.1 1 = .ok (.istore_n 1, 1) := by decide +kernel
theorem eX7_firstBreak_2 : decode mX7_firstBreak.2.1 2 = .ok (.iload_n 1, 1) := by decide +kernel
theorem eX7_firstBreak_3 : decode mX7_firstBreak.2.1 3 = .ok (.aload_n 0, 1) := by decide +kernel
theorem eX7_firstBreak_4 : decode mX7_firstBreak.2.1 4 = .ok (.getfield 9, 3) := by decide +kernel
theorem eX7_firstBreak_7 : decode mX7_firstBreak.2.1 7 = .ok (.arraylength, 1) := by decide +kernel
theorem eX7_firstBreak_8 : decode mX7_firstBreak.2.1 8 = .ok (.if_icmp .ge 31, 3) := by decide +kernel
theorem eX7_firstBreak_11 : decode mX7_firstBreak.2.1 11 = .ok (.aload_n 0, 1) := by decide +kernel
theorem eX7_firstBreak_12 : decode mX7_firstBreak.2.1 12 = .ok (.iload_n 1, 1) := by decide +kernel
theorem eX7_firstBreak_13 : decode mX7_firstBreak.2.1 13 = .ok (.invokevirtual 65, 3) := by decide +kernel
theorem eX7_firstBreak_16 : decode mX7_firstBreak.2.1 16 = .ok (.ldc2_w 68, 3) := by decide +kernel
theorem eX7_firstBreak_19 : decode mX7_firstBreak.2.1 19 = .ok (.aload_n 0, 1) := by decide +kernel
theorem eX7_firstBreak_20 : decode mX7_firstBreak.2.1 20 = .ok (.getfield 9, 3) := by decide +kernel
theorem eX7_firstBreak_23 : decode mX7_firstBreak.2.1 23 = .ok (.iload_n 1, 1) := by decide +kernel
theorem eX7_firstBreak_24 : decode mX7_firstBreak.2.1 24 = .ok (.iaload, 1) := by decide +kernel
theorem eX7_firstBreak_25 : decode mX7_firstBreak.2.1 25 = .ok (.i2l, 1) := by decide +kernel
theorem eX7_firstBreak_26 : decode mX7_firstBreak.2.1 26 = .ok (.lmul, 1) := by decide +kernel
theorem eX7_firstBreak_27 : decode mX7_firstBreak.2.1 27 = .ok (.lcmp, 1) := by decide +kernel
theorem eX7_firstBreak_28 : decode mX7_firstBreak.2.1 28 = .ok (.ifCond .le 5, 3) := by decide +kernel
theorem eX7_firstBreak_31 : decode mX7_firstBreak.2.1 31 = .ok (.iload_n 1, 1) := by decide +kernel
theorem eX7_firstBreak_32 : decode mX7_firstBreak.2.1 32 = .ok (.ireturn, 1) := by decide +kernel
theorem eX7_firstBreak_33 : decode mX7_firstBreak.2.1 33 = .ok (.iinc 1 1, 3) := by decide +kernel
theorem eX7_firstBreak_36 : decode mX7_firstBreak.2.1 36 = .ok (.goto (-34), 3) := by decide +kernel
theorem eX7_firstBreak_39 : decode mX7_firstBreak.2.1 39 = .ok (.iconst (-1), 1) := by decide +kernel
theorem eX7_firstBreak_40 : decode mX7_firstBreak.2.1 40 = .ok (.ireturn, 1) := by decide +kernel
theorem eJ9_max_7cf53_0 : decode mJ9_max_7cf53.2.1 0 = .ok (.iload_n 0, 1) := by decide +kernel
theorem eJ9_max_7cf53_1 : decode mJ9_max_7cf53.2.1 1 = .ok (.iload_n 1, 1) := by decide +kernel
theorem eJ9_max_7cf53_2 : decode mJ9_max_7cf53.2.1 2 = .ok (.if_icmp .lt 7, 3) := by decide +kernel
theorem eJ9_max_7cf53_5 : decode mJ9_max_7cf53.2.1 5 = .ok (.iload_n 0, 1) := by decide +kernel
theorem eJ9_max_7cf53_6 : decode mJ9_max_7cf53.2.1 6 = .ok (.goto 4, 3) := by decide +kernel
theorem eJ9_max_7cf53_9 : decode mJ9_max_7cf53.2.1 9 = .ok (.iload_n 1, 1) := by decide +kernel
theorem eJ9_max_7cf53_10 : decode mJ9_max_7cf53.2.1 10 = .ok (.ireturn, 1) := by decide +kernel
theorem eJ9_min_7cf53_0 : decode mJ9_min_7cf53.2.1 0 = .ok (.iload_n 0, 1) := by decide +kernel
theorem eJ9_min_7cf53_1 : decode mJ9_min_7cf53.2.1 1 = .ok (.iload_n 1, 1) := by decide +kernel
theorem eJ9_min_7cf53_2 : decode mJ9_min_7cf53.2.1 2 = .ok (.if_icmp .gt 7, 3) := by decide +kernel
theorem eJ9_min_7cf53_5 : decode mJ9_min_7cf53.2.1 5 = .ok (.iload_n 0, 1) := by decide +kernel
theorem eJ9_min_7cf53_6 : decode mJ9_min_7cf53.2.1 6 = .ok (.goto 4, 3) := by decide +kernel
theorem eJ9_min_7cf53_9 : decode mJ9_min_7cf53.2.1 9 = .ok (.iload_n 1, 1) := by decide +kernel
theorem eJ9_min_7cf53_10 : decode mJ9_min_7cf53.2.1 10 = .ok (.ireturn, 1) := by decide +kernel
theorem eJ7_fill_d0a16_0 : decode mJ7_fill_d0a16.2.1 0 = .ok (.iconst 0, 1) := by decide +kernel
theorem eJ7_fill_d0a16_1 : decode mJ7_fill_d0a16.2.1 1 = .ok (.istore_n 3, 1) := by decide +kernel
theorem eJ7_fill_d0a16_2 : decode mJ7_fill_d0a16.2.1 2 = .ok (.aload_n 0, 1) := by decide +kernel
theorem eJ7_fill_d0a16_3 : decode mJ7_fill_d0a16.2.1 3 = .ok (.arraylength, 1) := by decide +kernel
theorem eJ7_fill_d0a16_4 : decode mJ7_fill_d0a16.2.1 4 = .ok (.istore 4, 2) := by decide +kernel
theorem eJ7_fill_d0a16_6 : decode mJ7_fill_d0a16.2.1 6 = .ok (.iload_n 3, 1) := by decide +kernel
theorem eJ7_fill_d0a16_7 : decode mJ7_fill_d0a16.2.1 7 = .ok (.iload 4, 2) := by decide +kernel
theorem eJ7_fill_d0a16_9 : decode mJ7_fill_d0a16.2.1 9 = .ok (.if_icmp .ge 13, 3) := by decide +kernel
theorem eJ7_fill_d0a16_12 : decode mJ7_fill_d0a16.2.1 12 = .ok (.aload_n 0, 1) := by decide +kernel
theorem eJ7_fill_d0a16_13 : decode mJ7_fill_d0a16.2.1 13 = .ok (.iload_n 3, 1) := by decide +kernel
theorem eJ7_fill_d0a16_14 : decode mJ7_fill_d0a16.2.1 14 = .ok (.lload_n 1, 1) := by decide +kernel
theorem eJ7_fill_d0a16_15 : decode mJ7_fill_d0a16.2.1 15 = .ok (.lastore, 1) := by decide +kernel
theorem eJ7_fill_d0a16_16 : decode mJ7_fill_d0a16.2.1 16 = .ok (.iinc 3 1, 3) := by decide +kernel
theorem eJ7_fill_d0a16_19 : decode mJ7_fill_d0a16.2.1 19 = .ok (.goto (-13), 3) := by decide +kernel
theorem eJ7_fill_d0a16_22 : decode mJ7_fill_d0a16.2.1 22 = .ok (.return_, 1) := by decide +kernel
theorem eJ7_fill_53178_0 : decode mJ7_fill_53178.2.1 0 = .ok (.iconst 0, 1) := by decide +kernel
theorem eJ7_fill_53178_1 : decode mJ7_fill_53178.2.1 1 = .ok (.istore_n 2, 1) := by decide +kernel
theorem eJ7_fill_53178_2 : decode mJ7_fill_53178.2.1 2 = .ok (.aload_n 0, 1) := by decide +kernel
theorem eJ7_fill_53178_3 : decode mJ7_fill_53178.2.1 3 = .ok (.arraylength, 1) := by decide +kernel
theorem eJ7_fill_53178_4 : decode mJ7_fill_53178.2.1 4 = .ok (.istore_n 3, 1) := by decide +kernel
theorem eJ7_fill_53178_5 : decode mJ7_fill_53178.2.1 5 = .ok (.iload_n 2, 1) := by decide +kernel
theorem eJ7_fill_53178_6 : decode mJ7_fill_53178.2.1 6 = .ok (.iload_n 3, 1) := by decide +kernel
theorem eJ7_fill_53178_7 : decode mJ7_fill_53178.2.1 7 = .ok (.if_icmp .ge 13, 3) := by decide +kernel
theorem eJ7_fill_53178_10 : decode mJ7_fill_53178.2.1 10 = .ok (.aload_n 0, 1) := by decide +kernel
theorem eJ7_fill_53178_11 : decode mJ7_fill_53178.2.1 11 = .ok (.iload_n 2, 1) := by decide +kernel
theorem eJ7_fill_53178_12 : decode mJ7_fill_53178.2.1 12 = .ok (.iload_n 1, 1) := by decide +kernel
theorem eJ7_fill_53178_13 : decode mJ7_fill_53178.2.1 13 = .ok (.iastore, 1) := by decide +kernel
theorem eJ7_fill_53178_14 : decode mJ7_fill_53178.2.1 14 = .ok (.iinc 2 1, 3) := by decide +kernel
theorem eJ7_fill_53178_17 : decode mJ7_fill_53178.2.1 17 = .ok (.goto (-12), 3) := by decide +kernel
theorem eJ7_fill_53178_20 : decode mJ7_fill_53178.2.1 20 = .ok (.return_, 1) := by decide +kernel
theorem eJ7_fill_fb410_0 : decode mJ7_fill_fb410.2.1 0 = .ok (.iconst 0, 1) := by decide +kernel
theorem eJ7_fill_fb410_1 : decode mJ7_fill_fb410.2.1 1 = .ok (.istore_n 2, 1) := by decide +kernel
theorem eJ7_fill_fb410_2 : decode mJ7_fill_fb410.2.1 2 = .ok (.aload_n 0, 1) := by decide +kernel
theorem eJ7_fill_fb410_3 : decode mJ7_fill_fb410.2.1 3 = .ok (.arraylength, 1) := by decide +kernel
theorem eJ7_fill_fb410_4 : decode mJ7_fill_fb410.2.1 4 = .ok (.istore_n 3, 1) := by decide +kernel
theorem eJ7_fill_fb410_5 : decode mJ7_fill_fb410.2.1 5 = .ok (.iload_n 2, 1) := by decide +kernel
theorem eJ7_fill_fb410_6 : decode mJ7_fill_fb410.2.1 6 = .ok (.iload_n 3, 1) := by decide +kernel
theorem eJ7_fill_fb410_7 : decode mJ7_fill_fb410.2.1 7 = .ok (.if_icmp .ge 13, 3) := by decide +kernel
theorem eJ7_fill_fb410_10 : decode mJ7_fill_fb410.2.1 10 = .ok (.aload_n 0, 1) := by decide +kernel
theorem eJ7_fill_fb410_11 : decode mJ7_fill_fb410.2.1 11 = .ok (.iload_n 2, 1) := by decide +kernel
theorem eJ7_fill_fb410_12 : decode mJ7_fill_fb410.2.1 12 = .ok (.iload_n 1, 1) := by decide +kernel
theorem eJ7_fill_fb410_13 : decode mJ7_fill_fb410.2.1 13 = .ok (.sastore, 1) := by decide +kernel
theorem eJ7_fill_fb410_14 : decode mJ7_fill_fb410.2.1 14 = .ok (.iinc 2 1, 3) := by decide +kernel
theorem eJ7_fill_fb410_17 : decode mJ7_fill_fb410.2.1 17 = .ok (.goto (-12), 3) := by decide +kernel
theorem eJ7_fill_fb410_20 : decode mJ7_fill_fb410.2.1 20 = .ok (.return_, 1) := by decide +kernel
