abbrev vwCl : List vw_C := [(RX0, TX0, 7), (RX1, TX1, 13), (RX2, TX2, 12), (RX3, TX3, 9), (RX4, TX4, 6), (RX5, TX5, 7), (RX6, TX6, 5), (RX7, TX7, 6)]
theorem dX0_init_0 : decode cX0_init 0 = .ok (.aload_n 0, 1) := by decide +kernel
theorem dX0_init_1 : decode cX0_init 1 = .ok (.invokespecial 3, 3) := by decide +kernel
theorem dX0_init_4 : decode cX0_init 4 = .ok (.aload_n 0, 1) := by decide +kernel
theorem dX0_init_5 : decode cX0_init 5 = .ok (.bipush 10, 2) := by decide +kernel
theorem dX0_init_7 : decode cX0_init 7 = .ok (.bipush 10, 2) := by decide +kernel
theorem dX0_init_9 : decode cX0_init 9 = .ok (.multianewarray 9 2, 4) := by decide +kernel
theorem dX0_init_13 : decode cX0_init 13 = .ok (.putfield 11, 3) := by decide +kernel
theorem dX0_init_16 : decode cX0_init 16 = .ok (.aload_n 0, 1) := by decide +kernel
theorem dX0_init_17 : decode cX0_init 17 = .ok (.iconst 4, 1) := by decide +kernel
theorem dX0_init_18 : decode cX0_init 18 = .ok (.newarray .int, 2) := by decide +kernel
theorem dX0_init_20 : decode cX0_init 20 = .ok (.putfield 16, 3) := by decide +kernel
theorem dX0_init_23 : decode cX0_init 23 = .ok (.aload_n 0, 1) := by decide +kernel
theorem dX0_init_24 : decode cX0_init 24 = .ok (.iconst 4, 1) := by decide +kernel
theorem dX0_init_25 : decode cX0_init 25 = .ok (.newarray .int, 2) := by decide +kernel
theorem dX0_init_27 : decode cX0_init 27 = .ok (.putfield 20, 3) := by decide +kernel
theorem dX0_init_30 : decode cX0_init 30 = .ok (.aload_n 0, 1) := by decide +kernel
theorem dX0_init_31 : decode cX0_init 31 = .ok (.bipush 10, 2) := by decide +kernel
theorem dX0_init_33 : decode cX0_init 33 = .ok (.anewarray 23, 3) := by decide +kernel
theorem dX0_init_36 : decode cX0_init 36 = .ok (.putfield 25, 3) := by decide +kernel
theorem dX0_init_39 : decode cX0_init 39 = .ok (.aload_n 0, 1) := by decide +kernel
theorem dX0_init_40 : decode cX0_init 40 = .ok (.bipush 10, 2) := by decide +kernel
theorem dX0_init_42 : decode cX0_init 42 = .ok (.anewarray 23, 3) := by decide +kernel
theorem dX0_init_45 : decode cX0_init 45 = .ok (.putfield 29, 3) := by decide +kernel
theorem dX0_init_48 : decode cX0_init 48 = .ok (.aload_n 0, 1) := by decide +kernel
theorem dX0_init_49 : decode cX0_init 49 = .ok (.iload_n 1, 1) := by decide +kernel
theorem dX0_init_50 : decode cX0_init 50 = .ok (.putfield 32, 3) := by decide +kernel
theorem dX0_init_53 : decode cX0_init 53 = .ok (.return_, 1) := by decide +kernel
theorem dX0_isUp_0 : decode cX0_isUp 0 = .ok (.aload_n 0, 1) := by decide +kernel
theorem dX0_isUp_1 : decode cX0_isUp 1 = .ok (.getfield 11, 3) := by decide +kernel
theorem dX0_isUp_4 : decode cX0_isUp 4 = .ok (.iload_n 1, 1) := by decide +kernel
theorem dX0_isUp_5 : decode cX0_isUp 5 = .ok (.aaload, 1) := by decide +kernel
theorem dX0_isUp_6 : decode cX0_isUp 6 = .ok (.iload_n 2, 1) := by decide +kernel
theorem dX0_isUp_7 : decode cX0_isUp 7 = .ok (.iaload, 1) := by decide +kernel
theorem dX0_isUp_8 : decode cX0_isUp 8 = .ok (.ifCond .le 7, 3) := by decide +kernel
theorem dX0_isUp_11 : decode cX0_isUp 11 = .ok (.iconst 1, 1) := by decide +kernel
theorem dX0_isUp_12 : decode cX0_isUp 12 = .ok (.goto 4, 3) := by decide +kernel
theorem dX0_isUp_15 : decode cX0_isUp 15 = .ok (.iconst 0, 1) := by decide +kernel
theorem dX0_isUp_16 : decode cX0_isUp 16 = .ok (.ireturn, 1) := by decide +kernel
theorem dX0_nextArrival_0 : decode cX0_nextArrival 0 = .ok (.iconst 0, 1) := by decide +kernel
theorem dX0_nextArrival_1 : decode cX0_nextArrival 1 = .ok (.istore_n 2, 1) := by decide +kernel
theorem dX0_nextArrival_2 : decode cX0_nextArrival 2 = .ok (.iload_n 2, 1) := by decide +kernel
theorem dX0_nextArrival_3 : decode cX0_nextArrival 3 = .ok (.bipush 10, 2) := by decide +kernel
theorem dX0_nextArrival_5 : decode cX0_nextArrival 5 = .ok (.if_icmp .ge 29, 3) := by decide +kernel
theorem dX0_nextArrival_8 : decode cX0_nextArrival 8 = .ok (.aload_n 0, 1) := by decide +kernel
theorem dX0_nextArrival_9 : decode cX0_nextArrival 9 = .ok (.getfield 25, 3) := by decide +kernel
theorem dX0_nextArrival_12 : decode cX0_nextArrival 12 = .ok (.iload_n 1, 1) := by decide +kernel
theorem dX0_nextArrival_13 : decode cX0_nextArrival 13 = .ok (.iload_n 2, 1) := by decide +kernel
theorem dX0_nextArrival_14 : decode cX0_nextArrival 14 = .ok (.iadd, 1) := by decide +kernel
theorem dX0_nextArrival_15 : decode cX0_nextArrival 15 = .ok (.bipush 10, 2) := by decide +kernel
theorem dX0_nextArrival_17 : decode cX0_nextArrival 17 = .ok (.invokestatic 53, 3) := by decide +kernel
theorem dX0_nextArrival_20 : decode cX0_nextArrival 20 = .ok (.aaload, 1) := by decide +kernel
theorem dX0_nextArrival_21 : decode cX0_nextArrival 21 = .ok (.ifnull 7, 3) := by decide +kernel
theorem dX0_nextArrival_24 : decode cX0_nextArrival 24 = .ok (.iload_n 1, 1) := by decide +kernel
theorem dX0_nextArrival_25 : decode cX0_nextArrival 25 = .ok (.iload_n 2, 1) := by decide +kernel
theorem dX0_nextArrival_26 : decode cX0_nextArrival 26 = .ok (.iadd, 1) := by decide +kernel
theorem dX0_nextArrival_27 : decode cX0_nextArrival 27 = .ok (.ireturn, 1) := by decide +kernel
theorem dX0_nextArrival_28 : decode cX0_nextArrival 28 = .ok (.iinc 2 1, 3) := by decide +kernel
theorem dX0_nextArrival_31 : decode cX0_nextArrival 31 = .ok (.goto (-29), 3) := by decide +kernel
theorem dX0_nextArrival_34 : decode cX0_nextArrival 34 = .ok (.iconst (-1), 1) := by decide +kernel
theorem dX0_nextArrival_35 : decode cX0_nextArrival 35 = .ok (.ireturn, 1) := by decide +kernel
theorem dX0_takeArrived_0 : decode cX0_takeArrived 0 = .ok (.iload_n 1, 1) := by decide +kernel
theorem dX0_takeArrived_1 : decode cX0_takeArrived 1 = .ok (.bipush 10, 2) := by decide +kernel
theorem dX0_takeArrived_3 : decode cX0_takeArrived 3 = .ok (.invokestatic 53, 3) := by decide +kernel
theorem dX0_takeArrived_6 : decode cX0_takeArrived 6 = .ok (.istore_n 2, 1) := by decide +kernel
theorem dX0_takeArrived_7 : decode cX0_takeArrived 7 = .ok (.aload_n 0, 1) := by decide +kernel
theorem dX0_takeArrived_8 : decode cX0_takeArrived 8 = .ok (.getfield 25, 3) := by decide +kernel
theorem dX0_takeArrived_11 : decode cX0_takeArrived 11 = .ok (.iload_n 2, 1) := by decide +kernel
theorem dX0_takeArrived_12 : decode cX0_takeArrived 12 = .ok (.aaload, 1) := by decide +kernel
theorem dX0_takeArrived_13 : decode cX0_takeArrived 13 = .ok (.astore_n 3, 1) := by decide +kernel
theorem dX0_takeArrived_14 : decode cX0_takeArrived 14 = .ok (.aload_n 3, 1) := by decide +kernel
theorem dX0_takeArrived_15 : decode cX0_takeArrived 15 = .ok (.ifnull 40, 3) := by decide +kernel
theorem dX0_takeArrived_18 : decode cX0_takeArrived 18 = .ok (.aload_n 0, 1) := by decide +kernel
theorem dX0_takeArrived_19 : decode cX0_takeArrived 19 = .ok (.getfield 25, 3) := by decide +kernel
theorem dX0_takeArrived_22 : decode cX0_takeArrived 22 = .ok (.iload_n 2, 1) := by decide +kernel
theorem dX0_takeArrived_23 : decode cX0_takeArrived 23 = .ok (.aload_n 3, 1) := by decide +kernel
theorem dX0_takeArrived_24 : decode cX0_takeArrived 24 = .ok (.getfield 41, 3) := by decide +kernel
theorem dX0_takeArrived_27 : decode cX0_takeArrived 27 = .ok (.aastore, 1) := by decide +kernel
theorem dX0_takeArrived_28 : decode cX0_takeArrived 28 = .ok (.aload_n 3, 1) := by decide +kernel
theorem dX0_takeArrived_29 : decode cX0_takeArrived 29 = .ok (.getfield 41, 3) := by decide +kernel
theorem dX0_takeArrived_32 : decode cX0_takeArrived 32 = .ok (.ifnonnull 10, 3) := by decide +kernel
theorem dX0_takeArrived_35 : decode cX0_takeArrived 35 = .ok (.aload_n 0, 1) := by decide +kernel
theorem dX0_takeArrived_36 : decode cX0_takeArrived 36 = .ok (.getfield 29, 3) := by decide +kernel
theorem dX0_takeArrived_39 : decode cX0_takeArrived 39 = .ok (.iload_n 2, 1) := by decide +kernel
theorem dX0_takeArrived_40 : decode cX0_takeArrived 40 = .ok (.aconst_null, 1) := by decide +kernel
theorem dX0_takeArrived_41 : decode cX0_takeArrived 41 = .ok (.aastore, 1) := by decide +kernel
theorem dX0_takeArrived_42 : decode cX0_takeArrived 42 = .ok (.aload_n 0, 1) := by decide +kernel
theorem dX0_takeArrived_43 : decode cX0_takeArrived 43 = .ok (.getfield 16, 3) := by decide +kernel
theorem dX0_takeArrived_46 : decode cX0_takeArrived 46 = .ok (.aload_n 3, 1) := by decide +kernel
theorem dX0_takeArrived_47 : decode cX0_takeArrived 47 = .ok (.getfield 44, 3) := by decide +kernel
theorem dX0_takeArrived_50 : decode cX0_takeArrived 50 = .ok (.dup2, 1) := by decide +kernel
theorem dX0_takeArrived_51 : decode cX0_takeArrived 51 = .ok (.iaload, 1) := by decide +kernel
theorem dX0_takeArrived_52 : decode cX0_takeArrived 52 = .ok (.iconst 1, 1) := by decide +kernel
theorem dX0_takeArrived_53 : decode cX0_takeArrived 53 = .ok (.isub, 1) := by decide +kernel
theorem dX0_takeArrived_54 : decode cX0_takeArrived 54 = .ok (.iastore, 1) := by decide +kernel
theorem dX0_takeArrived_55 : decode cX0_takeArrived 55 = .ok (.aload_n 3, 1) := by decide +kernel
theorem dX0_takeArrived_56 : decode cX0_takeArrived 56 = .ok (.areturn, 1) := by decide +kernel
theorem dX0_fewestLinks_0 : decode cX0_fewestLinks 0 = .ok (.iconst 1, 1) := by decide +kernel
theorem dX0_fewestLinks_1 : decode cX0_fewestLinks 1 = .ok (.iload_n 1, 1) := by decide +kernel
theorem dX0_fewestLinks_2 : decode cX0_fewestLinks 2 = .ok (.ishl, 1) := by decide +kernel
theorem dX0_fewestLinks_3 : decode cX0_fewestLinks 3 = .ok (.istore_n 3, 1) := by decide +kernel
theorem dX0_fewestLinks_4 : decode cX0_fewestLinks 4 = .ok (.iconst 0, 1) := by decide +kernel
theorem dX0_fewestLinks_5 : decode cX0_fewestLinks 5 = .ok (.istore 4, 2) := by decide +kernel
theorem dX0_fewestLinks_7 : decode cX0_fewestLinks 7 = .ok (.iload 4, 2) := by decide +kernel
theorem dX0_fewestLinks_9 : decode cX0_fewestLinks 9 = .ok (.aload_n 0, 1) := by decide +kernel
theorem dX0_fewestLinks_10 : decode cX0_fewestLinks 10 = .ok (.getfield 32, 3) := by decide +kernel
theorem dX0_fewestLinks_13 : decode cX0_fewestLinks 13 = .ok (.if_icmp .ge 28, 3) := by decide +kernel
theorem dX0_fewestLinks_16 : decode cX0_fewestLinks 16 = .ok (.iload_n 3, 1) := by decide +kernel
theorem dX0_fewestLinks_17 : decode cX0_fewestLinks 17 = .ok (.iload_n 2, 1) := by decide +kernel
theorem dX0_fewestLinks_18 : decode cX0_fewestLinks 18 = .ok (.ishr, 1) := by decide +kernel
theorem dX0_fewestLinks_19 : decode cX0_fewestLinks 19 = .ok (.iconst 1, 1) := by decide +kernel
theorem dX0_fewestLinks_20 : decode cX0_fewestLinks 20 = .ok (.iand, 1) := by decide +kernel
theorem dX0_fewestLinks_21 : decode cX0_fewestLinks 21 = .ok (.ifCond .eq 6, 3) := by decide +kernel
theorem dX0_fewestLinks_24 : decode cX0_fewestLinks 24 = .ok (.iload 4, 2) := by decide +kernel
theorem dX0_fewestLinks_26 : decode cX0_fewestLinks 26 = .ok (.ireturn, 1) := by decide +kernel
theorem dX0_fewestLinks_27 : decode cX0_fewestLinks 27 = .ok (.iload_n 3, 1) := by decide +kernel
theorem dX0_fewestLinks_28 : decode cX0_fewestLinks 28 = .ok (.aload_n 0, 1) := by decide +kernel
theorem dX0_fewestLinks_29 : decode cX0_fewestLinks 29 = .ok (.iload_n 3, 1) := by decide +kernel
theorem dX0_fewestLinks_30 : decode cX0_fewestLinks 30 = .ok (.invokevirtual 67, 3) := by decide +kernel
theorem dX0_fewestLinks_33 : decode cX0_fewestLinks 33 = .ok (.ior, 1) := by decide +kernel
theorem dX0_fewestLinks_34 : decode cX0_fewestLinks 34 = .ok (.istore_n 3, 1) := by decide +kernel
theorem dX0_fewestLinks_35 : decode cX0_fewestLinks 35 = .ok (.iinc 4 1, 3) := by decide +kernel
theorem dX0_fewestLinks_38 : decode cX0_fewestLinks 38 = .ok (.goto (-31), 3) := by decide +kernel
theorem dX0_fewestLinks_41 : decode cX0_fewestLinks 41 = .ok (.iconst (-1), 1) := by decide +kernel
theorem dX0_fewestLinks_42 : decode cX0_fewestLinks 42 = .ok (.ireturn, 1) := by decide +kernel
theorem dX0_neighbours_0 : decode cX0_neighbours 0 = .ok (.iconst 0, 1) := by decide +kernel
theorem dX0_neighbours_1 : decode cX0_neighbours 1 = .ok (.istore_n 2, 1) := by decide +kernel
theorem dX0_neighbours_2 : decode cX0_neighbours 2 = .ok (.iconst 0, 1) := by decide +kernel
theorem dX0_neighbours_3 : decode cX0_neighbours 3 = .ok (.istore_n 3, 1) := by decide +kernel
theorem dX0_neighbours_4 : decode cX0_neighbours 4 = .ok (.iload_n 3, 1) := by decide +kernel
theorem dX0_neighbours_5 : decode cX0_neighbours 5 = .ok (.aload_n 0, 1) := by decide +kernel
theorem dX0_neighbours_6 : decode cX0_neighbours 6 = .ok (.getfield 32, 3) := by decide +kernel
theorem dX0_neighbours_9 : decode cX0_neighbours 9 = .ok (.if_icmp .ge 52, 3) := by decide +kernel
theorem dX0_neighbours_12 : decode cX0_neighbours 12 = .ok (.iconst 0, 1) := by decide +kernel
theorem dX0_neighbours_13 : decode cX0_neighbours 13 = .ok (.istore 4, 2) := by decide +kernel
theorem dX0_neighbours_15 : decode cX0_neighbours 15 = .ok (.iload 4, 2) := by decide +kernel
theorem dX0_neighbours_17 : decode cX0_neighbours 17 = .ok (.aload_n 0, 1) := by decide +kernel
theorem dX0_neighbours_18 : decode cX0_neighbours 18 = .ok (.getfield 32, 3) := by decide +kernel
theorem dX0_neighbours_21 : decode cX0_neighbours 21 = .ok (.if_icmp .ge 34, 3) := by decide +kernel
theorem dX0_neighbours_24 : decode cX0_neighbours 24 = .ok (.iload_n 1, 1) := by decide +kernel
theorem dX0_neighbours_25 : decode cX0_neighbours 25 = .ok (.iload_n 3, 1) := by decide +kernel
theorem dX0_neighbours_26 : decode cX0_neighbours 26 = .ok (.ishr, 1) := by decide +kernel
theorem dX0_neighbours_27 : decode cX0_neighbours 27 = .ok (.iconst 1, 1) := by decide +kernel
theorem dX0_neighbours_28 : decode cX0_neighbours 28 = .ok (.iand, 1) := by decide +kernel
theorem dX0_neighbours_29 : decode cX0_neighbours 29 = .ok (.ifCond .eq 20, 3) := by decide +kernel
theorem dX0_neighbours_32 : decode cX0_neighbours 32 = .ok (.aload_n 0, 1) := by decide +kernel
theorem dX0_neighbours_33 : decode cX0_neighbours 33 = .ok (.iload_n 3, 1) := by decide +kernel
theorem dX0_neighbours_34 : decode cX0_neighbours 34 = .ok (.iload 4, 2) := by decide +kernel
theorem dX0_neighbours_36 : decode cX0_neighbours 36 = .ok (.invokevirtual 71, 3) := by decide +kernel
theorem dX0_neighbours_39 : decode cX0_neighbours 39 = .ok (.ifCond .eq 10, 3) := by decide +kernel
theorem dX0_neighbours_42 : decode cX0_neighbours 42 = .ok (.iload_n 2, 1) := by decide +kernel
theorem dX0_neighbours_43 : decode cX0_neighbours 43 = .ok (.iconst 1, 1) := by decide +kernel
theorem dX0_neighbours_44 : decode cX0_neighbours 44 = .ok (.iload 4, 2) := by decide +kernel
theorem dX0_neighbours_46 : decode cX0_neighbours 46 = .ok (.ishl, 1) := by decide +kernel
theorem dX0_neighbours_47 : decode cX0_neighbours 47 = .ok (.ior, 1) := by decide +kernel
theorem dX0_neighbours_48 : decode cX0_neighbours 48 = .ok (.istore_n 2, 1) := by decide +kernel
theorem dX0_neighbours_49 : decode cX0_neighbours 49 = .ok (.iinc 4 1, 3) := by decide +kernel
theorem dX0_neighbours_52 : decode cX0_neighbours 52 = .ok (.goto (-37), 3) := by decide +kernel
theorem dX0_neighbours_55 : decode cX0_neighbours 55 = .ok (.iinc 3 1, 3) := by decide +kernel
theorem dX0_neighbours_58 : decode cX0_neighbours 58 = .ok (.goto (-54), 3) := by decide +kernel
theorem dX0_neighbours_61 : decode cX0_neighbours 61 = .ok (.iload_n 2, 1) := by decide +kernel
theorem dX0_neighbours_62 : decode cX0_neighbours 62 = .ok (.ireturn, 1) := by decide +kernel
theorem dX0_mixedInto_0 : decode cX0_mixedInto 0 = .ok (.lload_n 1, 1) := by decide +kernel
theorem dX0_mixedInto_1 : decode cX0_mixedInto 1 = .ok (.lstore_n 3, 1) := by decide +kernel
theorem dX0_mixedInto_2 : decode cX0_mixedInto 2 = .ok (.iconst 0, 1) := by decide +kernel
theorem dX0_mixedInto_3 : decode cX0_mixedInto 3 = .ok (.istore 5, 2) := by decide +kernel
theorem dX0_mixedInto_5 : decode cX0_mixedInto 5 = .ok (.iload 5, 2) := by decide +kernel
theorem dX0_mixedInto_7 : decode cX0_mixedInto 7 = .ok (.iconst 4, 1) := by decide +kernel
theorem dX0_mixedInto_8 : decode cX0_mixedInto 8 = .ok (.if_icmp .ge 24, 3) := by decide +kernel
theorem dX0_mixedInto_11 : decode cX0_mixedInto 11 = .ok (.lload_n 3, 1) := by decide +kernel
theorem dX0_mixedInto_12 : decode cX0_mixedInto 12 = .ok (.ldc2_w 74, 3) := by decide +kernel
theorem dX0_mixedInto_15 : decode cX0_mixedInto 15 = .ok (.lmul, 1) := by decide +kernel
theorem dX0_mixedInto_16 : decode cX0_mixedInto 16 = .ok (.aload_n 0, 1) := by decide +kernel
theorem dX0_mixedInto_17 : decode cX0_mixedInto 17 = .ok (.getfield 20, 3) := by decide +kernel
theorem dX0_mixedInto_20 : decode cX0_mixedInto 20 = .ok (.iload 5, 2) := by decide +kernel
theorem dX0_mixedInto_22 : decode cX0_mixedInto 22 = .ok (.iaload, 1) := by decide +kernel
theorem dX0_mixedInto_23 : decode cX0_mixedInto 23 = .ok (.i2l, 1) := by decide +kernel
theorem dX0_mixedInto_24 : decode cX0_mixedInto 24 = .ok (.ladd, 1) := by decide +kernel
theorem dX0_mixedInto_25 : decode cX0_mixedInto 25 = .ok (.lstore_n 3, 1) := by decide +kernel
theorem dX0_mixedInto_26 : decode cX0_mixedInto 26 = .ok (.iinc 5 1, 3) := by decide +kernel
theorem dX0_mixedInto_29 : decode cX0_mixedInto 29 = .ok (.goto (-24), 3) := by decide +kernel
theorem dX0_mixedInto_32 : decode cX0_mixedInto 32 = .ok (.iconst 0, 1) := by decide +kernel
theorem dX0_mixedInto_33 : decode cX0_mixedInto 33 = .ok (.istore 5, 2) := by decide +kernel
theorem dX0_mixedInto_35 : decode cX0_mixedInto 35 = .ok (.iload 5, 2) := by decide +kernel
theorem dX0_mixedInto_37 : decode cX0_mixedInto 37 = .ok (.iconst 4, 1) := by decide +kernel
theorem dX0_mixedInto_38 : decode cX0_mixedInto 38 = .ok (.if_icmp .ge 24, 3) := by decide +kernel
theorem dX0_mixedInto_41 : decode cX0_mixedInto 41 = .ok (.lload_n 3, 1) := by decide +kernel
theorem dX0_mixedInto_42 : decode cX0_mixedInto 42 = .ok (.ldc2_w 74, 3) := by decide +kernel
theorem dX0_mixedInto_45 : decode cX0_mixedInto 45 = .ok (.lmul, 1) := by decide +kernel
theorem dX0_mixedInto_46 : decode cX0_mixedInto 46 = .ok (.aload_n 0, 1) := by decide +kernel
theorem dX0_mixedInto_47 : decode cX0_mixedInto 47 = .ok (.getfield 16, 3) := by decide +kernel
theorem dX0_mixedInto_50 : decode cX0_mixedInto 50 = .ok (.iload 5, 2) := by decide +kernel
theorem dX0_mixedInto_52 : decode cX0_mixedInto 52 = .ok (.iaload, 1) := by decide +kernel
theorem dX0_mixedInto_53 : decode cX0_mixedInto 53 = .ok (.i2l, 1) := by decide +kernel
theorem dX0_mixedInto_54 : decode cX0_mixedInto 54 = .ok (.ladd, 1) := by decide +kernel
theorem dX0_mixedInto_55 : decode cX0_mixedInto 55 = .ok (.lstore_n 3, 1) := by decide +kernel
theorem dX0_mixedInto_56 : decode cX0_mixedInto 56 = .ok (.iinc 5 1, 3) := by decide +kernel
theorem dX0_mixedInto_59 : decode cX0_mixedInto 59 = .ok (.goto (-24), 3) := by decide +kernel
theorem dX0_mixedInto_62 : decode cX0_mixedInto 62 = .ok (.lload_n 3, 1) := by decide +kernel
theorem dX0_mixedInto_63 : decode cX0_mixedInto 63 = .ok (.lreturn, 1) := by decide +kernel
theorem dX0_become_0 : decode cX0_become 0 = .ok (.iconst 0, 1) := by decide +kernel
theorem dX0_become_1 : decode cX0_become 1 = .ok (.istore_n 2, 1) := by decide +kernel
theorem dX0_become_2 : decode cX0_become 2 = .ok (.iload_n 2, 1) := by decide +kernel
theorem dX0_become_3 : decode cX0_become 3 = .ok (.bipush 10, 2) := by decide +kernel
theorem dX0_become_5 : decode cX0_become 5 = .ok (.if_icmp .ge 24, 3) := by decide +kernel
theorem dX0_become_8 : decode cX0_become 8 = .ok (.aload_n 1, 1) := by decide +kernel
theorem dX0_become_9 : decode cX0_become 9 = .ok (.getfield 11, 3) := by decide +kernel
theorem dX0_become_12 : decode cX0_become 12 = .ok (.iload_n 2, 1) := by decide +kernel
theorem dX0_become_13 : decode cX0_become 13 = .ok (.aaload, 1) := by decide +kernel
theorem dX0_become_14 : decode cX0_become 14 = .ok (.aload_n 0, 1) := by decide +kernel
theorem dX0_become_15 : decode cX0_become 15 = .ok (.getfield 11, 3) := by decide +kernel
theorem dX0_become_18 : decode cX0_become 18 = .ok (.iload_n 2, 1) := by decide +kernel
theorem dX0_become_19 : decode cX0_become 19 = .ok (.aaload, 1) := by decide +kernel
theorem dX0_become_20 : decode cX0_become 20 = .ok (.invokestatic 76, 3) := by decide +kernel
theorem dX0_become_23 : decode cX0_become 23 = .ok (.iinc 2 1, 3) := by decide +kernel
theorem dX0_become_26 : decode cX0_become 26 = .ok (.goto (-24), 3) := by decide +kernel
theorem dX0_become_29 : decode cX0_become 29 = .ok (.iconst 0, 1) := by decide +kernel
theorem dX0_become_30 : decode cX0_become 30 = .ok (.istore_n 2, 1) := by decide +kernel
theorem dX0_become_31 : decode cX0_become 31 = .ok (.iload_n 2, 1) := by decide +kernel
theorem dX0_become_32 : decode cX0_become 32 = .ok (.bipush 10, 2) := by decide +kernel
theorem dX0_become_34 : decode cX0_become 34 = .ok (.if_icmp .ge 58, 3) := by decide +kernel
theorem dX0_become_37 : decode cX0_become 37 = .ok (.aload_n 0, 1) := by decide +kernel
theorem dX0_become_38 : decode cX0_become 38 = .ok (.iload_n 2, 1) := by decide +kernel
theorem dX0_become_39 : decode cX0_become 39 = .ok (.invokevirtual 80, 3) := by decide +kernel
theorem dX0_become_42 : decode cX0_become 42 = .ok (.aload_n 1, 1) := by decide +kernel
theorem dX0_become_43 : decode cX0_become 43 = .ok (.getfield 25, 3) := by decide +kernel
theorem dX0_become_46 : decode cX0_become 46 = .ok (.iload_n 2, 1) := by decide +kernel
theorem dX0_become_47 : decode cX0_become 47 = .ok (.aaload, 1) := by decide +kernel
theorem dX0_become_48 : decode cX0_become 48 = .ok (.astore_n 3, 1) := by decide +kernel
theorem dX0_become_49 : decode cX0_become 49 = .ok (.aload_n 3, 1) := by decide +kernel
theorem dX0_become_50 : decode cX0_become 50 = .ok (.ifnull 36, 3) := by decide +kernel
theorem dX0_become_53 : decode cX0_become 53 = .ok (.aload_n 0, 1) := by decide +kernel
theorem dX0_become_54 : decode cX0_become 54 = .ok (.aload_n 3, 1) := by decide +kernel
theorem dX0_become_55 : decode cX0_become 55 = .ok (.getfield 44, 3) := by decide +kernel
theorem dX0_become_58 : decode cX0_become 58 = .ok (.aload_n 3, 1) := by decide +kernel
theorem dX0_become_59 : decode cX0_become 59 = .ok (.getfield 47, 3) := by decide +kernel
theorem dX0_become_62 : decode cX0_become 62 = .ok (.aload_n 3, 1) := by decide +kernel
theorem dX0_become_63 : decode cX0_become 63 = .ok (.getfield 50, 3) := by decide +kernel
theorem dX0_become_66 : decode cX0_become 66 = .ok (.iload_n 2, 1) := by decide +kernel
theorem dX0_become_67 : decode cX0_become 67 = .ok (.invokevirtual 84, 3) := by decide +kernel
theorem dX0_become_70 : decode cX0_become 70 = .ok (.astore 4, 2) := by decide +kernel
theorem dX0_become_72 : decode cX0_become 72 = .ok (.aload 4, 2) := by decide +kernel
theorem dX0_become_74 : decode cX0_become 74 = .ok (.aload_n 3, 1) := by decide +kernel
theorem dX0_become_75 : decode cX0_become 75 = .ok (.invokevirtual 88, 3) := by decide +kernel
theorem dX0_become_78 : decode cX0_become 78 = .ok (.aload_n 3, 1) := by decide +kernel
theorem dX0_become_79 : decode cX0_become 79 = .ok (.getfield 41, 3) := by decide +kernel
theorem dX0_become_82 : decode cX0_become 82 = .ok (.astore_n 3, 1) := by decide +kernel
theorem dX0_become_83 : decode cX0_become 83 = .ok (.goto (-34), 3) := by decide +kernel
theorem dX0_become_86 : decode cX0_become 86 = .ok (.iinc 2 1, 3) := by decide +kernel
theorem dX0_become_89 : decode cX0_become 89 = .ok (.goto (-58), 3) := by decide +kernel
theorem dX0_become_92 : decode cX0_become 92 = .ok (.aload_n 1, 1) := by decide +kernel
theorem dX0_become_93 : decode cX0_become 93 = .ok (.getfield 16, 3) := by decide +kernel
theorem dX0_become_96 : decode cX0_become 96 = .ok (.aload_n 0, 1) := by decide +kernel
theorem dX0_become_97 : decode cX0_become 97 = .ok (.getfield 16, 3) := by decide +kernel
theorem dX0_become_100 : decode cX0_become 100 = .ok (.invokestatic 76, 3) := by decide +kernel
theorem dX0_become_103 : decode cX0_become 103 = .ok (.aload_n 1, 1) := by decide +kernel
theorem dX0_become_104 : decode cX0_become 104 = .ok (.getfield 20, 3) := by decide +kernel
theorem dX0_become_107 : decode cX0_become 107 = .ok (.aload_n 0, 1) := by decide +kernel
theorem dX0_become_108 : decode cX0_become 108 = .ok (.getfield 20, 3) := by decide +kernel
theorem dX0_become_111 : decode cX0_become 111 = .ok (.invokestatic 76, 3) := by decide +kernel
theorem dX0_become_114 : decode cX0_become 114 = .ok (.return_, 1) := by decide +kernel
theorem dX0_emptySlot_0 : decode cX0_emptySlot 0 = .ok (.aload_n 0, 1) := by decide +kernel
theorem dX0_emptySlot_1 : decode cX0_emptySlot 1 = .ok (.getfield 29, 3) := by decide +kernel
theorem dX0_emptySlot_4 : decode cX0_emptySlot 4 = .ok (.iload_n 1, 1) := by decide +kernel
theorem dX0_emptySlot_5 : decode cX0_emptySlot 5 = .ok (.aaload, 1) := by decide +kernel
theorem dX0_emptySlot_6 : decode cX0_emptySlot 6 = .ok (.astore_n 2, 1) := by decide +kernel
theorem dX0_emptySlot_7 : decode cX0_emptySlot 7 = .ok (.aload_n 2, 1) := by decide +kernel
theorem dX0_emptySlot_8 : decode cX0_emptySlot 8 = .ok (.ifnull 35, 3) := by decide +kernel
theorem dX0_emptySlot_11 : decode cX0_emptySlot 11 = .ok (.aload_n 2, 1) := by decide +kernel
theorem dX0_emptySlot_12 : decode cX0_emptySlot 12 = .ok (.aload_n 0, 1) := by decide +kernel
theorem dX0_emptySlot_13 : decode cX0_emptySlot 13 = .ok (.getfield 36, 3) := by decide +kernel
theorem dX0_emptySlot_16 : decode cX0_emptySlot 16 = .ok (.putfield 41, 3) := by decide +kernel
theorem dX0_emptySlot_19 : decode cX0_emptySlot 19 = .ok (.aload_n 0, 1) := by decide +kernel
theorem dX0_emptySlot_20 : decode cX0_emptySlot 20 = .ok (.aload_n 0, 1) := by decide +kernel
theorem dX0_emptySlot_21 : decode cX0_emptySlot 21 = .ok (.getfield 25, 3) := by decide +kernel
theorem dX0_emptySlot_24 : decode cX0_emptySlot 24 = .ok (.iload_n 1, 1) := by decide +kernel
theorem dX0_emptySlot_25 : decode cX0_emptySlot 25 = .ok (.aaload, 1) := by decide +kernel
theorem dX0_emptySlot_26 : decode cX0_emptySlot 26 = .ok (.putfield 36, 3) := by decide +kernel
theorem dX0_emptySlot_29 : decode cX0_emptySlot 29 = .ok (.aload_n 0, 1) := by decide +kernel
theorem dX0_emptySlot_30 : decode cX0_emptySlot 30 = .ok (.getfield 25, 3) := by decide +kernel
theorem dX0_emptySlot_33 : decode cX0_emptySlot 33 = .ok (.iload_n 1, 1) := by decide +kernel
theorem dX0_emptySlot_34 : decode cX0_emptySlot 34 = .ok (.aconst_null, 1) := by decide +kernel
theorem dX0_emptySlot_35 : decode cX0_emptySlot 35 = .ok (.aastore, 1) := by decide +kernel
theorem dX0_emptySlot_36 : decode cX0_emptySlot 36 = .ok (.aload_n 0, 1) := by decide +kernel
theorem dX0_emptySlot_37 : decode cX0_emptySlot 37 = .ok (.getfield 29, 3) := by decide +kernel
theorem dX0_emptySlot_40 : decode cX0_emptySlot 40 = .ok (.iload_n 1, 1) := by decide +kernel
theorem dX0_emptySlot_41 : decode cX0_emptySlot 41 = .ok (.aconst_null, 1) := by decide +kernel
theorem dX0_emptySlot_42 : decode cX0_emptySlot 42 = .ok (.aastore, 1) := by decide +kernel
theorem dX0_emptySlot_43 : decode cX0_emptySlot 43 = .ok (.return_, 1) := by decide +kernel
theorem dX1_init_0 : decode cX1_init 0 = .ok (.aload_n 0, 1) := by decide +kernel
theorem dX1_init_1 : decode cX1_init 1 = .ok (.invokespecial 1, 3) := by decide +kernel
theorem dX1_init_4 : decode cX1_init 4 = .ok (.return_, 1) := by decide +kernel
theorem dX2_init_0 : decode cX2_init 0 = .ok (.aload_n 0, 1) := by decide +kernel
theorem dX2_init_1 : decode cX2_init 1 = .ok (.invokespecial 3, 3) := by decide +kernel
theorem dX2_init_4 : decode cX2_init 4 = .ok (.aload_n 0, 1) := by decide +kernel
theorem dX2_init_5 : decode cX2_init 5 = .ok (.getstatic 9, 3) := by decide +kernel
theorem dX2_init_8 : decode cX2_init 8 = .ok (.invokevirtual 13, 3) := by decide +kernel
theorem dX2_init_11 : decode cX2_init 11 = .ok (.checkcast 14, 3) := by decide +kernel
theorem dX2_init_14 : decode cX2_init 14 = .ok (.putfield 18, 3) := by decide +kernel
theorem dX2_init_17 : decode cX2_init 17 = .ok (.aload_n 0, 1) := by decide +kernel
theorem dX2_init_18 : decode cX2_init 18 = .ok (.bipush 10, 2) := by decide +kernel
theorem dX2_init_20 : decode cX2_init 20 = .ok (.newarray .int, 2) := by decide +kernel
theorem dX2_init_22 : decode cX2_init 22 = .ok (.putfield 23, 3) := by decide +kernel
theorem dX2_init_25 : decode cX2_init 25 = .ok (.aload_n 0, 1) := by decide +kernel
theorem dX2_init_26 : decode cX2_init 26 = .ok (.new 26, 3) := by decide +kernel
theorem dX2_init_29 : decode cX2_init 29 = .ok (.dup, 1) := by decide +kernel
theorem dX2_init_30 : decode cX2_init 30 = .ok (.invokespecial 28, 3) := by decide +kernel
theorem dX2_init_33 : decode cX2_init 33 = .ok (.putfield 29, 3) := by decide +kernel
theorem dX2_init_36 : decode cX2_init 36 = .ok (.aload_n 0, 1) := by decide +kernel
theorem dX2_init_37 : decode cX2_init 37 = .ok (.new 33, 3) := by decide +kernel
theorem dX2_init_40 : decode cX2_init 40 = .ok (.dup, 1) := by decide +kernel
theorem dX2_init_41 : decode cX2_init 41 = .ok (.invokespecial 35, 3) := by decide +kernel
theorem dX2_init_44 : decode cX2_init 44 = .ok (.putfield 36, 3) := by decide +kernel
theorem dX2_init_47 : decode cX2_init 47 = .ok (.aload_n 0, 1) := by decide +kernel
theorem dX2_init_48 : decode cX2_init 48 = .ok (.new 40, 3) := by decide +kernel
theorem dX2_init_51 : decode cX2_init 51 = .ok (.dup, 1) := by decide +kernel
theorem dX2_init_52 : decode cX2_init 52 = .ok (.invokespecial 42, 3) := by decide +kernel
theorem dX2_init_55 : decode cX2_init 55 = .ok (.putfield 43, 3) := by decide +kernel
theorem dX2_init_58 : decode cX2_init 58 = .ok (.aload_n 0, 1) := by decide +kernel
theorem dX2_init_59 : decode cX2_init 59 = .ok (.sipush 256, 3) := by decide +kernel
theorem dX2_init_62 : decode cX2_init 62 = .ok (.newarray .int, 2) := by decide +kernel
theorem dX2_init_64 : decode cX2_init 64 = .ok (.putfield 47, 3) := by decide +kernel
theorem dX2_init_67 : decode cX2_init 67 = .ok (.aload_n 0, 1) := by decide +kernel
theorem dX2_init_68 : decode cX2_init 68 = .ok (.new 50, 3) := by decide +kernel
theorem dX2_init_71 : decode cX2_init 71 = .ok (.dup, 1) := by decide +kernel
theorem dX2_init_72 : decode cX2_init 72 = .ok (.invokespecial 52, 3) := by decide +kernel
theorem dX2_init_75 : decode cX2_init 75 = .ok (.putfield 53, 3) := by decide +kernel
theorem dX2_init_78 : decode cX2_init 78 = .ok (.aload_n 0, 1) := by decide +kernel
theorem dX2_init_79 : decode cX2_init 79 = .ok (.iload_n 1, 1) := by decide +kernel
theorem dX2_init_80 : decode cX2_init 80 = .ok (.putfield 57, 3) := by decide +kernel
theorem dX2_init_83 : decode cX2_init 83 = .ok (.aload_n 0, 1) := by decide +kernel
theorem dX2_init_84 : decode cX2_init 84 = .ok (.new 61, 3) := by decide +kernel
theorem dX2_init_87 : decode cX2_init 87 = .ok (.dup, 1) := by decide +kernel
theorem dX2_init_88 : decode cX2_init 88 = .ok (.iload_n 1, 1) := by decide +kernel
theorem dX2_init_89 : decode cX2_init 89 = .ok (.invokespecial 63, 3) := by decide +kernel
theorem dX2_init_92 : decode cX2_init 92 = .ok (.putfield 66, 3) := by decide +kernel
theorem dX2_init_95 : decode cX2_init 95 = .ok (.return_, 1) := by decide +kernel
theorem dX2_become_0 : decode cX2_become 0 = .ok (.aload_n 0, 1) := by decide +kernel
theorem dX2_become_1 : decode cX2_become 1 = .ok (.aload_n 1, 1) := by decide +kernel
theorem dX2_become_2 : decode cX2_become 2 = .ok (.getfield 70, 3) := by decide +kernel
theorem dX2_become_5 : decode cX2_become 5 = .ok (.putfield 70, 3) := by decide +kernel
theorem dX2_become_8 : decode cX2_become 8 = .ok (.aload_n 1, 1) := by decide +kernel
theorem dX2_become_9 : decode cX2_become 9 = .ok (.getfield 18, 3) := by decide +kernel
theorem dX2_become_12 : decode cX2_become 12 = .ok (.aload_n 0, 1) := by decide +kernel
theorem dX2_become_13 : decode cX2_become 13 = .ok (.getfield 18, 3) := by decide +kernel
theorem dX2_become_16 : decode cX2_become 16 = .ok (.invokestatic 73, 3) := by decide +kernel
theorem dX2_become_19 : decode cX2_become 19 = .ok (.aload_n 1, 1) := by decide +kernel
theorem dX2_become_20 : decode cX2_become 20 = .ok (.getfield 23, 3) := by decide +kernel
theorem dX2_become_23 : decode cX2_become 23 = .ok (.aload_n 0, 1) := by decide +kernel
theorem dX2_become_24 : decode cX2_become 24 = .ok (.getfield 23, 3) := by decide +kernel
theorem dX2_become_27 : decode cX2_become 27 = .ok (.invokestatic 73, 3) := by decide +kernel
theorem dX2_become_30 : decode cX2_become 30 = .ok (.aload_n 0, 1) := by decide +kernel
theorem dX2_become_31 : decode cX2_become 31 = .ok (.getfield 66, 3) := by decide +kernel
theorem dX2_become_34 : decode cX2_become 34 = .ok (.aload_n 1, 1) := by decide +kernel
theorem dX2_become_35 : decode cX2_become 35 = .ok (.getfield 66, 3) := by decide +kernel
theorem dX2_become_38 : decode cX2_become 38 = .ok (.invokevirtual 77, 3) := by decide +kernel
theorem dX2_become_41 : decode cX2_become 41 = .ok (.aload_n 0, 1) := by decide +kernel
theorem dX2_become_42 : decode cX2_become 42 = .ok (.getfield 29, 3) := by decide +kernel
theorem dX2_become_45 : decode cX2_become 45 = .ok (.aload_n 1, 1) := by decide +kernel
theorem dX2_become_46 : decode cX2_become 46 = .ok (.getfield 29, 3) := by decide +kernel
theorem dX2_become_49 : decode cX2_become 49 = .ok (.invokevirtual 81, 3) := by decide +kernel
theorem dX2_become_52 : decode cX2_become 52 = .ok (.aload_n 0, 1) := by decide +kernel
theorem dX2_become_53 : decode cX2_become 53 = .ok (.getfield 36, 3) := by decide +kernel
theorem dX2_become_56 : decode cX2_become 56 = .ok (.aload_n 1, 1) := by decide +kernel
theorem dX2_become_57 : decode cX2_become 57 = .ok (.getfield 36, 3) := by decide +kernel
theorem dX2_become_60 : decode cX2_become 60 = .ok (.invokevirtual 84, 3) := by decide +kernel
theorem dX2_become_63 : decode cX2_become 63 = .ok (.aload_n 0, 1) := by decide +kernel
theorem dX2_become_64 : decode cX2_become 64 = .ok (.getfield 43, 3) := by decide +kernel
theorem dX2_become_67 : decode cX2_become 67 = .ok (.aload_n 1, 1) := by decide +kernel
theorem dX2_become_68 : decode cX2_become 68 = .ok (.getfield 43, 3) := by decide +kernel
theorem dX2_become_71 : decode cX2_become 71 = .ok (.invokevirtual 87, 3) := by decide +kernel
theorem dX2_become_74 : decode cX2_become 74 = .ok (.aload_n 0, 1) := by decide +kernel
theorem dX2_become_75 : decode cX2_become 75 = .ok (.aload_n 1, 1) := by decide +kernel
theorem dX2_become_76 : decode cX2_become 76 = .ok (.getfield 90, 3) := by decide +kernel
theorem dX2_become_79 : decode cX2_become 79 = .ok (.putfield 90, 3) := by decide +kernel
theorem dX2_become_82 : decode cX2_become 82 = .ok (.aload_n 0, 1) := by decide +kernel
theorem dX2_become_83 : decode cX2_become 83 = .ok (.getfield 47, 3) := by decide +kernel
theorem dX2_become_86 : decode cX2_become 86 = .ok (.arraylength, 1) := by decide +kernel
theorem dX2_become_87 : decode cX2_become 87 = .ok (.aload_n 0, 1) := by decide +kernel
theorem dX2_become_88 : decode cX2_become 88 = .ok (.getfield 90, 3) := by decide +kernel
theorem dX2_become_91 : decode cX2_become 91 = .ok (.if_icmp .ge 14, 3) := by decide +kernel
theorem dX2_become_94 : decode cX2_become 94 = .ok (.aload_n 0, 1) := by decide +kernel
theorem dX2_become_95 : decode cX2_become 95 = .ok (.aload_n 1, 1) := by decide +kernel
theorem dX2_become_96 : decode cX2_become 96 = .ok (.getfield 47, 3) := by decide +kernel
theorem dX2_become_99 : decode cX2_become 99 = .ok (.arraylength, 1) := by decide +kernel
theorem dX2_become_100 : decode cX2_become 100 = .ok (.newarray .int, 2) := by decide +kernel
theorem dX2_become_102 : decode cX2_become 102 = .ok (.putfield 47, 3) := by decide +kernel
theorem dX2_become_105 : decode cX2_become 105 = .ok (.aload_n 1, 1) := by decide +kernel
theorem dX2_become_106 : decode cX2_become 106 = .ok (.getfield 47, 3) := by decide +kernel
theorem dX2_become_109 : decode cX2_become 109 = .ok (.iconst 0, 1) := by decide +kernel
theorem dX2_become_110 : decode cX2_become 110 = .ok (.aload_n 0, 1) := by decide +kernel
theorem dX2_become_111 : decode cX2_become 111 = .ok (.getfield 47, 3) := by decide +kernel
theorem dX2_become_114 : decode cX2_become 114 = .ok (.iconst 0, 1) := by decide +kernel
theorem dX2_become_115 : decode cX2_become 115 = .ok (.aload_n 0, 1) := by decide +kernel
theorem dX2_become_116 : decode cX2_become 116 = .ok (.getfield 90, 3) := by decide +kernel
theorem dX2_become_119 : decode cX2_become 119 = .ok (.invokestatic 93, 3) := by decide +kernel
theorem dX2_become_122 : decode cX2_become 122 = .ok (.return_, 1) := by decide +kernel
theorem dX2_timeOfNext_0 : decode cX2_timeOfNext 0 = .ok (.aload_n 0, 1) := by decide +kernel
theorem dX2_timeOfNext_1 : decode cX2_timeOfNext 1 = .ok (.getfield 66, 3) := by decide +kernel
theorem dX2_timeOfNext_4 : decode cX2_timeOfNext 4 = .ok (.aload_n 0, 1) := by decide +kernel
theorem dX2_timeOfNext_5 : decode cX2_timeOfNext 5 = .ok (.getfield 70, 3) := by decide +kernel
theorem dX2_timeOfNext_8 : decode cX2_timeOfNext 8 = .ok (.invokevirtual 99, 3) := by decide +kernel
theorem dX2_timeOfNext_11 : decode cX2_timeOfNext 11 = .ok (.istore_n 1, 1) := by decide +kernel
theorem dX2_timeOfNext_12 : decode cX2_timeOfNext 12 = .ok (.aload_n 0, 1) := by decide +kernel
theorem dX2_timeOfNext_13 : decode cX2_timeOfNext 13 = .ok (.getfield 36, 3) := by decide +kernel
theorem dX2_timeOfNext_16 : decode cX2_timeOfNext 16 = .ok (.invokevirtual 103, 3) := by decide +kernel
theorem dX2_timeOfNext_19 : decode cX2_timeOfNext 19 = .ok (.istore_n 2, 1) := by decide +kernel
theorem dX2_timeOfNext_20 : decode cX2_timeOfNext 20 = .ok (.iload_n 1, 1) := by decide +kernel
theorem dX2_timeOfNext_21 : decode cX2_timeOfNext 21 = .ok (.iconst (-1), 1) := by decide +kernel
theorem dX2_timeOfNext_22 : decode cX2_timeOfNext 22 = .ok (.if_icmp .eq 13, 3) := by decide +kernel
theorem dX2_timeOfNext_25 : decode cX2_timeOfNext 25 = .ok (.iload_n 2, 1) := by decide +kernel
theorem dX2_timeOfNext_26 : decode cX2_timeOfNext 26 = .ok (.iconst (-1), 1) := by decide +kernel
theorem dX2_timeOfNext_27 : decode cX2_timeOfNext 27 = .ok (.if_icmp .eq 12, 3) := by decide +kernel
theorem dX2_timeOfNext_30 : decode cX2_timeOfNext 30 = .ok (.iload_n 2, 1) := by decide +kernel
theorem dX2_timeOfNext_31 : decode cX2_timeOfNext 31 = .ok (.iload_n 1, 1) := by decide +kernel
theorem dX2_timeOfNext_32 : decode cX2_timeOfNext 32 = .ok (.if_icmp .ge 7, 3) := by decide +kernel
theorem dX2_timeOfNext_35 : decode cX2_timeOfNext 35 = .ok (.iload_n 2, 1) := by decide +kernel
theorem dX2_timeOfNext_36 : decode cX2_timeOfNext 36 = .ok (.goto 4, 3) := by decide +kernel
theorem dX2_timeOfNext_39 : decode cX2_timeOfNext 39 = .ok (.iload_n 1, 1) := by decide +kernel
theorem dX2_timeOfNext_40 : decode cX2_timeOfNext 40 = .ok (.ireturn, 1) := by decide +kernel
theorem dX2_advance_0 : decode cX2_advance 0 = .ok (.aload_n 0, 1) := by decide +kernel
theorem dX2_advance_1 : decode cX2_advance 1 = .ok (.getfield 70, 3) := by decide +kernel
theorem dX2_advance_4 : decode cX2_advance 4 = .ok (.iload_n 1, 1) := by decide +kernel
theorem dX2_advance_5 : decode cX2_advance 5 = .ok (.iadd, 1) := by decide +kernel
theorem dX2_advance_6 : decode cX2_advance 6 = .ok (.istore_n 2, 1) := by decide +kernel
theorem dX2_advance_7 : decode cX2_advance 7 = .ok (.iconst 0, 1) := by decide +kernel
theorem dX2_advance_8 : decode cX2_advance 8 = .ok (.istore_n 3, 1) := by decide +kernel
theorem dX2_advance_9 : decode cX2_advance 9 = .ok (.iload_n 3, 1) := by decide +kernel
theorem dX2_advance_10 : decode cX2_advance 10 = .ok (.ldc 107, 2) := by decide +kernel
theorem dX2_advance_12 : decode cX2_advance 12 = .ok (.if_icmp .ge 30, 3) := by decide +kernel
theorem dX2_advance_15 : decode cX2_advance 15 = .ok (.aload_n 0, 1) := by decide +kernel
theorem dX2_advance_16 : decode cX2_advance 16 = .ok (.invokevirtual 108, 3) := by decide +kernel
theorem dX2_advance_19 : decode cX2_advance 19 = .ok (.iconst (-1), 1) := by decide +kernel
theorem dX2_advance_20 : decode cX2_advance 20 = .ok (.if_icmp .eq 22, 3) := by decide +kernel
theorem dX2_advance_23 : decode cX2_advance 23 = .ok (.aload_n 0, 1) := by decide +kernel
theorem dX2_advance_24 : decode cX2_advance 24 = .ok (.invokevirtual 108, 3) := by decide +kernel
theorem dX2_advance_27 : decode cX2_advance 27 = .ok (.iload_n 2, 1) := by decide +kernel
theorem dX2_advance_28 : decode cX2_advance 28 = .ok (.if_icmp .gt 14, 3) := by decide +kernel
theorem dX2_advance_31 : decode cX2_advance 31 = .ok (.aload_n 0, 1) := by decide +kernel
theorem dX2_advance_32 : decode cX2_advance 32 = .ok (.invokevirtual 111, 3) := by decide +kernel
theorem dX2_advance_35 : decode cX2_advance 35 = .ok (.pop, 1) := by decide +kernel
theorem dX2_advance_36 : decode cX2_advance 36 = .ok (.iinc 3 1, 3) := by decide +kernel
theorem dX2_advance_39 : decode cX2_advance 39 = .ok (.goto (-30), 3) := by decide +kernel
theorem dX2_advance_42 : decode cX2_advance 42 = .ok (.aload_n 0, 1) := by decide +kernel
theorem dX2_advance_43 : decode cX2_advance 43 = .ok (.iload_n 2, 1) := by decide +kernel
theorem dX2_advance_44 : decode cX2_advance 44 = .ok (.putfield 70, 3) := by decide +kernel
theorem dX2_advance_47 : decode cX2_advance 47 = .ok (.iload_n 3, 1) := by decide +kernel
theorem dX2_advance_48 : decode cX2_advance 48 = .ok (.ireturn, 1) := by decide +kernel
theorem dX2_happen_0 : decode cX2_happen 0 = .ok (.aload_n 0, 1) := by decide +kernel
theorem dX2_happen_1 : decode cX2_happen 1 = .ok (.invokevirtual 108, 3) := by decide +kernel
theorem dX2_happen_4 : decode cX2_happen 4 = .ok (.istore_n 1, 1) := by decide +kernel
theorem dX2_happen_5 : decode cX2_happen 5 = .ok (.iload_n 1, 1) := by decide +kernel
theorem dX2_happen_6 : decode cX2_happen 6 = .ok (.iconst (-1), 1) := by decide +kernel
theorem dX2_happen_7 : decode cX2_happen 7 = .ok (.if_icmp .ne 5, 3) := by decide +kernel
theorem dX2_happen_10 : decode cX2_happen 10 = .ok (.iconst (-1), 1) := by decide +kernel
theorem dX2_happen_11 : decode cX2_happen 11 = .ok (.ireturn, 1) := by decide +kernel
theorem dX2_happen_12 : decode cX2_happen 12 = .ok (.aload_n 0, 1) := by decide +kernel
theorem dX2_happen_13 : decode cX2_happen 13 = .ok (.iload_n 1, 1) := by decide +kernel
theorem dX2_happen_14 : decode cX2_happen 14 = .ok (.putfield 70, 3) := by decide +kernel
theorem dX2_happen_17 : decode cX2_happen 17 = .ok (.aload_n 0, 1) := by decide +kernel
theorem dX2_happen_18 : decode cX2_happen 18 = .ok (.getfield 66, 3) := by decide +kernel
theorem dX2_happen_21 : decode cX2_happen 21 = .ok (.iload_n 1, 1) := by decide +kernel
theorem dX2_happen_22 : decode cX2_happen 22 = .ok (.invokevirtual 114, 3) := by decide +kernel
theorem dX2_happen_25 : decode cX2_happen 25 = .ok (.astore_n 2, 1) := by decide +kernel
theorem dX2_happen_26 : decode cX2_happen 26 = .ok (.aload_n 2, 1) := by decide +kernel
theorem dX2_happen_27 : decode cX2_happen 27 = .ok (.ifnonnull 16, 3) := by decide +kernel
theorem dX2_happen_30 : decode cX2_happen 30 = .ok (.aload_n 0, 1) := by decide +kernel
theorem dX2_happen_31 : decode cX2_happen 31 = .ok (.aload_n 0, 1) := by decide +kernel
theorem dX2_happen_32 : decode cX2_happen 32 = .ok (.getfield 36, 3) := by decide +kernel
theorem dX2_happen_35 : decode cX2_happen 35 = .ok (.getfield 118, 3) := by decide +kernel
theorem dX2_happen_38 : decode cX2_happen 38 = .ok (.invokevirtual 121, 3) := by decide +kernel
theorem dX2_happen_41 : decode cX2_happen 41 = .ok (.iconst 4, 1) := by decide +kernel
theorem dX2_happen_42 : decode cX2_happen 42 = .ok (.ireturn, 1) := by decide +kernel
theorem dX2_happen_43 : decode cX2_happen 43 = .ok (.aload_n 2, 1) := by decide +kernel
theorem dX2_happen_44 : decode cX2_happen 44 = .ok (.getfield 124, 3) := by decide +kernel
theorem dX2_happen_47 : decode cX2_happen 47 = .ok (.tableswitch 49 0 2 #[25, 33, 41], 25) := by decide +kernel
theorem dX2_happen_72 : decode cX2_happen 72 = .ok (.aload_n 0, 1) := by decide +kernel
theorem dX2_happen_73 : decode cX2_happen 73 = .ok (.aload_n 2, 1) := by decide +kernel
theorem dX2_happen_74 : decode cX2_happen 74 = .ok (.invokevirtual 127, 3) := by decide +kernel
theorem dX2_happen_77 : decode cX2_happen 77 = .ok (.goto 36, 3) := by decide +kernel
theorem dX2_happen_80 : decode cX2_happen 80 = .ok (.aload_n 0, 1) := by decide +kernel
theorem dX2_happen_81 : decode cX2_happen 81 = .ok (.aload_n 2, 1) := by decide +kernel
theorem dX2_happen_82 : decode cX2_happen 82 = .ok (.invokevirtual 131, 3) := by decide +kernel
theorem dX2_happen_85 : decode cX2_happen 85 = .ok (.goto 28, 3) := by decide +kernel
theorem dX2_happen_88 : decode cX2_happen 88 = .ok (.aload_n 0, 1) := by decide +kernel
theorem dX2_happen_89 : decode cX2_happen 89 = .ok (.aload_n 2, 1) := by decide +kernel
theorem dX2_happen_90 : decode cX2_happen 90 = .ok (.invokevirtual 134, 3) := by decide +kernel
theorem dX2_happen_93 : decode cX2_happen 93 = .ok (.goto 20, 3) := by decide +kernel
theorem dX2_happen_96 : decode cX2_happen 96 = .ok (.aload_n 0, 1) := by decide +kernel
theorem dX2_happen_97 : decode cX2_happen 97 = .ok (.aload_n 2, 1) := by decide +kernel
theorem dX2_happen_98 : decode cX2_happen 98 = .ok (.invokevirtual 137, 3) := by decide +kernel
theorem dX2_happen_101 : decode cX2_happen 101 = .ok (.aload_n 0, 1) := by decide +kernel
theorem dX2_happen_102 : decode cX2_happen 102 = .ok (.aload_n 2, 1) := by decide +kernel
theorem dX2_happen_103 : decode cX2_happen 103 = .ok (.getfield 140, 3) := by decide +kernel
theorem dX2_happen_106 : decode cX2_happen 106 = .ok (.aload_n 2, 1) := by decide +kernel
theorem dX2_happen_107 : decode cX2_happen 107 = .ok (.getfield 143, 3) := by decide +kernel
theorem dX2_happen_110 : decode cX2_happen 110 = .ok (.invokevirtual 146, 3) := by decide +kernel
theorem dX2_happen_113 : decode cX2_happen 113 = .ok (.aload_n 0, 1) := by decide +kernel
theorem dX2_happen_114 : decode cX2_happen 114 = .ok (.aload_n 2, 1) := by decide +kernel
theorem dX2_happen_115 : decode cX2_happen 115 = .ok (.getfield 143, 3) := by decide +kernel
theorem dX2_happen_118 : decode cX2_happen 118 = .ok (.invokevirtual 150, 3) := by decide +kernel
theorem dX2_happen_121 : decode cX2_happen 121 = .ok (.aload_n 0, 1) := by decide +kernel
theorem dX2_happen_122 : decode cX2_happen 122 = .ok (.getfield 66, 3) := by decide +kernel
theorem dX2_happen_125 : decode cX2_happen 125 = .ok (.aload_n 2, 1) := by decide +kernel
theorem dX2_happen_126 : decode cX2_happen 126 = .ok (.invokevirtual 153, 3) := by decide +kernel
theorem dX2_happen_129 : decode cX2_happen 129 = .ok (.aload_n 2, 1) := by decide +kernel
theorem dX2_happen_130 : decode cX2_happen 130 = .ok (.getfield 124, 3) := by decide +kernel
theorem dX2_happen_133 : decode cX2_happen 133 = .ok (.ireturn, 1) := by decide +kernel
theorem dX2_launch_0 : decode cX2_launch 0 = .ok (.aload_n 0, 1) := by decide +kernel
theorem dX2_launch_1 : decode cX2_launch 1 = .ok (.getfield 43, 3) := by decide +kernel
theorem dX2_launch_4 : decode cX2_launch 4 = .ok (.getfield 156, 3) := by decide +kernel
theorem dX2_launch_7 : decode cX2_launch 7 = .ok (.istore_n 3, 1) := by decide +kernel
theorem dX2_launch_8 : decode cX2_launch 8 = .ok (.iload_n 3, 1) := by decide +kernel
theorem dX2_launch_9 : decode cX2_launch 9 = .ok (.sipush 200, 3) := by decide +kernel
theorem dX2_launch_12 : decode cX2_launch 12 = .ok (.if_icmp .lt 5, 3) := by decide +kernel
theorem dX2_launch_15 : decode cX2_launch 15 = .ok (.iconst (-1), 1) := by decide +kernel
theorem dX2_launch_16 : decode cX2_launch 16 = .ok (.ireturn, 1) := by decide +kernel
theorem dX2_launch_17 : decode cX2_launch 17 = .ok (.aload_n 0, 1) := by decide +kernel
theorem dX2_launch_18 : decode cX2_launch 18 = .ok (.getfield 43, 3) := by decide +kernel
theorem dX2_launch_21 : decode cX2_launch 21 = .ok (.dup, 1) := by decide +kernel
theorem dX2_launch_22 : decode cX2_launch 22 = .ok (.getfield 156, 3) := by decide +kernel
theorem dX2_launch_25 : decode cX2_launch 25 = .ok (.iconst 1, 1) := by decide +kernel
theorem dX2_launch_26 : decode cX2_launch 26 = .ok (.iadd, 1) := by decide +kernel
theorem dX2_launch_27 : decode cX2_launch 27 = .ok (.putfield 156, 3) := by decide +kernel
theorem dX2_launch_30 : decode cX2_launch 30 = .ok (.aload_n 0, 1) := by decide +kernel
theorem dX2_launch_31 : decode cX2_launch 31 = .ok (.getfield 43, 3) := by decide +kernel
theorem dX2_launch_34 : decode cX2_launch 34 = .ok (.getfield 159, 3) := by decide +kernel
theorem dX2_launch_37 : decode cX2_launch 37 = .ok (.iload_n 3, 1) := by decide +kernel
theorem dX2_launch_38 : decode cX2_launch 38 = .ok (.iload_n 1, 1) := by decide +kernel
theorem dX2_launch_39 : decode cX2_launch 39 = .ok (.iastore, 1) := by decide +kernel
theorem dX2_launch_40 : decode cX2_launch 40 = .ok (.aload_n 0, 1) := by decide +kernel
theorem dX2_launch_41 : decode cX2_launch 41 = .ok (.getfield 43, 3) := by decide +kernel
theorem dX2_launch_44 : decode cX2_launch 44 = .ok (.getfield 162, 3) := by decide +kernel
theorem dX2_launch_47 : decode cX2_launch 47 = .ok (.iload_n 3, 1) := by decide +kernel
theorem dX2_launch_48 : decode cX2_launch 48 = .ok (.iload_n 2, 1) := by decide +kernel
theorem dX2_launch_49 : decode cX2_launch 49 = .ok (.iastore, 1) := by decide +kernel
theorem dX2_launch_50 : decode cX2_launch 50 = .ok (.aload_n 0, 1) := by decide +kernel
theorem dX2_launch_51 : decode cX2_launch 51 = .ok (.getfield 43, 3) := by decide +kernel
theorem dX2_launch_54 : decode cX2_launch 54 = .ok (.getfield 165, 3) := by decide +kernel
theorem dX2_launch_57 : decode cX2_launch 57 = .ok (.iload_n 3, 1) := by decide +kernel
theorem dX2_launch_58 : decode cX2_launch 58 = .ok (.iconst (-1), 1) := by decide +kernel
theorem dX2_launch_59 : decode cX2_launch 59 = .ok (.iastore, 1) := by decide +kernel
theorem dX2_launch_60 : decode cX2_launch 60 = .ok (.aload_n 0, 1) := by decide +kernel
theorem dX2_launch_61 : decode cX2_launch 61 = .ok (.iload_n 3, 1) := by decide +kernel
theorem dX2_launch_62 : decode cX2_launch 62 = .ok (.iload_n 1, 1) := by decide +kernel
theorem dX2_launch_63 : decode cX2_launch 63 = .ok (.invokevirtual 146, 3) := by decide +kernel
theorem dX2_launch_66 : decode cX2_launch 66 = .ok (.iload_n 3, 1) := by decide +kernel
theorem dX2_launch_67 : decode cX2_launch 67 = .ok (.ireturn, 1) := by decide +kernel
theorem dX2_changeLink_0 : decode cX2_changeLink 0 = .ok (.aload_n 0, 1) := by decide +kernel
theorem dX2_changeLink_1 : decode cX2_changeLink 1 = .ok (.getfield 66, 3) := by decide +kernel
theorem dX2_changeLink_4 : decode cX2_changeLink 4 = .ok (.getfield 168, 3) := by decide +kernel
theorem dX2_changeLink_7 : decode cX2_changeLink 7 = .ok (.iload_n 1, 1) := by decide +kernel
theorem dX2_changeLink_8 : decode cX2_changeLink 8 = .ok (.aaload, 1) := by decide +kernel
theorem dX2_changeLink_9 : decode cX2_changeLink 9 = .ok (.iload_n 2, 1) := by decide +kernel
theorem dX2_changeLink_10 : decode cX2_changeLink 10 = .ok (.iaload, 1) := by decide +kernel
theorem dX2_changeLink_11 : decode cX2_changeLink 11 = .ok (.istore 4, 2) := by decide +kernel
theorem dX2_changeLink_13 : decode cX2_changeLink 13 = .ok (.aload_n 0, 1) := by decide +kernel
theorem dX2_changeLink_14 : decode cX2_changeLink 14 = .ok (.getfield 66, 3) := by decide +kernel
theorem dX2_changeLink_17 : decode cX2_changeLink 17 = .ok (.getfield 168, 3) := by decide +kernel
theorem dX2_changeLink_20 : decode cX2_changeLink 20 = .ok (.iload_n 1, 1) := by decide +kernel
theorem dX2_changeLink_21 : decode cX2_changeLink 21 = .ok (.aaload, 1) := by decide +kernel
theorem dX2_changeLink_22 : decode cX2_changeLink 22 = .ok (.iload_n 2, 1) := by decide +kernel
theorem dX2_changeLink_23 : decode cX2_changeLink 23 = .ok (.iload_n 3, 1) := by decide +kernel
theorem dX2_changeLink_24 : decode cX2_changeLink 24 = .ok (.iastore, 1) := by decide +kernel
theorem dX2_changeLink_25 : decode cX2_changeLink 25 = .ok (.aload_n 0, 1) := by decide +kernel
theorem dX2_changeLink_26 : decode cX2_changeLink 26 = .ok (.getfield 66, 3) := by decide +kernel
theorem dX2_changeLink_29 : decode cX2_changeLink 29 = .ok (.getfield 168, 3) := by decide +kernel
theorem dX2_changeLink_32 : decode cX2_changeLink 32 = .ok (.iload_n 2, 1) := by decide +kernel
theorem dX2_changeLink_33 : decode cX2_changeLink 33 = .ok (.aaload, 1) := by decide +kernel
theorem dX2_changeLink_34 : decode cX2_changeLink 34 = .ok (.iload_n 1, 1) := by decide +kernel
theorem dX2_changeLink_35 : decode cX2_changeLink 35 = .ok (.iload_n 3, 1) := by decide +kernel
theorem dX2_changeLink_36 : decode cX2_changeLink 36 = .ok (.iastore, 1) := by decide +kernel
theorem dX2_changeLink_37 : decode cX2_changeLink 37 = .ok (.iload 4, 2) := by decide +kernel
theorem dX2_changeLink_39 : decode cX2_changeLink 39 = .ok (.ifCond .le 50, 3) := by decide +kernel
theorem dX2_changeLink_42 : decode cX2_changeLink 42 = .ok (.iload_n 3, 1) := by decide +kernel
theorem dX2_changeLink_43 : decode cX2_changeLink 43 = .ok (.ifCond .ne 46, 3) := by decide +kernel
theorem dX2_changeLink_46 : decode cX2_changeLink 46 = .ok (.aload_n 0, 1) := by decide +kernel
theorem dX2_changeLink_47 : decode cX2_changeLink 47 = .ok (.iload_n 1, 1) := by decide +kernel
theorem dX2_changeLink_48 : decode cX2_changeLink 48 = .ok (.iload_n 2, 1) := by decide +kernel
theorem dX2_changeLink_49 : decode cX2_changeLink 49 = .ok (.invokevirtual 172, 3) := by decide +kernel
theorem dX2_changeLink_52 : decode cX2_changeLink 52 = .ok (.aload_n 0, 1) := by decide +kernel
theorem dX2_changeLink_53 : decode cX2_changeLink 53 = .ok (.getfield 66, 3) := by decide +kernel
theorem dX2_changeLink_56 : decode cX2_changeLink 56 = .ok (.iload_n 1, 1) := by decide +kernel
theorem dX2_changeLink_57 : decode cX2_changeLink 57 = .ok (.iload_n 2, 1) := by decide +kernel
theorem dX2_changeLink_58 : decode cX2_changeLink 58 = .ok (.invokevirtual 175, 3) := by decide +kernel
theorem dX2_changeLink_61 : decode cX2_changeLink 61 = .ok (.aload_n 0, 1) := by decide +kernel
theorem dX2_changeLink_62 : decode cX2_changeLink 62 = .ok (.iload_n 1, 1) := by decide +kernel
theorem dX2_changeLink_63 : decode cX2_changeLink 63 = .ok (.iload_n 2, 1) := by decide +kernel
theorem dX2_changeLink_64 : decode cX2_changeLink 64 = .ok (.invokestatic 178, 3) := by decide +kernel
theorem dX2_changeLink_67 : decode cX2_changeLink 67 = .ok (.iload_n 1, 1) := by decide +kernel
theorem dX2_changeLink_68 : decode cX2_changeLink 68 = .ok (.iload_n 2, 1) := by decide +kernel
theorem dX2_changeLink_69 : decode cX2_changeLink 69 = .ok (.invokestatic 184, 3) := by decide +kernel
theorem dX2_changeLink_72 : decode cX2_changeLink 72 = .ok (.invokevirtual 187, 3) := by decide +kernel
theorem dX2_changeLink_75 : decode cX2_changeLink 75 = .ok (.aload_n 0, 1) := by decide +kernel
theorem dX2_changeLink_76 : decode cX2_changeLink 76 = .ok (.iload_n 1, 1) := by decide +kernel
theorem dX2_changeLink_77 : decode cX2_changeLink 77 = .ok (.iload_n 2, 1) := by decide +kernel
theorem dX2_changeLink_78 : decode cX2_changeLink 78 = .ok (.invokestatic 184, 3) := by decide +kernel
theorem dX2_changeLink_81 : decode cX2_changeLink 81 = .ok (.iload_n 1, 1) := by decide +kernel
theorem dX2_changeLink_82 : decode cX2_changeLink 82 = .ok (.iload_n 2, 1) := by decide +kernel
theorem dX2_changeLink_83 : decode cX2_changeLink 83 = .ok (.invokestatic 178, 3) := by decide +kernel
