abbrev vwCl : List vw_C := [(RX0, TX0, 7), (RX1, TX1, 13), (RX2, TX2, 12), (RX3, TX3, 9), (RX4, TX4, 6), (RX5, TX5, 7), (RX6, TX6, 5), (RX7, TX7, 6)]
theorem dX0_init_0 : decode cX0_init 0 = .ok (.aload_n 0, 1) := by decide +kernel
theorem dX0_init_1 : decode cX0_init 1 = .ok (.invokespecial 3, 3) := by decide +kernel
theorem dX0_init_4 : decode cX0_init 4 = .ok (.aload_n 0, 1) := by decide +kernel
theorem dX0_init_5 : decode cX0_init 5 = .ok (.bipush 10, 2) := by decide +kernel
theorem dX0_init_7 : decode cX0_init 7 = .ok (.bipush 10, 2) := by decide +kernel
theorem dX0_init_9 : decode cX0_init 9 = .ok (.multianewarray 9 2, 4) := by decide +kernel
theorem dX0_init_13 : decode cX0_init 13 = .ok (.putfield 11, 3) := by decide +kernel
theorem dX0_init_16 : decode cX0_init 16 = .ok (.aload_n 0, 1) := by decide +kernel
theorem dX0_init_17 : decode cX0_init 17 = .ok (.iconst 4, 1) := by decide +kernel
theorem dX0_init_18 : decode cX0_init 18 = .ok (.newarray .int, 2) := by decide +kernel
theorem dX0_init_20 : decode cX0_init 20 = .ok (.putfield 16, 3) := by decide +kernel
theorem dX0_init_23 : decode cX0_init 23 = .ok (.aload_n 0, 1) := by decide +kernel
theorem dX0_init_24 : decode cX0_init 24 = .ok (.iconst 4, 1) := by decide +kernel
theorem dX0_init_25 : decode cX0_init 25 = .ok (.newarray .int, 2) := by decide +kernel
theorem dX0_init_27 : decode cX0_init 27 = .ok (.putfield 20, 3) := by decide +kernel
theorem dX0_init_30 : decode cX0_init 30 = .ok (.aload_n 0, 1) := by decide +kernel
theorem dX0_init_31 : decode cX0_init 31 = .ok (.bipush 10, 2) := by decide +kernel
theorem dX0_init_33 : decode cX0_init 33 = .ok (.anewarray 23, 3) := by decide +kernel
theorem dX0_init_36 : decode cX0_init 36 = .ok (.putfield 25, 3) := by decide +kernel
theorem dX0_init_39 : decode cX0_init 39 = .ok (.aload_n 0, 1) := by decide +kernel
theorem dX0_init_40 : decode cX0_init 40 = .ok (.bipush 10, 2) := by decide +kernel
theorem dX0_init_42 : decode cX0_init 42 = .ok (.anewarray 23, 3) := by decide +kernel
theorem dX0_init_45 : decode cX0_init 45 = .ok (.putfield 29, 3) := by decide +kernel
theorem dX0_init_48 : decode cX0_init 48 = .ok (.aload_n 0, 1) := by decide +kernel
theorem dX0_init_49 : decode cX0_init 49 = .ok (.iload_n 1, 1) := by decide +kernel
theorem dX0_init_50 : decode cX0_init 50 = .ok (.putfield 32, 3) := by decide +kernel
theorem dX0_init_53 : decode cX0_init 53 = .ok (.return_, 1) := by decide +kernel
theorem dX0_isUp_0 : decode cX0_isUp 0 = .ok (.aload_n 0, 1) := by decide +kernel
theorem dX0_isUp_1 : decode cX0_isUp 1 = .ok (.getfield 11, 3) := by decide +kernel
theorem dX0_isUp_4 : decode cX0_isUp 4 = .ok (.iload_n 1, 1) := by decide +kernel
theorem dX0_isUp_5 : decode cX0_isUp 5 = .ok (.aaload, 1) := by decide +kernel
theorem dX0_isUp_6 : decode cX0_isUp 6 = .ok (.iload_n 2, 1) := by decide +kernel
theorem dX0_isUp_7 : decode cX0_isUp 7 = .ok (.iaload, 1) := by decide +kernel
theorem dX0_isUp_8 : decode cX0_isUp 8 = .ok (.ifCond .le 7, 3) := by decide +kernel
theorem dX0_isUp_11 : decode cX0_isUp 11 = .ok (.iconst 1, 1) := by decide +kernel
theorem dX0_isUp_12 : decode cX0_isUp 12 = .ok (.goto 4, 3) := by decide +kernel
theorem dX0_isUp_15 : decode cX0_isUp 15 = .ok (.iconst 0, 1) := by decide +kernel
theorem dX0_isUp_16 : decode cX0_isUp 16 = .ok (.ireturn, 1) := by decide +kernel
set_option maxRecDepth 20000 in
theorem ggX0_nextArrival_J9_floorMod_7cf53 : GoodIn wsX0_nextArrival wsJ9_floorMod_7cf53 := goodIn_r _ [5] (by decide +kernel) (by decide +kernel)
set_option maxRecDepth 20000 in
theorem gX0_nextArrival_J9_floorMod_7cf53 : GoodIn wsX0_nextArrival (va_wsS RX0 53 yJ9_floorMod_7cf53 wsJ9_floorMod_7cf53) := goodIn_app (goodIn_of _ (by decide +kernel)) ggX0_nextArrival_J9_floorMod_7cf53
theorem dX0_nextArrival_0 : decode cX0_nextArrival 0 = .ok (.iconst 0, 1) := by decide +kernel
theorem dX0_nextArrival_1 : decode cX0_nextArrival 1 = .ok (.istore_n 2, 1) := by decide +kernel
theorem dX0_nextArrival_2 : decode cX0_nextArrival 2 = .ok (.iload_n 2, 1) := by decide +kernel
theorem dX0_nextArrival_3 : decode cX0_nextArrival 3 = .ok (.bipush 10, 2) := by decide +kernel
theorem dX0_nextArrival_5 : decode cX0_nextArrival 5 = .ok (.if_icmp .ge 29, 3) := by decide +kernel
theorem dX0_nextArrival_8 : decode cX0_nextArrival 8 = .ok (.aload_n 0, 1) := by decide +kernel
theorem dX0_nextArrival_9 : decode cX0_nextArrival 9 = .ok (.getfield 25, 3) := by decide +kernel
theorem dX0_nextArrival_12 : decode cX0_nextArrival 12 = .ok (.iload_n 1, 1) := by decide +kernel
theorem dX0_nextArrival_13 : decode cX0_nextArrival 13 = .ok (.iload_n 2, 1) := by decide +kernel
theorem dX0_nextArrival_14 : decode cX0_nextArrival 14 = .ok (.iadd, 1) := by decide +kernel
theorem dX0_nextArrival_15 : decode cX0_nextArrival 15 = .ok (.bipush 10, 2) := by decide +kernel
theorem dX0_nextArrival_17 : decode cX0_nextArrival 17 = .ok (.invokestatic 53, 3) := by decide +kernel
theorem dX0_nextArrival_20 : decode cX0_nextArrival 20 = .ok (.aaload, 1) := by decide +kernel
theorem dX0_nextArrival_21 : decode cX0_nextArrival 21 = .ok (.ifnull 7, 3) := by decide +kernel
theorem dX0_nextArrival_24 : decode cX0_nextArrival 24 = .ok (.iload_n 1, 1) := by decide +kernel
theorem dX0_nextArrival_25 : decode cX0_nextArrival 25 = .ok (.iload_n 2, 1) := by decide +kernel
theorem dX0_nextArrival_26 : decode cX0_nextArrival 26 = .ok (.iadd, 1) := by decide +kernel
theorem dX0_nextArrival_27 : decode cX0_nextArrival 27 = .ok (.ireturn, 1) := by decide +kernel
theorem dX0_nextArrival_28 : decode cX0_nextArrival 28 = .ok (.iinc 2 1, 3) := by decide +kernel
theorem dX0_nextArrival_31 : decode cX0_nextArrival 31 = .ok (.goto (-29), 3) := by decide +kernel
theorem dX0_nextArrival_34 : decode cX0_nextArrival 34 = .ok (.iconst (-1), 1) := by decide +kernel
theorem dX0_nextArrival_35 : decode cX0_nextArrival 35 = .ok (.ireturn, 1) := by decide +kernel
set_option maxRecDepth 20000 in
theorem ggX0_takeArrived_J9_floorMod_7cf53 : GoodIn wsX0_takeArrived wsJ9_floorMod_7cf53 := goodIn_r _ [9] (by decide +kernel) (by decide +kernel)
set_option maxRecDepth 20000 in
theorem gX0_takeArrived_J9_floorMod_7cf53 : GoodIn wsX0_takeArrived (va_wsS RX0 53 yJ9_floorMod_7cf53 wsJ9_floorMod_7cf53) := goodIn_app (goodIn_of _ (by decide +kernel)) ggX0_takeArrived_J9_floorMod_7cf53
theorem dX0_takeArrived_0 : decode cX0_takeArrived 0 = .ok (.iload_n 1, 1) := by decide +kernel
theorem dX0_takeArrived_1 : decode cX0_takeArrived 1 = .ok (.bipush 10, 2) := by decide +kernel
theorem dX0_takeArrived_3 : decode cX0_takeArrived 3 = .ok (.invokestatic 53, 3) := by decide +kernel
theorem dX0_takeArrived_6 : decode cX0_takeArrived 6 = .ok (.istore_n 2, 1) := by decide +kernel
theorem dX0_takeArrived_7 : decode cX0_takeArrived 7 = .ok (.aload_n 0, 1) := by decide +kernel
theorem dX0_takeArrived_8 : decode cX0_takeArrived 8 = .ok (.getfield 25, 3) := by decide +kernel
theorem dX0_takeArrived_11 : decode cX0_takeArrived 11 = .ok (.iload_n 2, 1) := by decide +kernel
theorem dX0_takeArrived_12 : decode cX0_takeArrived 12 = .ok (.aaload, 1) := by decide +kernel
theorem dX0_takeArrived_13 : decode cX0_takeArrived 13 = .ok (.astore_n 3, 1) := by decide +kernel
theorem dX0_takeArrived_14 : decode cX0_takeArrived 14 = .ok (.aload_n 3, 1) := by decide +kernel
theorem dX0_takeArrived_15 : decode cX0_takeArrived 15 = .ok (.ifnull 40, 3) := by decide +kernel
theorem dX0_takeArrived_18 : decode cX0_takeArrived 18 = .ok (.aload_n 0, 1) := by decide +kernel
theorem dX0_takeArrived_19 : decode cX0_takeArrived 19 = .ok (.getfield 25, 3) := by decide +kernel
theorem dX0_takeArrived_22 : decode cX0_takeArrived 22 = .ok (.iload_n 2, 1) := by decide +kernel
theorem dX0_takeArrived_23 : decode cX0_takeArrived 23 = .ok (.aload_n 3, 1) := by decide +kernel
theorem dX0_takeArrived_24 : decode cX0_takeArrived 24 = .ok (.getfield 41, 3) := by decide +kernel
theorem dX0_takeArrived_27 : decode cX0_takeArrived 27 = .ok (.aastore, 1) := by decide +kernel
theorem dX0_takeArrived_28 : decode cX0_takeArrived 28 = .ok (.aload_n 3, 1) := by decide +kernel
theorem dX0_takeArrived_29 : decode cX0_takeArrived 29 = .ok (.getfield 41, 3) := by decide +kernel
theorem dX0_takeArrived_32 : decode cX0_takeArrived 32 = .ok (.ifnonnull 10, 3) := by decide +kernel
theorem dX0_takeArrived_35 : decode cX0_takeArrived 35 = .ok (.aload_n 0, 1) := by decide +kernel
theorem dX0_takeArrived_36 : decode cX0_takeArrived 36 = .ok (.getfield 29, 3) := by decide +kernel
theorem dX0_takeArrived_39 : decode cX0_takeArrived 39 = .ok (.iload_n 2, 1) := by decide +kernel
theorem dX0_takeArrived_40 : decode cX0_takeArrived 40 = .ok (.aconst_null, 1) := by decide +kernel
theorem dX0_takeArrived_41 : decode cX0_takeArrived 41 = .ok (.aastore, 1) := by decide +kernel
theorem dX0_takeArrived_42 : decode cX0_takeArrived 42 = .ok (.aload_n 0, 1) := by decide +kernel
theorem dX0_takeArrived_43 : decode cX0_takeArrived 43 = .ok (.getfield 16, 3) := by decide +kernel
theorem dX0_takeArrived_46 : decode cX0_takeArrived 46 = .ok (.aload_n 3, 1) := by decide +kernel
theorem dX0_takeArrived_47 : decode cX0_takeArrived 47 = .ok (.getfield 44, 3) := by decide +kernel
theorem dX0_takeArrived_50 : decode cX0_takeArrived 50 = .ok (.dup2, 1) := by decide +kernel
theorem dX0_takeArrived_51 : decode cX0_takeArrived 51 = .ok (.iaload, 1) := by decide +kernel
theorem dX0_takeArrived_52 : decode cX0_takeArrived 52 = .ok (.iconst 1, 1) := by decide +kernel
theorem dX0_takeArrived_53 : decode cX0_takeArrived 53 = .ok (.isub, 1) := by decide +kernel
theorem dX0_takeArrived_54 : decode cX0_takeArrived 54 = .ok (.iastore, 1) := by decide +kernel
theorem dX0_takeArrived_55 : decode cX0_takeArrived 55 = .ok (.aload_n 3, 1) := by decide +kernel
theorem dX0_takeArrived_56 : decode cX0_takeArrived 56 = .ok (.areturn, 1) := by decide +kernel
set_option maxRecDepth 20000 in
theorem ggX0_fewestLinks_X0_neighbours : GoodIn wsX0_fewestLinks wsX0_neighbours := goodIn_r _ [6, 1, 7, 8, 9, 5, 10, 11, 12, 13, 14, 15, 16, 17, 18] (by decide +kernel) (by decide +kernel)
set_option maxRecDepth 20000 in
theorem gX0_fewestLinks_X0_neighbours : GoodIn wsX0_fewestLinks (wsV RX0 67 RX0 yX0_neighbours wsX0_neighbours) := goodIn_app (goodIn_of _ (by decide +kernel)) ggX0_fewestLinks_X0_neighbours
theorem dX0_fewestLinks_0 : decode cX0_fewestLinks 0 = .ok (.iconst 1, 1) := by decide +kernel
theorem dX0_fewestLinks_1 : decode cX0_fewestLinks 1 = .ok (.iload_n 1, 1) := by decide +kernel
theorem dX0_fewestLinks_2 : decode cX0_fewestLinks 2 = .ok (.ishl, 1) := by decide +kernel
theorem dX0_fewestLinks_3 : decode cX0_fewestLinks 3 = .ok (.istore_n 3, 1) := by decide +kernel
theorem dX0_fewestLinks_4 : decode cX0_fewestLinks 4 = .ok (.iconst 0, 1) := by decide +kernel
theorem dX0_fewestLinks_5 : decode cX0_fewestLinks 5 = .ok (.istore 4, 2) := by decide +kernel
theorem dX0_fewestLinks_7 : decode cX0_fewestLinks 7 = .ok (.iload 4, 2) := by decide +kernel
theorem dX0_fewestLinks_9 : decode cX0_fewestLinks 9 = .ok (.aload_n 0, 1) := by decide +kernel
theorem dX0_fewestLinks_10 : decode cX0_fewestLinks 10 = .ok (.getfield 32, 3) := by decide +kernel
theorem dX0_fewestLinks_13 : decode cX0_fewestLinks 13 = .ok (.if_icmp .ge 28, 3) := by decide +kernel
theorem dX0_fewestLinks_16 : decode cX0_fewestLinks 16 = .ok (.iload_n 3, 1) := by decide +kernel
theorem dX0_fewestLinks_17 : decode cX0_fewestLinks 17 = .ok (.iload_n 2, 1) := by decide +kernel
theorem dX0_fewestLinks_18 : decode cX0_fewestLinks 18 = .ok (.ishr, 1) := by decide +kernel
theorem dX0_fewestLinks_19 : decode cX0_fewestLinks 19 = .ok (.iconst 1, 1) := by decide +kernel
theorem dX0_fewestLinks_20 : decode cX0_fewestLinks 20 = .ok (.iand, 1) := by decide +kernel
theorem dX0_fewestLinks_21 : decode cX0_fewestLinks 21 = .ok (.ifCond .eq 6, 3) := by decide +kernel
theorem dX0_fewestLinks_24 : decode cX0_fewestLinks 24 = .ok (.iload 4, 2) := by decide +kernel
theorem dX0_fewestLinks_26 : decode cX0_fewestLinks 26 = .ok (.ireturn, 1) := by decide +kernel
theorem dX0_fewestLinks_27 : decode cX0_fewestLinks 27 = .ok (.iload_n 3, 1) := by decide +kernel
theorem dX0_fewestLinks_28 : decode cX0_fewestLinks 28 = .ok (.aload_n 0, 1) := by decide +kernel
theorem dX0_fewestLinks_29 : decode cX0_fewestLinks 29 = .ok (.iload_n 3, 1) := by decide +kernel
theorem dX0_fewestLinks_30 : decode cX0_fewestLinks 30 = .ok (.invokevirtual 67, 3) := by decide +kernel
theorem dX0_fewestLinks_33 : decode cX0_fewestLinks 33 = .ok (.ior, 1) := by decide +kernel
theorem dX0_fewestLinks_34 : decode cX0_fewestLinks 34 = .ok (.istore_n 3, 1) := by decide +kernel
theorem dX0_fewestLinks_35 : decode cX0_fewestLinks 35 = .ok (.iinc 4 1, 3) := by decide +kernel
theorem dX0_fewestLinks_38 : decode cX0_fewestLinks 38 = .ok (.goto (-31), 3) := by decide +kernel
theorem dX0_fewestLinks_41 : decode cX0_fewestLinks 41 = .ok (.iconst (-1), 1) := by decide +kernel
theorem dX0_fewestLinks_42 : decode cX0_fewestLinks 42 = .ok (.ireturn, 1) := by decide +kernel
set_option maxRecDepth 20000 in
theorem ggX0_neighbours_X0_isUp : GoodIn wsX0_neighbours wsX0_isUp := goodIn_r _ [6, 7, 8, 9, 10, 11, 12, 13, 14] (by decide +kernel) (by decide +kernel)
set_option maxRecDepth 20000 in
theorem gX0_neighbours_X0_isUp : GoodIn wsX0_neighbours (wsV RX0 71 RX0 yX0_isUp wsX0_isUp) := goodIn_app (goodIn_of _ (by decide +kernel)) ggX0_neighbours_X0_isUp
theorem dX0_neighbours_0 : decode cX0_neighbours 0 = .ok (.iconst 0, 1) := by decide +kernel
theorem dX0_neighbours_1 : decode cX0_neighbours 1 = .ok (.istore_n 2, 1) := by decide +kernel
theorem dX0_neighbours_2 : decode cX0_neighbours 2 = .ok (.iconst 0, 1) := by decide +kernel
theorem dX0_neighbours_3 : decode cX0_neighbours 3 = .ok (.istore_n 3, 1) := by decide +kernel
theorem dX0_neighbours_4 : decode cX0_neighbours 4 = .ok (.iload_n 3, 1) := by decide +kernel
theorem dX0_neighbours_5 : decode cX0_neighbours 5 = .ok (.aload_n 0, 1) := by decide +kernel
theorem dX0_neighbours_6 : decode cX0_neighbours 6 = .ok (.getfield 32, 3) := by decide +kernel
theorem dX0_neighbours_9 : decode cX0_neighbours 9 = .ok (.if_icmp .ge 52, 3) := by decide +kernel
theorem dX0_neighbours_12 : decode cX0_neighbours 12 = .ok (.iconst 0, 1) := by decide +kernel
theorem dX0_neighbours_13 : decode cX0_neighbours 13 = .ok (.istore 4, 2) := by decide +kernel
theorem dX0_neighbours_15 : decode cX0_neighbours 15 = .ok (.iload 4, 2) := by decide +kernel
theorem dX0_neighbours_17 : decode cX0_neighbours 17 = .ok (.aload_n 0, 1) := by decide +kernel
theorem dX0_neighbours_18 : decode cX0_neighbours 18 = .ok (.getfield 32, 3) := by decide +kernel
theorem dX0_neighbours_21 : decode cX0_neighbours 21 = .ok (.if_icmp .ge 34, 3) := by decide +kernel
theorem dX0_neighbours_24 : decode cX0_neighbours 24 = .ok (.iload_n 1, 1) := by decide +kernel
theorem dX0_neighbours_25 : decode cX0_neighbours 25 = .ok (.iload_n 3, 1) := by decide +kernel
theorem dX0_neighbours_26 : decode cX0_neighbours 26 = .ok (.ishr, 1) := by decide +kernel
theorem dX0_neighbours_27 : decode cX0_neighbours 27 = .ok (.iconst 1, 1) := by decide +kernel
theorem dX0_neighbours_28 : decode cX0_neighbours 28 = .ok (.iand, 1) := by decide +kernel
theorem dX0_neighbours_29 : decode cX0_neighbours 29 = .ok (.ifCond .eq 20, 3) := by decide +kernel
theorem dX0_neighbours_32 : decode cX0_neighbours 32 = .ok (.aload_n 0, 1) := by decide +kernel
theorem dX0_neighbours_33 : decode cX0_neighbours 33 = .ok (.iload_n 3, 1) := by decide +kernel
theorem dX0_neighbours_34 : decode cX0_neighbours 34 = .ok (.iload 4, 2) := by decide +kernel
theorem dX0_neighbours_36 : decode cX0_neighbours 36 = .ok (.invokevirtual 71, 3) := by decide +kernel
theorem dX0_neighbours_39 : decode cX0_neighbours 39 = .ok (.ifCond .eq 10, 3) := by decide +kernel
theorem dX0_neighbours_42 : decode cX0_neighbours 42 = .ok (.iload_n 2, 1) := by decide +kernel
theorem dX0_neighbours_43 : decode cX0_neighbours 43 = .ok (.iconst 1, 1) := by decide +kernel
theorem dX0_neighbours_44 : decode cX0_neighbours 44 = .ok (.iload 4, 2) := by decide +kernel
theorem dX0_neighbours_46 : decode cX0_neighbours 46 = .ok (.ishl, 1) := by decide +kernel
theorem dX0_neighbours_47 : decode cX0_neighbours 47 = .ok (.ior, 1) := by decide +kernel
theorem dX0_neighbours_48 : decode cX0_neighbours 48 = .ok (.istore_n 2, 1) := by decide +kernel
theorem dX0_neighbours_49 : decode cX0_neighbours 49 = .ok (.iinc 4 1, 3) := by decide +kernel
theorem dX0_neighbours_52 : decode cX0_neighbours 52 = .ok (.goto (-37), 3) := by decide +kernel
theorem dX0_neighbours_55 : decode cX0_neighbours 55 = .ok (.iinc 3 1, 3) := by decide +kernel
theorem dX0_neighbours_58 : decode cX0_neighbours 58 = .ok (.goto (-54), 3) := by decide +kernel
theorem dX0_neighbours_61 : decode cX0_neighbours 61 = .ok (.iload_n 2, 1) := by decide +kernel
theorem dX0_neighbours_62 : decode cX0_neighbours 62 = .ok (.ireturn, 1) := by decide +kernel
theorem dX0_mixedInto_0 : decode cX0_mixedInto 0 = .ok (.lload_n 1, 1) := by decide +kernel
theorem dX0_mixedInto_1 : decode cX0_mixedInto 1 = .ok (.lstore_n 3, 1) := by decide +kernel
theorem dX0_mixedInto_2 : decode cX0_mixedInto 2 = .ok (.iconst 0, 1) := by decide +kernel
theorem dX0_mixedInto_3 : decode cX0_mixedInto 3 = .ok (.istore 5, 2) := by decide +kernel
theorem dX0_mixedInto_5 : decode cX0_mixedInto 5 = .ok (.iload 5, 2) := by decide +kernel
theorem dX0_mixedInto_7 : decode cX0_mixedInto 7 = .ok (.iconst 4, 1) := by decide +kernel
theorem dX0_mixedInto_8 : decode cX0_mixedInto 8 = .ok (.if_icmp .ge 24, 3) := by decide +kernel
theorem dX0_mixedInto_11 : decode cX0_mixedInto 11 = .ok (.lload_n 3, 1) := by decide +kernel
theorem dX0_mixedInto_12 : decode cX0_mixedInto 12 = .ok (.ldc2_w 74, 3) := by decide +kernel
theorem dX0_mixedInto_15 : decode cX0_mixedInto 15 = .ok (.lmul, 1) := by decide +kernel
theorem dX0_mixedInto_16 : decode cX0_mixedInto 16 = .ok (.aload_n 0, 1) := by decide +kernel
theorem dX0_mixedInto_17 : decode cX0_mixedInto 17 = .ok (.getfield 20, 3) := by decide +kernel
theorem dX0_mixedInto_20 : decode cX0_mixedInto 20 = .ok (.iload 5, 2) := by decide +kernel
theorem dX0_mixedInto_22 : decode cX0_mixedInto 22 = .ok (.iaload, 1) := by decide +kernel
theorem dX0_mixedInto_23 : decode cX0_mixedInto 23 = .ok (.i2l, 1) := by decide +kernel
theorem dX0_mixedInto_24 : decode cX0_mixedInto 24 = .ok (.ladd, 1) := by decide +kernel
theorem dX0_mixedInto_25 : decode cX0_mixedInto 25 = .ok (.lstore_n 3, 1) := by decide +kernel
theorem dX0_mixedInto_26 : decode cX0_mixedInto 26 = .ok (.iinc 5 1, 3) := by decide +kernel
theorem dX0_mixedInto_29 : decode cX0_mixedInto 29 = .ok (.goto (-24), 3) := by decide +kernel
theorem dX0_mixedInto_32 : decode cX0_mixedInto 32 = .ok (.iconst 0, 1) := by decide +kernel
theorem dX0_mixedInto_33 : decode cX0_mixedInto 33 = .ok (.istore 5, 2) := by decide +kernel
theorem dX0_mixedInto_35 : decode cX0_mixedInto 35 = .ok (.iload 5, 2) := by decide +kernel
theorem dX0_mixedInto_37 : decode cX0_mixedInto 37 = .ok (.iconst 4, 1) := by decide +kernel
theorem dX0_mixedInto_38 : decode cX0_mixedInto 38 = .ok (.if_icmp .ge 24, 3) := by decide +kernel
theorem dX0_mixedInto_41 : decode cX0_mixedInto 41 = .ok (.lload_n 3, 1) := by decide +kernel
theorem dX0_mixedInto_42 : decode cX0_mixedInto 42 = .ok (.ldc2_w 74, 3) := by decide +kernel
theorem dX0_mixedInto_45 : decode cX0_mixedInto 45 = .ok (.lmul, 1) := by decide +kernel
theorem dX0_mixedInto_46 : decode cX0_mixedInto 46 = .ok (.aload_n 0, 1) := by decide +kernel
theorem dX0_mixedInto_47 : decode cX0_mixedInto 47 = .ok (.getfield 16, 3) := by decide +kernel
theorem dX0_mixedInto_50 : decode cX0_mixedInto 50 = .ok (.iload 5, 2) := by decide +kernel
theorem dX0_mixedInto_52 : decode cX0_mixedInto 52 = .ok (.iaload, 1) := by decide +kernel
theorem dX0_mixedInto_53 : decode cX0_mixedInto 53 = .ok (.i2l, 1) := by decide +kernel
theorem dX0_mixedInto_54 : decode cX0_mixedInto 54 = .ok (.ladd, 1) := by decide +kernel
theorem dX0_mixedInto_55 : decode cX0_mixedInto 55 = .ok (.lstore_n 3, 1) := by decide +kernel
theorem dX0_mixedInto_56 : decode cX0_mixedInto 56 = .ok (.iinc 5 1, 3) := by decide +kernel
theorem dX0_mixedInto_59 : decode cX0_mixedInto 59 = .ok (.goto (-24), 3) := by decide +kernel
theorem dX0_mixedInto_62 : decode cX0_mixedInto 62 = .ok (.lload_n 3, 1) := by decide +kernel
theorem dX0_mixedInto_63 : decode cX0_mixedInto 63 = .ok (.lreturn, 1) := by decide +kernel
set_option maxRecDepth 20000 in
theorem ggX0_become_X6_copyRow : GoodIn wsX0_become wsX6_copyRow := goodIn_r _ [11, 12, 13, 14, 15, 16, 17, 18, 19] (by decide +kernel) (by decide +kernel)
set_option maxRecDepth 20000 in
theorem gX0_become_X6_copyRow_n76 : GoodIn wsX0_become (wsX6_copyRow) := ggX0_become_X6_copyRow
set_option maxRecDepth 20000 in
theorem ggX0_become_X0_emptySlot : GoodIn wsX0_become wsX0_emptySlot := goodIn_r _ [24, 25, 26, 6, 2, 56, 57, 58, 59, 60, 61, 62, 63, 64, 65, 66, 67, 68, 69, 70, 71, 72, 73, 74, 75] (by decide +kernel) (by decide +kernel)
set_option maxRecDepth 20000 in
theorem gX0_become_X0_emptySlot : GoodIn wsX0_become (wsV RX0 80 RX0 yX0_emptySlot wsX0_emptySlot) := goodIn_app (goodIn_of _ (by decide +kernel)) ggX0_become_X0_emptySlot
theorem dX0_become_0 : decode cX0_become 0 = .ok (.iconst 0, 1) := by decide +kernel
theorem dX0_become_1 : decode cX0_become 1 = .ok (.istore_n 2, 1) := by decide +kernel
theorem dX0_become_2 : decode cX0_become 2 = .ok (.iload_n 2, 1) := by decide +kernel
theorem dX0_become_3 : decode cX0_become 3 = .ok (.bipush 10, 2) := by decide +kernel
theorem dX0_become_5 : decode cX0_become 5 = .ok (.if_icmp .ge 24, 3) := by decide +kernel
theorem dX0_become_8 : decode cX0_become 8 = .ok (.aload_n 1, 1) := by decide +kernel
theorem dX0_become_9 : decode cX0_become 9 = .ok (.getfield 11, 3) := by decide +kernel
theorem dX0_become_12 : decode cX0_become 12 = .ok (.iload_n 2, 1) := by decide +kernel
theorem dX0_become_13 : decode cX0_become 13 = .ok (.aaload, 1) := by decide +kernel
theorem dX0_become_14 : decode cX0_become 14 = .ok (.aload_n 0, 1) := by decide +kernel
theorem dX0_become_15 : decode cX0_become 15 = .ok (.getfield 11, 3) := by decide +kernel
theorem dX0_become_18 : decode cX0_become 18 = .ok (.iload_n 2, 1) := by decide +kernel
theorem dX0_become_19 : decode cX0_become 19 = .ok (.aaload, 1) := by decide +kernel
theorem dX0_become_20 : decode cX0_become 20 = .ok (.invokestatic 76, 3) := by decide +kernel
theorem dX0_become_23 : decode cX0_become 23 = .ok (.iinc 2 1, 3) := by decide +kernel
theorem dX0_become_26 : decode cX0_become 26 = .ok (.goto (-24), 3) := by decide +kernel
theorem dX0_become_29 : decode cX0_become 29 = .ok (.iconst 0, 1) := by decide +kernel
theorem dX0_become_30 : decode cX0_become 30 = .ok (.istore_n 2, 1) := by decide +kernel
theorem dX0_become_31 : decode cX0_become 31 = .ok (.iload_n 2, 1) := by decide +kernel
theorem dX0_become_32 : decode cX0_become 32 = .ok (.bipush 10, 2) := by decide +kernel
theorem dX0_become_34 : decode cX0_become 34 = .ok (.if_icmp .ge 58, 3) := by decide +kernel
theorem dX0_become_37 : decode cX0_become 37 = .ok (.aload_n 0, 1) := by decide +kernel
theorem dX0_become_38 : decode cX0_become 38 = .ok (.iload_n 2, 1) := by decide +kernel
theorem dX0_become_39 : decode cX0_become 39 = .ok (.invokevirtual 80, 3) := by decide +kernel
theorem dX0_become_42 : decode cX0_become 42 = .ok (.aload_n 1, 1) := by decide +kernel
theorem dX0_become_43 : decode cX0_become 43 = .ok (.getfield 25, 3) := by decide +kernel
theorem dX0_become_46 : decode cX0_become 46 = .ok (.iload_n 2, 1) := by decide +kernel
theorem dX0_become_47 : decode cX0_become 47 = .ok (.aaload, 1) := by decide +kernel
theorem dX0_become_48 : decode cX0_become 48 = .ok (.astore_n 3, 1) := by decide +kernel
theorem dX0_become_49 : decode cX0_become 49 = .ok (.aload_n 3, 1) := by decide +kernel
theorem dX0_become_50 : decode cX0_become 50 = .ok (.ifnull 36, 3) := by decide +kernel
theorem dX0_become_53 : decode cX0_become 53 = .ok (.aload_n 0, 1) := by decide +kernel
theorem dX0_become_54 : decode cX0_become 54 = .ok (.aload_n 3, 1) := by decide +kernel
theorem dX0_become_55 : decode cX0_become 55 = .ok (.getfield 44, 3) := by decide +kernel
theorem dX0_become_58 : decode cX0_become 58 = .ok (.aload_n 3, 1) := by decide +kernel
theorem dX0_become_59 : decode cX0_become 59 = .ok (.getfield 47, 3) := by decide +kernel
theorem dX0_become_62 : decode cX0_become 62 = .ok (.aload_n 3, 1) := by decide +kernel
theorem dX0_become_63 : decode cX0_become 63 = .ok (.getfield 50, 3) := by decide +kernel
theorem dX0_become_66 : decode cX0_become 66 = .ok (.iload_n 2, 1) := by decide +kernel
theorem dX0_become_67 : decode cX0_become 67 = .ok (.invokevirtual 84, 3) := by decide +kernel
theorem dX0_become_70 : decode cX0_become 70 = .ok (.astore 4, 2) := by decide +kernel
theorem dX0_become_72 : decode cX0_become 72 = .ok (.aload 4, 2) := by decide +kernel
theorem dX0_become_74 : decode cX0_become 74 = .ok (.aload_n 3, 1) := by decide +kernel
theorem dX0_become_75 : decode cX0_become 75 = .ok (.invokevirtual 88, 3) := by decide +kernel
theorem dX0_become_78 : decode cX0_become 78 = .ok (.aload_n 3, 1) := by decide +kernel
theorem dX0_become_79 : decode cX0_become 79 = .ok (.getfield 41, 3) := by decide +kernel
theorem dX0_become_82 : decode cX0_become 82 = .ok (.astore_n 3, 1) := by decide +kernel
theorem dX0_become_83 : decode cX0_become 83 = .ok (.goto (-34), 3) := by decide +kernel
theorem dX0_become_86 : decode cX0_become 86 = .ok (.iinc 2 1, 3) := by decide +kernel
theorem dX0_become_89 : decode cX0_become 89 = .ok (.goto (-58), 3) := by decide +kernel
theorem dX0_become_92 : decode cX0_become 92 = .ok (.aload_n 1, 1) := by decide +kernel
theorem dX0_become_93 : decode cX0_become 93 = .ok (.getfield 16, 3) := by decide +kernel
theorem dX0_become_96 : decode cX0_become 96 = .ok (.aload_n 0, 1) := by decide +kernel
theorem dX0_become_97 : decode cX0_become 97 = .ok (.getfield 16, 3) := by decide +kernel
theorem dX0_become_100 : decode cX0_become 100 = .ok (.invokestatic 76, 3) := by decide +kernel
theorem dX0_become_103 : decode cX0_become 103 = .ok (.aload_n 1, 1) := by decide +kernel
theorem dX0_become_104 : decode cX0_become 104 = .ok (.getfield 20, 3) := by decide +kernel
theorem dX0_become_107 : decode cX0_become 107 = .ok (.aload_n 0, 1) := by decide +kernel
theorem dX0_become_108 : decode cX0_become 108 = .ok (.getfield 20, 3) := by decide +kernel
theorem dX0_become_111 : decode cX0_become 111 = .ok (.invokestatic 76, 3) := by decide +kernel
theorem dX0_become_114 : decode cX0_become 114 = .ok (.return_, 1) := by decide +kernel
theorem dX0_emptySlot_0 : decode cX0_emptySlot 0 = .ok (.aload_n 0, 1) := by decide +kernel
theorem dX0_emptySlot_1 : decode cX0_emptySlot 1 = .ok (.getfield 29, 3) := by decide +kernel
theorem dX0_emptySlot_4 : decode cX0_emptySlot 4 = .ok (.iload_n 1, 1) := by decide +kernel
theorem dX0_emptySlot_5 : decode cX0_emptySlot 5 = .ok (.aaload, 1) := by decide +kernel
theorem dX0_emptySlot_6 : decode cX0_emptySlot 6 = .ok (.astore_n 2, 1) := by decide +kernel
theorem dX0_emptySlot_7 : decode cX0_emptySlot 7 = .ok (.aload_n 2, 1) := by decide +kernel
theorem dX0_emptySlot_8 : decode cX0_emptySlot 8 = .ok (.ifnull 35, 3) := by decide +kernel
theorem dX0_emptySlot_11 : decode cX0_emptySlot 11 = .ok (.aload_n 2, 1) := by decide +kernel
theorem dX0_emptySlot_12 : decode cX0_emptySlot 12 = .ok (.aload_n 0, 1) := by decide +kernel
theorem dX0_emptySlot_13 : decode cX0_emptySlot 13 = .ok (.getfield 36, 3) := by decide +kernel
theorem dX0_emptySlot_16 : decode cX0_emptySlot 16 = .ok (.putfield 41, 3) := by decide +kernel
theorem dX0_emptySlot_19 : decode cX0_emptySlot 19 = .ok (.aload_n 0, 1) := by decide +kernel
theorem dX0_emptySlot_20 : decode cX0_emptySlot 20 = .ok (.aload_n 0, 1) := by decide +kernel
theorem dX0_emptySlot_21 : decode cX0_emptySlot 21 = .ok (.getfield 25, 3) := by decide +kernel
theorem dX0_emptySlot_24 : decode cX0_emptySlot 24 = .ok (.iload_n 1, 1) := by decide +kernel
theorem dX0_emptySlot_25 : decode cX0_emptySlot 25 = .ok (.aaload, 1) := by decide +kernel
theorem dX0_emptySlot_26 : decode cX0_emptySlot 26 = .ok (.putfield 36, 3) := by decide +kernel
theorem dX0_emptySlot_29 : decode cX0_emptySlot 29 = .ok (.aload_n 0, 1) := by decide +kernel
theorem dX0_emptySlot_30 : decode cX0_emptySlot 30 = .ok (.getfield 25, 3) := by decide +kernel
theorem dX0_emptySlot_33 : decode cX0_emptySlot 33 = .ok (.iload_n 1, 1) := by decide +kernel
theorem dX0_emptySlot_34 : decode cX0_emptySlot 34 = .ok (.aconst_null, 1) := by decide +kernel
theorem dX0_emptySlot_35 : decode cX0_emptySlot 35 = .ok (.aastore, 1) := by decide +kernel
theorem dX0_emptySlot_36 : decode cX0_emptySlot 36 = .ok (.aload_n 0, 1) := by decide +kernel
theorem dX0_emptySlot_37 : decode cX0_emptySlot 37 = .ok (.getfield 29, 3) := by decide +kernel
theorem dX0_emptySlot_40 : decode cX0_emptySlot 40 = .ok (.iload_n 1, 1) := by decide +kernel
theorem dX0_emptySlot_41 : decode cX0_emptySlot 41 = .ok (.aconst_null, 1) := by decide +kernel
theorem dX0_emptySlot_42 : decode cX0_emptySlot 42 = .ok (.aastore, 1) := by decide +kernel
theorem dX0_emptySlot_43 : decode cX0_emptySlot 43 = .ok (.return_, 1) := by decide +kernel
theorem dX1_init_0 : decode cX1_init 0 = .ok (.aload_n 0, 1) := by decide +kernel
theorem dX1_init_1 : decode cX1_init 1 = .ok (.invokespecial 1, 3) := by decide +kernel
theorem dX1_init_4 : decode cX1_init 4 = .ok (.return_, 1) := by decide +kernel
set_option maxRecDepth 20000 in
theorem ggX2_init_X4_init : GoodIn wsX2_init wsX4_init := goodIn_r _ [36, 37, 2, 3, 11, 38, 39, 40, 41, 42, 43, 44, 45, 46, 47, 48, 49, 50, 51, 52, 53, 54, 103, 104, 105, 106, 107, 108] (by decide +kernel) (by decide +kernel)
set_option maxRecDepth 20000 in
theorem gX2_init_X4_init_n28 : GoodIn wsX2_init (wsX4_init) := ggX2_init_X4_init
set_option maxRecDepth 20000 in
theorem ggX2_init_X5_init : GoodIn wsX2_init wsX5_init := goodIn_r _ [56, 57, 2, 3, 11, 58, 59, 60, 61, 62, 63, 64, 44, 45, 46, 47, 48, 49, 50, 51, 52, 53, 54, 109, 110, 111, 112, 113, 114, 115] (by decide +kernel) (by decide +kernel)
set_option maxRecDepth 20000 in
theorem gX2_init_X5_init_n35 : GoodIn wsX2_init (wsX5_init) := ggX2_init_X5_init
set_option maxRecDepth 20000 in
theorem ggX2_init_X3_init : GoodIn wsX2_init wsX3_init := goodIn_r _ [66, 67, 2, 3, 11, 68, 69, 70, 71, 72, 73, 74, 75, 44, 45, 46, 47, 48, 49, 50, 51, 52, 53, 54, 116, 117, 118, 119, 120, 121, 122, 123, 124] (by decide +kernel) (by decide +kernel)
set_option maxRecDepth 20000 in
theorem gX2_init_X3_init_n42 : GoodIn wsX2_init (wsX3_init) := ggX2_init_X3_init
set_option maxRecDepth 20000 in
theorem ggX2_init_X1_init : GoodIn wsX2_init wsX1_init := goodIn_r _ [77, 78, 2, 3] (by decide +kernel) (by decide +kernel)
set_option maxRecDepth 20000 in
theorem gX2_init_X1_init_n52 : GoodIn wsX2_init (wsX1_init) := ggX2_init_X1_init
set_option maxRecDepth 20000 in
theorem ggX2_init_X0_init : GoodIn wsX2_init wsX0_init := goodIn_r _ [81, 82, 2, 3, 83, 11, 84, 85, 86, 87, 88, 89, 90, 138, 139, 140, 141, 142, 143, 144] (by decide +kernel) (by decide +kernel)
set_option maxRecDepth 20000 in
theorem gX2_init_X0_init : GoodIn wsX2_init (wsX0_init) := ggX2_init_X0_init
theorem dX2_init_0 : decode cX2_init 0 = .ok (.aload_n 0, 1) := by decide +kernel
theorem dX2_init_1 : decode cX2_init 1 = .ok (.invokespecial 3, 3) := by decide +kernel
theorem dX2_init_4 : decode cX2_init 4 = .ok (.aload_n 0, 1) := by decide +kernel
theorem dX2_init_5 : decode cX2_init 5 = .ok (.getstatic 9, 3) := by decide +kernel
theorem dX2_init_8 : decode cX2_init 8 = .ok (.invokevirtual 13, 3) := by decide +kernel
theorem dX2_init_11 : decode cX2_init 11 = .ok (.checkcast 14, 3) := by decide +kernel
theorem dX2_init_14 : decode cX2_init 14 = .ok (.putfield 18, 3) := by decide +kernel
theorem dX2_init_17 : decode cX2_init 17 = .ok (.aload_n 0, 1) := by decide +kernel
theorem dX2_init_18 : decode cX2_init 18 = .ok (.bipush 10, 2) := by decide +kernel
theorem dX2_init_20 : decode cX2_init 20 = .ok (.newarray .int, 2) := by decide +kernel
theorem dX2_init_22 : decode cX2_init 22 = .ok (.putfield 23, 3) := by decide +kernel
theorem dX2_init_25 : decode cX2_init 25 = .ok (.aload_n 0, 1) := by decide +kernel
theorem dX2_init_26 : decode cX2_init 26 = .ok (.new 26, 3) := by decide +kernel
theorem dX2_init_29 : decode cX2_init 29 = .ok (.dup, 1) := by decide +kernel
theorem dX2_init_30 : decode cX2_init 30 = .ok (.invokespecial 28, 3) := by decide +kernel
theorem dX2_init_33 : decode cX2_init 33 = .ok (.putfield 29, 3) := by decide +kernel
theorem dX2_init_36 : decode cX2_init 36 = .ok (.aload_n 0, 1) := by decide +kernel
theorem dX2_init_37 : decode cX2_init 37 = .ok (.new 33, 3) := by decide +kernel
theorem dX2_init_40 : decode cX2_init 40 = .ok (.dup, 1) := by decide +kernel
theorem dX2_init_41 : decode cX2_init 41 = .ok (.invokespecial 35, 3) := by decide +kernel
theorem dX2_init_44 : decode cX2_init 44 = .ok (.putfield 36, 3) := by decide +kernel
theorem dX2_init_47 : decode cX2_init 47 = .ok (.aload_n 0, 1) := by decide +kernel
theorem dX2_init_48 : decode cX2_init 48 = .ok (.new 40, 3) := by decide +kernel
theorem dX2_init_51 : decode cX2_init 51 = .ok (.dup, 1) := by decide +kernel
theorem dX2_init_52 : decode cX2_init 52 = .ok (.invokespecial 42, 3) := by decide +kernel
theorem dX2_init_55 : decode cX2_init 55 = .ok (.putfield 43, 3) := by decide +kernel
theorem dX2_init_58 : decode cX2_init 58 = .ok (.aload_n 0, 1) := by decide +kernel
theorem dX2_init_59 : decode cX2_init 59 = .ok (.sipush 256, 3) := by decide +kernel
theorem dX2_init_62 : decode cX2_init 62 = .ok (.newarray .int, 2) := by decide +kernel
theorem dX2_init_64 : decode cX2_init 64 = .ok (.putfield 47, 3) := by decide +kernel
theorem dX2_init_67 : decode cX2_init 67 = .ok (.aload_n 0, 1) := by decide +kernel
theorem dX2_init_68 : decode cX2_init 68 = .ok (.new 50, 3) := by decide +kernel
theorem dX2_init_71 : decode cX2_init 71 = .ok (.dup, 1) := by decide +kernel
theorem dX2_init_72 : decode cX2_init 72 = .ok (.invokespecial 52, 3) := by decide +kernel
theorem dX2_init_75 : decode cX2_init 75 = .ok (.putfield 53, 3) := by decide +kernel
theorem dX2_init_78 : decode cX2_init 78 = .ok (.aload_n 0, 1) := by decide +kernel
theorem dX2_init_79 : decode cX2_init 79 = .ok (.iload_n 1, 1) := by decide +kernel
theorem dX2_init_80 : decode cX2_init 80 = .ok (.putfield 57, 3) := by decide +kernel
theorem dX2_init_83 : decode cX2_init 83 = .ok (.aload_n 0, 1) := by decide +kernel
theorem dX2_init_84 : decode cX2_init 84 = .ok (.new 61, 3) := by decide +kernel
theorem dX2_init_87 : decode cX2_init 87 = .ok (.dup, 1) := by decide +kernel
theorem dX2_init_88 : decode cX2_init 88 = .ok (.iload_n 1, 1) := by decide +kernel
theorem dX2_init_89 : decode cX2_init 89 = .ok (.invokespecial 63, 3) := by decide +kernel
theorem dX2_init_92 : decode cX2_init 92 = .ok (.putfield 66, 3) := by decide +kernel
theorem dX2_init_95 : decode cX2_init 95 = .ok (.return_, 1) := by decide +kernel
set_option maxRecDepth 20000 in
theorem ggX2_become_X6_copyRow : GoodIn wsX2_become wsX6_copyRow := goodIn_r _ [17, 18, 19, 20, 21, 22, 12, 13, 14] (by decide +kernel) (by decide +kernel)
set_option maxRecDepth 20000 in
theorem gX2_become_X6_copyRow_n73 : GoodIn wsX2_become (wsX6_copyRow) := ggX2_become_X6_copyRow
set_option maxRecDepth 20000 in
theorem ggX2_become_X0_become : GoodIn wsX2_become wsX0_become := goodIn_r _ [27, 28, 29, 30, 31, 32, 33, 34, 35, 15, 16, 17, 18, 19, 20, 21, 22, 12, 13, 14, 36, 37, 38, 26, 39, 40, 41, 42, 43, 44, 45, 46, 47, 48, 49, 50, 51, 52, 53, 54, 55, 56, 57, 58, 59, 60, 61, 62, 63, 64, 65, 66, 67, 68, 69, 70, 120, 121, 122, 123, 124, 125, 126, 127, 128, 129, 130, 131, 132, 133, 134, 135, 136, 137, 138, 139] (by decide +kernel) (by decide +kernel)
set_option maxRecDepth 20000 in
theorem gX2_become_X0_become : GoodIn wsX2_become (wsV RX2 77 RX0 yX0_become wsX0_become) := goodIn_app (goodIn_of _ (by decide +kernel)) ggX2_become_X0_become
set_option maxRecDepth 20000 in
theorem ggX2_become_X4_become : GoodIn wsX2_become wsX4_become := goodIn_r _ [75, 76, 77, 78, 79, 80, 81, 15, 16, 17, 18, 19, 20, 21, 22, 12, 13, 14, 140, 141, 142, 143, 144, 145] (by decide +kernel) (by decide +kernel)
set_option maxRecDepth 20000 in
theorem gX2_become_X4_become : GoodIn wsX2_become (wsV RX2 81 RX4 yX4_become wsX4_become) := goodIn_app (goodIn_of _ (by decide +kernel)) ggX2_become_X4_become
set_option maxRecDepth 20000 in
theorem ggX2_become_X5_become : GoodIn wsX2_become wsX5_become := goodIn_r _ [86, 87, 88, 89, 90, 91, 92, 93, 15, 16, 17, 18, 19, 20, 21, 22, 12, 13, 14, 146, 147, 148, 149, 150, 151, 152] (by decide +kernel) (by decide +kernel)
set_option maxRecDepth 20000 in
theorem gX2_become_X5_become : GoodIn wsX2_become (wsV RX2 84 RX5 yX5_become wsX5_become) := goodIn_app (goodIn_of _ (by decide +kernel)) ggX2_become_X5_become
set_option maxRecDepth 20000 in
theorem ggX2_become_X3_become : GoodIn wsX2_become wsX3_become := goodIn_r _ [98, 99, 100, 101, 102, 103, 104, 105, 106, 107, 15, 16, 17, 18, 19, 20, 21, 22, 12, 13, 14, 153, 154, 155, 156, 157, 158, 159, 160, 161] (by decide +kernel) (by decide +kernel)
set_option maxRecDepth 20000 in
theorem gX2_become_X3_become : GoodIn wsX2_become (wsV RX2 87 RX3 yX3_become wsX3_become) := goodIn_app (goodIn_of _ (by decide +kernel)) ggX2_become_X3_become
theorem dX2_become_0 : decode cX2_become 0 = .ok (.aload_n 0, 1) := by decide +kernel
theorem dX2_become_1 : decode cX2_become 1 = .ok (.aload_n 1, 1) := by decide +kernel
theorem dX2_become_2 : decode cX2_become 2 = .ok (.getfield 70, 3) := by decide +kernel
theorem dX2_become_5 : decode cX2_become 5 = .ok (.putfield 70, 3) := by decide +kernel
theorem dX2_become_8 : decode cX2_become 8 = .ok (.aload_n 1, 1) := by decide +kernel
theorem dX2_become_9 : decode cX2_become 9 = .ok (.getfield 18, 3) := by decide +kernel
theorem dX2_become_12 : decode cX2_become 12 = .ok (.aload_n 0, 1) := by decide +kernel
theorem dX2_become_13 : decode cX2_become 13 = .ok (.getfield 18, 3) := by decide +kernel
theorem dX2_become_16 : decode cX2_become 16 = .ok (.invokestatic 73, 3) := by decide +kernel
theorem dX2_become_19 : decode cX2_become 19 = .ok (.aload_n 1, 1) := by decide +kernel
theorem dX2_become_20 : decode cX2_become 20 = .ok (.getfield 23, 3) := by decide +kernel
theorem dX2_become_23 : decode cX2_become 23 = .ok (.aload_n 0, 1) := by decide +kernel
theorem dX2_become_24 : decode cX2_become 24 = .ok (.getfield 23, 3) := by decide +kernel
theorem dX2_become_27 : decode cX2_become 27 = .ok (.invokestatic 73, 3) := by decide +kernel
theorem dX2_become_30 : decode cX2_become 30 = .ok (.aload_n 0, 1) := by decide +kernel
theorem dX2_become_31 : decode cX2_become 31 = .ok (.getfield 66, 3) := by decide +kernel
theorem dX2_become_34 : decode cX2_become 34 = .ok (.aload_n 1, 1) := by decide +kernel
theorem dX2_become_35 : decode cX2_become 35 = .ok (.getfield 66, 3) := by decide +kernel
theorem dX2_become_38 : decode cX2_become 38 = .ok (.invokevirtual 77, 3) := by decide +kernel
theorem dX2_become_41 : decode cX2_become 41 = .ok (.aload_n 0, 1) := by decide +kernel
theorem dX2_become_42 : decode cX2_become 42 = .ok (.getfield 29, 3) := by decide +kernel
theorem dX2_become_45 : decode cX2_become 45 = .ok (.aload_n 1, 1) := by decide +kernel
theorem dX2_become_46 : decode cX2_become 46 = .ok (.getfield 29, 3) := by decide +kernel
theorem dX2_become_49 : decode cX2_become 49 = .ok (.invokevirtual 81, 3) := by decide +kernel
theorem dX2_become_52 : decode cX2_become 52 = .ok (.aload_n 0, 1) := by decide +kernel
theorem dX2_become_53 : decode cX2_become 53 = .ok (.getfield 36, 3) := by decide +kernel
theorem dX2_become_56 : decode cX2_become 56 = .ok (.aload_n 1, 1) := by decide +kernel
theorem dX2_become_57 : decode cX2_become 57 = .ok (.getfield 36, 3) := by decide +kernel
theorem dX2_become_60 : decode cX2_become 60 = .ok (.invokevirtual 84, 3) := by decide +kernel
theorem dX2_become_63 : decode cX2_become 63 = .ok (.aload_n 0, 1) := by decide +kernel
theorem dX2_become_64 : decode cX2_become 64 = .ok (.getfield 43, 3) := by decide +kernel
theorem dX2_become_67 : decode cX2_become 67 = .ok (.aload_n 1, 1) := by decide +kernel
theorem dX2_become_68 : decode cX2_become 68 = .ok (.getfield 43, 3) := by decide +kernel
theorem dX2_become_71 : decode cX2_become 71 = .ok (.invokevirtual 87, 3) := by decide +kernel
theorem dX2_become_74 : decode cX2_become 74 = .ok (.aload_n 0, 1) := by decide +kernel
theorem dX2_become_75 : decode cX2_become 75 = .ok (.aload_n 1, 1) := by decide +kernel
theorem dX2_become_76 : decode cX2_become 76 = .ok (.getfield 90, 3) := by decide +kernel
theorem dX2_become_79 : decode cX2_become 79 = .ok (.putfield 90, 3) := by decide +kernel
theorem dX2_become_82 : decode cX2_become 82 = .ok (.aload_n 0, 1) := by decide +kernel
theorem dX2_become_83 : decode cX2_become 83 = .ok (.getfield 47, 3) := by decide +kernel
theorem dX2_become_86 : decode cX2_become 86 = .ok (.arraylength, 1) := by decide +kernel
theorem dX2_become_87 : decode cX2_become 87 = .ok (.aload_n 0, 1) := by decide +kernel
theorem dX2_become_88 : decode cX2_become 88 = .ok (.getfield 90, 3) := by decide +kernel
theorem dX2_become_91 : decode cX2_become 91 = .ok (.if_icmp .ge 14, 3) := by decide +kernel
theorem dX2_become_94 : decode cX2_become 94 = .ok (.aload_n 0, 1) := by decide +kernel
theorem dX2_become_95 : decode cX2_become 95 = .ok (.aload_n 1, 1) := by decide +kernel
theorem dX2_become_96 : decode cX2_become 96 = .ok (.getfield 47, 3) := by decide +kernel
theorem dX2_become_99 : decode cX2_become 99 = .ok (.arraylength, 1) := by decide +kernel
theorem dX2_become_100 : decode cX2_become 100 = .ok (.newarray .int, 2) := by decide +kernel
theorem dX2_become_102 : decode cX2_become 102 = .ok (.putfield 47, 3) := by decide +kernel
theorem dX2_become_105 : decode cX2_become 105 = .ok (.aload_n 1, 1) := by decide +kernel
theorem dX2_become_106 : decode cX2_become 106 = .ok (.getfield 47, 3) := by decide +kernel
theorem dX2_become_109 : decode cX2_become 109 = .ok (.iconst 0, 1) := by decide +kernel
theorem dX2_become_110 : decode cX2_become 110 = .ok (.aload_n 0, 1) := by decide +kernel
theorem dX2_become_111 : decode cX2_become 111 = .ok (.getfield 47, 3) := by decide +kernel
theorem dX2_become_114 : decode cX2_become 114 = .ok (.iconst 0, 1) := by decide +kernel
theorem dX2_become_115 : decode cX2_become 115 = .ok (.aload_n 0, 1) := by decide +kernel
theorem dX2_become_116 : decode cX2_become 116 = .ok (.getfield 90, 3) := by decide +kernel
theorem dX2_become_119 : decode cX2_become 119 = .ok (.invokestatic 93, 3) := by decide +kernel
theorem dX2_become_122 : decode cX2_become 122 = .ok (.return_, 1) := by decide +kernel
set_option maxRecDepth 20000 in
theorem ggX2_timeOfNext_X0_nextArrival : GoodIn wsX2_timeOfNext wsX0_nextArrival := goodIn_r _ [8, 9, 10, 11, 12, 13, 33, 34, 35, 36, 37, 38, 39] (by decide +kernel) (by decide +kernel)
set_option maxRecDepth 20000 in
theorem gX2_timeOfNext_X0_nextArrival : GoodIn wsX2_timeOfNext (wsV RX2 99 RX0 yX0_nextArrival wsX0_nextArrival) := goodIn_app (goodIn_of _ (by decide +kernel)) ggX2_timeOfNext_X0_nextArrival
set_option maxRecDepth 20000 in
theorem ggX2_timeOfNext_X5_nextDeadline : GoodIn wsX2_timeOfNext wsX5_nextDeadline := goodIn_r _ [18, 19, 20, 40, 41, 42, 43, 44, 45, 46] (by decide +kernel) (by decide +kernel)
set_option maxRecDepth 20000 in
theorem gX2_timeOfNext_X5_nextDeadline : GoodIn wsX2_timeOfNext (wsV RX2 103 RX5 yX5_nextDeadline wsX5_nextDeadline) := goodIn_app (goodIn_of _ (by decide +kernel)) ggX2_timeOfNext_X5_nextDeadline
theorem dX2_timeOfNext_0 : decode cX2_timeOfNext 0 = .ok (.aload_n 0, 1) := by decide +kernel
theorem dX2_timeOfNext_1 : decode cX2_timeOfNext 1 = .ok (.getfield 66, 3) := by decide +kernel
theorem dX2_timeOfNext_4 : decode cX2_timeOfNext 4 = .ok (.aload_n 0, 1) := by decide +kernel
theorem dX2_timeOfNext_5 : decode cX2_timeOfNext 5 = .ok (.getfield 70, 3) := by decide +kernel
theorem dX2_timeOfNext_8 : decode cX2_timeOfNext 8 = .ok (.invokevirtual 99, 3) := by decide +kernel
theorem dX2_timeOfNext_11 : decode cX2_timeOfNext 11 = .ok (.istore_n 1, 1) := by decide +kernel
theorem dX2_timeOfNext_12 : decode cX2_timeOfNext 12 = .ok (.aload_n 0, 1) := by decide +kernel
theorem dX2_timeOfNext_13 : decode cX2_timeOfNext 13 = .ok (.getfield 36, 3) := by decide +kernel
theorem dX2_timeOfNext_16 : decode cX2_timeOfNext 16 = .ok (.invokevirtual 103, 3) := by decide +kernel
theorem dX2_timeOfNext_19 : decode cX2_timeOfNext 19 = .ok (.istore_n 2, 1) := by decide +kernel
theorem dX2_timeOfNext_20 : decode cX2_timeOfNext 20 = .ok (.iload_n 1, 1) := by decide +kernel
theorem dX2_timeOfNext_21 : decode cX2_timeOfNext 21 = .ok (.iconst (-1), 1) := by decide +kernel
theorem dX2_timeOfNext_22 : decode cX2_timeOfNext 22 = .ok (.if_icmp .eq 13, 3) := by decide +kernel
theorem dX2_timeOfNext_25 : decode cX2_timeOfNext 25 = .ok (.iload_n 2, 1) := by decide +kernel
theorem dX2_timeOfNext_26 : decode cX2_timeOfNext 26 = .ok (.iconst (-1), 1) := by decide +kernel
theorem dX2_timeOfNext_27 : decode cX2_timeOfNext 27 = .ok (.if_icmp .eq 12, 3) := by decide +kernel
theorem dX2_timeOfNext_30 : decode cX2_timeOfNext 30 = .ok (.iload_n 2, 1) := by decide +kernel
theorem dX2_timeOfNext_31 : decode cX2_timeOfNext 31 = .ok (.iload_n 1, 1) := by decide +kernel
theorem dX2_timeOfNext_32 : decode cX2_timeOfNext 32 = .ok (.if_icmp .ge 7, 3) := by decide +kernel
theorem dX2_timeOfNext_35 : decode cX2_timeOfNext 35 = .ok (.iload_n 2, 1) := by decide +kernel
theorem dX2_timeOfNext_36 : decode cX2_timeOfNext 36 = .ok (.goto 4, 3) := by decide +kernel
theorem dX2_timeOfNext_39 : decode cX2_timeOfNext 39 = .ok (.iload_n 1, 1) := by decide +kernel
theorem dX2_timeOfNext_40 : decode cX2_timeOfNext 40 = .ok (.ireturn, 1) := by decide +kernel
set_option maxRecDepth 20000 in
theorem ggX2_advance_X2_timeOfNext : GoodIn wsX2_advance wsX2_timeOfNext := goodIn_r _ [7, 8, 1, 9, 10, 11, 12, 13, 14, 15, 16, 17, 18, 19, 20, 21, 22, 23, 24, 25, 26, 314, 315, 316, 317, 318, 319, 320, 321, 322, 323, 324, 325, 326, 327, 328, 329, 330, 331, 332, 333, 334, 335, 336, 337, 338, 339] (by decide +kernel) (by decide +kernel)
set_option maxRecDepth 20000 in
theorem gX2_advance_X2_timeOfNext : GoodIn wsX2_advance (wsV RX2 108 RX2 yX2_timeOfNext wsX2_timeOfNext) := goodIn_app (goodIn_of _ (by decide +kernel)) ggX2_advance_X2_timeOfNext
set_option maxRecDepth 20000 in
theorem ggX2_advance_X2_happen : GoodIn wsX2_advance wsX2_happen := goodIn_r _ [30, 1, 8, 9, 31, 32, 33, 34, 3, 4, 5, 6, 7, 10, 11, 12, 13, 14, 15, 16, 17, 18, 19, 20, 21, 22, 23, 24, 25, 26, 35, 36, 37, 38, 39, 40, 41, 42, 43, 44, 45, 46, 47, 48, 49, 50, 51, 52, 53, 54, 55, 56, 57, 58, 59, 60, 61, 62, 63, 64, 65, 66, 67, 68, 69, 70, 71, 72, 73, 74, 75, 76, 77, 78, 79, 80, 81, 82, 83, 84, 85, 86, 87, 88, 89, 90, 91, 92, 93, 94, 95, 96, 97, 98, 99, 100, 101, 102, 103, 104, 105, 106, 107, 108, 109, 110, 111, 112, 113, 114, 115, 116, 117, 118, 119, 120, 121, 122, 123, 124, 125, 126, 127, 128, 129, 130, 131, 132, 133, 134, 135, 136, 137, 138, 139, 140, 141, 142, 143, 144, 145, 146, 147, 148, 149, 150, 151, 152, 153, 154, 155, 156, 157, 158, 159, 160, 161, 162, 163, 164, 165, 166, 167, 168, 169, 170, 171, 172, 173, 174, 175, 176, 177, 178, 179, 180, 181, 182, 183, 184, 185, 186, 187, 188, 189, 190, 191, 192, 193, 194, 195, 196, 197, 198, 199, 200, 201, 202, 203, 204, 205, 206, 207, 208, 209, 210, 211, 212, 213, 214, 215, 216, 217, 218, 219, 220, 221, 222, 223, 224, 225, 226, 227, 228, 229, 230, 231, 232, 233, 234, 235, 236, 237, 238, 239, 240, 241, 242, 243, 244, 245, 246, 247, 248, 249, 250, 251, 252, 253, 254, 255, 256, 257, 258, 259, 260, 261, 262, 263, 264, 265, 266, 267, 268, 269, 270, 271, 272, 273, 274, 275, 276, 277, 278, 279, 280, 281, 282, 283, 284, 285, 286, 287, 288, 289, 290, 291, 292, 293, 294, 295, 296, 297, 298, 299, 300, 301, 302, 303, 304, 305, 306, 307, 308, 309, 310, 311, 312, 313, 314, 315, 316, 317, 318, 319, 320, 321, 322, 323, 324, 325, 333, 334, 335, 336, 337, 338, 339, 340, 341, 342, 343, 344, 345, 346, 347, 348, 349, 350, 351, 352, 326, 327, 328, 329, 330, 331, 332, 353, 354, 355, 356, 357, 358, 359, 360, 361, 362, 363, 364, 365, 366, 367] (by decide +kernel) (by decide +kernel)
set_option maxRecDepth 20000 in
theorem gX2_advance_X2_happen : GoodIn wsX2_advance (wsV RX2 111 RX2 yX2_happen wsX2_happen) := goodIn_app (goodIn_of _ (by decide +kernel)) ggX2_advance_X2_happen
theorem dX2_advance_0 : decode cX2_advance 0 = .ok (.aload_n 0, 1) := by decide +kernel
theorem dX2_advance_1 : decode cX2_advance 1 = .ok (.getfield 70, 3) := by decide +kernel
theorem dX2_advance_4 : decode cX2_advance 4 = .ok (.iload_n 1, 1) := by decide +kernel
theorem dX2_advance_5 : decode cX2_advance 5 = .ok (.iadd, 1) := by decide +kernel
theorem dX2_advance_6 : decode cX2_advance 6 = .ok (.istore_n 2, 1) := by decide +kernel
theorem dX2_advance_7 : decode cX2_advance 7 = .ok (.iconst 0, 1) := by decide +kernel
theorem dX2_advance_8 : decode cX2_advance 8 = .ok (.istore_n 3, 1) := by decide +kernel
theorem dX2_advance_9 : decode cX2_advance 9 = .ok (.iload_n 3, 1) := by decide +kernel
theorem dX2_advance_10 : decode cX2_advance 10 = .ok (.ldc 107, 2) := by decide +kernel
theorem dX2_advance_12 : decode cX2_advance 12 = .ok (.if_icmp .ge 30, 3) := by decide +kernel
theorem dX2_advance_15 : decode cX2_advance 15 = .ok (.aload_n 0, 1) := by decide +kernel
theorem dX2_advance_16 : decode cX2_advance 16 = .ok (.invokevirtual 108, 3) := by decide +kernel
theorem dX2_advance_19 : decode cX2_advance 19 = .ok (.iconst (-1), 1) := by decide +kernel
theorem dX2_advance_20 : decode cX2_advance 20 = .ok (.if_icmp .eq 22, 3) := by decide +kernel
theorem dX2_advance_23 : decode cX2_advance 23 = .ok (.aload_n 0, 1) := by decide +kernel
theorem dX2_advance_24 : decode cX2_advance 24 = .ok (.invokevirtual 108, 3) := by decide +kernel
theorem dX2_advance_27 : decode cX2_advance 27 = .ok (.iload_n 2, 1) := by decide +kernel
theorem dX2_advance_28 : decode cX2_advance 28 = .ok (.if_icmp .gt 14, 3) := by decide +kernel
theorem dX2_advance_31 : decode cX2_advance 31 = .ok (.aload_n 0, 1) := by decide +kernel
theorem dX2_advance_32 : decode cX2_advance 32 = .ok (.invokevirtual 111, 3) := by decide +kernel
theorem dX2_advance_35 : decode cX2_advance 35 = .ok (.pop, 1) := by decide +kernel
theorem dX2_advance_36 : decode cX2_advance 36 = .ok (.iinc 3 1, 3) := by decide +kernel
theorem dX2_advance_39 : decode cX2_advance 39 = .ok (.goto (-30), 3) := by decide +kernel
theorem dX2_advance_42 : decode cX2_advance 42 = .ok (.aload_n 0, 1) := by decide +kernel
theorem dX2_advance_43 : decode cX2_advance 43 = .ok (.iload_n 2, 1) := by decide +kernel
theorem dX2_advance_44 : decode cX2_advance 44 = .ok (.putfield 70, 3) := by decide +kernel
theorem dX2_advance_47 : decode cX2_advance 47 = .ok (.iload_n 3, 1) := by decide +kernel
theorem dX2_advance_48 : decode cX2_advance 48 = .ok (.ireturn, 1) := by decide +kernel
set_option maxRecDepth 20000 in
theorem ggX2_happen_X2_timeOfNext : GoodIn wsX2_happen wsX2_timeOfNext := goodIn_r _ [12, 2, 1, 3, 13, 14, 15, 16, 17, 18, 19, 20, 21, 22, 23, 24, 25, 26, 27, 28, 29, 309, 310, 311, 312, 313, 314, 315, 316, 317, 318, 319, 320, 341, 342, 343, 344, 345, 346, 347, 321, 322, 323, 324, 325, 326, 327] (by decide +kernel) (by decide +kernel)
set_option maxRecDepth 20000 in
theorem gX2_happen_X2_timeOfNext : GoodIn wsX2_happen (wsV RX2 108 RX2 yX2_timeOfNext wsX2_timeOfNext) := goodIn_app (goodIn_of _ (by decide +kernel)) ggX2_happen_X2_timeOfNext
set_option maxRecDepth 20000 in
theorem ggX2_happen_X0_takeArrived : GoodIn wsX2_happen wsX0_takeArrived := goodIn_r _ [33, 18, 34, 35, 36, 37, 19, 20, 21, 22, 341, 342, 343, 344, 345, 346, 347, 328, 329, 330, 331, 332, 333, 334, 335, 336, 337, 338, 339, 340] (by decide +kernel) (by decide +kernel)
set_option maxRecDepth 20000 in
theorem gX2_happen_X0_takeArrived : GoodIn wsX2_happen (wsV RX2 114 RX0 yX0_takeArrived wsX0_takeArrived) := goodIn_app (goodIn_of _ (by decide +kernel)) ggX2_happen_X0_takeArrived
set_option maxRecDepth 20000 in
theorem ggX2_happen_X2_handleTimeout : GoodIn wsX2_happen wsX2_handleTimeout := goodIn_r _ [41, 3, 42, 43, 44, 45, 46, 47, 48, 49, 50, 51, 52, 26, 53, 54, 29, 55, 56, 57, 58, 28, 59, 60, 61, 11, 62, 63, 64, 1, 65, 66, 67, 68, 69, 70, 71, 72, 73, 74, 75, 76, 77, 78, 79, 80, 81, 82, 83, 84, 85, 86, 87, 88, 89, 2, 90, 91, 92, 93, 94, 95, 16, 96, 97, 98, 99, 100, 101, 102, 103, 104, 105, 106, 107, 108, 109, 110, 111, 112, 113, 114, 115, 116, 117, 34, 37, 118, 119, 35, 18, 120, 36, 121, 122, 123, 124, 125, 19, 20, 21, 22, 126, 127, 128, 129, 130, 131, 132, 133, 134, 135, 136, 137, 138, 139, 140, 141, 142, 143, 144, 145, 146, 147, 148, 149, 150, 151, 152, 153, 154, 155, 156, 157, 158, 159, 160, 161, 162, 163, 164, 165, 166, 167, 168, 169, 170, 171, 172, 173, 174, 175, 176, 177, 309, 310, 311, 312, 313, 314, 315, 316, 317, 318, 319, 320, 321, 322, 323, 324, 325, 326, 327, 348, 349, 350, 351, 352, 353, 354, 355, 356, 357, 358, 359, 360, 361, 362, 341, 342, 343, 344, 345, 346, 347, 328, 329, 330, 331, 332, 333, 334, 335, 336, 337, 338, 339, 340] (by decide +kernel) (by decide +kernel)
set_option maxRecDepth 20000 in
theorem gX2_happen_X2_handleTimeout : GoodIn wsX2_happen (wsV RX2 121 RX2 yX2_handleTimeout wsX2_handleTimeout) := goodIn_app (goodIn_of _ (by decide +kernel)) ggX2_happen_X2_handleTimeout
set_option maxRecDepth 20000 in
theorem ggX2_happen_X2_carry : GoodIn wsX2_happen wsX2_carry := goodIn_r _ [252, 64, 253, 254, 1, 255, 88, 256, 3, 45, 187, 257, 2, 90, 91, 92, 258, 259, 260, 78, 261, 80, 82, 75, 76, 77, 79, 81, 221, 214, 215, 205, 216, 210, 211, 262, 263, 264, 11, 265, 186, 6, 105, 106, 107, 108, 109, 110, 111, 112, 16, 113, 114, 115, 116, 117, 34, 37, 118, 119, 35, 18, 120, 36, 121, 122, 123, 124, 125, 19, 20, 21, 22, 266, 267, 268, 269, 270, 271, 272, 193, 194, 195, 196, 273, 274, 275, 276, 212, 184, 48, 185, 213, 277, 278, 279, 280, 281, 282, 283, 284, 26, 285, 69, 65, 66, 67, 68, 70, 71, 72, 73, 74, 286, 287, 288, 289, 290, 217, 218, 219, 220, 54, 291, 292, 293, 294, 295, 126, 127, 128, 129, 130, 131, 132, 133, 134, 102, 103, 104, 135, 136, 137, 138, 139, 140, 141, 29, 55, 56, 57, 58, 28, 142, 143, 144, 145, 146, 147, 148, 149, 150, 151, 152, 153, 154, 155, 156, 157, 158, 159, 47, 49, 160, 161, 162, 163, 164, 87, 93, 94, 95, 96, 97, 165, 166, 167, 168, 169, 170, 171, 172, 173, 174, 175, 176, 177, 296, 297, 298, 299, 300, 237, 238, 239, 98, 99, 100, 101, 309, 310, 311, 312, 313, 314, 315, 316, 317, 318, 319, 320, 348, 349, 350, 351, 352, 353, 354, 355, 356, 357, 358, 359, 360, 361, 362, 328, 329, 330, 331, 332, 333, 334, 335, 336, 337, 338, 339, 340, 341, 342, 343, 344, 345, 346, 347, 321, 322, 323, 324, 325, 326, 327] (by decide +kernel) (by decide +kernel)
set_option maxRecDepth 20000 in
theorem gX2_happen_X2_carry : GoodIn wsX2_happen (wsV RX2 146 RX2 yX2_carry wsX2_carry) := goodIn_app (goodIn_of _ (by decide +kernel)) ggX2_happen_X2_carry
theorem dX2_happen_0 : decode cX2_happen 0 = .ok (.aload_n 0, 1) := by decide +kernel
theorem dX2_happen_1 : decode cX2_happen 1 = .ok (.invokevirtual 108, 3) := by decide +kernel
theorem dX2_happen_4 : decode cX2_happen 4 = .ok (.istore_n 1, 1) := by decide +kernel
theorem dX2_happen_5 : decode cX2_happen 5 = .ok (.iload_n 1, 1) := by decide +kernel
theorem dX2_happen_6 : decode cX2_happen 6 = .ok (.iconst (-1), 1) := by decide +kernel
theorem dX2_happen_7 : decode cX2_happen 7 = .ok (.if_icmp .ne 5, 3) := by decide +kernel
theorem dX2_happen_10 : decode cX2_happen 10 = .ok (.iconst (-1), 1) := by decide +kernel
theorem dX2_happen_11 : decode cX2_happen 11 = .ok (.ireturn, 1) := by decide +kernel
theorem dX2_happen_12 : decode cX2_happen 12 = .ok (.aload_n 0, 1) := by decide +kernel
theorem dX2_happen_13 : decode cX2_happen 13 = .ok (.iload_n 1, 1) := by decide +kernel
theorem dX2_happen_14 : decode cX2_happen 14 = .ok (.putfield 70, 3) := by decide +kernel
theorem dX2_happen_17 : decode cX2_happen 17 = .ok (.aload_n 0, 1) := by decide +kernel
theorem dX2_happen_18 : decode cX2_happen 18 = .ok (.getfield 66, 3) := by decide +kernel
theorem dX2_happen_21 : decode cX2_happen 21 = .ok (.iload_n 1, 1) := by decide +kernel
theorem dX2_happen_22 : decode cX2_happen 22 = .ok (.invokevirtual 114, 3) := by decide +kernel
theorem dX2_happen_25 : decode cX2_happen 25 = .ok (.astore_n 2, 1) := by decide +kernel
theorem dX2_happen_26 : decode cX2_happen 26 = .ok (.aload_n 2, 1) := by decide +kernel
theorem dX2_happen_27 : decode cX2_happen 27 = .ok (.ifnonnull 16, 3) := by decide +kernel
theorem dX2_happen_30 : decode cX2_happen 30 = .ok (.aload_n 0, 1) := by decide +kernel
theorem dX2_happen_31 : decode cX2_happen 31 = .ok (.aload_n 0, 1) := by decide +kernel
theorem dX2_happen_32 : decode cX2_happen 32 = .ok (.getfield 36, 3) := by decide +kernel
theorem dX2_happen_35 : decode cX2_happen 35 = .ok (.getfield 118, 3) := by decide +kernel
theorem dX2_happen_38 : decode cX2_happen 38 = .ok (.invokevirtual 121, 3) := by decide +kernel
theorem dX2_happen_41 : decode cX2_happen 41 = .ok (.iconst 4, 1) := by decide +kernel
theorem dX2_happen_42 : decode cX2_happen 42 = .ok (.ireturn, 1) := by decide +kernel
theorem dX2_happen_43 : decode cX2_happen 43 = .ok (.aload_n 2, 1) := by decide +kernel
theorem dX2_happen_44 : decode cX2_happen 44 = .ok (.getfield 124, 3) := by decide +kernel
theorem dX2_happen_47 : decode cX2_happen 47 = .ok (.tableswitch 49 0 2 #[25, 33, 41], 25) := by decide +kernel
theorem dX2_happen_72 : decode cX2_happen 72 = .ok (.aload_n 0, 1) := by decide +kernel
theorem dX2_happen_73 : decode cX2_happen 73 = .ok (.aload_n 2, 1) := by decide +kernel
theorem dX2_happen_74 : decode cX2_happen 74 = .ok (.invokevirtual 127, 3) := by decide +kernel
theorem dX2_happen_77 : decode cX2_happen 77 = .ok (.goto 36, 3) := by decide +kernel
theorem dX2_happen_80 : decode cX2_happen 80 = .ok (.aload_n 0, 1) := by decide +kernel
theorem dX2_happen_81 : decode cX2_happen 81 = .ok (.aload_n 2, 1) := by decide +kernel
theorem dX2_happen_82 : decode cX2_happen 82 = .ok (.invokevirtual 131, 3) := by decide +kernel
theorem dX2_happen_85 : decode cX2_happen 85 = .ok (.goto 28, 3) := by decide +kernel
theorem dX2_happen_88 : decode cX2_happen 88 = .ok (.aload_n 0, 1) := by decide +kernel
theorem dX2_happen_89 : decode cX2_happen 89 = .ok (.aload_n 2, 1) := by decide +kernel
theorem dX2_happen_90 : decode cX2_happen 90 = .ok (.invokevirtual 134, 3) := by decide +kernel
theorem dX2_happen_93 : decode cX2_happen 93 = .ok (.goto 20, 3) := by decide +kernel
theorem dX2_happen_96 : decode cX2_happen 96 = .ok (.aload_n 0, 1) := by decide +kernel
theorem dX2_happen_97 : decode cX2_happen 97 = .ok (.aload_n 2, 1) := by decide +kernel
theorem dX2_happen_98 : decode cX2_happen 98 = .ok (.invokevirtual 137, 3) := by decide +kernel
theorem dX2_happen_101 : decode cX2_happen 101 = .ok (.aload_n 0, 1) := by decide +kernel
theorem dX2_happen_102 : decode cX2_happen 102 = .ok (.aload_n 2, 1) := by decide +kernel
theorem dX2_happen_103 : decode cX2_happen 103 = .ok (.getfield 140, 3) := by decide +kernel
theorem dX2_happen_106 : decode cX2_happen 106 = .ok (.aload_n 2, 1) := by decide +kernel
theorem dX2_happen_107 : decode cX2_happen 107 = .ok (.getfield 143, 3) := by decide +kernel
theorem dX2_happen_110 : decode cX2_happen 110 = .ok (.invokevirtual 146, 3) := by decide +kernel
theorem dX2_happen_113 : decode cX2_happen 113 = .ok (.aload_n 0, 1) := by decide +kernel
theorem dX2_happen_114 : decode cX2_happen 114 = .ok (.aload_n 2, 1) := by decide +kernel
theorem dX2_happen_115 : decode cX2_happen 115 = .ok (.getfield 143, 3) := by decide +kernel
theorem dX2_happen_118 : decode cX2_happen 118 = .ok (.invokevirtual 150, 3) := by decide +kernel
theorem dX2_happen_121 : decode cX2_happen 121 = .ok (.aload_n 0, 1) := by decide +kernel
theorem dX2_happen_122 : decode cX2_happen 122 = .ok (.getfield 66, 3) := by decide +kernel
theorem dX2_happen_125 : decode cX2_happen 125 = .ok (.aload_n 2, 1) := by decide +kernel
theorem dX2_happen_126 : decode cX2_happen 126 = .ok (.invokevirtual 153, 3) := by decide +kernel
theorem dX2_happen_129 : decode cX2_happen 129 = .ok (.aload_n 2, 1) := by decide +kernel
theorem dX2_happen_130 : decode cX2_happen 130 = .ok (.getfield 124, 3) := by decide +kernel
theorem dX2_happen_133 : decode cX2_happen 133 = .ok (.ireturn, 1) := by decide +kernel
set_option maxRecDepth 20000 in
theorem ggX2_launch_X2_carry : GoodIn wsX2_launch wsX2_carry := goodIn_r _ [10, 1, 4, 11, 12, 13, 14, 3, 15, 16, 17, 5, 18, 19, 20, 21, 22, 23, 24, 25, 26, 27, 28, 29, 30, 31, 32, 33, 34, 35, 36, 37, 38, 39, 40, 41, 42, 43, 9, 44, 45, 46, 47, 48, 49, 50, 51, 52, 53, 54, 55, 56, 57, 58, 59, 60, 61, 62, 63, 64, 65, 66, 67, 68, 69, 70, 71, 72, 73, 74, 75, 76, 77, 78, 79, 80, 81, 82, 83, 84, 85, 86, 87, 88, 89, 90, 91, 92, 93, 94, 95, 96, 97, 98, 99, 100, 101, 102, 103, 104, 105, 106, 107, 108, 109, 110, 111, 112, 113, 114, 115, 116, 117, 118, 119, 120, 121, 122, 123, 124, 125, 126, 127, 128, 129, 130, 131, 132, 133, 134, 135, 136, 137, 138, 139, 140, 141, 142, 143, 144, 145, 146, 147, 148, 149, 150, 151, 152, 153, 154, 155, 156, 157, 158, 159, 160, 161, 162, 163, 164, 165, 166, 167, 168, 169, 170, 171, 172, 173, 174, 175, 176, 177, 178, 179, 180, 181, 182, 183, 184, 185, 186, 187, 188, 189, 190, 191, 192, 193, 194, 195, 196, 197, 198, 199, 200, 201, 202, 203, 204, 205, 206, 207, 208, 209, 210, 211, 212, 213, 214, 215, 216, 217, 218, 219, 220, 221, 222, 223, 224, 225, 226, 227, 228, 229, 230, 231, 232, 233, 234, 235, 236, 237, 238, 239, 240, 241, 242, 243, 244, 245, 246, 247, 248, 249, 250, 251, 252, 253, 254, 255, 256, 257, 258, 259, 260, 261, 262, 263, 264, 265, 266, 267] (by decide +kernel) (by decide +kernel)
set_option maxRecDepth 20000 in
theorem gX2_launch_X2_carry : GoodIn wsX2_launch (wsV RX2 146 RX2 yX2_carry wsX2_carry) := goodIn_app (goodIn_of _ (by decide +kernel)) ggX2_launch_X2_carry
theorem dX2_launch_0 : decode cX2_launch 0 = .ok (.aload_n 0, 1) := by decide +kernel
theorem dX2_launch_1 : decode cX2_launch 1 = .ok (.getfield 43, 3) := by decide +kernel
theorem dX2_launch_4 : decode cX2_launch 4 = .ok (.getfield 156, 3) := by decide +kernel
theorem dX2_launch_7 : decode cX2_launch 7 = .ok (.istore_n 3, 1) := by decide +kernel
theorem dX2_launch_8 : decode cX2_launch 8 = .ok (.iload_n 3, 1) := by decide +kernel
theorem dX2_launch_9 : decode cX2_launch 9 = .ok (.sipush 200, 3) := by decide +kernel
theorem dX2_launch_12 : decode cX2_launch 12 = .ok (.if_icmp .lt 5, 3) := by decide +kernel
theorem dX2_launch_15 : decode cX2_launch 15 = .ok (.iconst (-1), 1) := by decide +kernel
theorem dX2_launch_16 : decode cX2_launch 16 = .ok (.ireturn, 1) := by decide +kernel
theorem dX2_launch_17 : decode cX2_launch 17 = .ok (.aload_n 0, 1) := by decide +kernel
theorem dX2_launch_18 : decode cX2_launch 18 = .ok (.getfield 43, 3) := by decide +kernel
theorem dX2_launch_21 : decode cX2_launch 21 = .ok (.dup, 1) := by decide +kernel
theorem dX2_launch_22 : decode cX2_launch 22 = .ok (.getfield 156, 3) := by decide +kernel
theorem dX2_launch_25 : decode cX2_launch 25 = .ok (.iconst 1, 1) := by decide +kernel
theorem dX2_launch_26 : decode cX2_launch 26 = .ok (.iadd, 1) := by decide +kernel
theorem dX2_launch_27 : decode cX2_launch 27 = .ok (.putfield 156, 3) := by decide +kernel
theorem dX2_launch_30 : decode cX2_launch 30 = .ok (.aload_n 0, 1) := by decide +kernel
theorem dX2_launch_31 : decode cX2_launch 31 = .ok (.getfield 43, 3) := by decide +kernel
theorem dX2_launch_34 : decode cX2_launch 34 = .ok (.getfield 159, 3) := by decide +kernel
theorem dX2_launch_37 : decode cX2_launch 37 = .ok (.iload_n 3, 1) := by decide +kernel
theorem dX2_launch_38 : decode cX2_launch 38 = .ok (.iload_n 1, 1) := by decide +kernel
theorem dX2_launch_39 : decode cX2_launch 39 = .ok (.iastore, 1) := by decide +kernel
theorem dX2_launch_40 : decode cX2_launch 40 = .ok (.aload_n 0, 1) := by decide +kernel
theorem dX2_launch_41 : decode cX2_launch 41 = .ok (.getfield 43, 3) := by decide +kernel
theorem dX2_launch_44 : decode cX2_launch 44 = .ok (.getfield 162, 3) := by decide +kernel
theorem dX2_launch_47 : decode cX2_launch 47 = .ok (.iload_n 3, 1) := by decide +kernel
theorem dX2_launch_48 : decode cX2_launch 48 = .ok (.iload_n 2, 1) := by decide +kernel
theorem dX2_launch_49 : decode cX2_launch 49 = .ok (.iastore, 1) := by decide +kernel
theorem dX2_launch_50 : decode cX2_launch 50 = .ok (.aload_n 0, 1) := by decide +kernel
theorem dX2_launch_51 : decode cX2_launch 51 = .ok (.getfield 43, 3) := by decide +kernel
theorem dX2_launch_54 : decode cX2_launch 54 = .ok (.getfield 165, 3) := by decide +kernel
theorem dX2_launch_57 : decode cX2_launch 57 = .ok (.iload_n 3, 1) := by decide +kernel
theorem dX2_launch_58 : decode cX2_launch 58 = .ok (.iconst (-1), 1) := by decide +kernel
theorem dX2_launch_59 : decode cX2_launch 59 = .ok (.iastore, 1) := by decide +kernel
theorem dX2_launch_60 : decode cX2_launch 60 = .ok (.aload_n 0, 1) := by decide +kernel
theorem dX2_launch_61 : decode cX2_launch 61 = .ok (.iload_n 3, 1) := by decide +kernel
theorem dX2_launch_62 : decode cX2_launch 62 = .ok (.iload_n 1, 1) := by decide +kernel
theorem dX2_launch_63 : decode cX2_launch 63 = .ok (.invokevirtual 146, 3) := by decide +kernel
theorem dX2_launch_66 : decode cX2_launch 66 = .ok (.iload_n 3, 1) := by decide +kernel
theorem dX2_launch_67 : decode cX2_launch 67 = .ok (.ireturn, 1) := by decide +kernel
theorem dX2_changeLink_0 : decode cX2_changeLink 0 = .ok (.aload_n 0, 1) := by decide +kernel
theorem dX2_changeLink_1 : decode cX2_changeLink 1 = .ok (.getfield 66, 3) := by decide +kernel
theorem dX2_changeLink_4 : decode cX2_changeLink 4 = .ok (.getfield 168, 3) := by decide +kernel
theorem dX2_changeLink_7 : decode cX2_changeLink 7 = .ok (.iload_n 1, 1) := by decide +kernel
theorem dX2_changeLink_8 : decode cX2_changeLink 8 = .ok (.aaload, 1) := by decide +kernel
theorem dX2_changeLink_9 : decode cX2_changeLink 9 = .ok (.iload_n 2, 1) := by decide +kernel
theorem dX2_changeLink_10 : decode cX2_changeLink 10 = .ok (.iaload, 1) := by decide +kernel
theorem dX2_changeLink_11 : decode cX2_changeLink 11 = .ok (.istore 4, 2) := by decide +kernel
theorem dX2_changeLink_13 : decode cX2_changeLink 13 = .ok (.aload_n 0, 1) := by decide +kernel
theorem dX2_changeLink_14 : decode cX2_changeLink 14 = .ok (.getfield 66, 3) := by decide +kernel
theorem dX2_changeLink_17 : decode cX2_changeLink 17 = .ok (.getfield 168, 3) := by decide +kernel
theorem dX2_changeLink_20 : decode cX2_changeLink 20 = .ok (.iload_n 1, 1) := by decide +kernel
theorem dX2_changeLink_21 : decode cX2_changeLink 21 = .ok (.aaload, 1) := by decide +kernel
theorem dX2_changeLink_22 : decode cX2_changeLink 22 = .ok (.iload_n 2, 1) := by decide +kernel
theorem dX2_changeLink_23 : decode cX2_changeLink 23 = .ok (.iload_n 3, 1) := by decide +kernel
theorem dX2_changeLink_24 : decode cX2_changeLink 24 = .ok (.iastore, 1) := by decide +kernel
theorem dX2_changeLink_25 : decode cX2_changeLink 25 = .ok (.aload_n 0, 1) := by decide +kernel
theorem dX2_changeLink_26 : decode cX2_changeLink 26 = .ok (.getfield 66, 3) := by decide +kernel
theorem dX2_changeLink_29 : decode cX2_changeLink 29 = .ok (.getfield 168, 3) := by decide +kernel
theorem dX2_changeLink_32 : decode cX2_changeLink 32 = .ok (.iload_n 2, 1) := by decide +kernel
theorem dX2_changeLink_33 : decode cX2_changeLink 33 = .ok (.aaload, 1) := by decide +kernel
theorem dX2_changeLink_34 : decode cX2_changeLink 34 = .ok (.iload_n 1, 1) := by decide +kernel
theorem dX2_changeLink_35 : decode cX2_changeLink 35 = .ok (.iload_n 3, 1) := by decide +kernel
theorem dX2_changeLink_36 : decode cX2_changeLink 36 = .ok (.iastore, 1) := by decide +kernel
theorem dX2_changeLink_37 : decode cX2_changeLink 37 = .ok (.iload 4, 2) := by decide +kernel
theorem dX2_changeLink_39 : decode cX2_changeLink 39 = .ok (.ifCond .le 50, 3) := by decide +kernel
theorem dX2_changeLink_42 : decode cX2_changeLink 42 = .ok (.iload_n 3, 1) := by decide +kernel
theorem dX2_changeLink_43 : decode cX2_changeLink 43 = .ok (.ifCond .ne 46, 3) := by decide +kernel
theorem dX2_changeLink_46 : decode cX2_changeLink 46 = .ok (.aload_n 0, 1) := by decide +kernel
theorem dX2_changeLink_47 : decode cX2_changeLink 47 = .ok (.iload_n 1, 1) := by decide +kernel
theorem dX2_changeLink_48 : decode cX2_changeLink 48 = .ok (.iload_n 2, 1) := by decide +kernel
theorem dX2_changeLink_49 : decode cX2_changeLink 49 = .ok (.invokevirtual 172, 3) := by decide +kernel
theorem dX2_changeLink_52 : decode cX2_changeLink 52 = .ok (.aload_n 0, 1) := by decide +kernel
theorem dX2_changeLink_53 : decode cX2_changeLink 53 = .ok (.getfield 66, 3) := by decide +kernel
theorem dX2_changeLink_56 : decode cX2_changeLink 56 = .ok (.iload_n 1, 1) := by decide +kernel
theorem dX2_changeLink_57 : decode cX2_changeLink 57 = .ok (.iload_n 2, 1) := by decide +kernel
theorem dX2_changeLink_58 : decode cX2_changeLink 58 = .ok (.invokevirtual 175, 3) := by decide +kernel
theorem dX2_changeLink_61 : decode cX2_changeLink 61 = .ok (.aload_n 0, 1) := by decide +kernel
theorem dX2_changeLink_62 : decode cX2_changeLink 62 = .ok (.iload_n 1, 1) := by decide +kernel
theorem dX2_changeLink_63 : decode cX2_changeLink 63 = .ok (.iload_n 2, 1) := by decide +kernel
theorem dX2_changeLink_64 : decode cX2_changeLink 64 = .ok (.invokestatic 178, 3) := by decide +kernel
theorem dX2_changeLink_67 : decode cX2_changeLink 67 = .ok (.iload_n 1, 1) := by decide +kernel
theorem dX2_changeLink_68 : decode cX2_changeLink 68 = .ok (.iload_n 2, 1) := by decide +kernel
theorem dX2_changeLink_69 : decode cX2_changeLink 69 = .ok (.invokestatic 184, 3) := by decide +kernel
theorem dX2_changeLink_72 : decode cX2_changeLink 72 = .ok (.invokevirtual 187, 3) := by decide +kernel
theorem dX2_changeLink_75 : decode cX2_changeLink 75 = .ok (.aload_n 0, 1) := by decide +kernel
theorem dX2_changeLink_76 : decode cX2_changeLink 76 = .ok (.iload_n 1, 1) := by decide +kernel
theorem dX2_changeLink_77 : decode cX2_changeLink 77 = .ok (.iload_n 2, 1) := by decide +kernel
theorem dX2_changeLink_78 : decode cX2_changeLink 78 = .ok (.invokestatic 184, 3) := by decide +kernel
theorem dX2_changeLink_81 : decode cX2_changeLink 81 = .ok (.iload_n 1, 1) := by decide +kernel
theorem dX2_changeLink_82 : decode cX2_changeLink 82 = .ok (.iload_n 2, 1) := by decide +kernel
theorem dX2_changeLink_83 : decode cX2_changeLink 83 = .ok (.invokestatic 178, 3) := by decide +kernel
theorem dX2_changeLink_86 : decode cX2_changeLink 86 = .ok (.invokevirtual 187, 3) := by decide +kernel
theorem dX2_changeLink_89 : decode cX2_changeLink 89 = .ok (.iload 4, 2) := by decide +kernel
theorem dX2_changeLink_91 : decode cX2_changeLink 91 = .ok (.ireturn, 1) := by decide +kernel
set_option maxRecDepth 20000 in
theorem ggX2_carry_X6_cellOf : GoodIn wsX2_carry wsX6_cellOf := goodIn_r _ [15] (by decide +kernel) (by decide +kernel)
set_option maxRecDepth 20000 in
theorem gX2_carry_X6_cellOf_n198 : GoodIn wsX2_carry (wsX6_cellOf) := ggX2_carry_X6_cellOf
set_option maxRecDepth 20000 in
theorem ggX2_carry_X3_drop : GoodIn wsX2_carry wsX3_drop := goodIn_r _ [26, 21, 27, 22, 221, 222, 223, 224, 225, 226, 227, 228, 229] (by decide +kernel) (by decide +kernel)
set_option maxRecDepth 20000 in
theorem gX2_carry_X3_drop : GoodIn wsX2_carry (wsV RX2 194 RX3 yX3_drop wsX3_drop) := goodIn_app (goodIn_of _ (by decide +kernel)) ggX2_carry_X3_drop
set_option maxRecDepth 20000 in
theorem ggX2_carry_X4_usable : GoodIn wsX2_carry wsX4_usable := goodIn_r _ [32, 33, 34, 230, 231, 232, 233, 234, 235] (by decide +kernel) (by decide +kernel)
set_option maxRecDepth 20000 in
theorem gX2_carry_X4_usable : GoodIn wsX2_carry (wsV RX2 201 RX4 yX4_usable wsX4_usable) := goodIn_app (goodIn_of _ (by decide +kernel)) ggX2_carry_X4_usable
set_option maxRecDepth 20000 in
theorem ggX2_carry_X2_hold : GoodIn wsX2_carry wsX2_hold := goodIn_r _ [96, 8, 1, 4, 97, 98, 99, 100, 101, 102, 103, 104, 105, 106, 107, 108, 109, 110, 111, 112, 23, 24, 25, 19, 26, 21, 27, 22, 113, 114, 115, 116, 117, 209, 210, 211, 212, 213, 214, 215, 216, 217, 218, 219, 220, 221, 222, 223, 224, 225, 226, 227, 228, 229, 256, 257, 258, 259, 260, 261, 262] (by decide +kernel) (by decide +kernel)
set_option maxRecDepth 20000 in
theorem gX2_carry_X2_hold : GoodIn wsX2_carry (wsV RX2 256 RX2 yX2_hold wsX2_hold) := goodIn_app (goodIn_of _ (by decide +kernel)) ggX2_carry_X2_hold
set_option maxRecDepth 20000 in
theorem ggX2_carry_X5_isIdle : GoodIn wsX2_carry wsX5_isIdle := goodIn_r _ [121, 122, 256, 257, 258, 259, 260, 261, 262] (by decide +kernel) (by decide +kernel)
set_option maxRecDepth 20000 in
theorem gX2_carry_X5_isIdle : GoodIn wsX2_carry (wsV RX2 228 RX5 yX5_isIdle wsX5_isIdle) := goodIn_app (goodIn_of _ (by decide +kernel)) ggX2_carry_X5_isIdle
set_option maxRecDepth 20000 in
theorem ggX2_carry_X5_begin : GoodIn wsX2_carry wsX5_begin := goodIn_r _ [126, 122, 127, 256, 257, 258, 259, 260, 261, 262] (by decide +kernel) (by decide +kernel)
set_option maxRecDepth 20000 in
theorem gX2_carry_X5_begin : GoodIn wsX2_carry (wsV RX2 259 RX5 yX5_begin wsX5_begin) := goodIn_app (goodIn_of _ (by decide +kernel)) ggX2_carry_X5_begin
set_option maxRecDepth 20000 in
theorem ggX2_carry_X2_newRequest : GoodIn wsX2_carry wsX2_newRequest := goodIn_r _ [131, 8, 4, 9, 132, 133, 134, 135, 136, 137, 6, 138, 139, 140, 141, 13, 14, 15, 142, 143, 144, 101, 145, 146, 147, 148, 149, 150, 151, 152, 153, 154, 155, 38, 156, 157, 158, 159, 160, 161, 162, 163, 164, 165, 166, 167, 168, 169, 170, 171, 90, 172, 173, 110, 111, 112, 209, 210, 211, 212, 213, 214, 215, 216, 217, 218, 219, 220, 236, 237, 238, 239, 240, 241, 242, 243, 244, 245, 246, 247, 248, 230, 231, 232, 233, 234, 235, 256, 257, 258, 259, 260, 261, 262] (by decide +kernel) (by decide +kernel)
set_option maxRecDepth 20000 in
theorem gX2_carry_X2_newRequest : GoodIn wsX2_carry (wsV RX2 262 RX2 yX2_newRequest wsX2_newRequest) := goodIn_app (goodIn_of _ (by decide +kernel)) ggX2_carry_X2_newRequest
set_option maxRecDepth 20000 in
theorem ggX2_carry_X2_broadcast : GoodIn wsX2_carry wsX2_broadcast := goodIn_r _ [177, 178, 12, 179, 180, 181, 50, 182, 183, 42, 43, 44, 38, 45, 4, 46, 47, 48, 49, 51, 52, 53, 54, 55, 56, 57, 58, 59, 60, 61, 62, 63, 64, 65, 66, 67, 68, 69, 70, 71, 72, 184, 185, 186, 187, 188, 189, 190, 191, 192, 193, 194, 195, 196, 209, 210, 211, 212, 213, 214, 215, 216, 217, 218, 219, 220, 249, 250, 251, 252, 253, 254, 255, 236, 237, 238, 239, 240, 241, 242, 243, 244, 245, 246, 247, 248] (by decide +kernel) (by decide +kernel)
set_option maxRecDepth 20000 in
theorem gX2_carry_X2_broadcast : GoodIn wsX2_carry (wsV RX2 266 RX2 yX2_broadcast wsX2_broadcast) := goodIn_app (goodIn_of _ (by decide +kernel)) ggX2_carry_X2_broadcast
set_option maxRecDepth 20000 in
theorem ggX2_carry_X0_isUp : GoodIn wsX2_carry wsX0_isUp := goodIn_r _ [182, 183, 249, 250, 251, 252, 253, 254, 255] (by decide +kernel) (by decide +kernel)
set_option maxRecDepth 20000 in
theorem gX2_carry_X0_isUp : GoodIn wsX2_carry (wsV RX2 276 RX0 yX0_isUp wsX0_isUp) := goodIn_app (goodIn_of _ (by decide +kernel)) ggX2_carry_X0_isUp
theorem dX2_carry_0 : decode cX2_carry 0 = .ok (.aload_n 0, 1) := by decide +kernel
theorem dX2_carry_1 : decode cX2_carry 1 = .ok (.getfield 43, 3) := by decide +kernel
theorem dX2_carry_4 : decode cX2_carry 4 = .ok (.getfield 162, 3) := by decide +kernel
theorem dX2_carry_7 : decode cX2_carry 7 = .ok (.iload_n 1, 1) := by decide +kernel
theorem dX2_carry_8 : decode cX2_carry 8 = .ok (.iaload, 1) := by decide +kernel
theorem dX2_carry_9 : decode cX2_carry 9 = .ok (.istore_n 3, 1) := by decide +kernel
theorem dX2_carry_10 : decode cX2_carry 10 = .ok (.iload_n 2, 1) := by decide +kernel
theorem dX2_carry_11 : decode cX2_carry 11 = .ok (.iload_n 3, 1) := by decide +kernel
theorem dX2_carry_12 : decode cX2_carry 12 = .ok (.invokestatic 198, 3) := by decide +kernel
theorem dX2_carry_15 : decode cX2_carry 15 = .ok (.istore 4, 2) := by decide +kernel
theorem dX2_carry_17 : decode cX2_carry 17 = .ok (.aload_n 0, 1) := by decide +kernel
theorem dX2_carry_18 : decode cX2_carry 18 = .ok (.getfield 43, 3) := by decide +kernel
theorem dX2_carry_21 : decode cX2_carry 21 = .ok (.getfield 244, 3) := by decide +kernel
theorem dX2_carry_24 : decode cX2_carry 24 = .ok (.iload_n 1, 1) := by decide +kernel
theorem dX2_carry_25 : decode cX2_carry 25 = .ok (.iload_n 2, 1) := by decide +kernel
theorem dX2_carry_26 : decode cX2_carry 26 = .ok (.iastore, 1) := by decide +kernel
theorem dX2_carry_27 : decode cX2_carry 27 = .ok (.iload_n 2, 1) := by decide +kernel
theorem dX2_carry_28 : decode cX2_carry 28 = .ok (.iload_n 3, 1) := by decide +kernel
theorem dX2_carry_29 : decode cX2_carry 29 = .ok (.if_icmp .ne 18, 3) := by decide +kernel
theorem dX2_carry_32 : decode cX2_carry 32 = .ok (.aload_n 0, 1) := by decide +kernel
theorem dX2_carry_33 : decode cX2_carry 33 = .ok (.getfield 43, 3) := by decide +kernel
theorem dX2_carry_36 : decode cX2_carry 36 = .ok (.iload_n 1, 1) := by decide +kernel
theorem dX2_carry_37 : decode cX2_carry 37 = .ok (.aload_n 0, 1) := by decide +kernel
theorem dX2_carry_38 : decode cX2_carry 38 = .ok (.getfield 70, 3) := by decide +kernel
theorem dX2_carry_41 : decode cX2_carry 41 = .ok (.invokevirtual 247, 3) := by decide +kernel
theorem dX2_carry_44 : decode cX2_carry 44 = .ok (.goto 239, 3) := by decide +kernel
theorem dX2_carry_47 : decode cX2_carry 47 = .ok (.aload_n 0, 1) := by decide +kernel
theorem dX2_carry_48 : decode cX2_carry 48 = .ok (.getfield 43, 3) := by decide +kernel
theorem dX2_carry_51 : decode cX2_carry 51 = .ok (.getfield 250, 3) := by decide +kernel
theorem dX2_carry_54 : decode cX2_carry 54 = .ok (.iload_n 1, 1) := by decide +kernel
theorem dX2_carry_55 : decode cX2_carry 55 = .ok (.iaload, 1) := by decide +kernel
theorem dX2_carry_56 : decode cX2_carry 56 = .ok (.bipush 30, 2) := by decide +kernel
theorem dX2_carry_58 : decode cX2_carry 58 = .ok (.if_icmp .lt 20, 3) := by decide +kernel
theorem dX2_carry_61 : decode cX2_carry 61 = .ok (.aload_n 0, 1) := by decide +kernel
theorem dX2_carry_62 : decode cX2_carry 62 = .ok (.getfield 43, 3) := by decide +kernel
theorem dX2_carry_65 : decode cX2_carry 65 = .ok (.iload_n 1, 1) := by decide +kernel
theorem dX2_carry_66 : decode cX2_carry 66 = .ok (.bipush 23, 2) := by decide +kernel
theorem dX2_carry_68 : decode cX2_carry 68 = .ok (.aload_n 0, 1) := by decide +kernel
theorem dX2_carry_69 : decode cX2_carry 69 = .ok (.getfield 70, 3) := by decide +kernel
theorem dX2_carry_72 : decode cX2_carry 72 = .ok (.invokevirtual 194, 3) := by decide +kernel
theorem dX2_carry_75 : decode cX2_carry 75 = .ok (.goto 208, 3) := by decide +kernel
theorem dX2_carry_78 : decode cX2_carry 78 = .ok (.aload_n 0, 1) := by decide +kernel
theorem dX2_carry_79 : decode cX2_carry 79 = .ok (.getfield 29, 3) := by decide +kernel
theorem dX2_carry_82 : decode cX2_carry 82 = .ok (.iload 4, 2) := by decide +kernel
theorem dX2_carry_84 : decode cX2_carry 84 = .ok (.aload_n 0, 1) := by decide +kernel
theorem dX2_carry_85 : decode cX2_carry 85 = .ok (.getfield 70, 3) := by decide +kernel
theorem dX2_carry_88 : decode cX2_carry 88 = .ok (.invokevirtual 201, 3) := by decide +kernel
theorem dX2_carry_91 : decode cX2_carry 91 = .ok (.ifCond .eq 14, 3) := by decide +kernel
theorem dX2_carry_94 : decode cX2_carry 94 = .ok (.aload_n 0, 1) := by decide +kernel
theorem dX2_carry_95 : decode cX2_carry 95 = .ok (.iload_n 1, 1) := by decide +kernel
theorem dX2_carry_96 : decode cX2_carry 96 = .ok (.iload_n 2, 1) := by decide +kernel
theorem dX2_carry_97 : decode cX2_carry 97 = .ok (.iload 4, 2) := by decide +kernel
theorem dX2_carry_99 : decode cX2_carry 99 = .ok (.invokevirtual 253, 3) := by decide +kernel
theorem dX2_carry_102 : decode cX2_carry 102 = .ok (.goto 181, 3) := by decide +kernel
theorem dX2_carry_105 : decode cX2_carry 105 = .ok (.iload_n 2, 1) := by decide +kernel
theorem dX2_carry_106 : decode cX2_carry 106 = .ok (.aload_n 0, 1) := by decide +kernel
theorem dX2_carry_107 : decode cX2_carry 107 = .ok (.getfield 43, 3) := by decide +kernel
theorem dX2_carry_110 : decode cX2_carry 110 = .ok (.getfield 159, 3) := by decide +kernel
theorem dX2_carry_113 : decode cX2_carry 113 = .ok (.iload_n 1, 1) := by decide +kernel
theorem dX2_carry_114 : decode cX2_carry 114 = .ok (.iaload, 1) := by decide +kernel
theorem dX2_carry_115 : decode cX2_carry 115 = .ok (.if_icmp .ne 52, 3) := by decide +kernel
theorem dX2_carry_118 : decode cX2_carry 118 = .ok (.aload_n 0, 1) := by decide +kernel
theorem dX2_carry_119 : decode cX2_carry 119 = .ok (.iload_n 1, 1) := by decide +kernel
theorem dX2_carry_120 : decode cX2_carry 120 = .ok (.iload 4, 2) := by decide +kernel
theorem dX2_carry_122 : decode cX2_carry 122 = .ok (.invokevirtual 256, 3) := by decide +kernel
theorem dX2_carry_125 : decode cX2_carry 125 = .ok (.aload_n 0, 1) := by decide +kernel
theorem dX2_carry_126 : decode cX2_carry 126 = .ok (.getfield 36, 3) := by decide +kernel
theorem dX2_carry_129 : decode cX2_carry 129 = .ok (.iload 4, 2) := by decide +kernel
theorem dX2_carry_131 : decode cX2_carry 131 = .ok (.invokevirtual 228, 3) := by decide +kernel
theorem dX2_carry_134 : decode cX2_carry 134 = .ok (.ifCond .eq 149, 3) := by decide +kernel
theorem dX2_carry_137 : decode cX2_carry 137 = .ok (.aload_n 0, 1) := by decide +kernel
theorem dX2_carry_138 : decode cX2_carry 138 = .ok (.getfield 36, 3) := by decide +kernel
theorem dX2_carry_141 : decode cX2_carry 141 = .ok (.iload 4, 2) := by decide +kernel
theorem dX2_carry_143 : decode cX2_carry 143 = .ok (.iconst 1, 1) := by decide +kernel
theorem dX2_carry_144 : decode cX2_carry 144 = .ok (.invokevirtual 259, 3) := by decide +kernel
theorem dX2_carry_147 : decode cX2_carry 147 = .ok (.aload_n 0, 1) := by decide +kernel
theorem dX2_carry_148 : decode cX2_carry 148 = .ok (.iload_n 2, 1) := by decide +kernel
theorem dX2_carry_149 : decode cX2_carry 149 = .ok (.aload_n 0, 1) := by decide +kernel
theorem dX2_carry_150 : decode cX2_carry 150 = .ok (.iload_n 2, 1) := by decide +kernel
theorem dX2_carry_151 : decode cX2_carry 151 = .ok (.iload_n 3, 1) := by decide +kernel
theorem dX2_carry_152 : decode cX2_carry 152 = .ok (.aload_n 0, 1) := by decide +kernel
theorem dX2_carry_153 : decode cX2_carry 153 = .ok (.getfield 18, 3) := by decide +kernel
theorem dX2_carry_156 : decode cX2_carry 156 = .ok (.iconst 1, 1) := by decide +kernel
theorem dX2_carry_157 : decode cX2_carry 157 = .ok (.iaload, 1) := by decide +kernel
theorem dX2_carry_158 : decode cX2_carry 158 = .ok (.invokevirtual 262, 3) := by decide +kernel
theorem dX2_carry_161 : decode cX2_carry 161 = .ok (.invokevirtual 266, 3) := by decide +kernel
theorem dX2_carry_164 : decode cX2_carry 164 = .ok (.goto 119, 3) := by decide +kernel
theorem dX2_carry_167 : decode cX2_carry 167 = .ok (.aload_n 0, 1) := by decide +kernel
theorem dX2_carry_168 : decode cX2_carry 168 = .ok (.iload 4, 2) := by decide +kernel
theorem dX2_carry_170 : decode cX2_carry 170 = .ok (.invokevirtual 270, 3) := by decide +kernel
theorem dX2_carry_173 : decode cX2_carry 173 = .ok (.ifCond .eq 58, 3) := by decide +kernel
theorem dX2_carry_176 : decode cX2_carry 176 = .ok (.aload_n 0, 1) := by decide +kernel
theorem dX2_carry_177 : decode cX2_carry 177 = .ok (.iload_n 1, 1) := by decide +kernel
theorem dX2_carry_178 : decode cX2_carry 178 = .ok (.iload 4, 2) := by decide +kernel
theorem dX2_carry_180 : decode cX2_carry 180 = .ok (.invokevirtual 256, 3) := by decide +kernel
theorem dX2_carry_183 : decode cX2_carry 183 = .ok (.aload_n 0, 1) := by decide +kernel
theorem dX2_carry_184 : decode cX2_carry 184 = .ok (.getfield 36, 3) := by decide +kernel
theorem dX2_carry_187 : decode cX2_carry 187 = .ok (.iload 4, 2) := by decide +kernel
theorem dX2_carry_189 : decode cX2_carry 189 = .ok (.invokevirtual 228, 3) := by decide +kernel
theorem dX2_carry_192 : decode cX2_carry 192 = .ok (.ifCond .eq 91, 3) := by decide +kernel
theorem dX2_carry_195 : decode cX2_carry 195 = .ok (.aload_n 0, 1) := by decide +kernel
theorem dX2_carry_196 : decode cX2_carry 196 = .ok (.getfield 36, 3) := by decide +kernel
theorem dX2_carry_199 : decode cX2_carry 199 = .ok (.iload 4, 2) := by decide +kernel
theorem dX2_carry_201 : decode cX2_carry 201 = .ok (.iconst 2, 1) := by decide +kernel
theorem dX2_carry_202 : decode cX2_carry 202 = .ok (.invokevirtual 259, 3) := by decide +kernel
theorem dX2_carry_205 : decode cX2_carry 205 = .ok (.aload_n 0, 1) := by decide +kernel
theorem dX2_carry_206 : decode cX2_carry 206 = .ok (.iload_n 2, 1) := by decide +kernel
theorem dX2_carry_207 : decode cX2_carry 207 = .ok (.aload_n 0, 1) := by decide +kernel
theorem dX2_carry_208 : decode cX2_carry 208 = .ok (.iload_n 2, 1) := by decide +kernel
theorem dX2_carry_209 : decode cX2_carry 209 = .ok (.iload_n 3, 1) := by decide +kernel
theorem dX2_carry_210 : decode cX2_carry 210 = .ok (.aload_n 0, 1) := by decide +kernel
theorem dX2_carry_211 : decode cX2_carry 211 = .ok (.getfield 29, 3) := by decide +kernel
theorem dX2_carry_214 : decode cX2_carry 214 = .ok (.getfield 273, 3) := by decide +kernel
theorem dX2_carry_217 : decode cX2_carry 217 = .ok (.iload 4, 2) := by decide +kernel
theorem dX2_carry_219 : decode cX2_carry 219 = .ok (.iaload, 1) := by decide +kernel
theorem dX2_carry_220 : decode cX2_carry 220 = .ok (.iconst 2, 1) := by decide +kernel
theorem dX2_carry_221 : decode cX2_carry 221 = .ok (.iadd, 1) := by decide +kernel
theorem dX2_carry_222 : decode cX2_carry 222 = .ok (.invokevirtual 262, 3) := by decide +kernel
theorem dX2_carry_225 : decode cX2_carry 225 = .ok (.invokevirtual 266, 3) := by decide +kernel
theorem dX2_carry_228 : decode cX2_carry 228 = .ok (.goto 55, 3) := by decide +kernel
theorem dX2_carry_231 : decode cX2_carry 231 = .ok (.aload_n 0, 1) := by decide +kernel
theorem dX2_carry_232 : decode cX2_carry 232 = .ok (.getfield 43, 3) := by decide +kernel
theorem dX2_carry_235 : decode cX2_carry 235 = .ok (.iload_n 1, 1) := by decide +kernel
theorem dX2_carry_236 : decode cX2_carry 236 = .ok (.bipush 12, 2) := by decide +kernel
theorem dX2_carry_238 : decode cX2_carry 238 = .ok (.aload_n 0, 1) := by decide +kernel
theorem dX2_carry_239 : decode cX2_carry 239 = .ok (.getfield 70, 3) := by decide +kernel
theorem dX2_carry_242 : decode cX2_carry 242 = .ok (.invokevirtual 194, 3) := by decide +kernel
theorem dX2_carry_245 : decode cX2_carry 245 = .ok (.aload_n 0, 1) := by decide +kernel
theorem dX2_carry_246 : decode cX2_carry 246 = .ok (.getfield 43, 3) := by decide +kernel
theorem dX2_carry_249 : decode cX2_carry 249 = .ok (.getfield 165, 3) := by decide +kernel
theorem dX2_carry_252 : decode cX2_carry 252 = .ok (.iload_n 1, 1) := by decide +kernel
theorem dX2_carry_253 : decode cX2_carry 253 = .ok (.iaload, 1) := by decide +kernel
theorem dX2_carry_254 : decode cX2_carry 254 = .ok (.istore 5, 2) := by decide +kernel
theorem dX2_carry_256 : decode cX2_carry 256 = .ok (.iload 5, 2) := by decide +kernel
theorem dX2_carry_258 : decode cX2_carry 258 = .ok (.iconst (-1), 1) := by decide +kernel
theorem dX2_carry_259 : decode cX2_carry 259 = .ok (.if_icmp .eq 24, 3) := by decide +kernel
theorem dX2_carry_262 : decode cX2_carry 262 = .ok (.aload_n 0, 1) := by decide +kernel
theorem dX2_carry_263 : decode cX2_carry 263 = .ok (.getfield 66, 3) := by decide +kernel
theorem dX2_carry_266 : decode cX2_carry 266 = .ok (.iload_n 2, 1) := by decide +kernel
theorem dX2_carry_267 : decode cX2_carry 267 = .ok (.iload 5, 2) := by decide +kernel
theorem dX2_carry_269 : decode cX2_carry 269 = .ok (.invokevirtual 276, 3) := by decide +kernel
theorem dX2_carry_272 : decode cX2_carry 272 = .ok (.ifCond .eq 11, 3) := by decide +kernel
theorem dX2_carry_275 : decode cX2_carry 275 = .ok (.aload_n 0, 1) := by decide +kernel
theorem dX2_carry_276 : decode cX2_carry 276 = .ok (.iload_n 2, 1) := by decide +kernel
theorem dX2_carry_277 : decode cX2_carry 277 = .ok (.iload 5, 2) := by decide +kernel
theorem dX2_carry_279 : decode cX2_carry 279 = .ok (.iload_n 3, 1) := by decide +kernel
theorem dX2_carry_280 : decode cX2_carry 280 = .ok (.invokevirtual 279, 3) := by decide +kernel
theorem dX2_carry_283 : decode cX2_carry 283 = .ok (.return_, 1) := by decide +kernel
set_option maxRecDepth 20000 in
theorem ggX2_hold_X5_isFull : GoodIn wsX2_hold wsX5_isFull := goodIn_r _ [9, 10, 54, 55, 56, 57, 58, 59, 60] (by decide +kernel) (by decide +kernel)
set_option maxRecDepth 20000 in
theorem gX2_hold_X5_isFull : GoodIn wsX2_hold (wsV RX2 298 RX5 yX5_isFull wsX5_isFull) := goodIn_app (goodIn_of _ (by decide +kernel)) ggX2_hold_X5_isFull
set_option maxRecDepth 20000 in
theorem ggX2_hold_X5_takeOldest : GoodIn wsX2_hold wsX5_takeOldest := goodIn_r _ [14, 10, 15, 16, 17, 18, 19, 54, 55, 56, 57, 58, 59, 60] (by decide +kernel) (by decide +kernel)
set_option maxRecDepth 20000 in
theorem gX2_hold_X5_takeOldest : GoodIn wsX2_hold (wsV RX2 241 RX5 yX5_takeOldest wsX5_takeOldest) := goodIn_app (goodIn_of _ (by decide +kernel)) ggX2_hold_X5_takeOldest
set_option maxRecDepth 20000 in
theorem ggX2_hold_X3_drop : GoodIn wsX2_hold wsX3_drop := goodIn_r _ [24, 25, 26, 27, 45, 46, 47, 48, 49, 50, 51, 52, 53] (by decide +kernel) (by decide +kernel)
set_option maxRecDepth 20000 in
theorem gX2_hold_X3_drop : GoodIn wsX2_hold (wsV RX2 194 RX3 yX3_drop wsX3_drop) := goodIn_app (goodIn_of _ (by decide +kernel)) ggX2_hold_X3_drop
set_option maxRecDepth 20000 in
theorem ggX2_hold_X5_hold : GoodIn wsX2_hold wsX5_hold := goodIn_r _ [31, 15, 10, 32, 6, 7, 8, 9, 54, 55, 56, 57, 58, 59, 60] (by decide +kernel) (by decide +kernel)
set_option maxRecDepth 20000 in
theorem gX2_hold_X5_hold : GoodIn wsX2_hold (wsV RX2 301 RX5 yX5_hold wsX5_hold) := goodIn_app (goodIn_of _ (by decide +kernel)) ggX2_hold_X5_hold
theorem dX2_hold_0 : decode cX2_hold 0 = .ok (.aload_n 0, 1) := by decide +kernel
theorem dX2_hold_1 : decode cX2_hold 1 = .ok (.getfield 36, 3) := by decide +kernel
theorem dX2_hold_4 : decode cX2_hold 4 = .ok (.iload_n 2, 1) := by decide +kernel
theorem dX2_hold_5 : decode cX2_hold 5 = .ok (.invokevirtual 298, 3) := by decide +kernel
theorem dX2_hold_8 : decode cX2_hold 8 = .ok (.ifCond .eq 24, 3) := by decide +kernel
theorem dX2_hold_11 : decode cX2_hold 11 = .ok (.aload_n 0, 1) := by decide +kernel
theorem dX2_hold_12 : decode cX2_hold 12 = .ok (.getfield 43, 3) := by decide +kernel
theorem dX2_hold_15 : decode cX2_hold 15 = .ok (.aload_n 0, 1) := by decide +kernel
theorem dX2_hold_16 : decode cX2_hold 16 = .ok (.getfield 36, 3) := by decide +kernel
theorem dX2_hold_19 : decode cX2_hold 19 = .ok (.iload_n 2, 1) := by decide +kernel
theorem dX2_hold_20 : decode cX2_hold 20 = .ok (.invokevirtual 241, 3) := by decide +kernel
theorem dX2_hold_23 : decode cX2_hold 23 = .ok (.bipush 21, 2) := by decide +kernel
theorem dX2_hold_25 : decode cX2_hold 25 = .ok (.aload_n 0, 1) := by decide +kernel
theorem dX2_hold_26 : decode cX2_hold 26 = .ok (.getfield 70, 3) := by decide +kernel
theorem dX2_hold_29 : decode cX2_hold 29 = .ok (.invokevirtual 194, 3) := by decide +kernel
theorem dX2_hold_32 : decode cX2_hold 32 = .ok (.aload_n 0, 1) := by decide +kernel
theorem dX2_hold_33 : decode cX2_hold 33 = .ok (.getfield 36, 3) := by decide +kernel
theorem dX2_hold_36 : decode cX2_hold 36 = .ok (.iload_n 2, 1) := by decide +kernel
theorem dX2_hold_37 : decode cX2_hold 37 = .ok (.iload_n 1, 1) := by decide +kernel
theorem dX2_hold_38 : decode cX2_hold 38 = .ok (.invokevirtual 301, 3) := by decide +kernel
theorem dX2_hold_41 : decode cX2_hold 41 = .ok (.aload_n 0, 1) := by decide +kernel
theorem dX2_hold_42 : decode cX2_hold 42 = .ok (.getfield 43, 3) := by decide +kernel
theorem dX2_hold_45 : decode cX2_hold 45 = .ok (.getfield 302, 3) := by decide +kernel
theorem dX2_hold_48 : decode cX2_hold 48 = .ok (.iload_n 1, 1) := by decide +kernel
theorem dX2_hold_49 : decode cX2_hold 49 = .ok (.iconst 0, 1) := by decide +kernel
theorem dX2_hold_50 : decode cX2_hold 50 = .ok (.iastore, 1) := by decide +kernel
theorem dX2_hold_51 : decode cX2_hold 51 = .ok (.return_, 1) := by decide +kernel
set_option maxRecDepth 20000 in
theorem ggX2_dropBuffer_X5_takeOldest : GoodIn wsX2_dropBuffer wsX5_takeOldest := goodIn_r _ [9, 10, 11, 12, 13, 14, 15, 36, 37, 38, 39, 40, 41, 42] (by decide +kernel) (by decide +kernel)
set_option maxRecDepth 20000 in
theorem gX2_dropBuffer_X5_takeOldest : GoodIn wsX2_dropBuffer (wsV RX2 241 RX5 yX5_takeOldest wsX5_takeOldest) := goodIn_app (goodIn_of _ (by decide +kernel)) ggX2_dropBuffer_X5_takeOldest
set_option maxRecDepth 20000 in
theorem ggX2_dropBuffer_X3_drop : GoodIn wsX2_dropBuffer wsX3_drop := goodIn_r _ [20, 21, 22, 23, 43, 44, 45, 46, 47, 48, 49, 50, 51] (by decide +kernel) (by decide +kernel)
set_option maxRecDepth 20000 in
theorem gX2_dropBuffer_X3_drop : GoodIn wsX2_dropBuffer (wsV RX2 194 RX3 yX3_drop wsX3_drop) := goodIn_app (goodIn_of _ (by decide +kernel)) ggX2_dropBuffer_X3_drop
theorem dX2_dropBuffer_0 : decode cX2_dropBuffer 0 = .ok (.aload_n 0, 1) := by decide +kernel
theorem dX2_dropBuffer_1 : decode cX2_dropBuffer 1 = .ok (.getfield 36, 3) := by decide +kernel
theorem dX2_dropBuffer_4 : decode cX2_dropBuffer 4 = .ok (.getfield 238, 3) := by decide +kernel
theorem dX2_dropBuffer_7 : decode cX2_dropBuffer 7 = .ok (.iload_n 1, 1) := by decide +kernel
theorem dX2_dropBuffer_8 : decode cX2_dropBuffer 8 = .ok (.iaload, 1) := by decide +kernel
theorem dX2_dropBuffer_9 : decode cX2_dropBuffer 9 = .ok (.istore_n 3, 1) := by decide +kernel
theorem dX2_dropBuffer_10 : decode cX2_dropBuffer 10 = .ok (.iload_n 3, 1) := by decide +kernel
theorem dX2_dropBuffer_11 : decode cX2_dropBuffer 11 = .ok (.ifCond .le 29, 3) := by decide +kernel
theorem dX2_dropBuffer_14 : decode cX2_dropBuffer 14 = .ok (.aload_n 0, 1) := by decide +kernel
theorem dX2_dropBuffer_15 : decode cX2_dropBuffer 15 = .ok (.getfield 43, 3) := by decide +kernel
theorem dX2_dropBuffer_18 : decode cX2_dropBuffer 18 = .ok (.aload_n 0, 1) := by decide +kernel
theorem dX2_dropBuffer_19 : decode cX2_dropBuffer 19 = .ok (.getfield 36, 3) := by decide +kernel
theorem dX2_dropBuffer_22 : decode cX2_dropBuffer 22 = .ok (.iload_n 1, 1) := by decide +kernel
theorem dX2_dropBuffer_23 : decode cX2_dropBuffer 23 = .ok (.invokevirtual 241, 3) := by decide +kernel
theorem dX2_dropBuffer_26 : decode cX2_dropBuffer 26 = .ok (.iload_n 2, 1) := by decide +kernel
theorem dX2_dropBuffer_27 : decode cX2_dropBuffer 27 = .ok (.aload_n 0, 1) := by decide +kernel
theorem dX2_dropBuffer_28 : decode cX2_dropBuffer 28 = .ok (.getfield 70, 3) := by decide +kernel
theorem dX2_dropBuffer_31 : decode cX2_dropBuffer 31 = .ok (.invokevirtual 194, 3) := by decide +kernel
theorem dX2_dropBuffer_34 : decode cX2_dropBuffer 34 = .ok (.iinc 3 (-1), 3) := by decide +kernel
theorem dX2_dropBuffer_37 : decode cX2_dropBuffer 37 = .ok (.goto (-27), 3) := by decide +kernel
theorem dX2_dropBuffer_40 : decode cX2_dropBuffer 40 = .ok (.return_, 1) := by decide +kernel
set_option maxRecDepth 20000 in
theorem ggX2_newRequest_X6_cellOf : GoodIn wsX2_newRequest wsX6_cellOf := goodIn_r _ [17] (by decide +kernel) (by decide +kernel)
set_option maxRecDepth 20000 in
theorem gX2_newRequest_X6_cellOf_n198 : GoodIn wsX2_newRequest (wsX6_cellOf) := ggX2_newRequest_X6_cellOf
set_option maxRecDepth 20000 in
theorem ggX2_newRequest_X5_waitUntil : GoodIn wsX2_newRequest wsX5_waitUntil := goodIn_r _ [22, 23, 24, 25, 26, 27, 21, 28, 29, 87, 88, 89, 90, 91, 92, 93] (by decide +kernel) (by decide +kernel)
set_option maxRecDepth 20000 in
theorem gX2_newRequest_X5_waitUntil : GoodIn wsX2_newRequest (wsV RX2 305 RX5 yX5_waitUntil wsX5_waitUntil) := goodIn_app (goodIn_of _ (by decide +kernel)) ggX2_newRequest_X5_waitUntil
set_option maxRecDepth 20000 in
theorem ggX2_newRequest_X2_newAsk : GoodIn wsX2_newRequest wsX2_newAsk := goodIn_r _ [34, 35, 36, 37, 38, 39, 40, 41, 42, 43, 44, 45, 46, 47, 48, 49, 50, 51, 52, 53, 54, 55, 56, 57, 58, 59, 60, 61, 62, 63, 64, 65, 66, 67] (by decide +kernel) (by decide +kernel)
set_option maxRecDepth 20000 in
theorem gX2_newRequest_X2_newAsk : GoodIn wsX2_newRequest (wsV RX2 314 RX2 yX2_newAsk wsX2_newAsk) := goodIn_app (goodIn_of _ (by decide +kernel)) ggX2_newRequest_X2_newAsk
theorem dX2_newRequest_0 : decode cX2_newRequest 0 = .ok (.iload_n 1, 1) := by decide +kernel
theorem dX2_newRequest_1 : decode cX2_newRequest 1 = .ok (.iload_n 2, 1) := by decide +kernel
theorem dX2_newRequest_2 : decode cX2_newRequest 2 = .ok (.invokestatic 198, 3) := by decide +kernel
theorem dX2_newRequest_5 : decode cX2_newRequest 5 = .ok (.istore 4, 2) := by decide +kernel
theorem dX2_newRequest_7 : decode cX2_newRequest 7 = .ok (.aload_n 0, 1) := by decide +kernel
theorem dX2_newRequest_8 : decode cX2_newRequest 8 = .ok (.getfield 36, 3) := by decide +kernel
theorem dX2_newRequest_11 : decode cX2_newRequest 11 = .ok (.iload 4, 2) := by decide +kernel
theorem dX2_newRequest_13 : decode cX2_newRequest 13 = .ok (.iload_n 3, 1) := by decide +kernel
theorem dX2_newRequest_14 : decode cX2_newRequest 14 = .ok (.aload_n 0, 1) := by decide +kernel
theorem dX2_newRequest_15 : decode cX2_newRequest 15 = .ok (.getfield 70, 3) := by decide +kernel
theorem dX2_newRequest_18 : decode cX2_newRequest 18 = .ok (.aload_n 0, 1) := by decide +kernel
theorem dX2_newRequest_19 : decode cX2_newRequest 19 = .ok (.getfield 18, 3) := by decide +kernel
theorem dX2_newRequest_22 : decode cX2_newRequest 22 = .ok (.bipush 6, 2) := by decide +kernel
theorem dX2_newRequest_24 : decode cX2_newRequest 24 = .ok (.iaload, 1) := by decide +kernel
theorem dX2_newRequest_25 : decode cX2_newRequest 25 = .ok (.iload_n 3, 1) := by decide +kernel
theorem dX2_newRequest_26 : decode cX2_newRequest 26 = .ok (.iconst 1, 1) := by decide +kernel
theorem dX2_newRequest_27 : decode cX2_newRequest 27 = .ok (.iadd, 1) := by decide +kernel
theorem dX2_newRequest_28 : decode cX2_newRequest 28 = .ok (.imul, 1) := by decide +kernel
theorem dX2_newRequest_29 : decode cX2_newRequest 29 = .ok (.iadd, 1) := by decide +kernel
theorem dX2_newRequest_30 : decode cX2_newRequest 30 = .ok (.invokevirtual 305, 3) := by decide +kernel
theorem dX2_newRequest_33 : decode cX2_newRequest 33 = .ok (.aload_n 0, 1) := by decide +kernel
theorem dX2_newRequest_34 : decode cX2_newRequest 34 = .ok (.getfield 23, 3) := by decide +kernel
theorem dX2_newRequest_37 : decode cX2_newRequest 37 = .ok (.iload_n 1, 1) := by decide +kernel
theorem dX2_newRequest_38 : decode cX2_newRequest 38 = .ok (.dup2, 1) := by decide +kernel
theorem dX2_newRequest_39 : decode cX2_newRequest 39 = .ok (.iaload, 1) := by decide +kernel
theorem dX2_newRequest_40 : decode cX2_newRequest 40 = .ok (.iconst 1, 1) := by decide +kernel
theorem dX2_newRequest_41 : decode cX2_newRequest 41 = .ok (.iadd, 1) := by decide +kernel
theorem dX2_newRequest_42 : decode cX2_newRequest 42 = .ok (.iastore, 1) := by decide +kernel
theorem dX2_newRequest_43 : decode cX2_newRequest 43 = .ok (.aload_n 0, 1) := by decide +kernel
theorem dX2_newRequest_44 : decode cX2_newRequest 44 = .ok (.getfield 53, 3) := by decide +kernel
theorem dX2_newRequest_47 : decode cX2_newRequest 47 = .ok (.iload_n 1, 1) := by decide +kernel
theorem dX2_newRequest_48 : decode cX2_newRequest 48 = .ok (.putfield 308, 3) := by decide +kernel
theorem dX2_newRequest_51 : decode cX2_newRequest 51 = .ok (.aload_n 0, 1) := by decide +kernel
theorem dX2_newRequest_52 : decode cX2_newRequest 52 = .ok (.getfield 53, 3) := by decide +kernel
theorem dX2_newRequest_55 : decode cX2_newRequest 55 = .ok (.aload_n 0, 1) := by decide +kernel
theorem dX2_newRequest_56 : decode cX2_newRequest 56 = .ok (.getfield 23, 3) := by decide +kernel
theorem dX2_newRequest_59 : decode cX2_newRequest 59 = .ok (.iload_n 1, 1) := by decide +kernel
theorem dX2_newRequest_60 : decode cX2_newRequest 60 = .ok (.iaload, 1) := by decide +kernel
theorem dX2_newRequest_61 : decode cX2_newRequest 61 = .ok (.putfield 311, 3) := by decide +kernel
theorem dX2_newRequest_64 : decode cX2_newRequest 64 = .ok (.aload_n 0, 1) := by decide +kernel
theorem dX2_newRequest_65 : decode cX2_newRequest 65 = .ok (.getfield 53, 3) := by decide +kernel
theorem dX2_newRequest_68 : decode cX2_newRequest 68 = .ok (.aload_n 0, 1) := by decide +kernel
theorem dX2_newRequest_69 : decode cX2_newRequest 69 = .ok (.iload_n 1, 1) := by decide +kernel
theorem dX2_newRequest_70 : decode cX2_newRequest 70 = .ok (.invokevirtual 314, 3) := by decide +kernel
theorem dX2_newRequest_73 : decode cX2_newRequest 73 = .ok (.putfield 317, 3) := by decide +kernel
theorem dX2_newRequest_76 : decode cX2_newRequest 76 = .ok (.aload_n 0, 1) := by decide +kernel
theorem dX2_newRequest_77 : decode cX2_newRequest 77 = .ok (.getfield 53, 3) := by decide +kernel
theorem dX2_newRequest_80 : decode cX2_newRequest 80 = .ok (.iload_n 2, 1) := by decide +kernel
theorem dX2_newRequest_81 : decode cX2_newRequest 81 = .ok (.putfield 320, 3) := by decide +kernel
theorem dX2_newRequest_84 : decode cX2_newRequest 84 = .ok (.aload_n 0, 1) := by decide +kernel
theorem dX2_newRequest_85 : decode cX2_newRequest 85 = .ok (.getfield 53, 3) := by decide +kernel
theorem dX2_newRequest_88 : decode cX2_newRequest 88 = .ok (.aload_n 0, 1) := by decide +kernel
theorem dX2_newRequest_89 : decode cX2_newRequest 89 = .ok (.getfield 29, 3) := by decide +kernel
theorem dX2_newRequest_92 : decode cX2_newRequest 92 = .ok (.getfield 211, 3) := by decide +kernel
theorem dX2_newRequest_95 : decode cX2_newRequest 95 = .ok (.iload 4, 2) := by decide +kernel
theorem dX2_newRequest_97 : decode cX2_newRequest 97 = .ok (.iaload, 1) := by decide +kernel
theorem dX2_newRequest_98 : decode cX2_newRequest 98 = .ok (.putfield 323, 3) := by decide +kernel
theorem dX2_newRequest_101 : decode cX2_newRequest 101 = .ok (.aload_n 0, 1) := by decide +kernel
theorem dX2_newRequest_102 : decode cX2_newRequest 102 = .ok (.getfield 53, 3) := by decide +kernel
theorem dX2_newRequest_105 : decode cX2_newRequest 105 = .ok (.iconst 0, 1) := by decide +kernel
theorem dX2_newRequest_106 : decode cX2_newRequest 106 = .ok (.putfield 326, 3) := by decide +kernel
theorem dX2_newRequest_109 : decode cX2_newRequest 109 = .ok (.aload_n 0, 1) := by decide +kernel
theorem dX2_newRequest_110 : decode cX2_newRequest 110 = .ok (.getfield 53, 3) := by decide +kernel
theorem dX2_newRequest_113 : decode cX2_newRequest 113 = .ok (.iload_n 3, 1) := by decide +kernel
theorem dX2_newRequest_114 : decode cX2_newRequest 114 = .ok (.putfield 329, 3) := by decide +kernel
theorem dX2_newRequest_117 : decode cX2_newRequest 117 = .ok (.aload_n 0, 1) := by decide +kernel
theorem dX2_newRequest_118 : decode cX2_newRequest 118 = .ok (.getfield 53, 3) := by decide +kernel
theorem dX2_newRequest_121 : decode cX2_newRequest 121 = .ok (.areturn, 1) := by decide +kernel
theorem dX2_newAsk_0 : decode cX2_newAsk 0 = .ok (.aload_n 0, 1) := by decide +kernel
theorem dX2_newAsk_1 : decode cX2_newAsk 1 = .ok (.getfield 90, 3) := by decide +kernel
theorem dX2_newAsk_4 : decode cX2_newAsk 4 = .ok (.aload_n 0, 1) := by decide +kernel
theorem dX2_newAsk_5 : decode cX2_newAsk 5 = .ok (.getfield 47, 3) := by decide +kernel
theorem dX2_newAsk_8 : decode cX2_newAsk 8 = .ok (.arraylength, 1) := by decide +kernel
theorem dX2_newAsk_9 : decode cX2_newAsk 9 = .ok (.if_icmp .lt 20, 3) := by decide +kernel
theorem dX2_newAsk_12 : decode cX2_newAsk 12 = .ok (.aload_n 0, 1) := by decide +kernel
theorem dX2_newAsk_13 : decode cX2_newAsk 13 = .ok (.aload_n 0, 1) := by decide +kernel
theorem dX2_newAsk_14 : decode cX2_newAsk 14 = .ok (.getfield 47, 3) := by decide +kernel
theorem dX2_newAsk_17 : decode cX2_newAsk 17 = .ok (.iconst 2, 1) := by decide +kernel
theorem dX2_newAsk_18 : decode cX2_newAsk 18 = .ok (.aload_n 0, 1) := by decide +kernel
theorem dX2_newAsk_19 : decode cX2_newAsk 19 = .ok (.getfield 90, 3) := by decide +kernel
theorem dX2_newAsk_22 : decode cX2_newAsk 22 = .ok (.imul, 1) := by decide +kernel
theorem dX2_newAsk_23 : decode cX2_newAsk 23 = .ok (.invokestatic 332, 3) := by decide +kernel
theorem dX2_newAsk_26 : decode cX2_newAsk 26 = .ok (.putfield 47, 3) := by decide +kernel
theorem dX2_newAsk_29 : decode cX2_newAsk 29 = .ok (.aload_n 0, 1) := by decide +kernel
theorem dX2_newAsk_30 : decode cX2_newAsk 30 = .ok (.getfield 47, 3) := by decide +kernel
theorem dX2_newAsk_33 : decode cX2_newAsk 33 = .ok (.aload_n 0, 1) := by decide +kernel
theorem dX2_newAsk_34 : decode cX2_newAsk 34 = .ok (.getfield 90, 3) := by decide +kernel
theorem dX2_newAsk_37 : decode cX2_newAsk 37 = .ok (.iconst 1, 1) := by decide +kernel
theorem dX2_newAsk_38 : decode cX2_newAsk 38 = .ok (.iload_n 1, 1) := by decide +kernel
theorem dX2_newAsk_39 : decode cX2_newAsk 39 = .ok (.ishl, 1) := by decide +kernel
theorem dX2_newAsk_40 : decode cX2_newAsk 40 = .ok (.iastore, 1) := by decide +kernel
theorem dX2_newAsk_41 : decode cX2_newAsk 41 = .ok (.aload_n 0, 1) := by decide +kernel
theorem dX2_newAsk_42 : decode cX2_newAsk 42 = .ok (.dup, 1) := by decide +kernel
theorem dX2_newAsk_43 : decode cX2_newAsk 43 = .ok (.getfield 90, 3) := by decide +kernel
theorem dX2_newAsk_46 : decode cX2_newAsk 46 = .ok (.iconst 1, 1) := by decide +kernel
theorem dX2_newAsk_47 : decode cX2_newAsk 47 = .ok (.iadd, 1) := by decide +kernel
theorem dX2_newAsk_48 : decode cX2_newAsk 48 = .ok (.putfield 90, 3) := by decide +kernel
theorem dX2_newAsk_51 : decode cX2_newAsk 51 = .ok (.aload_n 0, 1) := by decide +kernel
theorem dX2_newAsk_52 : decode cX2_newAsk 52 = .ok (.getfield 90, 3) := by decide +kernel
theorem dX2_newAsk_55 : decode cX2_newAsk 55 = .ok (.iconst 1, 1) := by decide +kernel
theorem dX2_newAsk_56 : decode cX2_newAsk 56 = .ok (.isub, 1) := by decide +kernel
theorem dX2_newAsk_57 : decode cX2_newAsk 57 = .ok (.ireturn, 1) := by decide +kernel
set_option maxRecDepth 20000 in
theorem ggX2_handleTimeout_X5_end : GoodIn wsX2_handleTimeout wsX5_end := goodIn_r _ [14, 15, 16, 17, 18, 19, 13, 20, 21, 166, 167, 168, 169, 170, 171, 172] (by decide +kernel) (by decide +kernel)
set_option maxRecDepth 20000 in
theorem gX2_handleTimeout_X5_end : GoodIn wsX2_handleTimeout (wsV RX2 232 RX5 yX5_end wsX5_end) := goodIn_app (goodIn_of _ (by decide +kernel)) ggX2_handleTimeout_X5_end
set_option maxRecDepth 20000 in
theorem ggX2_handleTimeout_X2_dropBuffer : GoodIn wsX2_handleTimeout wsX2_dropBuffer := goodIn_r _ [26, 1, 27, 28, 29, 30, 31, 32, 13, 33, 34, 35, 36, 37, 38, 39, 40, 41, 42, 43, 44, 45, 46, 47, 154, 155, 156, 157, 158, 159, 160, 161, 162, 163, 164, 165, 166, 167, 168, 169, 170, 171, 172, 173, 174, 175, 176, 177, 178, 179, 180, 181] (by decide +kernel) (by decide +kernel)
set_option maxRecDepth 20000 in
theorem gX2_handleTimeout_X2_dropBuffer : GoodIn wsX2_handleTimeout (wsV RX2 341 RX2 yX2_dropBuffer wsX2_dropBuffer) := goodIn_app (goodIn_of _ (by decide +kernel)) ggX2_handleTimeout_X2_dropBuffer
set_option maxRecDepth 20000 in
theorem ggX2_handleTimeout_X2_newRequest : GoodIn wsX2_handleTimeout wsX2_newRequest := goodIn_r _ [105, 1, 29, 5, 106, 107, 108, 109, 110, 69, 53, 70, 71, 111, 112, 56, 57, 58, 113, 114, 115, 13, 116, 117, 16, 17, 18, 19, 20, 21, 118, 119, 120, 25, 121, 122, 123, 124, 125, 126, 127, 128, 129, 130, 131, 132, 133, 134, 135, 7, 8, 9, 136, 37, 38, 39, 154, 155, 156, 157, 158, 159, 160, 161, 162, 163, 164, 165, 195, 196, 197, 198, 199, 200, 201, 202, 203, 204, 205, 206, 207, 182, 183, 184, 185, 186, 187, 166, 167, 168, 169, 170, 171, 172] (by decide +kernel) (by decide +kernel)
set_option maxRecDepth 20000 in
theorem gX2_handleTimeout_X2_newRequest : GoodIn wsX2_handleTimeout (wsV RX2 262 RX2 yX2_newRequest wsX2_newRequest) := goodIn_app (goodIn_of _ (by decide +kernel)) ggX2_handleTimeout_X2_newRequest
set_option maxRecDepth 20000 in
theorem ggX2_handleTimeout_X2_broadcast : GoodIn wsX2_handleTimeout wsX2_broadcast := goodIn_r _ [140, 52, 55, 59, 60, 61, 62, 63, 64, 72, 73, 74, 25, 75, 29, 76, 77, 78, 79, 80, 81, 82, 83, 84, 85, 86, 87, 88, 89, 90, 91, 92, 93, 94, 95, 96, 97, 98, 99, 100, 101, 141, 142, 143, 144, 145, 146, 147, 148, 149, 150, 151, 152, 153, 154, 155, 156, 157, 158, 159, 160, 161, 162, 163, 164, 165, 188, 189, 190, 191, 192, 193, 194, 195, 196, 197, 198, 199, 200, 201, 202, 203, 204, 205, 206, 207] (by decide +kernel) (by decide +kernel)
set_option maxRecDepth 20000 in
theorem gX2_handleTimeout_X2_broadcast : GoodIn wsX2_handleTimeout (wsV RX2 266 RX2 yX2_broadcast wsX2_broadcast) := goodIn_app (goodIn_of _ (by decide +kernel)) ggX2_handleTimeout_X2_broadcast
theorem dX2_handleTimeout_0 : decode cX2_handleTimeout 0 = .ok (.iload_n 1, 1) := by decide +kernel
theorem dX2_handleTimeout_1 : decode cX2_handleTimeout 1 = .ok (.bipush 10, 2) := by decide +kernel
theorem dX2_handleTimeout_3 : decode cX2_handleTimeout 3 = .ok (.idiv, 1) := by decide +kernel
theorem dX2_handleTimeout_4 : decode cX2_handleTimeout 4 = .ok (.istore_n 2, 1) := by decide +kernel
theorem dX2_handleTimeout_5 : decode cX2_handleTimeout 5 = .ok (.iload_n 1, 1) := by decide +kernel
theorem dX2_handleTimeout_6 : decode cX2_handleTimeout 6 = .ok (.bipush 10, 2) := by decide +kernel
theorem dX2_handleTimeout_8 : decode cX2_handleTimeout 8 = .ok (.irem, 1) := by decide +kernel
theorem dX2_handleTimeout_9 : decode cX2_handleTimeout 9 = .ok (.istore_n 3, 1) := by decide +kernel
theorem dX2_handleTimeout_10 : decode cX2_handleTimeout 10 = .ok (.aload_n 0, 1) := by decide +kernel
theorem dX2_handleTimeout_11 : decode cX2_handleTimeout 11 = .ok (.getfield 36, 3) := by decide +kernel
theorem dX2_handleTimeout_14 : decode cX2_handleTimeout 14 = .ok (.getfield 338, 3) := by decide +kernel
theorem dX2_handleTimeout_17 : decode cX2_handleTimeout 17 = .ok (.iload_n 1, 1) := by decide +kernel
theorem dX2_handleTimeout_18 : decode cX2_handleTimeout 18 = .ok (.iaload, 1) := by decide +kernel
theorem dX2_handleTimeout_19 : decode cX2_handleTimeout 19 = .ok (.iconst 2, 1) := by decide +kernel
theorem dX2_handleTimeout_20 : decode cX2_handleTimeout 20 = .ok (.if_icmp .ne 25, 3) := by decide +kernel
theorem dX2_handleTimeout_23 : decode cX2_handleTimeout 23 = .ok (.aload_n 0, 1) := by decide +kernel
theorem dX2_handleTimeout_24 : decode cX2_handleTimeout 24 = .ok (.getfield 36, 3) := by decide +kernel
theorem dX2_handleTimeout_27 : decode cX2_handleTimeout 27 = .ok (.iload_n 1, 1) := by decide +kernel
theorem dX2_handleTimeout_28 : decode cX2_handleTimeout 28 = .ok (.invokevirtual 232, 3) := by decide +kernel
theorem dX2_handleTimeout_31 : decode cX2_handleTimeout 31 = .ok (.aload_n 0, 1) := by decide +kernel
theorem dX2_handleTimeout_32 : decode cX2_handleTimeout 32 = .ok (.iload_n 1, 1) := by decide +kernel
theorem dX2_handleTimeout_33 : decode cX2_handleTimeout 33 = .ok (.bipush 13, 2) := by decide +kernel
theorem dX2_handleTimeout_35 : decode cX2_handleTimeout 35 = .ok (.invokevirtual 341, 3) := by decide +kernel
theorem dX2_handleTimeout_38 : decode cX2_handleTimeout 38 = .ok (.aload_n 0, 1) := by decide +kernel
theorem dX2_handleTimeout_39 : decode cX2_handleTimeout 39 = .ok (.iload_n 2, 1) := by decide +kernel
theorem dX2_handleTimeout_40 : decode cX2_handleTimeout 40 = .ok (.iload_n 3, 1) := by decide +kernel
theorem dX2_handleTimeout_41 : decode cX2_handleTimeout 41 = .ok (.invokevirtual 214, 3) := by decide +kernel
theorem dX2_handleTimeout_44 : decode cX2_handleTimeout 44 = .ok (.return_, 1) := by decide +kernel
theorem dX2_handleTimeout_45 : decode cX2_handleTimeout 45 = .ok (.aload_n 0, 1) := by decide +kernel
theorem dX2_handleTimeout_46 : decode cX2_handleTimeout 46 = .ok (.getfield 36, 3) := by decide +kernel
theorem dX2_handleTimeout_49 : decode cX2_handleTimeout 49 = .ok (.getfield 344, 3) := by decide +kernel
theorem dX2_handleTimeout_52 : decode cX2_handleTimeout 52 = .ok (.iload_n 1, 1) := by decide +kernel
theorem dX2_handleTimeout_53 : decode cX2_handleTimeout 53 = .ok (.iaload, 1) := by decide +kernel
theorem dX2_handleTimeout_54 : decode cX2_handleTimeout 54 = .ok (.istore 4, 2) := by decide +kernel
theorem dX2_handleTimeout_56 : decode cX2_handleTimeout 56 = .ok (.aload_n 0, 1) := by decide +kernel
theorem dX2_handleTimeout_57 : decode cX2_handleTimeout 57 = .ok (.getfield 36, 3) := by decide +kernel
theorem dX2_handleTimeout_60 : decode cX2_handleTimeout 60 = .ok (.getfield 347, 3) := by decide +kernel
theorem dX2_handleTimeout_63 : decode cX2_handleTimeout 63 = .ok (.iload_n 1, 1) := by decide +kernel
theorem dX2_handleTimeout_64 : decode cX2_handleTimeout 64 = .ok (.iaload, 1) := by decide +kernel
theorem dX2_handleTimeout_65 : decode cX2_handleTimeout 65 = .ok (.ifCond .ne 50, 3) := by decide +kernel
theorem dX2_handleTimeout_68 : decode cX2_handleTimeout 68 = .ok (.iload 4, 2) := by decide +kernel
theorem dX2_handleTimeout_70 : decode cX2_handleTimeout 70 = .ok (.aload_n 0, 1) := by decide +kernel
theorem dX2_handleTimeout_71 : decode cX2_handleTimeout 71 = .ok (.getfield 18, 3) := by decide +kernel
theorem dX2_handleTimeout_74 : decode cX2_handleTimeout 74 = .ok (.iconst 3, 1) := by decide +kernel
theorem dX2_handleTimeout_75 : decode cX2_handleTimeout 75 = .ok (.iaload, 1) := by decide +kernel
theorem dX2_handleTimeout_76 : decode cX2_handleTimeout 76 = .ok (.if_icmp .ge 39, 3) := by decide +kernel
theorem dX2_handleTimeout_79 : decode cX2_handleTimeout 79 = .ok (.iload 4, 2) := by decide +kernel
theorem dX2_handleTimeout_81 : decode cX2_handleTimeout 81 = .ok (.aload_n 0, 1) := by decide +kernel
theorem dX2_handleTimeout_82 : decode cX2_handleTimeout 82 = .ok (.getfield 18, 3) := by decide +kernel
theorem dX2_handleTimeout_85 : decode cX2_handleTimeout 85 = .ok (.iconst 2, 1) := by decide +kernel
theorem dX2_handleTimeout_86 : decode cX2_handleTimeout 86 = .ok (.iaload, 1) := by decide +kernel
theorem dX2_handleTimeout_87 : decode cX2_handleTimeout 87 = .ok (.iadd, 1) := by decide +kernel
theorem dX2_handleTimeout_88 : decode cX2_handleTimeout 88 = .ok (.aload_n 0, 1) := by decide +kernel
theorem dX2_handleTimeout_89 : decode cX2_handleTimeout 89 = .ok (.getfield 18, 3) := by decide +kernel
theorem dX2_handleTimeout_92 : decode cX2_handleTimeout 92 = .ok (.iconst 3, 1) := by decide +kernel
theorem dX2_handleTimeout_93 : decode cX2_handleTimeout 93 = .ok (.iaload, 1) := by decide +kernel
theorem dX2_handleTimeout_94 : decode cX2_handleTimeout 94 = .ok (.invokestatic 178, 3) := by decide +kernel
theorem dX2_handleTimeout_97 : decode cX2_handleTimeout 97 = .ok (.istore 5, 2) := by decide +kernel
theorem dX2_handleTimeout_99 : decode cX2_handleTimeout 99 = .ok (.aload_n 0, 1) := by decide +kernel
theorem dX2_handleTimeout_100 : decode cX2_handleTimeout 100 = .ok (.iload_n 2, 1) := by decide +kernel
theorem dX2_handleTimeout_101 : decode cX2_handleTimeout 101 = .ok (.aload_n 0, 1) := by decide +kernel
theorem dX2_handleTimeout_102 : decode cX2_handleTimeout 102 = .ok (.iload_n 2, 1) := by decide +kernel
theorem dX2_handleTimeout_103 : decode cX2_handleTimeout 103 = .ok (.iload_n 3, 1) := by decide +kernel
theorem dX2_handleTimeout_104 : decode cX2_handleTimeout 104 = .ok (.iload 5, 2) := by decide +kernel
theorem dX2_handleTimeout_106 : decode cX2_handleTimeout 106 = .ok (.invokevirtual 262, 3) := by decide +kernel
theorem dX2_handleTimeout_109 : decode cX2_handleTimeout 109 = .ok (.invokevirtual 266, 3) := by decide +kernel
theorem dX2_handleTimeout_112 : decode cX2_handleTimeout 112 = .ok (.goto 69, 3) := by decide +kernel
theorem dX2_handleTimeout_115 : decode cX2_handleTimeout 115 = .ok (.aload_n 0, 1) := by decide +kernel
theorem dX2_handleTimeout_116 : decode cX2_handleTimeout 116 = .ok (.getfield 36, 3) := by decide +kernel
theorem dX2_handleTimeout_119 : decode cX2_handleTimeout 119 = .ok (.getfield 347, 3) := by decide +kernel
theorem dX2_handleTimeout_122 : decode cX2_handleTimeout 122 = .ok (.iload_n 1, 1) := by decide +kernel
theorem dX2_handleTimeout_123 : decode cX2_handleTimeout 123 = .ok (.iaload, 1) := by decide +kernel
theorem dX2_handleTimeout_124 : decode cX2_handleTimeout 124 = .ok (.aload_n 0, 1) := by decide +kernel
theorem dX2_handleTimeout_125 : decode cX2_handleTimeout 125 = .ok (.getfield 18, 3) := by decide +kernel
theorem dX2_handleTimeout_128 : decode cX2_handleTimeout 128 = .ok (.iconst 5, 1) := by decide +kernel
theorem dX2_handleTimeout_129 : decode cX2_handleTimeout 129 = .ok (.iaload, 1) := by decide +kernel
theorem dX2_handleTimeout_130 : decode cX2_handleTimeout 130 = .ok (.if_icmp .ge 36, 3) := by decide +kernel
theorem dX2_handleTimeout_133 : decode cX2_handleTimeout 133 = .ok (.aload_n 0, 1) := by decide +kernel
theorem dX2_handleTimeout_134 : decode cX2_handleTimeout 134 = .ok (.getfield 36, 3) := by decide +kernel
theorem dX2_handleTimeout_137 : decode cX2_handleTimeout 137 = .ok (.getfield 347, 3) := by decide +kernel
theorem dX2_handleTimeout_140 : decode cX2_handleTimeout 140 = .ok (.iload_n 1, 1) := by decide +kernel
theorem dX2_handleTimeout_141 : decode cX2_handleTimeout 141 = .ok (.dup2, 1) := by decide +kernel
theorem dX2_handleTimeout_142 : decode cX2_handleTimeout 142 = .ok (.iaload, 1) := by decide +kernel
theorem dX2_handleTimeout_143 : decode cX2_handleTimeout 143 = .ok (.iconst 1, 1) := by decide +kernel
theorem dX2_handleTimeout_144 : decode cX2_handleTimeout 144 = .ok (.iadd, 1) := by decide +kernel
theorem dX2_handleTimeout_145 : decode cX2_handleTimeout 145 = .ok (.iastore, 1) := by decide +kernel
theorem dX2_handleTimeout_146 : decode cX2_handleTimeout 146 = .ok (.aload_n 0, 1) := by decide +kernel
theorem dX2_handleTimeout_147 : decode cX2_handleTimeout 147 = .ok (.iload_n 2, 1) := by decide +kernel
theorem dX2_handleTimeout_148 : decode cX2_handleTimeout 148 = .ok (.aload_n 0, 1) := by decide +kernel
theorem dX2_handleTimeout_149 : decode cX2_handleTimeout 149 = .ok (.iload_n 2, 1) := by decide +kernel
theorem dX2_handleTimeout_150 : decode cX2_handleTimeout 150 = .ok (.iload_n 3, 1) := by decide +kernel
theorem dX2_handleTimeout_151 : decode cX2_handleTimeout 151 = .ok (.aload_n 0, 1) := by decide +kernel
theorem dX2_handleTimeout_152 : decode cX2_handleTimeout 152 = .ok (.getfield 18, 3) := by decide +kernel
theorem dX2_handleTimeout_155 : decode cX2_handleTimeout 155 = .ok (.iconst 4, 1) := by decide +kernel
theorem dX2_handleTimeout_156 : decode cX2_handleTimeout 156 = .ok (.iaload, 1) := by decide +kernel
theorem dX2_handleTimeout_157 : decode cX2_handleTimeout 157 = .ok (.invokevirtual 262, 3) := by decide +kernel
theorem dX2_handleTimeout_160 : decode cX2_handleTimeout 160 = .ok (.invokevirtual 266, 3) := by decide +kernel
theorem dX2_handleTimeout_163 : decode cX2_handleTimeout 163 = .ok (.goto 18, 3) := by decide +kernel
theorem dX2_handleTimeout_166 : decode cX2_handleTimeout 166 = .ok (.aload_n 0, 1) := by decide +kernel
theorem dX2_handleTimeout_167 : decode cX2_handleTimeout 167 = .ok (.getfield 36, 3) := by decide +kernel
theorem dX2_handleTimeout_170 : decode cX2_handleTimeout 170 = .ok (.iload_n 1, 1) := by decide +kernel
theorem dX2_handleTimeout_171 : decode cX2_handleTimeout 171 = .ok (.invokevirtual 232, 3) := by decide +kernel
theorem dX2_handleTimeout_174 : decode cX2_handleTimeout 174 = .ok (.aload_n 0, 1) := by decide +kernel
theorem dX2_handleTimeout_175 : decode cX2_handleTimeout 175 = .ok (.iload_n 1, 1) := by decide +kernel
theorem dX2_handleTimeout_176 : decode cX2_handleTimeout 176 = .ok (.bipush 11, 2) := by decide +kernel
theorem dX2_handleTimeout_178 : decode cX2_handleTimeout 178 = .ok (.invokevirtual 341, 3) := by decide +kernel
theorem dX2_handleTimeout_181 : decode cX2_handleTimeout 181 = .ok (.return_, 1) := by decide +kernel
set_option maxRecDepth 20000 in
theorem ggX2_broadcast_X0_isUp : GoodIn wsX2_broadcast wsX0_isUp := goodIn_r _ [7, 8, 66, 67, 68, 69, 70, 71, 72] (by decide +kernel) (by decide +kernel)
set_option maxRecDepth 20000 in
theorem gX2_broadcast_X0_isUp : GoodIn wsX2_broadcast (wsV RX2 276 RX0 yX0_isUp wsX0_isUp) := goodIn_app (goodIn_of _ (by decide +kernel)) ggX2_broadcast_X0_isUp
theorem dX2_broadcast_0 : decode cX2_broadcast 0 = .ok (.iconst 0, 1) := by decide +kernel
theorem dX2_broadcast_1 : decode cX2_broadcast 1 = .ok (.istore_n 3, 1) := by decide +kernel
theorem dX2_broadcast_2 : decode cX2_broadcast 2 = .ok (.iload_n 3, 1) := by decide +kernel
theorem dX2_broadcast_3 : decode cX2_broadcast 3 = .ok (.aload_n 0, 1) := by decide +kernel
theorem dX2_broadcast_4 : decode cX2_broadcast 4 = .ok (.getfield 57, 3) := by decide +kernel
theorem dX2_broadcast_7 : decode cX2_broadcast 7 = .ok (.if_icmp .ge 45, 3) := by decide +kernel
theorem dX2_broadcast_10 : decode cX2_broadcast 10 = .ok (.aload_n 0, 1) := by decide +kernel
theorem dX2_broadcast_11 : decode cX2_broadcast 11 = .ok (.getfield 66, 3) := by decide +kernel
theorem dX2_broadcast_14 : decode cX2_broadcast 14 = .ok (.iload_n 1, 1) := by decide +kernel
theorem dX2_broadcast_15 : decode cX2_broadcast 15 = .ok (.iload_n 3, 1) := by decide +kernel
theorem dX2_broadcast_16 : decode cX2_broadcast 16 = .ok (.invokevirtual 276, 3) := by decide +kernel
theorem dX2_broadcast_19 : decode cX2_broadcast 19 = .ok (.ifCond .eq 27, 3) := by decide +kernel
theorem dX2_broadcast_22 : decode cX2_broadcast 22 = .ok (.aload_n 0, 1) := by decide +kernel
theorem dX2_broadcast_23 : decode cX2_broadcast 23 = .ok (.getfield 66, 3) := by decide +kernel
theorem dX2_broadcast_26 : decode cX2_broadcast 26 = .ok (.iconst 0, 1) := by decide +kernel
theorem dX2_broadcast_27 : decode cX2_broadcast 27 = .ok (.iload_n 1, 1) := by decide +kernel
theorem dX2_broadcast_28 : decode cX2_broadcast 28 = .ok (.iload_n 3, 1) := by decide +kernel
theorem dX2_broadcast_29 : decode cX2_broadcast 29 = .ok (.aload_n 0, 1) := by decide +kernel
theorem dX2_broadcast_30 : decode cX2_broadcast 30 = .ok (.iload_n 1, 1) := by decide +kernel
theorem dX2_broadcast_31 : decode cX2_broadcast 31 = .ok (.iload_n 3, 1) := by decide +kernel
theorem dX2_broadcast_32 : decode cX2_broadcast 32 = .ok (.invokevirtual 285, 3) := by decide +kernel
theorem dX2_broadcast_35 : decode cX2_broadcast 35 = .ok (.invokevirtual 288, 3) := by decide +kernel
theorem dX2_broadcast_38 : decode cX2_broadcast 38 = .ok (.astore 4, 2) := by decide +kernel
theorem dX2_broadcast_40 : decode cX2_broadcast 40 = .ok (.aload 4, 2) := by decide +kernel
theorem dX2_broadcast_42 : decode cX2_broadcast 42 = .ok (.aload_n 2, 1) := by decide +kernel
theorem dX2_broadcast_43 : decode cX2_broadcast 43 = .ok (.invokevirtual 350, 3) := by decide +kernel
theorem dX2_broadcast_46 : decode cX2_broadcast 46 = .ok (.iinc 3 1, 3) := by decide +kernel
theorem dX2_broadcast_49 : decode cX2_broadcast 49 = .ok (.goto (-47), 3) := by decide +kernel
theorem dX2_broadcast_52 : decode cX2_broadcast 52 = .ok (.return_, 1) := by decide +kernel
set_option maxRecDepth 20000 in
theorem ggX2_walk_X6_cellOf : GoodIn wsX2_walk wsX6_cellOf := goodIn_r _ [7] (by decide +kernel) (by decide +kernel)
set_option maxRecDepth 20000 in
theorem gX2_walk_X6_cellOf_n198 : GoodIn wsX2_walk (wsX6_cellOf) := ggX2_walk_X6_cellOf
set_option maxRecDepth 20000 in
theorem ggX2_walk_X4_usable : GoodIn wsX2_walk wsX4_usable := goodIn_r _ [12, 13, 14, 27, 28, 29, 30, 31, 32] (by decide +kernel) (by decide +kernel)
set_option maxRecDepth 20000 in
theorem gX2_walk_X4_usable : GoodIn wsX2_walk (wsV RX2 201 RX4 yX4_usable wsX4_usable) := goodIn_app (goodIn_of _ (by decide +kernel)) ggX2_walk_X4_usable
theorem dX2_walk_0 : decode cX2_walk 0 = .ok (.iload_n 1, 1) := by decide +kernel
theorem dX2_walk_1 : decode cX2_walk 1 = .ok (.istore_n 3, 1) := by decide +kernel
theorem dX2_walk_2 : decode cX2_walk 2 = .ok (.iconst 0, 1) := by decide +kernel
theorem dX2_walk_3 : decode cX2_walk 3 = .ok (.istore 4, 2) := by decide +kernel
theorem dX2_walk_5 : decode cX2_walk 5 = .ok (.iload 4, 2) := by decide +kernel
theorem dX2_walk_7 : decode cX2_walk 7 = .ok (.aload_n 0, 1) := by decide +kernel
theorem dX2_walk_8 : decode cX2_walk 8 = .ok (.getfield 57, 3) := by decide +kernel
theorem dX2_walk_11 : decode cX2_walk 11 = .ok (.if_icmp .ge 53, 3) := by decide +kernel
theorem dX2_walk_14 : decode cX2_walk 14 = .ok (.iload_n 3, 1) := by decide +kernel
theorem dX2_walk_15 : decode cX2_walk 15 = .ok (.iload_n 2, 1) := by decide +kernel
theorem dX2_walk_16 : decode cX2_walk 16 = .ok (.if_icmp .ne 6, 3) := by decide +kernel
theorem dX2_walk_19 : decode cX2_walk 19 = .ok (.iload 4, 2) := by decide +kernel
theorem dX2_walk_21 : decode cX2_walk 21 = .ok (.ireturn, 1) := by decide +kernel
theorem dX2_walk_22 : decode cX2_walk 22 = .ok (.iload_n 3, 1) := by decide +kernel
theorem dX2_walk_23 : decode cX2_walk 23 = .ok (.iload_n 2, 1) := by decide +kernel
theorem dX2_walk_24 : decode cX2_walk 24 = .ok (.invokestatic 198, 3) := by decide +kernel
theorem dX2_walk_27 : decode cX2_walk 27 = .ok (.istore 5, 2) := by decide +kernel
theorem dX2_walk_29 : decode cX2_walk 29 = .ok (.aload_n 0, 1) := by decide +kernel
theorem dX2_walk_30 : decode cX2_walk 30 = .ok (.getfield 29, 3) := by decide +kernel
theorem dX2_walk_33 : decode cX2_walk 33 = .ok (.iload 5, 2) := by decide +kernel
theorem dX2_walk_35 : decode cX2_walk 35 = .ok (.aload_n 0, 1) := by decide +kernel
theorem dX2_walk_36 : decode cX2_walk 36 = .ok (.getfield 70, 3) := by decide +kernel
theorem dX2_walk_39 : decode cX2_walk 39 = .ok (.invokevirtual 201, 3) := by decide +kernel
theorem dX2_walk_42 : decode cX2_walk 42 = .ok (.ifCond .ne 5, 3) := by decide +kernel
theorem dX2_walk_45 : decode cX2_walk 45 = .ok (.iconst (-1), 1) := by decide +kernel
theorem dX2_walk_46 : decode cX2_walk 46 = .ok (.ireturn, 1) := by decide +kernel
theorem dX2_walk_47 : decode cX2_walk 47 = .ok (.aload_n 0, 1) := by decide +kernel
theorem dX2_walk_48 : decode cX2_walk 48 = .ok (.getfield 29, 3) := by decide +kernel
theorem dX2_walk_51 : decode cX2_walk 51 = .ok (.getfield 205, 3) := by decide +kernel
theorem dX2_walk_54 : decode cX2_walk 54 = .ok (.iload 5, 2) := by decide +kernel
theorem dX2_walk_56 : decode cX2_walk 56 = .ok (.iaload, 1) := by decide +kernel
theorem dX2_walk_57 : decode cX2_walk 57 = .ok (.istore_n 3, 1) := by decide +kernel
theorem dX2_walk_58 : decode cX2_walk 58 = .ok (.iinc 4 1, 3) := by decide +kernel
theorem dX2_walk_61 : decode cX2_walk 61 = .ok (.goto (-56), 3) := by decide +kernel
theorem dX2_walk_64 : decode cX2_walk 64 = .ok (.bipush (-2), 2) := by decide +kernel
theorem dX2_walk_66 : decode cX2_walk 66 = .ok (.ireturn, 1) := by decide +kernel
set_option maxRecDepth 20000 in
theorem ggX2_sequenceShown_X6_cellOf : GoodIn wsX2_sequenceShown wsX6_cellOf := goodIn_r _ [6] (by decide +kernel) (by decide +kernel)
set_option maxRecDepth 20000 in
theorem gX2_sequenceShown_X6_cellOf_n198 : GoodIn wsX2_sequenceShown (wsX6_cellOf) := ggX2_sequenceShown_X6_cellOf
set_option maxRecDepth 20000 in
theorem ggX2_sequenceShown_X4_exists : GoodIn wsX2_sequenceShown wsX4_exists := goodIn_r _ [11, 12, 25, 26, 27, 28, 29, 30] (by decide +kernel) (by decide +kernel)
set_option maxRecDepth 20000 in
theorem gX2_sequenceShown_X4_exists : GoodIn wsX2_sequenceShown (wsV RX2 282 RX4 yX4_exists wsX4_exists) := goodIn_app (goodIn_of _ (by decide +kernel)) ggX2_sequenceShown_X4_exists
theorem dX2_sequenceShown_0 : decode cX2_sequenceShown 0 = .ok (.iload_n 1, 1) := by decide +kernel
theorem dX2_sequenceShown_1 : decode cX2_sequenceShown 1 = .ok (.iload_n 2, 1) := by decide +kernel
theorem dX2_sequenceShown_2 : decode cX2_sequenceShown 2 = .ok (.if_icmp .ne 10, 3) := by decide +kernel
theorem dX2_sequenceShown_5 : decode cX2_sequenceShown 5 = .ok (.aload_n 0, 1) := by decide +kernel
theorem dX2_sequenceShown_6 : decode cX2_sequenceShown 6 = .ok (.getfield 23, 3) := by decide +kernel
theorem dX2_sequenceShown_9 : decode cX2_sequenceShown 9 = .ok (.iload_n 1, 1) := by decide +kernel
theorem dX2_sequenceShown_10 : decode cX2_sequenceShown 10 = .ok (.iaload, 1) := by decide +kernel
theorem dX2_sequenceShown_11 : decode cX2_sequenceShown 11 = .ok (.ireturn, 1) := by decide +kernel
theorem dX2_sequenceShown_12 : decode cX2_sequenceShown 12 = .ok (.iload_n 1, 1) := by decide +kernel
theorem dX2_sequenceShown_13 : decode cX2_sequenceShown 13 = .ok (.iload_n 2, 1) := by decide +kernel
theorem dX2_sequenceShown_14 : decode cX2_sequenceShown 14 = .ok (.invokestatic 198, 3) := by decide +kernel
theorem dX2_sequenceShown_17 : decode cX2_sequenceShown 17 = .ok (.istore_n 3, 1) := by decide +kernel
theorem dX2_sequenceShown_18 : decode cX2_sequenceShown 18 = .ok (.aload_n 0, 1) := by decide +kernel
theorem dX2_sequenceShown_19 : decode cX2_sequenceShown 19 = .ok (.getfield 29, 3) := by decide +kernel
theorem dX2_sequenceShown_22 : decode cX2_sequenceShown 22 = .ok (.iload_n 3, 1) := by decide +kernel
theorem dX2_sequenceShown_23 : decode cX2_sequenceShown 23 = .ok (.invokevirtual 282, 3) := by decide +kernel
theorem dX2_sequenceShown_26 : decode cX2_sequenceShown 26 = .ok (.ifCond .eq 15, 3) := by decide +kernel
theorem dX2_sequenceShown_29 : decode cX2_sequenceShown 29 = .ok (.aload_n 0, 1) := by decide +kernel
theorem dX2_sequenceShown_30 : decode cX2_sequenceShown 30 = .ok (.getfield 29, 3) := by decide +kernel
theorem dX2_sequenceShown_33 : decode cX2_sequenceShown 33 = .ok (.getfield 211, 3) := by decide +kernel
theorem dX2_sequenceShown_36 : decode cX2_sequenceShown 36 = .ok (.iload_n 3, 1) := by decide +kernel
theorem dX2_sequenceShown_37 : decode cX2_sequenceShown 37 = .ok (.iaload, 1) := by decide +kernel
theorem dX2_sequenceShown_38 : decode cX2_sequenceShown 38 = .ok (.goto 5, 3) := by decide +kernel
theorem dX2_sequenceShown_41 : decode cX2_sequenceShown 41 = .ok (.bipush (-2), 2) := by decide +kernel
theorem dX2_sequenceShown_43 : decode cX2_sequenceShown 43 = .ok (.ireturn, 1) := by decide +kernel
set_option maxRecDepth 20000 in
theorem ggX2_cellMixedInto_X6_cellOf : GoodIn wsX2_cellMixedInto wsX6_cellOf := goodIn_r _ [12] (by decide +kernel) (by decide +kernel)
set_option maxRecDepth 20000 in
theorem gX2_cellMixedInto_X6_cellOf_n198 : GoodIn wsX2_cellMixedInto (wsX6_cellOf) := ggX2_cellMixedInto_X6_cellOf
set_option maxRecDepth 20000 in
theorem ggX2_cellMixedInto_X4_usable : GoodIn wsX2_cellMixedInto wsX4_usable := goodIn_r _ [17, 18, 19, 43, 44, 45, 46, 47, 48] (by decide +kernel) (by decide +kernel)
set_option maxRecDepth 20000 in
theorem gX2_cellMixedInto_X4_usable : GoodIn wsX2_cellMixedInto (wsV RX2 201 RX4 yX4_usable wsX4_usable) := goodIn_app (goodIn_of _ (by decide +kernel)) ggX2_cellMixedInto_X4_usable
set_option maxRecDepth 20000 in
theorem ggX2_cellMixedInto_X2_sequenceShown : GoodIn wsX2_cellMixedInto wsX2_sequenceShown := goodIn_r _ [24, 25, 2, 26, 10, 11, 12, 27, 28, 29, 16, 30, 18, 31, 32, 33, 34, 35, 36, 37, 38, 39, 40, 41, 42, 43, 44, 45, 46, 47, 48] (by decide +kernel) (by decide +kernel)
set_option maxRecDepth 20000 in
theorem gX2_cellMixedInto_X2_sequenceShown : GoodIn wsX2_cellMixedInto (wsV RX2 374 RX2 yX2_sequenceShown wsX2_sequenceShown) := goodIn_app (goodIn_of _ (by decide +kernel)) ggX2_cellMixedInto_X2_sequenceShown
theorem dX2_cellMixedInto_0 : decode cX2_cellMixedInto 0 = .ok (.iload_n 3, 1) := by decide +kernel
theorem dX2_cellMixedInto_1 : decode cX2_cellMixedInto 1 = .ok (.iload 4, 2) := by decide +kernel
theorem dX2_cellMixedInto_3 : decode cX2_cellMixedInto 3 = .ok (.invokestatic 198, 3) := by decide +kernel
theorem dX2_cellMixedInto_6 : decode cX2_cellMixedInto 6 = .ok (.istore 5, 2) := by decide +kernel
theorem dX2_cellMixedInto_8 : decode cX2_cellMixedInto 8 = .ok (.lload_n 1, 1) := by decide +kernel
theorem dX2_cellMixedInto_9 : decode cX2_cellMixedInto 9 = .ok (.ldc2_w 372, 3) := by decide +kernel
theorem dX2_cellMixedInto_12 : decode cX2_cellMixedInto 12 = .ok (.lmul, 1) := by decide +kernel
theorem dX2_cellMixedInto_13 : decode cX2_cellMixedInto 13 = .ok (.aload_n 0, 1) := by decide +kernel
theorem dX2_cellMixedInto_14 : decode cX2_cellMixedInto 14 = .ok (.getfield 29, 3) := by decide +kernel
theorem dX2_cellMixedInto_17 : decode cX2_cellMixedInto 17 = .ok (.iload 5, 2) := by decide +kernel
theorem dX2_cellMixedInto_19 : decode cX2_cellMixedInto 19 = .ok (.aload_n 0, 1) := by decide +kernel
theorem dX2_cellMixedInto_20 : decode cX2_cellMixedInto 20 = .ok (.getfield 70, 3) := by decide +kernel
theorem dX2_cellMixedInto_23 : decode cX2_cellMixedInto 23 = .ok (.invokevirtual 201, 3) := by decide +kernel
theorem dX2_cellMixedInto_26 : decode cX2_cellMixedInto 26 = .ok (.ifCond .eq 7, 3) := by decide +kernel
theorem dX2_cellMixedInto_29 : decode cX2_cellMixedInto 29 = .ok (.iconst 1, 1) := by decide +kernel
theorem dX2_cellMixedInto_30 : decode cX2_cellMixedInto 30 = .ok (.goto 4, 3) := by decide +kernel
theorem dX2_cellMixedInto_33 : decode cX2_cellMixedInto 33 = .ok (.iconst 0, 1) := by decide +kernel
theorem dX2_cellMixedInto_34 : decode cX2_cellMixedInto 34 = .ok (.i2l, 1) := by decide +kernel
theorem dX2_cellMixedInto_35 : decode cX2_cellMixedInto 35 = .ok (.ladd, 1) := by decide +kernel
theorem dX2_cellMixedInto_36 : decode cX2_cellMixedInto 36 = .ok (.lstore 6, 2) := by decide +kernel
theorem dX2_cellMixedInto_38 : decode cX2_cellMixedInto 38 = .ok (.lload 6, 2) := by decide +kernel
theorem dX2_cellMixedInto_40 : decode cX2_cellMixedInto 40 = .ok (.ldc2_w 372, 3) := by decide +kernel
theorem dX2_cellMixedInto_43 : decode cX2_cellMixedInto 43 = .ok (.lmul, 1) := by decide +kernel
theorem dX2_cellMixedInto_44 : decode cX2_cellMixedInto 44 = .ok (.aload_n 0, 1) := by decide +kernel
theorem dX2_cellMixedInto_45 : decode cX2_cellMixedInto 45 = .ok (.getfield 29, 3) := by decide +kernel
theorem dX2_cellMixedInto_48 : decode cX2_cellMixedInto 48 = .ok (.getfield 205, 3) := by decide +kernel
theorem dX2_cellMixedInto_51 : decode cX2_cellMixedInto 51 = .ok (.iload 5, 2) := by decide +kernel
theorem dX2_cellMixedInto_53 : decode cX2_cellMixedInto 53 = .ok (.iaload, 1) := by decide +kernel
theorem dX2_cellMixedInto_54 : decode cX2_cellMixedInto 54 = .ok (.i2l, 1) := by decide +kernel
theorem dX2_cellMixedInto_55 : decode cX2_cellMixedInto 55 = .ok (.ladd, 1) := by decide +kernel
theorem dX2_cellMixedInto_56 : decode cX2_cellMixedInto 56 = .ok (.lstore 6, 2) := by decide +kernel
theorem dX2_cellMixedInto_58 : decode cX2_cellMixedInto 58 = .ok (.lload 6, 2) := by decide +kernel
theorem dX2_cellMixedInto_60 : decode cX2_cellMixedInto 60 = .ok (.ldc2_w 372, 3) := by decide +kernel
theorem dX2_cellMixedInto_63 : decode cX2_cellMixedInto 63 = .ok (.lmul, 1) := by decide +kernel
theorem dX2_cellMixedInto_64 : decode cX2_cellMixedInto 64 = .ok (.aload_n 0, 1) := by decide +kernel
theorem dX2_cellMixedInto_65 : decode cX2_cellMixedInto 65 = .ok (.getfield 29, 3) := by decide +kernel
theorem dX2_cellMixedInto_68 : decode cX2_cellMixedInto 68 = .ok (.getfield 273, 3) := by decide +kernel
theorem dX2_cellMixedInto_71 : decode cX2_cellMixedInto 71 = .ok (.iload 5, 2) := by decide +kernel
theorem dX2_cellMixedInto_73 : decode cX2_cellMixedInto 73 = .ok (.iaload, 1) := by decide +kernel
theorem dX2_cellMixedInto_74 : decode cX2_cellMixedInto 74 = .ok (.i2l, 1) := by decide +kernel
theorem dX2_cellMixedInto_75 : decode cX2_cellMixedInto 75 = .ok (.ladd, 1) := by decide +kernel
theorem dX2_cellMixedInto_76 : decode cX2_cellMixedInto 76 = .ok (.lstore 6, 2) := by decide +kernel
theorem dX2_cellMixedInto_78 : decode cX2_cellMixedInto 78 = .ok (.lload 6, 2) := by decide +kernel
theorem dX2_cellMixedInto_80 : decode cX2_cellMixedInto 80 = .ok (.ldc2_w 372, 3) := by decide +kernel
theorem dX2_cellMixedInto_83 : decode cX2_cellMixedInto 83 = .ok (.lmul, 1) := by decide +kernel
theorem dX2_cellMixedInto_84 : decode cX2_cellMixedInto 84 = .ok (.aload_n 0, 1) := by decide +kernel
theorem dX2_cellMixedInto_85 : decode cX2_cellMixedInto 85 = .ok (.iload_n 3, 1) := by decide +kernel
theorem dX2_cellMixedInto_86 : decode cX2_cellMixedInto 86 = .ok (.iload 4, 2) := by decide +kernel
theorem dX2_cellMixedInto_88 : decode cX2_cellMixedInto 88 = .ok (.invokevirtual 374, 3) := by decide +kernel
theorem dX2_cellMixedInto_91 : decode cX2_cellMixedInto 91 = .ok (.i2l, 1) := by decide +kernel
theorem dX2_cellMixedInto_92 : decode cX2_cellMixedInto 92 = .ok (.ladd, 1) := by decide +kernel
theorem dX2_cellMixedInto_93 : decode cX2_cellMixedInto 93 = .ok (.lstore 6, 2) := by decide +kernel
theorem dX2_cellMixedInto_95 : decode cX2_cellMixedInto 95 = .ok (.lload 6, 2) := by decide +kernel
theorem dX2_cellMixedInto_97 : decode cX2_cellMixedInto 97 = .ok (.ldc2_w 372, 3) := by decide +kernel
theorem dX2_cellMixedInto_100 : decode cX2_cellMixedInto 100 = .ok (.lmul, 1) := by decide +kernel
theorem dX2_cellMixedInto_101 : decode cX2_cellMixedInto 101 = .ok (.aload_n 0, 1) := by decide +kernel
theorem dX2_cellMixedInto_102 : decode cX2_cellMixedInto 102 = .ok (.getfield 29, 3) := by decide +kernel
theorem dX2_cellMixedInto_105 : decode cX2_cellMixedInto 105 = .ok (.getfield 369, 3) := by decide +kernel
theorem dX2_cellMixedInto_108 : decode cX2_cellMixedInto 108 = .ok (.iload 5, 2) := by decide +kernel
theorem dX2_cellMixedInto_110 : decode cX2_cellMixedInto 110 = .ok (.iaload, 1) := by decide +kernel
theorem dX2_cellMixedInto_111 : decode cX2_cellMixedInto 111 = .ok (.i2l, 1) := by decide +kernel
theorem dX2_cellMixedInto_112 : decode cX2_cellMixedInto 112 = .ok (.ladd, 1) := by decide +kernel
theorem dX2_cellMixedInto_113 : decode cX2_cellMixedInto 113 = .ok (.lstore 6, 2) := by decide +kernel
theorem dX2_cellMixedInto_115 : decode cX2_cellMixedInto 115 = .ok (.lload 6, 2) := by decide +kernel
theorem dX2_cellMixedInto_117 : decode cX2_cellMixedInto 117 = .ok (.ldc2_w 372, 3) := by decide +kernel
theorem dX2_cellMixedInto_120 : decode cX2_cellMixedInto 120 = .ok (.lmul, 1) := by decide +kernel
theorem dX2_cellMixedInto_121 : decode cX2_cellMixedInto 121 = .ok (.aload_n 0, 1) := by decide +kernel
theorem dX2_cellMixedInto_122 : decode cX2_cellMixedInto 122 = .ok (.getfield 36, 3) := by decide +kernel
theorem dX2_cellMixedInto_125 : decode cX2_cellMixedInto 125 = .ok (.getfield 338, 3) := by decide +kernel
theorem dX2_cellMixedInto_128 : decode cX2_cellMixedInto 128 = .ok (.iload 5, 2) := by decide +kernel
theorem dX2_cellMixedInto_130 : decode cX2_cellMixedInto 130 = .ok (.iaload, 1) := by decide +kernel
theorem dX2_cellMixedInto_131 : decode cX2_cellMixedInto 131 = .ok (.i2l, 1) := by decide +kernel
theorem dX2_cellMixedInto_132 : decode cX2_cellMixedInto 132 = .ok (.ladd, 1) := by decide +kernel
theorem dX2_cellMixedInto_133 : decode cX2_cellMixedInto 133 = .ok (.lstore 6, 2) := by decide +kernel
theorem dX2_cellMixedInto_135 : decode cX2_cellMixedInto 135 = .ok (.lload 6, 2) := by decide +kernel
theorem dX2_cellMixedInto_137 : decode cX2_cellMixedInto 137 = .ok (.ldc2_w 372, 3) := by decide +kernel
theorem dX2_cellMixedInto_140 : decode cX2_cellMixedInto 140 = .ok (.lmul, 1) := by decide +kernel
theorem dX2_cellMixedInto_141 : decode cX2_cellMixedInto 141 = .ok (.aload_n 0, 1) := by decide +kernel
theorem dX2_cellMixedInto_142 : decode cX2_cellMixedInto 142 = .ok (.getfield 36, 3) := by decide +kernel
theorem dX2_cellMixedInto_145 : decode cX2_cellMixedInto 145 = .ok (.getfield 238, 3) := by decide +kernel
theorem dX2_cellMixedInto_148 : decode cX2_cellMixedInto 148 = .ok (.iload 5, 2) := by decide +kernel
theorem dX2_cellMixedInto_150 : decode cX2_cellMixedInto 150 = .ok (.iaload, 1) := by decide +kernel
theorem dX2_cellMixedInto_151 : decode cX2_cellMixedInto 151 = .ok (.i2l, 1) := by decide +kernel
theorem dX2_cellMixedInto_152 : decode cX2_cellMixedInto 152 = .ok (.ladd, 1) := by decide +kernel
theorem dX2_cellMixedInto_153 : decode cX2_cellMixedInto 153 = .ok (.lreturn, 1) := by decide +kernel
set_option maxRecDepth 20000 in
theorem ggX3_init_X6_filledRow : GoodIn wsX3_init wsX6_filledRow := goodIn_r _ [15, 16, 17, 18, 19, 4, 20, 21, 22, 23] (by decide +kernel) (by decide +kernel)
set_option maxRecDepth 20000 in
theorem gX3_init_X6_filledRow_n30 : GoodIn wsX3_init (wsX6_filledRow) := ggX3_init_X6_filledRow
theorem dX3_init_0 : decode cX3_init 0 = .ok (.aload_n 0, 1) := by decide +kernel
theorem dX3_init_1 : decode cX3_init 1 = .ok (.invokespecial 3, 3) := by decide +kernel
theorem dX3_init_4 : decode cX3_init 4 = .ok (.aload_n 0, 1) := by decide +kernel
theorem dX3_init_5 : decode cX3_init 5 = .ok (.sipush 200, 3) := by decide +kernel
theorem dX3_init_8 : decode cX3_init 8 = .ok (.newarray .int, 2) := by decide +kernel
theorem dX3_init_10 : decode cX3_init 10 = .ok (.putfield 9, 3) := by decide +kernel
theorem dX3_init_13 : decode cX3_init 13 = .ok (.aload_n 0, 1) := by decide +kernel
theorem dX3_init_14 : decode cX3_init 14 = .ok (.sipush 200, 3) := by decide +kernel
theorem dX3_init_17 : decode cX3_init 17 = .ok (.newarray .int, 2) := by decide +kernel
theorem dX3_init_19 : decode cX3_init 19 = .ok (.putfield 15, 3) := by decide +kernel
theorem dX3_init_22 : decode cX3_init 22 = .ok (.aload_n 0, 1) := by decide +kernel
theorem dX3_init_23 : decode cX3_init 23 = .ok (.sipush 200, 3) := by decide +kernel
theorem dX3_init_26 : decode cX3_init 26 = .ok (.newarray .int, 2) := by decide +kernel
theorem dX3_init_28 : decode cX3_init 28 = .ok (.putfield 18, 3) := by decide +kernel
theorem dX3_init_31 : decode cX3_init 31 = .ok (.aload_n 0, 1) := by decide +kernel
theorem dX3_init_32 : decode cX3_init 32 = .ok (.sipush 200, 3) := by decide +kernel
theorem dX3_init_35 : decode cX3_init 35 = .ok (.newarray .int, 2) := by decide +kernel
theorem dX3_init_37 : decode cX3_init 37 = .ok (.putfield 21, 3) := by decide +kernel
theorem dX3_init_40 : decode cX3_init 40 = .ok (.aload_n 0, 1) := by decide +kernel
theorem dX3_init_41 : decode cX3_init 41 = .ok (.sipush 200, 3) := by decide +kernel
theorem dX3_init_44 : decode cX3_init 44 = .ok (.newarray .int, 2) := by decide +kernel
theorem dX3_init_46 : decode cX3_init 46 = .ok (.putfield 24, 3) := by decide +kernel
theorem dX3_init_49 : decode cX3_init 49 = .ok (.aload_n 0, 1) := by decide +kernel
theorem dX3_init_50 : decode cX3_init 50 = .ok (.sipush 200, 3) := by decide +kernel
theorem dX3_init_53 : decode cX3_init 53 = .ok (.newarray .int, 2) := by decide +kernel
theorem dX3_init_55 : decode cX3_init 55 = .ok (.putfield 27, 3) := by decide +kernel
theorem dX3_init_58 : decode cX3_init 58 = .ok (.aload_n 0, 1) := by decide +kernel
theorem dX3_init_59 : decode cX3_init 59 = .ok (.sipush 200, 3) := by decide +kernel
theorem dX3_init_62 : decode cX3_init 62 = .ok (.iconst (-1), 1) := by decide +kernel
theorem dX3_init_63 : decode cX3_init 63 = .ok (.invokestatic 30, 3) := by decide +kernel
theorem dX3_init_66 : decode cX3_init 66 = .ok (.putfield 34, 3) := by decide +kernel
theorem dX3_init_69 : decode cX3_init 69 = .ok (.aload_n 0, 1) := by decide +kernel
theorem dX3_init_70 : decode cX3_init 70 = .ok (.sipush 200, 3) := by decide +kernel
theorem dX3_init_73 : decode cX3_init 73 = .ok (.newarray .int, 2) := by decide +kernel
theorem dX3_init_75 : decode cX3_init 75 = .ok (.putfield 37, 3) := by decide +kernel
theorem dX3_init_78 : decode cX3_init 78 = .ok (.return_, 1) := by decide +kernel
theorem dX3_drop_0 : decode cX3_drop 0 = .ok (.aload_n 0, 1) := by decide +kernel
theorem dX3_drop_1 : decode cX3_drop 1 = .ok (.getfield 18, 3) := by decide +kernel
theorem dX3_drop_4 : decode cX3_drop 4 = .ok (.iload_n 1, 1) := by decide +kernel
theorem dX3_drop_5 : decode cX3_drop 5 = .ok (.iconst 3, 1) := by decide +kernel
theorem dX3_drop_6 : decode cX3_drop 6 = .ok (.iastore, 1) := by decide +kernel
theorem dX3_drop_7 : decode cX3_drop 7 = .ok (.aload_n 0, 1) := by decide +kernel
theorem dX3_drop_8 : decode cX3_drop 8 = .ok (.getfield 37, 3) := by decide +kernel
theorem dX3_drop_11 : decode cX3_drop 11 = .ok (.iload_n 1, 1) := by decide +kernel
theorem dX3_drop_12 : decode cX3_drop 12 = .ok (.iload_n 2, 1) := by decide +kernel
theorem dX3_drop_13 : decode cX3_drop 13 = .ok (.iastore, 1) := by decide +kernel
theorem dX3_drop_14 : decode cX3_drop 14 = .ok (.aload_n 0, 1) := by decide +kernel
theorem dX3_drop_15 : decode cX3_drop 15 = .ok (.getfield 34, 3) := by decide +kernel
theorem dX3_drop_18 : decode cX3_drop 18 = .ok (.iload_n 1, 1) := by decide +kernel
theorem dX3_drop_19 : decode cX3_drop 19 = .ok (.iload_n 3, 1) := by decide +kernel
theorem dX3_drop_20 : decode cX3_drop 20 = .ok (.iastore, 1) := by decide +kernel
theorem dX3_drop_21 : decode cX3_drop 21 = .ok (.return_, 1) := by decide +kernel
theorem dX3_inState_0 : decode cX3_inState 0 = .ok (.iconst 0, 1) := by decide +kernel
theorem dX3_inState_1 : decode cX3_inState 1 = .ok (.istore_n 2, 1) := by decide +kernel
theorem dX3_inState_2 : decode cX3_inState 2 = .ok (.iconst 0, 1) := by decide +kernel
theorem dX3_inState_3 : decode cX3_inState 3 = .ok (.istore_n 3, 1) := by decide +kernel
theorem dX3_inState_4 : decode cX3_inState 4 = .ok (.iload_n 3, 1) := by decide +kernel
theorem dX3_inState_5 : decode cX3_inState 5 = .ok (.aload_n 0, 1) := by decide +kernel
theorem dX3_inState_6 : decode cX3_inState 6 = .ok (.getfield 40, 3) := by decide +kernel
theorem dX3_inState_9 : decode cX3_inState 9 = .ok (.if_icmp .ge 22, 3) := by decide +kernel
theorem dX3_inState_12 : decode cX3_inState 12 = .ok (.aload_n 0, 1) := by decide +kernel
theorem dX3_inState_13 : decode cX3_inState 13 = .ok (.getfield 18, 3) := by decide +kernel
theorem dX3_inState_16 : decode cX3_inState 16 = .ok (.iload_n 3, 1) := by decide +kernel
theorem dX3_inState_17 : decode cX3_inState 17 = .ok (.iaload, 1) := by decide +kernel
theorem dX3_inState_18 : decode cX3_inState 18 = .ok (.iload_n 1, 1) := by decide +kernel
theorem dX3_inState_19 : decode cX3_inState 19 = .ok (.if_icmp .ne 6, 3) := by decide +kernel
theorem dX3_inState_22 : decode cX3_inState 22 = .ok (.iinc 2 1, 3) := by decide +kernel
theorem dX3_inState_25 : decode cX3_inState 25 = .ok (.iinc 3 1, 3) := by decide +kernel
theorem dX3_inState_28 : decode cX3_inState 28 = .ok (.goto (-24), 3) := by decide +kernel
theorem dX3_inState_31 : decode cX3_inState 31 = .ok (.iload_n 2, 1) := by decide +kernel
theorem dX3_inState_32 : decode cX3_inState 32 = .ok (.ireturn, 1) := by decide +kernel
theorem dX3_linksOfDelivered_0 : decode cX3_linksOfDelivered 0 = .ok (.iconst 0, 1) := by decide +kernel
theorem dX3_linksOfDelivered_1 : decode cX3_linksOfDelivered 1 = .ok (.istore_n 1, 1) := by decide +kernel
theorem dX3_linksOfDelivered_2 : decode cX3_linksOfDelivered 2 = .ok (.iconst 0, 1) := by decide +kernel
theorem dX3_linksOfDelivered_3 : decode cX3_linksOfDelivered 3 = .ok (.istore_n 2, 1) := by decide +kernel
theorem dX3_linksOfDelivered_4 : decode cX3_linksOfDelivered 4 = .ok (.iload_n 2, 1) := by decide +kernel
theorem dX3_linksOfDelivered_5 : decode cX3_linksOfDelivered 5 = .ok (.aload_n 0, 1) := by decide +kernel
theorem dX3_linksOfDelivered_6 : decode cX3_linksOfDelivered 6 = .ok (.getfield 40, 3) := by decide +kernel
theorem dX3_linksOfDelivered_9 : decode cX3_linksOfDelivered 9 = .ok (.if_icmp .ge 28, 3) := by decide +kernel
theorem dX3_linksOfDelivered_12 : decode cX3_linksOfDelivered 12 = .ok (.aload_n 0, 1) := by decide +kernel
theorem dX3_linksOfDelivered_13 : decode cX3_linksOfDelivered 13 = .ok (.getfield 18, 3) := by decide +kernel
theorem dX3_linksOfDelivered_16 : decode cX3_linksOfDelivered 16 = .ok (.iload_n 2, 1) := by decide +kernel
theorem dX3_linksOfDelivered_17 : decode cX3_linksOfDelivered 17 = .ok (.iaload, 1) := by decide +kernel
theorem dX3_linksOfDelivered_18 : decode cX3_linksOfDelivered 18 = .ok (.iconst 2, 1) := by decide +kernel
theorem dX3_linksOfDelivered_19 : decode cX3_linksOfDelivered 19 = .ok (.if_icmp .ne 12, 3) := by decide +kernel
theorem dX3_linksOfDelivered_22 : decode cX3_linksOfDelivered 22 = .ok (.iload_n 1, 1) := by decide +kernel
theorem dX3_linksOfDelivered_23 : decode cX3_linksOfDelivered 23 = .ok (.aload_n 0, 1) := by decide +kernel
theorem dX3_linksOfDelivered_24 : decode cX3_linksOfDelivered 24 = .ok (.getfield 27, 3) := by decide +kernel
theorem dX3_linksOfDelivered_27 : decode cX3_linksOfDelivered 27 = .ok (.iload_n 2, 1) := by decide +kernel
theorem dX3_linksOfDelivered_28 : decode cX3_linksOfDelivered 28 = .ok (.iaload, 1) := by decide +kernel
theorem dX3_linksOfDelivered_29 : decode cX3_linksOfDelivered 29 = .ok (.iadd, 1) := by decide +kernel
theorem dX3_linksOfDelivered_30 : decode cX3_linksOfDelivered 30 = .ok (.istore_n 1, 1) := by decide +kernel
theorem dX3_linksOfDelivered_31 : decode cX3_linksOfDelivered 31 = .ok (.iinc 2 1, 3) := by decide +kernel
theorem dX3_linksOfDelivered_34 : decode cX3_linksOfDelivered 34 = .ok (.goto (-30), 3) := by decide +kernel
theorem dX3_linksOfDelivered_37 : decode cX3_linksOfDelivered 37 = .ok (.iload_n 1, 1) := by decide +kernel
theorem dX3_linksOfDelivered_38 : decode cX3_linksOfDelivered 38 = .ok (.ireturn, 1) := by decide +kernel
set_option maxRecDepth 20000 in
theorem ggX3_become_X6_copyRow : GoodIn wsX3_become wsX6_copyRow := goodIn_r _ [12, 13, 14, 15, 16, 17, 18, 19, 20] (by decide +kernel) (by decide +kernel)
set_option maxRecDepth 20000 in
theorem gX3_become_X6_copyRow_n44 : GoodIn wsX3_become (wsX6_copyRow) := ggX3_become_X6_copyRow
theorem dX3_become_0 : decode cX3_become 0 = .ok (.aload_n 0, 1) := by decide +kernel
theorem dX3_become_1 : decode cX3_become 1 = .ok (.aload_n 1, 1) := by decide +kernel
theorem dX3_become_2 : decode cX3_become 2 = .ok (.getfield 40, 3) := by decide +kernel
theorem dX3_become_5 : decode cX3_become 5 = .ok (.putfield 40, 3) := by decide +kernel
theorem dX3_become_8 : decode cX3_become 8 = .ok (.aload_n 1, 1) := by decide +kernel
theorem dX3_become_9 : decode cX3_become 9 = .ok (.getfield 9, 3) := by decide +kernel
theorem dX3_become_12 : decode cX3_become 12 = .ok (.aload_n 0, 1) := by decide +kernel
theorem dX3_become_13 : decode cX3_become 13 = .ok (.getfield 9, 3) := by decide +kernel
theorem dX3_become_16 : decode cX3_become 16 = .ok (.invokestatic 44, 3) := by decide +kernel
theorem dX3_become_19 : decode cX3_become 19 = .ok (.aload_n 1, 1) := by decide +kernel
theorem dX3_become_20 : decode cX3_become 20 = .ok (.getfield 15, 3) := by decide +kernel
theorem dX3_become_23 : decode cX3_become 23 = .ok (.aload_n 0, 1) := by decide +kernel
theorem dX3_become_24 : decode cX3_become 24 = .ok (.getfield 15, 3) := by decide +kernel
theorem dX3_become_27 : decode cX3_become 27 = .ok (.invokestatic 44, 3) := by decide +kernel
theorem dX3_become_30 : decode cX3_become 30 = .ok (.aload_n 1, 1) := by decide +kernel
theorem dX3_become_31 : decode cX3_become 31 = .ok (.getfield 18, 3) := by decide +kernel
theorem dX3_become_34 : decode cX3_become 34 = .ok (.aload_n 0, 1) := by decide +kernel
theorem dX3_become_35 : decode cX3_become 35 = .ok (.getfield 18, 3) := by decide +kernel
theorem dX3_become_38 : decode cX3_become 38 = .ok (.invokestatic 44, 3) := by decide +kernel
theorem dX3_become_41 : decode cX3_become 41 = .ok (.aload_n 1, 1) := by decide +kernel
theorem dX3_become_42 : decode cX3_become 42 = .ok (.getfield 21, 3) := by decide +kernel
theorem dX3_become_45 : decode cX3_become 45 = .ok (.aload_n 0, 1) := by decide +kernel
theorem dX3_become_46 : decode cX3_become 46 = .ok (.getfield 21, 3) := by decide +kernel
theorem dX3_become_49 : decode cX3_become 49 = .ok (.invokestatic 44, 3) := by decide +kernel
theorem dX3_become_52 : decode cX3_become 52 = .ok (.aload_n 1, 1) := by decide +kernel
theorem dX3_become_53 : decode cX3_become 53 = .ok (.getfield 24, 3) := by decide +kernel
theorem dX3_become_56 : decode cX3_become 56 = .ok (.aload_n 0, 1) := by decide +kernel
theorem dX3_become_57 : decode cX3_become 57 = .ok (.getfield 24, 3) := by decide +kernel
theorem dX3_become_60 : decode cX3_become 60 = .ok (.invokestatic 44, 3) := by decide +kernel
theorem dX3_become_63 : decode cX3_become 63 = .ok (.aload_n 1, 1) := by decide +kernel
theorem dX3_become_64 : decode cX3_become 64 = .ok (.getfield 27, 3) := by decide +kernel
theorem dX3_become_67 : decode cX3_become 67 = .ok (.aload_n 0, 1) := by decide +kernel
theorem dX3_become_68 : decode cX3_become 68 = .ok (.getfield 27, 3) := by decide +kernel
theorem dX3_become_71 : decode cX3_become 71 = .ok (.invokestatic 44, 3) := by decide +kernel
theorem dX3_become_74 : decode cX3_become 74 = .ok (.aload_n 1, 1) := by decide +kernel
theorem dX3_become_75 : decode cX3_become 75 = .ok (.getfield 34, 3) := by decide +kernel
theorem dX3_become_78 : decode cX3_become 78 = .ok (.aload_n 0, 1) := by decide +kernel
theorem dX3_become_79 : decode cX3_become 79 = .ok (.getfield 34, 3) := by decide +kernel
theorem dX3_become_82 : decode cX3_become 82 = .ok (.invokestatic 44, 3) := by decide +kernel
theorem dX3_become_85 : decode cX3_become 85 = .ok (.aload_n 1, 1) := by decide +kernel
theorem dX3_become_86 : decode cX3_become 86 = .ok (.getfield 37, 3) := by decide +kernel
theorem dX3_become_89 : decode cX3_become 89 = .ok (.aload_n 0, 1) := by decide +kernel
theorem dX3_become_90 : decode cX3_become 90 = .ok (.getfield 37, 3) := by decide +kernel
theorem dX3_become_93 : decode cX3_become 93 = .ok (.invokestatic 44, 3) := by decide +kernel
theorem dX3_become_96 : decode cX3_become 96 = .ok (.return_, 1) := by decide +kernel
set_option maxRecDepth 20000 in
theorem ggX4_init_X6_filledRow : GoodIn wsX4_init wsX6_filledRow := goodIn_r _ [13, 14, 15, 16, 17, 4, 18, 19, 20, 21] (by decide +kernel) (by decide +kernel)
set_option maxRecDepth 20000 in
theorem gX4_init_X6_filledRow_n15 : GoodIn wsX4_init (wsX6_filledRow) := ggX4_init_X6_filledRow
theorem dX4_init_0 : decode cX4_init 0 = .ok (.aload_n 0, 1) := by decide +kernel
theorem dX4_init_1 : decode cX4_init 1 = .ok (.invokespecial 3, 3) := by decide +kernel
theorem dX4_init_4 : decode cX4_init 4 = .ok (.aload_n 0, 1) := by decide +kernel
theorem dX4_init_5 : decode cX4_init 5 = .ok (.bipush 100, 2) := by decide +kernel
theorem dX4_init_7 : decode cX4_init 7 = .ok (.newarray .int, 2) := by decide +kernel
theorem dX4_init_9 : decode cX4_init 9 = .ok (.putfield 9, 3) := by decide +kernel
theorem dX4_init_12 : decode cX4_init 12 = .ok (.aload_n 0, 1) := by decide +kernel
theorem dX4_init_13 : decode cX4_init 13 = .ok (.bipush 100, 2) := by decide +kernel
theorem dX4_init_15 : decode cX4_init 15 = .ok (.iconst (-1), 1) := by decide +kernel
theorem dX4_init_16 : decode cX4_init 16 = .ok (.invokestatic 15, 3) := by decide +kernel
theorem dX4_init_19 : decode cX4_init 19 = .ok (.putfield 19, 3) := by decide +kernel
theorem dX4_init_22 : decode cX4_init 22 = .ok (.aload_n 0, 1) := by decide +kernel
theorem dX4_init_23 : decode cX4_init 23 = .ok (.bipush 100, 2) := by decide +kernel
theorem dX4_init_25 : decode cX4_init 25 = .ok (.iconst (-1), 1) := by decide +kernel
theorem dX4_init_26 : decode cX4_init 26 = .ok (.invokestatic 15, 3) := by decide +kernel
theorem dX4_init_29 : decode cX4_init 29 = .ok (.putfield 22, 3) := by decide +kernel
theorem dX4_init_32 : decode cX4_init 32 = .ok (.aload_n 0, 1) := by decide +kernel
theorem dX4_init_33 : decode cX4_init 33 = .ok (.bipush 100, 2) := by decide +kernel
theorem dX4_init_35 : decode cX4_init 35 = .ok (.iconst (-1), 1) := by decide +kernel
theorem dX4_init_36 : decode cX4_init 36 = .ok (.invokestatic 15, 3) := by decide +kernel
theorem dX4_init_39 : decode cX4_init 39 = .ok (.putfield 25, 3) := by decide +kernel
theorem dX4_init_42 : decode cX4_init 42 = .ok (.aload_n 0, 1) := by decide +kernel
theorem dX4_init_43 : decode cX4_init 43 = .ok (.bipush 100, 2) := by decide +kernel
theorem dX4_init_45 : decode cX4_init 45 = .ok (.iconst (-1), 1) := by decide +kernel
theorem dX4_init_46 : decode cX4_init 46 = .ok (.invokestatic 15, 3) := by decide +kernel
theorem dX4_init_49 : decode cX4_init 49 = .ok (.putfield 28, 3) := by decide +kernel
theorem dX4_init_52 : decode cX4_init 52 = .ok (.aload_n 0, 1) := by decide +kernel
theorem dX4_init_53 : decode cX4_init 53 = .ok (.bipush 100, 2) := by decide +kernel
theorem dX4_init_55 : decode cX4_init 55 = .ok (.newarray .int, 2) := by decide +kernel
theorem dX4_init_57 : decode cX4_init 57 = .ok (.putfield 31, 3) := by decide +kernel
theorem dX4_init_60 : decode cX4_init 60 = .ok (.return_, 1) := by decide +kernel
theorem dX4_exists_0 : decode cX4_exists 0 = .ok (.aload_n 0, 1) := by decide +kernel
theorem dX4_exists_1 : decode cX4_exists 1 = .ok (.getfield 9, 3) := by decide +kernel
theorem dX4_exists_4 : decode cX4_exists 4 = .ok (.iload_n 1, 1) := by decide +kernel
theorem dX4_exists_5 : decode cX4_exists 5 = .ok (.iaload, 1) := by decide +kernel
theorem dX4_exists_6 : decode cX4_exists 6 = .ok (.ifCond .eq 7, 3) := by decide +kernel
theorem dX4_exists_9 : decode cX4_exists 9 = .ok (.iconst 1, 1) := by decide +kernel
theorem dX4_exists_10 : decode cX4_exists 10 = .ok (.goto 4, 3) := by decide +kernel
theorem dX4_exists_13 : decode cX4_exists 13 = .ok (.iconst 0, 1) := by decide +kernel
theorem dX4_exists_14 : decode cX4_exists 14 = .ok (.ireturn, 1) := by decide +kernel
theorem dX4_usable_0 : decode cX4_usable 0 = .ok (.aload_n 0, 1) := by decide +kernel
theorem dX4_usable_1 : decode cX4_usable 1 = .ok (.getfield 9, 3) := by decide +kernel
theorem dX4_usable_4 : decode cX4_usable 4 = .ok (.iload_n 1, 1) := by decide +kernel
theorem dX4_usable_5 : decode cX4_usable 5 = .ok (.iaload, 1) := by decide +kernel
theorem dX4_usable_6 : decode cX4_usable 6 = .ok (.iconst 2, 1) := by decide +kernel
theorem dX4_usable_7 : decode cX4_usable 7 = .ok (.if_icmp .ne 17, 3) := by decide +kernel
theorem dX4_usable_10 : decode cX4_usable 10 = .ok (.aload_n 0, 1) := by decide +kernel
theorem dX4_usable_11 : decode cX4_usable 11 = .ok (.getfield 28, 3) := by decide +kernel
theorem dX4_usable_14 : decode cX4_usable 14 = .ok (.iload_n 1, 1) := by decide +kernel
theorem dX4_usable_15 : decode cX4_usable 15 = .ok (.iaload, 1) := by decide +kernel
theorem dX4_usable_16 : decode cX4_usable 16 = .ok (.iload_n 2, 1) := by decide +kernel
theorem dX4_usable_17 : decode cX4_usable 17 = .ok (.if_icmp .le 7, 3) := by decide +kernel
theorem dX4_usable_20 : decode cX4_usable 20 = .ok (.iconst 1, 1) := by decide +kernel
theorem dX4_usable_21 : decode cX4_usable 21 = .ok (.goto 4, 3) := by decide +kernel
theorem dX4_usable_24 : decode cX4_usable 24 = .ok (.iconst 0, 1) := by decide +kernel
theorem dX4_usable_25 : decode cX4_usable 25 = .ok (.ireturn, 1) := by decide +kernel
set_option maxRecDepth 20000 in
theorem ggX4_become_X6_copyRow : GoodIn wsX4_become wsX6_copyRow := goodIn_r _ [9, 10, 11, 12, 13, 14, 15, 16, 17] (by decide +kernel) (by decide +kernel)
set_option maxRecDepth 20000 in
theorem gX4_become_X6_copyRow_n48 : GoodIn wsX4_become (wsX6_copyRow) := ggX4_become_X6_copyRow
theorem dX4_become_0 : decode cX4_become 0 = .ok (.aload_n 1, 1) := by decide +kernel
theorem dX4_become_1 : decode cX4_become 1 = .ok (.getfield 9, 3) := by decide +kernel
theorem dX4_become_4 : decode cX4_become 4 = .ok (.aload_n 0, 1) := by decide +kernel
theorem dX4_become_5 : decode cX4_become 5 = .ok (.getfield 9, 3) := by decide +kernel
theorem dX4_become_8 : decode cX4_become 8 = .ok (.invokestatic 48, 3) := by decide +kernel
theorem dX4_become_11 : decode cX4_become 11 = .ok (.aload_n 1, 1) := by decide +kernel
theorem dX4_become_12 : decode cX4_become 12 = .ok (.getfield 19, 3) := by decide +kernel
theorem dX4_become_15 : decode cX4_become 15 = .ok (.aload_n 0, 1) := by decide +kernel
theorem dX4_become_16 : decode cX4_become 16 = .ok (.getfield 19, 3) := by decide +kernel
theorem dX4_become_19 : decode cX4_become 19 = .ok (.invokestatic 48, 3) := by decide +kernel
theorem dX4_become_22 : decode cX4_become 22 = .ok (.aload_n 1, 1) := by decide +kernel
theorem dX4_become_23 : decode cX4_become 23 = .ok (.getfield 22, 3) := by decide +kernel
theorem dX4_become_26 : decode cX4_become 26 = .ok (.aload_n 0, 1) := by decide +kernel
theorem dX4_become_27 : decode cX4_become 27 = .ok (.getfield 22, 3) := by decide +kernel
theorem dX4_become_30 : decode cX4_become 30 = .ok (.invokestatic 48, 3) := by decide +kernel
theorem dX4_become_33 : decode cX4_become 33 = .ok (.aload_n 1, 1) := by decide +kernel
theorem dX4_become_34 : decode cX4_become 34 = .ok (.getfield 25, 3) := by decide +kernel
theorem dX4_become_37 : decode cX4_become 37 = .ok (.aload_n 0, 1) := by decide +kernel
theorem dX4_become_38 : decode cX4_become 38 = .ok (.getfield 25, 3) := by decide +kernel
theorem dX4_become_41 : decode cX4_become 41 = .ok (.invokestatic 48, 3) := by decide +kernel
theorem dX4_become_44 : decode cX4_become 44 = .ok (.aload_n 1, 1) := by decide +kernel
theorem dX4_become_45 : decode cX4_become 45 = .ok (.getfield 28, 3) := by decide +kernel
theorem dX4_become_48 : decode cX4_become 48 = .ok (.aload_n 0, 1) := by decide +kernel
theorem dX4_become_49 : decode cX4_become 49 = .ok (.getfield 28, 3) := by decide +kernel
theorem dX4_become_52 : decode cX4_become 52 = .ok (.invokestatic 48, 3) := by decide +kernel
theorem dX4_become_55 : decode cX4_become 55 = .ok (.aload_n 1, 1) := by decide +kernel
theorem dX4_become_56 : decode cX4_become 56 = .ok (.getfield 31, 3) := by decide +kernel
theorem dX4_become_59 : decode cX4_become 59 = .ok (.aload_n 0, 1) := by decide +kernel
theorem dX4_become_60 : decode cX4_become 60 = .ok (.getfield 31, 3) := by decide +kernel
theorem dX4_become_63 : decode cX4_become 63 = .ok (.invokestatic 48, 3) := by decide +kernel
theorem dX4_become_66 : decode cX4_become 66 = .ok (.return_, 1) := by decide +kernel
set_option maxRecDepth 20000 in
theorem ggX5_init_X6_filledRow : GoodIn wsX5_init wsX6_filledRow := goodIn_r _ [14, 15, 16, 17, 18, 4, 19, 20, 21, 22] (by decide +kernel) (by decide +kernel)
set_option maxRecDepth 20000 in
theorem gX5_init_X6_filledRow_n15 : GoodIn wsX5_init (wsX6_filledRow) := ggX5_init_X6_filledRow
theorem dX5_init_0 : decode cX5_init 0 = .ok (.aload_n 0, 1) := by decide +kernel
theorem dX5_init_1 : decode cX5_init 1 = .ok (.invokespecial 3, 3) := by decide +kernel
theorem dX5_init_4 : decode cX5_init 4 = .ok (.aload_n 0, 1) := by decide +kernel
theorem dX5_init_5 : decode cX5_init 5 = .ok (.bipush 100, 2) := by decide +kernel
theorem dX5_init_7 : decode cX5_init 7 = .ok (.newarray .int, 2) := by decide +kernel
theorem dX5_init_9 : decode cX5_init 9 = .ok (.putfield 9, 3) := by decide +kernel
theorem dX5_init_12 : decode cX5_init 12 = .ok (.aload_n 0, 1) := by decide +kernel
theorem dX5_init_13 : decode cX5_init 13 = .ok (.bipush 100, 2) := by decide +kernel
theorem dX5_init_15 : decode cX5_init 15 = .ok (.iconst (-1), 1) := by decide +kernel
theorem dX5_init_16 : decode cX5_init 16 = .ok (.invokestatic 15, 3) := by decide +kernel
theorem dX5_init_19 : decode cX5_init 19 = .ok (.putfield 19, 3) := by decide +kernel
theorem dX5_init_22 : decode cX5_init 22 = .ok (.aload_n 0, 1) := by decide +kernel
theorem dX5_init_23 : decode cX5_init 23 = .ok (.bipush 100, 2) := by decide +kernel
theorem dX5_init_25 : decode cX5_init 25 = .ok (.newarray .int, 2) := by decide +kernel
theorem dX5_init_27 : decode cX5_init 27 = .ok (.putfield 22, 3) := by decide +kernel
theorem dX5_init_30 : decode cX5_init 30 = .ok (.aload_n 0, 1) := by decide +kernel
theorem dX5_init_31 : decode cX5_init 31 = .ok (.bipush 100, 2) := by decide +kernel
theorem dX5_init_33 : decode cX5_init 33 = .ok (.newarray .int, 2) := by decide +kernel
theorem dX5_init_35 : decode cX5_init 35 = .ok (.putfield 25, 3) := by decide +kernel
theorem dX5_init_38 : decode cX5_init 38 = .ok (.aload_n 0, 1) := by decide +kernel
theorem dX5_init_39 : decode cX5_init 39 = .ok (.bipush 100, 2) := by decide +kernel
theorem dX5_init_41 : decode cX5_init 41 = .ok (.newarray .int, 2) := by decide +kernel
theorem dX5_init_43 : decode cX5_init 43 = .ok (.putfield 28, 3) := by decide +kernel
theorem dX5_init_46 : decode cX5_init 46 = .ok (.aload_n 0, 1) := by decide +kernel
theorem dX5_init_47 : decode cX5_init 47 = .ok (.sipush 400, 3) := by decide +kernel
theorem dX5_init_50 : decode cX5_init 50 = .ok (.newarray .int, 2) := by decide +kernel
theorem dX5_init_52 : decode cX5_init 52 = .ok (.putfield 31, 3) := by decide +kernel
theorem dX5_init_55 : decode cX5_init 55 = .ok (.aload_n 0, 1) := by decide +kernel
theorem dX5_init_56 : decode cX5_init 56 = .ok (.iconst (-1), 1) := by decide +kernel
theorem dX5_init_57 : decode cX5_init 57 = .ok (.putfield 34, 3) := by decide +kernel
theorem dX5_init_60 : decode cX5_init 60 = .ok (.return_, 1) := by decide +kernel
theorem dX5_isIdle_0 : decode cX5_isIdle 0 = .ok (.aload_n 0, 1) := by decide +kernel
theorem dX5_isIdle_1 : decode cX5_isIdle 1 = .ok (.getfield 9, 3) := by decide +kernel
theorem dX5_isIdle_4 : decode cX5_isIdle 4 = .ok (.iload_n 1, 1) := by decide +kernel
theorem dX5_isIdle_5 : decode cX5_isIdle 5 = .ok (.iaload, 1) := by decide +kernel
theorem dX5_isIdle_6 : decode cX5_isIdle 6 = .ok (.ifCond .ne 7, 3) := by decide +kernel
theorem dX5_isIdle_9 : decode cX5_isIdle 9 = .ok (.iconst 1, 1) := by decide +kernel
theorem dX5_isIdle_10 : decode cX5_isIdle 10 = .ok (.goto 4, 3) := by decide +kernel
theorem dX5_isIdle_13 : decode cX5_isIdle 13 = .ok (.iconst 0, 1) := by decide +kernel
theorem dX5_isIdle_14 : decode cX5_isIdle 14 = .ok (.ireturn, 1) := by decide +kernel
theorem dX5_begin_0 : decode cX5_begin 0 = .ok (.aload_n 0, 1) := by decide +kernel
theorem dX5_begin_1 : decode cX5_begin 1 = .ok (.getfield 9, 3) := by decide +kernel
theorem dX5_begin_4 : decode cX5_begin 4 = .ok (.iload_n 1, 1) := by decide +kernel
theorem dX5_begin_5 : decode cX5_begin 5 = .ok (.iload_n 2, 1) := by decide +kernel
theorem dX5_begin_6 : decode cX5_begin 6 = .ok (.iastore, 1) := by decide +kernel
theorem dX5_begin_7 : decode cX5_begin 7 = .ok (.aload_n 0, 1) := by decide +kernel
theorem dX5_begin_8 : decode cX5_begin 8 = .ok (.getfield 25, 3) := by decide +kernel
theorem dX5_begin_11 : decode cX5_begin 11 = .ok (.iload_n 1, 1) := by decide +kernel
theorem dX5_begin_12 : decode cX5_begin 12 = .ok (.iconst 0, 1) := by decide +kernel
theorem dX5_begin_13 : decode cX5_begin 13 = .ok (.iastore, 1) := by decide +kernel
theorem dX5_begin_14 : decode cX5_begin 14 = .ok (.return_, 1) := by decide +kernel
set_option maxRecDepth 20000 in
theorem ggX5_waitUntil_X5_findDue : GoodIn wsX5_waitUntil wsX5_findDue := goodIn_r _ [7, 8, 2, 9, 10, 11, 12, 13, 14, 15] (by decide +kernel) (by decide +kernel)
set_option maxRecDepth 20000 in
theorem gX5_waitUntil_X5_findDue : GoodIn wsX5_waitUntil (wsV RX5 38 RX5 yX5_findDue wsX5_findDue) := goodIn_app (goodIn_of _ (by decide +kernel)) ggX5_waitUntil_X5_findDue
theorem dX5_waitUntil_0 : decode cX5_waitUntil 0 = .ok (.aload_n 0, 1) := by decide +kernel
theorem dX5_waitUntil_1 : decode cX5_waitUntil 1 = .ok (.getfield 22, 3) := by decide +kernel
theorem dX5_waitUntil_4 : decode cX5_waitUntil 4 = .ok (.iload_n 1, 1) := by decide +kernel
theorem dX5_waitUntil_5 : decode cX5_waitUntil 5 = .ok (.iload_n 2, 1) := by decide +kernel
theorem dX5_waitUntil_6 : decode cX5_waitUntil 6 = .ok (.iastore, 1) := by decide +kernel
theorem dX5_waitUntil_7 : decode cX5_waitUntil 7 = .ok (.aload_n 0, 1) := by decide +kernel
theorem dX5_waitUntil_8 : decode cX5_waitUntil 8 = .ok (.getfield 19, 3) := by decide +kernel
theorem dX5_waitUntil_11 : decode cX5_waitUntil 11 = .ok (.iload_n 1, 1) := by decide +kernel
theorem dX5_waitUntil_12 : decode cX5_waitUntil 12 = .ok (.iload_n 3, 1) := by decide +kernel
theorem dX5_waitUntil_13 : decode cX5_waitUntil 13 = .ok (.iastore, 1) := by decide +kernel
theorem dX5_waitUntil_14 : decode cX5_waitUntil 14 = .ok (.aload_n 0, 1) := by decide +kernel
theorem dX5_waitUntil_15 : decode cX5_waitUntil 15 = .ok (.invokevirtual 38, 3) := by decide +kernel
theorem dX5_waitUntil_18 : decode cX5_waitUntil 18 = .ok (.return_, 1) := by decide +kernel
set_option maxRecDepth 20000 in
theorem ggX5_end_X5_findDue : GoodIn wsX5_end wsX5_findDue := goodIn_r _ [7, 8, 2, 9, 10, 11, 12, 13, 14, 15] (by decide +kernel) (by decide +kernel)
set_option maxRecDepth 20000 in
theorem gX5_end_X5_findDue : GoodIn wsX5_end (wsV RX5 38 RX5 yX5_findDue wsX5_findDue) := goodIn_app (goodIn_of _ (by decide +kernel)) ggX5_end_X5_findDue
theorem dX5_end_0 : decode cX5_end 0 = .ok (.aload_n 0, 1) := by decide +kernel
theorem dX5_end_1 : decode cX5_end 1 = .ok (.getfield 9, 3) := by decide +kernel
theorem dX5_end_4 : decode cX5_end 4 = .ok (.iload_n 1, 1) := by decide +kernel
theorem dX5_end_5 : decode cX5_end 5 = .ok (.iconst 0, 1) := by decide +kernel
theorem dX5_end_6 : decode cX5_end 6 = .ok (.iastore, 1) := by decide +kernel
theorem dX5_end_7 : decode cX5_end 7 = .ok (.aload_n 0, 1) := by decide +kernel
theorem dX5_end_8 : decode cX5_end 8 = .ok (.getfield 19, 3) := by decide +kernel
theorem dX5_end_11 : decode cX5_end 11 = .ok (.iload_n 1, 1) := by decide +kernel
theorem dX5_end_12 : decode cX5_end 12 = .ok (.iconst (-1), 1) := by decide +kernel
theorem dX5_end_13 : decode cX5_end 13 = .ok (.iastore, 1) := by decide +kernel
theorem dX5_end_14 : decode cX5_end 14 = .ok (.aload_n 0, 1) := by decide +kernel
theorem dX5_end_15 : decode cX5_end 15 = .ok (.invokevirtual 38, 3) := by decide +kernel
theorem dX5_end_18 : decode cX5_end 18 = .ok (.return_, 1) := by decide +kernel
theorem dX5_findDue_0 : decode cX5_findDue 0 = .ok (.aload_n 0, 1) := by decide +kernel
theorem dX5_findDue_1 : decode cX5_findDue 1 = .ok (.iconst (-1), 1) := by decide +kernel
theorem dX5_findDue_2 : decode cX5_findDue 2 = .ok (.putfield 34, 3) := by decide +kernel
theorem dX5_findDue_5 : decode cX5_findDue 5 = .ok (.iconst 0, 1) := by decide +kernel
theorem dX5_findDue_6 : decode cX5_findDue 6 = .ok (.istore_n 1, 1) := by decide +kernel
theorem dX5_findDue_7 : decode cX5_findDue 7 = .ok (.iload_n 1, 1) := by decide +kernel
theorem dX5_findDue_8 : decode cX5_findDue 8 = .ok (.bipush 100, 2) := by decide +kernel
theorem dX5_findDue_10 : decode cX5_findDue 10 = .ok (.if_icmp .ge 50, 3) := by decide +kernel
theorem dX5_findDue_13 : decode cX5_findDue 13 = .ok (.aload_n 0, 1) := by decide +kernel
theorem dX5_findDue_14 : decode cX5_findDue 14 = .ok (.getfield 19, 3) := by decide +kernel
theorem dX5_findDue_17 : decode cX5_findDue 17 = .ok (.iload_n 1, 1) := by decide +kernel
theorem dX5_findDue_18 : decode cX5_findDue 18 = .ok (.iaload, 1) := by decide +kernel
theorem dX5_findDue_19 : decode cX5_findDue 19 = .ok (.iconst (-1), 1) := by decide +kernel
theorem dX5_findDue_20 : decode cX5_findDue 20 = .ok (.if_icmp .eq 34, 3) := by decide +kernel
theorem dX5_findDue_23 : decode cX5_findDue 23 = .ok (.aload_n 0, 1) := by decide +kernel
theorem dX5_findDue_24 : decode cX5_findDue 24 = .ok (.getfield 34, 3) := by decide +kernel
theorem dX5_findDue_27 : decode cX5_findDue 27 = .ok (.iconst (-1), 1) := by decide +kernel
theorem dX5_findDue_28 : decode cX5_findDue 28 = .ok (.if_icmp .eq 21, 3) := by decide +kernel
theorem dX5_findDue_31 : decode cX5_findDue 31 = .ok (.aload_n 0, 1) := by decide +kernel
theorem dX5_findDue_32 : decode cX5_findDue 32 = .ok (.getfield 19, 3) := by decide +kernel
theorem dX5_findDue_35 : decode cX5_findDue 35 = .ok (.iload_n 1, 1) := by decide +kernel
theorem dX5_findDue_36 : decode cX5_findDue 36 = .ok (.iaload, 1) := by decide +kernel
theorem dX5_findDue_37 : decode cX5_findDue 37 = .ok (.aload_n 0, 1) := by decide +kernel
theorem dX5_findDue_38 : decode cX5_findDue 38 = .ok (.getfield 19, 3) := by decide +kernel
theorem dX5_findDue_41 : decode cX5_findDue 41 = .ok (.aload_n 0, 1) := by decide +kernel
theorem dX5_findDue_42 : decode cX5_findDue 42 = .ok (.getfield 34, 3) := by decide +kernel
theorem dX5_findDue_45 : decode cX5_findDue 45 = .ok (.iaload, 1) := by decide +kernel
theorem dX5_findDue_46 : decode cX5_findDue 46 = .ok (.if_icmp .ge 8, 3) := by decide +kernel
theorem dX5_findDue_49 : decode cX5_findDue 49 = .ok (.aload_n 0, 1) := by decide +kernel
theorem dX5_findDue_50 : decode cX5_findDue 50 = .ok (.iload_n 1, 1) := by decide +kernel
theorem dX5_findDue_51 : decode cX5_findDue 51 = .ok (.putfield 34, 3) := by decide +kernel
theorem dX5_findDue_54 : decode cX5_findDue 54 = .ok (.iinc 1 1, 3) := by decide +kernel
theorem dX5_findDue_57 : decode cX5_findDue 57 = .ok (.goto (-50), 3) := by decide +kernel
theorem dX5_findDue_60 : decode cX5_findDue 60 = .ok (.return_, 1) := by decide +kernel
theorem dX5_nextDeadline_0 : decode cX5_nextDeadline 0 = .ok (.aload_n 0, 1) := by decide +kernel
theorem dX5_nextDeadline_1 : decode cX5_nextDeadline 1 = .ok (.getfield 34, 3) := by decide +kernel
theorem dX5_nextDeadline_4 : decode cX5_nextDeadline 4 = .ok (.iconst (-1), 1) := by decide +kernel
theorem dX5_nextDeadline_5 : decode cX5_nextDeadline 5 = .ok (.if_icmp .ne 7, 3) := by decide +kernel
theorem dX5_nextDeadline_8 : decode cX5_nextDeadline 8 = .ok (.iconst (-1), 1) := by decide +kernel
theorem dX5_nextDeadline_9 : decode cX5_nextDeadline 9 = .ok (.goto 12, 3) := by decide +kernel
theorem dX5_nextDeadline_12 : decode cX5_nextDeadline 12 = .ok (.aload_n 0, 1) := by decide +kernel
theorem dX5_nextDeadline_13 : decode cX5_nextDeadline 13 = .ok (.getfield 19, 3) := by decide +kernel
theorem dX5_nextDeadline_16 : decode cX5_nextDeadline 16 = .ok (.aload_n 0, 1) := by decide +kernel
theorem dX5_nextDeadline_17 : decode cX5_nextDeadline 17 = .ok (.getfield 34, 3) := by decide +kernel
theorem dX5_nextDeadline_20 : decode cX5_nextDeadline 20 = .ok (.iaload, 1) := by decide +kernel
theorem dX5_nextDeadline_21 : decode cX5_nextDeadline 21 = .ok (.ireturn, 1) := by decide +kernel
theorem dX5_isFull_0 : decode cX5_isFull 0 = .ok (.aload_n 0, 1) := by decide +kernel
theorem dX5_isFull_1 : decode cX5_isFull 1 = .ok (.getfield 28, 3) := by decide +kernel
theorem dX5_isFull_4 : decode cX5_isFull 4 = .ok (.iload_n 1, 1) := by decide +kernel
theorem dX5_isFull_5 : decode cX5_isFull 5 = .ok (.iaload, 1) := by decide +kernel
theorem dX5_isFull_6 : decode cX5_isFull 6 = .ok (.iconst 4, 1) := by decide +kernel
theorem dX5_isFull_7 : decode cX5_isFull 7 = .ok (.if_icmp .lt 7, 3) := by decide +kernel
theorem dX5_isFull_10 : decode cX5_isFull 10 = .ok (.iconst 1, 1) := by decide +kernel
theorem dX5_isFull_11 : decode cX5_isFull 11 = .ok (.goto 4, 3) := by decide +kernel
theorem dX5_isFull_14 : decode cX5_isFull 14 = .ok (.iconst 0, 1) := by decide +kernel
theorem dX5_isFull_15 : decode cX5_isFull 15 = .ok (.ireturn, 1) := by decide +kernel
set_option maxRecDepth 20000 in
theorem ggX5_hold_X5_isFull : GoodIn wsX5_hold wsX5_isFull := goodIn_r _ [7, 2, 8, 9, 10, 11, 12, 13, 14] (by decide +kernel) (by decide +kernel)
set_option maxRecDepth 20000 in
theorem gX5_hold_X5_isFull : GoodIn wsX5_hold (wsV RX5 41 RX5 yX5_isFull wsX5_isFull) := goodIn_app (goodIn_of _ (by decide +kernel)) ggX5_hold_X5_isFull
theorem dX5_hold_0 : decode cX5_hold 0 = .ok (.aload_n 0, 1) := by decide +kernel
theorem dX5_hold_1 : decode cX5_hold 1 = .ok (.iload_n 1, 1) := by decide +kernel
theorem dX5_hold_2 : decode cX5_hold 2 = .ok (.invokevirtual 41, 3) := by decide +kernel
theorem dX5_hold_5 : decode cX5_hold 5 = .ok (.ifCond .ne 29, 3) := by decide +kernel
theorem dX5_hold_8 : decode cX5_hold 8 = .ok (.aload_n 0, 1) := by decide +kernel
theorem dX5_hold_9 : decode cX5_hold 9 = .ok (.getfield 31, 3) := by decide +kernel
theorem dX5_hold_12 : decode cX5_hold 12 = .ok (.iload_n 1, 1) := by decide +kernel
theorem dX5_hold_13 : decode cX5_hold 13 = .ok (.iconst 4, 1) := by decide +kernel
theorem dX5_hold_14 : decode cX5_hold 14 = .ok (.imul, 1) := by decide +kernel
theorem dX5_hold_15 : decode cX5_hold 15 = .ok (.aload_n 0, 1) := by decide +kernel
theorem dX5_hold_16 : decode cX5_hold 16 = .ok (.getfield 28, 3) := by decide +kernel
theorem dX5_hold_19 : decode cX5_hold 19 = .ok (.iload_n 1, 1) := by decide +kernel
theorem dX5_hold_20 : decode cX5_hold 20 = .ok (.iaload, 1) := by decide +kernel
theorem dX5_hold_21 : decode cX5_hold 21 = .ok (.iadd, 1) := by decide +kernel
theorem dX5_hold_22 : decode cX5_hold 22 = .ok (.iload_n 2, 1) := by decide +kernel
theorem dX5_hold_23 : decode cX5_hold 23 = .ok (.iastore, 1) := by decide +kernel
theorem dX5_hold_24 : decode cX5_hold 24 = .ok (.aload_n 0, 1) := by decide +kernel
theorem dX5_hold_25 : decode cX5_hold 25 = .ok (.getfield 28, 3) := by decide +kernel
theorem dX5_hold_28 : decode cX5_hold 28 = .ok (.iload_n 1, 1) := by decide +kernel
theorem dX5_hold_29 : decode cX5_hold 29 = .ok (.dup2, 1) := by decide +kernel
theorem dX5_hold_30 : decode cX5_hold 30 = .ok (.iaload, 1) := by decide +kernel
theorem dX5_hold_31 : decode cX5_hold 31 = .ok (.iconst 1, 1) := by decide +kernel
theorem dX5_hold_32 : decode cX5_hold 32 = .ok (.iadd, 1) := by decide +kernel
theorem dX5_hold_33 : decode cX5_hold 33 = .ok (.iastore, 1) := by decide +kernel
theorem dX5_hold_34 : decode cX5_hold 34 = .ok (.return_, 1) := by decide +kernel
theorem dX5_takeOldest_0 : decode cX5_takeOldest 0 = .ok (.aload_n 0, 1) := by decide +kernel
theorem dX5_takeOldest_1 : decode cX5_takeOldest 1 = .ok (.getfield 28, 3) := by decide +kernel
theorem dX5_takeOldest_4 : decode cX5_takeOldest 4 = .ok (.iload_n 1, 1) := by decide +kernel
theorem dX5_takeOldest_5 : decode cX5_takeOldest 5 = .ok (.iaload, 1) := by decide +kernel
theorem dX5_takeOldest_6 : decode cX5_takeOldest 6 = .ok (.ifCond .ne 5, 3) := by decide +kernel
theorem dX5_takeOldest_9 : decode cX5_takeOldest 9 = .ok (.iconst (-1), 1) := by decide +kernel
theorem dX5_takeOldest_10 : decode cX5_takeOldest 10 = .ok (.ireturn, 1) := by decide +kernel
theorem dX5_takeOldest_11 : decode cX5_takeOldest 11 = .ok (.iload_n 1, 1) := by decide +kernel
theorem dX5_takeOldest_12 : decode cX5_takeOldest 12 = .ok (.iconst 4, 1) := by decide +kernel
theorem dX5_takeOldest_13 : decode cX5_takeOldest 13 = .ok (.imul, 1) := by decide +kernel
theorem dX5_takeOldest_14 : decode cX5_takeOldest 14 = .ok (.istore_n 2, 1) := by decide +kernel
theorem dX5_takeOldest_15 : decode cX5_takeOldest 15 = .ok (.aload_n 0, 1) := by decide +kernel
theorem dX5_takeOldest_16 : decode cX5_takeOldest 16 = .ok (.getfield 31, 3) := by decide +kernel
theorem dX5_takeOldest_19 : decode cX5_takeOldest 19 = .ok (.iload_n 2, 1) := by decide +kernel
theorem dX5_takeOldest_20 : decode cX5_takeOldest 20 = .ok (.iaload, 1) := by decide +kernel
theorem dX5_takeOldest_21 : decode cX5_takeOldest 21 = .ok (.istore_n 3, 1) := by decide +kernel
theorem dX5_takeOldest_22 : decode cX5_takeOldest 22 = .ok (.aload_n 0, 1) := by decide +kernel
theorem dX5_takeOldest_23 : decode cX5_takeOldest 23 = .ok (.getfield 28, 3) := by decide +kernel
theorem dX5_takeOldest_26 : decode cX5_takeOldest 26 = .ok (.iload_n 1, 1) := by decide +kernel
theorem dX5_takeOldest_27 : decode cX5_takeOldest 27 = .ok (.dup2, 1) := by decide +kernel
theorem dX5_takeOldest_28 : decode cX5_takeOldest 28 = .ok (.iaload, 1) := by decide +kernel
theorem dX5_takeOldest_29 : decode cX5_takeOldest 29 = .ok (.iconst 1, 1) := by decide +kernel
theorem dX5_takeOldest_30 : decode cX5_takeOldest 30 = .ok (.isub, 1) := by decide +kernel
theorem dX5_takeOldest_31 : decode cX5_takeOldest 31 = .ok (.iastore, 1) := by decide +kernel
theorem dX5_takeOldest_32 : decode cX5_takeOldest 32 = .ok (.aload_n 0, 1) := by decide +kernel
theorem dX5_takeOldest_33 : decode cX5_takeOldest 33 = .ok (.getfield 31, 3) := by decide +kernel
theorem dX5_takeOldest_36 : decode cX5_takeOldest 36 = .ok (.iload_n 2, 1) := by decide +kernel
theorem dX5_takeOldest_37 : decode cX5_takeOldest 37 = .ok (.iconst 1, 1) := by decide +kernel
theorem dX5_takeOldest_38 : decode cX5_takeOldest 38 = .ok (.iadd, 1) := by decide +kernel
theorem dX5_takeOldest_39 : decode cX5_takeOldest 39 = .ok (.aload_n 0, 1) := by decide +kernel
theorem dX5_takeOldest_40 : decode cX5_takeOldest 40 = .ok (.getfield 31, 3) := by decide +kernel
theorem dX5_takeOldest_43 : decode cX5_takeOldest 43 = .ok (.iload_n 2, 1) := by decide +kernel
theorem dX5_takeOldest_44 : decode cX5_takeOldest 44 = .ok (.aload_n 0, 1) := by decide +kernel
theorem dX5_takeOldest_45 : decode cX5_takeOldest 45 = .ok (.getfield 28, 3) := by decide +kernel
theorem dX5_takeOldest_48 : decode cX5_takeOldest 48 = .ok (.iload_n 1, 1) := by decide +kernel
theorem dX5_takeOldest_49 : decode cX5_takeOldest 49 = .ok (.iaload, 1) := by decide +kernel
theorem dX5_takeOldest_50 : decode cX5_takeOldest 50 = .ok (.invokestatic 45, 3) := by decide +kernel
theorem dX5_takeOldest_53 : decode cX5_takeOldest 53 = .ok (.iload_n 3, 1) := by decide +kernel
theorem dX5_takeOldest_54 : decode cX5_takeOldest 54 = .ok (.ireturn, 1) := by decide +kernel
set_option maxRecDepth 20000 in
theorem ggX5_become_X6_copyRow : GoodIn wsX5_become wsX6_copyRow := goodIn_r _ [10, 11, 12, 13, 14, 15, 16, 17, 18] (by decide +kernel) (by decide +kernel)
set_option maxRecDepth 20000 in
theorem gX5_become_X6_copyRow_n51 : GoodIn wsX5_become (wsX6_copyRow) := ggX5_become_X6_copyRow
theorem dX5_become_0 : decode cX5_become 0 = .ok (.aload_n 1, 1) := by decide +kernel
theorem dX5_become_1 : decode cX5_become 1 = .ok (.getfield 9, 3) := by decide +kernel
theorem dX5_become_4 : decode cX5_become 4 = .ok (.aload_n 0, 1) := by decide +kernel
theorem dX5_become_5 : decode cX5_become 5 = .ok (.getfield 9, 3) := by decide +kernel
theorem dX5_become_8 : decode cX5_become 8 = .ok (.invokestatic 51, 3) := by decide +kernel
theorem dX5_become_11 : decode cX5_become 11 = .ok (.aload_n 1, 1) := by decide +kernel
theorem dX5_become_12 : decode cX5_become 12 = .ok (.getfield 19, 3) := by decide +kernel
theorem dX5_become_15 : decode cX5_become 15 = .ok (.aload_n 0, 1) := by decide +kernel
theorem dX5_become_16 : decode cX5_become 16 = .ok (.getfield 19, 3) := by decide +kernel
theorem dX5_become_19 : decode cX5_become 19 = .ok (.invokestatic 51, 3) := by decide +kernel
theorem dX5_become_22 : decode cX5_become 22 = .ok (.aload_n 1, 1) := by decide +kernel
theorem dX5_become_23 : decode cX5_become 23 = .ok (.getfield 22, 3) := by decide +kernel
theorem dX5_become_26 : decode cX5_become 26 = .ok (.aload_n 0, 1) := by decide +kernel
theorem dX5_become_27 : decode cX5_become 27 = .ok (.getfield 22, 3) := by decide +kernel
theorem dX5_become_30 : decode cX5_become 30 = .ok (.invokestatic 51, 3) := by decide +kernel
theorem dX5_become_33 : decode cX5_become 33 = .ok (.aload_n 1, 1) := by decide +kernel
theorem dX5_become_34 : decode cX5_become 34 = .ok (.getfield 25, 3) := by decide +kernel
theorem dX5_become_37 : decode cX5_become 37 = .ok (.aload_n 0, 1) := by decide +kernel
theorem dX5_become_38 : decode cX5_become 38 = .ok (.getfield 25, 3) := by decide +kernel
theorem dX5_become_41 : decode cX5_become 41 = .ok (.invokestatic 51, 3) := by decide +kernel
theorem dX5_become_44 : decode cX5_become 44 = .ok (.aload_n 1, 1) := by decide +kernel
theorem dX5_become_45 : decode cX5_become 45 = .ok (.getfield 28, 3) := by decide +kernel
theorem dX5_become_48 : decode cX5_become 48 = .ok (.aload_n 0, 1) := by decide +kernel
theorem dX5_become_49 : decode cX5_become 49 = .ok (.getfield 28, 3) := by decide +kernel
theorem dX5_become_52 : decode cX5_become 52 = .ok (.invokestatic 51, 3) := by decide +kernel
theorem dX5_become_55 : decode cX5_become 55 = .ok (.aload_n 1, 1) := by decide +kernel
theorem dX5_become_56 : decode cX5_become 56 = .ok (.getfield 31, 3) := by decide +kernel
theorem dX5_become_59 : decode cX5_become 59 = .ok (.aload_n 0, 1) := by decide +kernel
theorem dX5_become_60 : decode cX5_become 60 = .ok (.getfield 31, 3) := by decide +kernel
theorem dX5_become_63 : decode cX5_become 63 = .ok (.invokestatic 51, 3) := by decide +kernel
theorem dX5_become_66 : decode cX5_become 66 = .ok (.aload_n 0, 1) := by decide +kernel
theorem dX5_become_67 : decode cX5_become 67 = .ok (.aload_n 1, 1) := by decide +kernel
theorem dX5_become_68 : decode cX5_become 68 = .ok (.getfield 34, 3) := by decide +kernel
theorem dX5_become_71 : decode cX5_become 71 = .ok (.putfield 34, 3) := by decide +kernel
theorem dX5_become_74 : decode cX5_become 74 = .ok (.return_, 1) := by decide +kernel
set_option maxRecDepth 20000 in
theorem ggX6_init_X2_init : GoodIn wsX6_init wsX2_init := goodIn_r _ [20, 21, 2, 3, 22, 23, 24, 25, 26, 27, 28, 29, 30, 31, 32, 33, 34, 35, 36, 37, 38, 39, 40, 41, 42, 43, 44, 45, 46, 47, 48, 49, 50, 51, 52, 53, 54, 55, 56, 57, 58, 59, 60, 61, 62, 63, 64, 8, 9, 6, 10, 65, 66, 67, 68, 69, 70, 71, 72, 73, 74, 75, 76, 77, 78, 79, 80, 81, 82, 83, 84, 85, 86, 87, 88, 89, 90, 91, 92, 93, 94, 95, 96, 97, 98, 99, 100, 101, 102, 103, 104, 110, 111, 112, 113, 114, 115, 116, 117, 118, 119, 120, 121, 122, 123, 124, 125, 126, 127, 128, 129, 130, 131, 132, 133, 134, 135, 136, 137, 138, 139, 140, 141, 142, 143, 144, 145, 146, 147, 148, 149, 150, 151, 152, 153, 154, 155, 156, 157, 158, 159, 160, 161, 162, 163] (by decide +kernel) (by decide +kernel)
set_option maxRecDepth 20000 in
theorem gX6_init_X2_init : GoodIn wsX6_init (wsX2_init) := ggX6_init_X2_init
theorem dX6_init_0 : decode cX6_init 0 = .ok (.aload_n 0, 1) := by decide +kernel
theorem dX6_init_1 : decode cX6_init 1 = .ok (.invokespecial 3, 3) := by decide +kernel
theorem dX6_init_4 : decode cX6_init 4 = .ok (.aload_n 0, 1) := by decide +kernel
theorem dX6_init_5 : decode cX6_init 5 = .ok (.iconst 2, 1) := by decide +kernel
theorem dX6_init_6 : decode cX6_init 6 = .ok (.bipush 10, 2) := by decide +kernel
theorem dX6_init_8 : decode cX6_init 8 = .ok (.iload_n 1, 1) := by decide +kernel
theorem dX6_init_9 : decode cX6_init 9 = .ok (.invokestatic 9, 3) := by decide +kernel
theorem dX6_init_12 : decode cX6_init 12 = .ok (.invokestatic 15, 3) := by decide +kernel
theorem dX6_init_15 : decode cX6_init 15 = .ok (.putfield 18, 3) := by decide +kernel
theorem dX6_init_18 : decode cX6_init 18 = .ok (.aload_n 0, 1) := by decide +kernel
theorem dX6_init_19 : decode cX6_init 19 = .ok (.new 22, 3) := by decide +kernel
theorem dX6_init_22 : decode cX6_init 22 = .ok (.dup, 1) := by decide +kernel
theorem dX6_init_23 : decode cX6_init 23 = .ok (.aload_n 0, 1) := by decide +kernel
theorem dX6_init_24 : decode cX6_init 24 = .ok (.getfield 18, 3) := by decide +kernel
theorem dX6_init_27 : decode cX6_init 27 = .ok (.invokespecial 24, 3) := by decide +kernel
theorem dX6_init_30 : decode cX6_init 30 = .ok (.putfield 27, 3) := by decide +kernel
theorem dX6_init_33 : decode cX6_init 33 = .ok (.aload_n 0, 1) := by decide +kernel
theorem dX6_init_34 : decode cX6_init 34 = .ok (.new 22, 3) := by decide +kernel
theorem dX6_init_37 : decode cX6_init 37 = .ok (.dup, 1) := by decide +kernel
theorem dX6_init_38 : decode cX6_init 38 = .ok (.aload_n 0, 1) := by decide +kernel
theorem dX6_init_39 : decode cX6_init 39 = .ok (.getfield 18, 3) := by decide +kernel
theorem dX6_init_42 : decode cX6_init 42 = .ok (.invokespecial 24, 3) := by decide +kernel
theorem dX6_init_45 : decode cX6_init 45 = .ok (.putfield 31, 3) := by decide +kernel
theorem dX6_init_48 : decode cX6_init 48 = .ok (.aload_n 0, 1) := by decide +kernel
theorem dX6_init_49 : decode cX6_init 49 = .ok (.new 22, 3) := by decide +kernel
theorem dX6_init_52 : decode cX6_init 52 = .ok (.dup, 1) := by decide +kernel
theorem dX6_init_53 : decode cX6_init 53 = .ok (.aload_n 0, 1) := by decide +kernel
theorem dX6_init_54 : decode cX6_init 54 = .ok (.getfield 18, 3) := by decide +kernel
theorem dX6_init_57 : decode cX6_init 57 = .ok (.invokespecial 24, 3) := by decide +kernel
theorem dX6_init_60 : decode cX6_init 60 = .ok (.putfield 34, 3) := by decide +kernel
theorem dX6_init_63 : decode cX6_init 63 = .ok (.return_, 1) := by decide +kernel
set_option maxRecDepth 20000 in
theorem ggX6_setLink_X6_checkTwoNodes : GoodIn wsX6_setLink wsX6_checkTwoNodes := goodIn_ca (goodIn_ca (goodIn_r _ [6, 7, 8, 9, 10, 11, 5, 12, 13, 14, 15, 16, 17, 18, 135, 136, 137, 138, 139] (by decide +kernel) (by decide +kernel)) (goodIn_sub (fun _ h => List.mem_cons_of_mem _ (List.mem_append_left _ (List.mem_append_right _ h))) (by decide +kernel))) (goodIn_sub (fun _ h => List.mem_cons_of_mem _ (List.mem_append_right _ h)) (by decide +kernel))
set_option maxRecDepth 20000 in
theorem gX6_setLink_X6_checkTwoNodes : GoodIn wsX6_setLink (wsV RX6 37 RX6 yX6_checkTwoNodes wsX6_checkTwoNodes) := goodIn_app (goodIn_of _ (by decide +kernel)) ggX6_setLink_X6_checkTwoNodes
set_option maxRecDepth 20000 in
theorem ggX6_setLink_X6_checkRange : GoodIn wsX6_setLink wsX6_checkRange := goodIn_ca (goodIn_r _ [21, 7, 8] (by decide +kernel) (by decide +kernel)) (goodIn_sub (fun _ h => List.mem_cons_of_mem _ (List.mem_append_left _ (List.mem_append_right _ h))) (by decide +kernel))
set_option maxRecDepth 20000 in
theorem gX6_setLink_X6_checkRange : GoodIn wsX6_setLink (va_wsS RX6 41 yX6_checkRange wsX6_checkRange) := goodIn_app (goodIn_of _ (by decide +kernel)) ggX6_setLink_X6_checkRange
set_option maxRecDepth 20000 in
theorem ggX6_setLink_X2_changeLink : GoodIn wsX6_setLink wsX2_changeLink := goodIn_r _ [26, 27, 28, 29, 30, 31, 32, 33, 34, 35, 36, 37, 38, 25, 39, 40, 41, 42, 43, 44, 45, 46, 47, 48, 49, 50, 51, 52, 53, 54, 55, 56, 57, 58, 59, 60, 61, 62, 63, 64, 65, 66, 67, 68, 69, 70, 71, 72, 73, 74, 75, 76, 77, 78, 79, 80, 81, 82, 83, 84, 85, 86, 87, 88, 5, 89, 90, 91, 92, 93, 94, 95, 96, 97, 98, 99, 100, 101, 102, 103, 104, 105, 106, 107, 108, 109, 110, 111, 112, 113, 114, 115, 116, 117, 118, 119, 120, 121, 122, 123, 124, 125, 126, 127, 128, 129, 130, 131, 132, 133, 134, 140, 141, 142, 143, 144, 145, 146, 147, 148, 149, 150, 151, 152, 153, 154, 155, 156, 157, 158, 159, 160, 161, 162, 163, 164, 165, 166, 167, 168, 169, 170, 171, 172, 173, 174, 175, 176, 177, 178, 179, 180, 181, 182, 183, 184, 185, 186] (by decide +kernel) (by decide +kernel)
set_option maxRecDepth 20000 in
theorem gX6_setLink_X2_changeLink : GoodIn wsX6_setLink (wsV RX6 45 RX2 yX2_changeLink wsX2_changeLink) := goodIn_app (goodIn_of _ (by decide +kernel)) ggX6_setLink_X2_changeLink
theorem dX6_setLink_0 : decode cX6_setLink 0 = .ok (.aload_n 0, 1) := by decide +kernel
theorem dX6_setLink_1 : decode cX6_setLink 1 = .ok (.iload_n 1, 1) := by decide +kernel
theorem dX6_setLink_2 : decode cX6_setLink 2 = .ok (.iload_n 2, 1) := by decide +kernel
theorem dX6_setLink_3 : decode cX6_setLink 3 = .ok (.invokevirtual 37, 3) := by decide +kernel
theorem dX6_setLink_6 : decode cX6_setLink 6 = .ok (.iload_n 3, 1) := by decide +kernel
theorem dX6_setLink_7 : decode cX6_setLink 7 = .ok (.iconst 0, 1) := by decide +kernel
theorem dX6_setLink_8 : decode cX6_setLink 8 = .ok (.bipush 9, 2) := by decide +kernel
theorem dX6_setLink_10 : decode cX6_setLink 10 = .ok (.invokestatic 41, 3) := by decide +kernel
theorem dX6_setLink_13 : decode cX6_setLink 13 = .ok (.aload_n 0, 1) := by decide +kernel
theorem dX6_setLink_14 : decode cX6_setLink 14 = .ok (.getfield 27, 3) := by decide +kernel
theorem dX6_setLink_17 : decode cX6_setLink 17 = .ok (.iload_n 1, 1) := by decide +kernel
theorem dX6_setLink_18 : decode cX6_setLink 18 = .ok (.iload_n 2, 1) := by decide +kernel
theorem dX6_setLink_19 : decode cX6_setLink 19 = .ok (.iload_n 3, 1) := by decide +kernel
theorem dX6_setLink_20 : decode cX6_setLink 20 = .ok (.invokevirtual 45, 3) := by decide +kernel
theorem dX6_setLink_23 : decode cX6_setLink 23 = .ok (.ireturn, 1) := by decide +kernel
set_option maxRecDepth 20000 in
theorem ggX6_link_X6_checkNodes : GoodIn wsX6_link wsX6_checkNodes := goodIn_ca (goodIn_r _ [8, 9, 10, 11, 7, 12, 13, 14, 15, 16, 17, 18, 19] (by decide +kernel) (by decide +kernel)) (goodIn_sub (fun _ h => List.mem_cons_of_mem _ (List.mem_append_right _ h)) (by decide +kernel))
set_option maxRecDepth 20000 in
theorem gX6_link_X6_checkNodes : GoodIn wsX6_link (wsV RX6 49 RX6 yX6_checkNodes wsX6_checkNodes) := goodIn_app (goodIn_of _ (by decide +kernel)) ggX6_link_X6_checkNodes
theorem dX6_link_0 : decode cX6_link 0 = .ok (.aload_n 0, 1) := by decide +kernel
theorem dX6_link_1 : decode cX6_link 1 = .ok (.iload_n 1, 1) := by decide +kernel
theorem dX6_link_2 : decode cX6_link 2 = .ok (.iload_n 2, 1) := by decide +kernel
theorem dX6_link_3 : decode cX6_link 3 = .ok (.invokevirtual 49, 3) := by decide +kernel
theorem dX6_link_6 : decode cX6_link 6 = .ok (.aload_n 0, 1) := by decide +kernel
theorem dX6_link_7 : decode cX6_link 7 = .ok (.getfield 27, 3) := by decide +kernel
theorem dX6_link_10 : decode cX6_link 10 = .ok (.getfield 52, 3) := by decide +kernel
theorem dX6_link_13 : decode cX6_link 13 = .ok (.getfield 56, 3) := by decide +kernel
theorem dX6_link_16 : decode cX6_link 16 = .ok (.iload_n 1, 1) := by decide +kernel
theorem dX6_link_17 : decode cX6_link 17 = .ok (.aaload, 1) := by decide +kernel
theorem dX6_link_18 : decode cX6_link 18 = .ok (.iload_n 2, 1) := by decide +kernel
theorem dX6_link_19 : decode cX6_link 19 = .ok (.iaload, 1) := by decide +kernel
theorem dX6_link_20 : decode cX6_link 20 = .ok (.ireturn, 1) := by decide +kernel
set_option maxRecDepth 20000 in
theorem ggX6_setParameter_X6_checkIndex : GoodIn wsX6_setParameter wsX6_checkIndex := goodIn_ca (goodIn_r _ [8, 9, 10] (by decide +kernel) (by decide +kernel)) (goodIn_sub (fun _ h => List.mem_cons_of_mem _ (List.mem_append_left _ (List.mem_append_right _ h))) (by decide +kernel))
set_option maxRecDepth 20000 in
theorem gX6_setParameter_X6_checkIndex : GoodIn wsX6_setParameter (va_wsS RX6 62 yX6_checkIndex wsX6_checkIndex) := goodIn_app (goodIn_of _ (by decide +kernel)) ggX6_setParameter_X6_checkIndex
set_option maxRecDepth 20000 in
theorem ggX6_setParameter_X6_checkRange : GoodIn wsX6_setParameter wsX6_checkRange := goodIn_ca (goodIn_r _ [13, 14, 15] (by decide +kernel) (by decide +kernel)) (goodIn_sub (fun _ h => List.mem_cons_of_mem _ (List.mem_append_right _ h)) (by decide +kernel))
set_option maxRecDepth 20000 in
theorem gX6_setParameter_X6_checkRange : GoodIn wsX6_setParameter (va_wsS RX6 41 yX6_checkRange wsX6_checkRange) := goodIn_app (goodIn_of _ (by decide +kernel)) ggX6_setParameter_X6_checkRange
theorem dX6_setParameter_0 : decode cX6_setParameter 0 = .ok (.iload_n 1, 1) := by decide +kernel
theorem dX6_setParameter_1 : decode cX6_setParameter 1 = .ok (.bipush 8, 2) := by decide +kernel
theorem dX6_setParameter_3 : decode cX6_setParameter 3 = .ok (.invokestatic 62, 3) := by decide +kernel
theorem dX6_setParameter_6 : decode cX6_setParameter 6 = .ok (.iload_n 2, 1) := by decide +kernel
theorem dX6_setParameter_7 : decode cX6_setParameter 7 = .ok (.getstatic 65, 3) := by decide +kernel
theorem dX6_setParameter_10 : decode cX6_setParameter 10 = .ok (.iload_n 1, 1) := by decide +kernel
theorem dX6_setParameter_11 : decode cX6_setParameter 11 = .ok (.iaload, 1) := by decide +kernel
theorem dX6_setParameter_12 : decode cX6_setParameter 12 = .ok (.getstatic 69, 3) := by decide +kernel
theorem dX6_setParameter_15 : decode cX6_setParameter 15 = .ok (.iload_n 1, 1) := by decide +kernel
theorem dX6_setParameter_16 : decode cX6_setParameter 16 = .ok (.iaload, 1) := by decide +kernel
theorem dX6_setParameter_17 : decode cX6_setParameter 17 = .ok (.invokestatic 41, 3) := by decide +kernel
theorem dX6_setParameter_20 : decode cX6_setParameter 20 = .ok (.aload_n 0, 1) := by decide +kernel
theorem dX6_setParameter_21 : decode cX6_setParameter 21 = .ok (.getfield 27, 3) := by decide +kernel
theorem dX6_setParameter_24 : decode cX6_setParameter 24 = .ok (.getfield 72, 3) := by decide +kernel
theorem dX6_setParameter_27 : decode cX6_setParameter 27 = .ok (.iload_n 1, 1) := by decide +kernel
theorem dX6_setParameter_28 : decode cX6_setParameter 28 = .ok (.iaload, 1) := by decide +kernel
theorem dX6_setParameter_29 : decode cX6_setParameter 29 = .ok (.istore_n 3, 1) := by decide +kernel
theorem dX6_setParameter_30 : decode cX6_setParameter 30 = .ok (.aload_n 0, 1) := by decide +kernel
theorem dX6_setParameter_31 : decode cX6_setParameter 31 = .ok (.getfield 27, 3) := by decide +kernel
theorem dX6_setParameter_34 : decode cX6_setParameter 34 = .ok (.getfield 72, 3) := by decide +kernel
theorem dX6_setParameter_37 : decode cX6_setParameter 37 = .ok (.iload_n 1, 1) := by decide +kernel
theorem dX6_setParameter_38 : decode cX6_setParameter 38 = .ok (.iload_n 2, 1) := by decide +kernel
theorem dX6_setParameter_39 : decode cX6_setParameter 39 = .ok (.iastore, 1) := by decide +kernel
theorem dX6_setParameter_40 : decode cX6_setParameter 40 = .ok (.iload_n 3, 1) := by decide +kernel
theorem dX6_setParameter_41 : decode cX6_setParameter 41 = .ok (.ireturn, 1) := by decide +kernel
set_option maxRecDepth 20000 in
theorem ggX6_send_X6_checkTwoNodes : GoodIn wsX6_send wsX6_checkTwoNodes := goodIn_ca (goodIn_ca (goodIn_r _ [10, 11, 12, 13, 14, 15, 9, 16, 17, 18, 19, 20, 21, 22, 239, 240, 241, 242, 243] (by decide +kernel) (by decide +kernel)) (goodIn_sub (fun _ h => List.mem_cons_of_mem _ (List.mem_append_left _ (List.mem_append_right _ h))) (by decide +kernel))) (goodIn_sub (fun _ h => List.mem_cons_of_mem _ (List.mem_append_right _ h)) (by decide +kernel))
set_option maxRecDepth 20000 in
theorem gX6_send_X6_checkTwoNodes : GoodIn wsX6_send (wsV RX6 37 RX6 yX6_checkTwoNodes wsX6_checkTwoNodes) := goodIn_app (goodIn_of _ (by decide +kernel)) ggX6_send_X6_checkTwoNodes
set_option maxRecDepth 20000 in
theorem ggX6_send_X2_launch : GoodIn wsX6_send wsX2_launch := goodIn_r _ [27, 28, 29, 30, 31, 32, 33, 34, 35, 26, 36, 37, 38, 39, 40, 41, 42, 43, 44, 45, 9, 46, 47, 48, 49, 50, 51, 52, 53, 54, 55, 56, 57, 58, 59, 60, 61, 62, 63, 64, 65, 66, 67, 68, 69, 70, 71, 72, 73, 74, 75, 76, 77, 78, 79, 80, 81, 82, 83, 84, 85, 86, 87, 88, 89, 90, 91, 92, 93, 94, 95, 96, 97, 98, 99, 100, 101, 102, 103, 104, 105, 106, 107, 108, 109, 110, 111, 112, 113, 114, 115, 116, 117, 118, 119, 120, 121, 122, 123, 124, 125, 126, 127, 128, 129, 130, 131, 132, 133, 134, 135, 136, 137, 138, 139, 140, 141, 142, 143, 144, 145, 146, 147, 148, 149, 150, 151, 152, 153, 154, 155, 156, 157, 158, 159, 160, 161, 162, 163, 164, 165, 166, 167, 168, 169, 170, 171, 172, 173, 174, 175, 176, 177, 178, 179, 180, 181, 182, 183, 184, 185, 186, 187, 188, 189, 190, 191, 192, 193, 194, 195, 196, 197, 198, 199, 200, 201, 202, 203, 204, 205, 206, 207, 208, 209, 210, 211, 212, 213, 214, 215, 216, 217, 218, 219, 220, 221, 222, 223, 224, 225, 226, 227, 228, 229, 230, 231, 232, 233, 234, 235, 236, 237, 238, 244, 245, 246, 247, 248, 249, 250, 251, 252, 253, 254, 255, 256, 257, 258, 259, 260, 261, 262, 263, 264, 265, 266, 267, 268, 269, 270, 271, 272, 273, 274, 275, 276, 277, 278, 279, 280, 281, 282, 283, 284, 285, 286, 287, 288, 289, 290, 291, 292, 293, 294, 295, 296, 297] (by decide +kernel) (by decide +kernel)
set_option maxRecDepth 20000 in
theorem gX6_send_X2_launch : GoodIn wsX6_send (wsV RX6 91 RX2 yX2_launch wsX2_launch) := goodIn_app (goodIn_of _ (by decide +kernel)) ggX6_send_X2_launch
theorem dX6_send_0 : decode cX6_send 0 = .ok (.aload_n 0, 1) := by decide +kernel
theorem dX6_send_1 : decode cX6_send 1 = .ok (.iload_n 1, 1) := by decide +kernel
theorem dX6_send_2 : decode cX6_send 2 = .ok (.iload_n 2, 1) := by decide +kernel
theorem dX6_send_3 : decode cX6_send 3 = .ok (.invokevirtual 37, 3) := by decide +kernel
theorem dX6_send_6 : decode cX6_send 6 = .ok (.aload_n 0, 1) := by decide +kernel
theorem dX6_send_7 : decode cX6_send 7 = .ok (.getfield 27, 3) := by decide +kernel
theorem dX6_send_10 : decode cX6_send 10 = .ok (.getfield 75, 3) := by decide +kernel
theorem dX6_send_13 : decode cX6_send 13 = .ok (.getfield 79, 3) := by decide +kernel
theorem dX6_send_16 : decode cX6_send 16 = .ok (.sipush 200, 3) := by decide +kernel
theorem dX6_send_19 : decode cX6_send 19 = .ok (.if_icmp .lt 13, 3) := by decide +kernel
theorem dX6_send_22 : decode cX6_send 22 = .ok (.new 84, 3) := by decide +kernel
theorem dX6_send_25 : decode cX6_send 25 = .ok (.dup, 1) := by decide +kernel
theorem dX6_send_26 : decode cX6_send 26 = .ok (.ldc 86, 2) := by decide +kernel
theorem dX6_send_28 : decode cX6_send 28 = .ok (.invokespecial 88, 3) := by decide +kernel
theorem dX6_send_31 : decode cX6_send 31 = .ok (.athrow, 1) := by decide +kernel
theorem dX6_send_32 : decode cX6_send 32 = .ok (.aload_n 0, 1) := by decide +kernel
theorem dX6_send_33 : decode cX6_send 33 = .ok (.getfield 27, 3) := by decide +kernel
theorem dX6_send_36 : decode cX6_send 36 = .ok (.iload_n 1, 1) := by decide +kernel
theorem dX6_send_37 : decode cX6_send 37 = .ok (.iload_n 2, 1) := by decide +kernel
theorem dX6_send_38 : decode cX6_send 38 = .ok (.invokevirtual 91, 3) := by decide +kernel
theorem dX6_send_41 : decode cX6_send 41 = .ok (.ireturn, 1) := by decide +kernel
set_option maxRecDepth 20000 in
theorem ggX6_step_X2_happen : GoodIn wsX6_step wsX2_happen := goodIn_r _ [6, 7, 8, 9, 10, 11, 12, 13, 14, 15, 16, 5, 17, 18, 19, 20, 21, 22, 23, 24, 25, 26, 27, 28, 29, 30, 31, 32, 33, 34, 35, 36, 37, 38, 39, 40, 41, 42, 43, 44, 45, 46, 47, 48, 49, 50, 51, 52, 53, 54, 55, 56, 57, 58, 59, 60, 61, 62, 63, 64, 65, 66, 67, 68, 69, 70, 71, 72, 73, 74, 75, 76, 77, 78, 79, 80, 81, 82, 83, 84, 85, 86, 87, 88, 89, 90, 91, 92, 93, 94, 95, 96, 97, 98, 99, 100, 101, 102, 103, 104, 105, 106, 107, 108, 109, 110, 111, 112, 113, 114, 115, 116, 117, 118, 119, 120, 121, 122, 123, 124, 125, 126, 127, 128, 129, 130, 131, 132, 133, 134, 135, 136, 137, 138, 139, 140, 141, 142, 143, 144, 145, 146, 147, 148, 149, 150, 151, 152, 153, 154, 155, 156, 157, 158, 159, 160, 161, 162, 163, 164, 165, 166, 167, 168, 169, 170, 171, 172, 173, 174, 175, 176, 177, 178, 179, 180, 181, 182, 183, 184, 185, 186, 187, 188, 189, 190, 191, 192, 193, 194, 195, 196, 197, 198, 199, 200, 201, 202, 203, 204, 205, 206, 207, 208, 209, 210, 211, 212, 213, 214, 215, 216, 217, 218, 219, 220, 221, 222, 223, 224, 225, 226, 227, 228, 229, 230, 231, 232, 233, 234, 235, 236, 237, 238, 239, 240, 241, 242, 243, 244, 245, 246, 247, 248, 249, 250, 251, 252, 253, 254, 255, 256, 257, 258, 259, 260, 261, 262, 263, 264, 265, 266, 267, 268, 269, 270, 271, 272, 273, 274, 275, 276, 277, 278, 279, 280, 281, 282, 283, 284, 285, 286, 287, 288, 289, 290, 291, 292, 293, 294, 295, 296, 297, 298, 299, 300, 301, 302, 303, 304, 305, 306, 307, 308, 309, 310, 311, 312, 313, 319, 320, 321, 322, 323, 324, 325, 326, 327, 328, 329, 330, 331, 332, 333, 334, 335, 336, 337, 338, 339, 340, 341, 342, 343, 344, 345, 346, 347, 348, 349, 350, 351, 352, 353, 354, 355, 356, 357, 358, 359, 360, 361, 362, 363, 364, 365, 366, 367, 368, 369, 370, 371, 372] (by decide +kernel) (by decide +kernel)
set_option maxRecDepth 20000 in
theorem gX6_step_X2_happen : GoodIn wsX6_step (wsV RX6 94 RX2 yX2_happen wsX2_happen) := goodIn_app (goodIn_of _ (by decide +kernel)) ggX6_step_X2_happen
theorem dX6_step_0 : decode cX6_step 0 = .ok (.aload_n 0, 1) := by decide +kernel
theorem dX6_step_1 : decode cX6_step 1 = .ok (.getfield 27, 3) := by decide +kernel
theorem dX6_step_4 : decode cX6_step 4 = .ok (.invokevirtual 94, 3) := by decide +kernel
theorem dX6_step_7 : decode cX6_step 7 = .ok (.ireturn, 1) := by decide +kernel
set_option maxRecDepth 20000 in
theorem ggX6_run_X6_checkRange : GoodIn wsX6_run wsX6_checkRange := goodIn_ca (goodIn_r _ [6, 7, 8] (by decide +kernel) (by decide +kernel)) (goodIn_sub (fun _ h => List.mem_cons_of_mem _ (List.mem_append_right _ h)) (by decide +kernel))
set_option maxRecDepth 20000 in
theorem gX6_run_X6_checkRange : GoodIn wsX6_run (va_wsS RX6 41 yX6_checkRange wsX6_checkRange) := goodIn_app (goodIn_of _ (by decide +kernel)) ggX6_run_X6_checkRange
set_option maxRecDepth 20000 in
theorem ggX6_run_X2_advance : GoodIn wsX6_run wsX2_advance := goodIn_r _ [13, 14, 15, 16, 17, 18, 12, 19, 20, 21, 22, 23, 24, 25, 26, 27, 28, 29, 30, 31, 32, 33, 34, 35, 36, 37, 38, 39, 40, 41, 42, 43, 44, 45, 46, 47, 48, 49, 50, 51, 52, 53, 54, 55, 56, 57, 58, 59, 60, 61, 62, 63, 64, 65, 66, 67, 68, 69, 70, 71, 72, 73, 74, 75, 76, 77, 78, 79, 80, 81, 82, 83, 84, 85, 86, 87, 88, 89, 90, 91, 92, 93, 94, 95, 96, 97, 98, 99, 100, 101, 102, 103, 104, 105, 106, 107, 5, 108, 109, 110, 111, 112, 113, 114, 115, 116, 117, 118, 119, 120, 121, 122, 123, 124, 125, 126, 127, 128, 129, 130, 131, 132, 133, 134, 135, 136, 137, 138, 139, 140, 141, 142, 143, 144, 145, 146, 147, 148, 149, 150, 151, 152, 153, 154, 155, 156, 157, 158, 159, 160, 161, 162, 163, 164, 165, 166, 167, 168, 169, 170, 171, 172, 173, 174, 175, 176, 177, 178, 179, 180, 181, 182, 183, 184, 185, 186, 187, 188, 189, 190, 191, 192, 193, 194, 195, 196, 197, 198, 199, 200, 201, 202, 203, 204, 205, 206, 207, 208, 209, 210, 211, 212, 213, 214, 215, 216, 217, 218, 219, 220, 221, 222, 223, 224, 225, 226, 227, 228, 229, 230, 231, 232, 233, 234, 235, 236, 237, 238, 239, 240, 241, 242, 243, 244, 245, 246, 247, 248, 249, 250, 251, 252, 253, 254, 255, 256, 257, 258, 259, 260, 261, 262, 263, 264, 265, 266, 267, 268, 269, 270, 271, 272, 273, 274, 275, 276, 277, 278, 279, 280, 281, 282, 283, 284, 285, 286, 287, 288, 289, 290, 291, 292, 293, 294, 295, 296, 297, 298, 299, 300, 301, 302, 303, 304, 305, 306, 307, 308, 309, 310, 311, 312, 313, 314, 315, 316, 317, 318, 319, 320, 321, 322, 323, 324, 330, 331, 332, 333, 334, 335, 336, 337, 338, 339, 340, 341, 342, 343, 344, 345, 346, 347, 348, 349, 350, 351, 352, 353, 354, 355, 356, 357, 358, 359, 360, 361, 362, 363, 364, 365, 366, 367, 368, 369, 370, 371, 372, 373, 374, 375, 376, 377, 378, 379, 380, 381, 382, 383] (by decide +kernel) (by decide +kernel)
set_option maxRecDepth 20000 in
theorem gX6_run_X2_advance : GoodIn wsX6_run (wsV RX6 99 RX2 yX2_advance wsX2_advance) := goodIn_app (goodIn_of _ (by decide +kernel)) ggX6_run_X2_advance
theorem dX6_run_0 : decode cX6_run 0 = .ok (.iload_n 1, 1) := by decide +kernel
theorem dX6_run_1 : decode cX6_run 1 = .ok (.iconst 0, 1) := by decide +kernel
theorem dX6_run_2 : decode cX6_run 2 = .ok (.ldc 98, 2) := by decide +kernel
theorem dX6_run_4 : decode cX6_run 4 = .ok (.invokestatic 41, 3) := by decide +kernel
theorem dX6_run_7 : decode cX6_run 7 = .ok (.aload_n 0, 1) := by decide +kernel
theorem dX6_run_8 : decode cX6_run 8 = .ok (.getfield 27, 3) := by decide +kernel
theorem dX6_run_11 : decode cX6_run 11 = .ok (.iload_n 1, 1) := by decide +kernel
theorem dX6_run_12 : decode cX6_run 12 = .ok (.invokevirtual 99, 3) := by decide +kernel
theorem dX6_run_15 : decode cX6_run 15 = .ok (.ireturn, 1) := by decide +kernel
theorem dX6_time_0 : decode cX6_time 0 = .ok (.aload_n 0, 1) := by decide +kernel
theorem dX6_time_1 : decode cX6_time 1 = .ok (.getfield 27, 3) := by decide +kernel
theorem dX6_time_4 : decode cX6_time 4 = .ok (.getfield 103, 3) := by decide +kernel
theorem dX6_time_7 : decode cX6_time 7 = .ok (.ireturn, 1) := by decide +kernel
set_option maxRecDepth 20000 in
theorem ggX6_nextEvent_X2_timeOfNext : GoodIn wsX6_nextEvent wsX2_timeOfNext := goodIn_r _ [6, 7, 8, 9, 10, 11, 12, 13, 14, 15, 16, 17, 18, 19, 20, 21, 22, 23, 24, 25, 26, 32, 33, 34, 35, 36, 37, 38, 39, 40, 41, 42, 43, 44, 45, 46, 47, 48, 49, 50, 51, 52, 53, 54, 55, 56, 57] (by decide +kernel) (by decide +kernel)
set_option maxRecDepth 20000 in
theorem gX6_nextEvent_X2_timeOfNext : GoodIn wsX6_nextEvent (wsV RX6 106 RX2 yX2_timeOfNext wsX2_timeOfNext) := goodIn_app (goodIn_of _ (by decide +kernel)) ggX6_nextEvent_X2_timeOfNext
theorem dX6_nextEvent_0 : decode cX6_nextEvent 0 = .ok (.aload_n 0, 1) := by decide +kernel
theorem dX6_nextEvent_1 : decode cX6_nextEvent 1 = .ok (.getfield 27, 3) := by decide +kernel
theorem dX6_nextEvent_4 : decode cX6_nextEvent 4 = .ok (.invokevirtual 106, 3) := by decide +kernel
theorem dX6_nextEvent_7 : decode cX6_nextEvent 7 = .ok (.ireturn, 1) := by decide +kernel
set_option maxRecDepth 20000 in
theorem ggX6_inFlight_X6_checkIndex : GoodIn wsX6_inFlight wsX6_checkIndex := goodIn_ca (goodIn_r _ [7, 8, 9] (by decide +kernel) (by decide +kernel)) (goodIn_sub (fun _ h => List.mem_cons_of_mem _ (List.mem_append_right _ h)) (by decide +kernel))
set_option maxRecDepth 20000 in
theorem gX6_inFlight_X6_checkIndex : GoodIn wsX6_inFlight (va_wsS RX6 62 yX6_checkIndex wsX6_checkIndex) := goodIn_app (goodIn_of _ (by decide +kernel)) ggX6_inFlight_X6_checkIndex
theorem dX6_inFlight_0 : decode cX6_inFlight 0 = .ok (.iload_n 1, 1) := by decide +kernel
theorem dX6_inFlight_1 : decode cX6_inFlight 1 = .ok (.iconst 4, 1) := by decide +kernel
theorem dX6_inFlight_2 : decode cX6_inFlight 2 = .ok (.invokestatic 62, 3) := by decide +kernel
theorem dX6_inFlight_5 : decode cX6_inFlight 5 = .ok (.aload_n 0, 1) := by decide +kernel
theorem dX6_inFlight_6 : decode cX6_inFlight 6 = .ok (.getfield 27, 3) := by decide +kernel
theorem dX6_inFlight_9 : decode cX6_inFlight 9 = .ok (.getfield 52, 3) := by decide +kernel
theorem dX6_inFlight_12 : decode cX6_inFlight 12 = .ok (.getfield 109, 3) := by decide +kernel
theorem dX6_inFlight_15 : decode cX6_inFlight 15 = .ok (.iload_n 1, 1) := by decide +kernel
theorem dX6_inFlight_16 : decode cX6_inFlight 16 = .ok (.iaload, 1) := by decide +kernel
theorem dX6_inFlight_17 : decode cX6_inFlight 17 = .ok (.ireturn, 1) := by decide +kernel
set_option maxRecDepth 20000 in
theorem ggX6_sent_X6_checkIndex : GoodIn wsX6_sent wsX6_checkIndex := goodIn_ca (goodIn_r _ [7, 8, 9] (by decide +kernel) (by decide +kernel)) (goodIn_sub (fun _ h => List.mem_cons_of_mem _ (List.mem_append_right _ h)) (by decide +kernel))
set_option maxRecDepth 20000 in
theorem gX6_sent_X6_checkIndex : GoodIn wsX6_sent (va_wsS RX6 62 yX6_checkIndex wsX6_checkIndex) := goodIn_app (goodIn_of _ (by decide +kernel)) ggX6_sent_X6_checkIndex
theorem dX6_sent_0 : decode cX6_sent 0 = .ok (.iload_n 1, 1) := by decide +kernel
theorem dX6_sent_1 : decode cX6_sent 1 = .ok (.iconst 4, 1) := by decide +kernel
theorem dX6_sent_2 : decode cX6_sent 2 = .ok (.invokestatic 62, 3) := by decide +kernel
theorem dX6_sent_5 : decode cX6_sent 5 = .ok (.aload_n 0, 1) := by decide +kernel
theorem dX6_sent_6 : decode cX6_sent 6 = .ok (.getfield 27, 3) := by decide +kernel
theorem dX6_sent_9 : decode cX6_sent 9 = .ok (.getfield 52, 3) := by decide +kernel
theorem dX6_sent_12 : decode cX6_sent 12 = .ok (.getfield 112, 3) := by decide +kernel
theorem dX6_sent_15 : decode cX6_sent 15 = .ok (.iload_n 1, 1) := by decide +kernel
theorem dX6_sent_16 : decode cX6_sent 16 = .ok (.iaload, 1) := by decide +kernel
theorem dX6_sent_17 : decode cX6_sent 17 = .ok (.ireturn, 1) := by decide +kernel
set_option maxRecDepth 20000 in
theorem ggX6_isValid_X6_checkNodes : GoodIn wsX6_isValid wsX6_checkNodes := goodIn_ca (goodIn_r _ [8, 9, 10, 11, 7, 12, 13, 14, 25, 26, 27, 28, 29] (by decide +kernel) (by decide +kernel)) (goodIn_sub (fun _ h => List.mem_cons_of_mem _ (List.mem_append_right _ h)) (by decide +kernel))
set_option maxRecDepth 20000 in
theorem gX6_isValid_X6_checkNodes : GoodIn wsX6_isValid (wsV RX6 49 RX6 yX6_checkNodes wsX6_checkNodes) := goodIn_app (goodIn_of _ (by decide +kernel)) ggX6_isValid_X6_checkNodes
set_option maxRecDepth 20000 in
theorem ggX6_isValid_X6_cellOf : GoodIn wsX6_isValid wsX6_cellOf := goodIn_r _ [17] (by decide +kernel) (by decide +kernel)
set_option maxRecDepth 20000 in
theorem gX6_isValid_X6_cellOf : GoodIn wsX6_isValid (va_wsS RX6 119 yX6_cellOf wsX6_cellOf) := goodIn_app (goodIn_of _ (by decide +kernel)) ggX6_isValid_X6_cellOf
set_option maxRecDepth 20000 in
theorem ggX6_isValid_X4_usable : GoodIn wsX6_isValid wsX4_usable := goodIn_r _ [22, 23, 24, 42, 43, 44, 45, 46, 47] (by decide +kernel) (by decide +kernel)
set_option maxRecDepth 20000 in
theorem gX6_isValid_X4_usable : GoodIn wsX6_isValid (wsV RX6 122 RX4 yX4_usable wsX4_usable) := goodIn_app (goodIn_of _ (by decide +kernel)) ggX6_isValid_X4_usable
theorem dX6_isValid_0 : decode cX6_isValid 0 = .ok (.aload_n 0, 1) := by decide +kernel
theorem dX6_isValid_1 : decode cX6_isValid 1 = .ok (.iload_n 1, 1) := by decide +kernel
theorem dX6_isValid_2 : decode cX6_isValid 2 = .ok (.iload_n 2, 1) := by decide +kernel
theorem dX6_isValid_3 : decode cX6_isValid 3 = .ok (.invokevirtual 49, 3) := by decide +kernel
theorem dX6_isValid_6 : decode cX6_isValid 6 = .ok (.aload_n 0, 1) := by decide +kernel
theorem dX6_isValid_7 : decode cX6_isValid 7 = .ok (.getfield 27, 3) := by decide +kernel
theorem dX6_isValid_10 : decode cX6_isValid 10 = .ok (.getfield 115, 3) := by decide +kernel
theorem dX6_isValid_13 : decode cX6_isValid 13 = .ok (.iload_n 1, 1) := by decide +kernel
theorem dX6_isValid_14 : decode cX6_isValid 14 = .ok (.iload_n 2, 1) := by decide +kernel
theorem dX6_isValid_15 : decode cX6_isValid 15 = .ok (.invokestatic 119, 3) := by decide +kernel
theorem dX6_isValid_18 : decode cX6_isValid 18 = .ok (.aload_n 0, 1) := by decide +kernel
theorem dX6_isValid_19 : decode cX6_isValid 19 = .ok (.getfield 27, 3) := by decide +kernel
theorem dX6_isValid_22 : decode cX6_isValid 22 = .ok (.getfield 103, 3) := by decide +kernel
theorem dX6_isValid_25 : decode cX6_isValid 25 = .ok (.invokevirtual 122, 3) := by decide +kernel
theorem dX6_isValid_28 : decode cX6_isValid 28 = .ok (.ireturn, 1) := by decide +kernel
set_option maxRecDepth 20000 in
theorem ggX6_nextNode_X6_checkNodes : GoodIn wsX6_nextNode wsX6_checkNodes := goodIn_ca (goodIn_r _ [8, 9, 10, 11, 7, 12, 13, 14, 18, 19, 20, 21, 22] (by decide +kernel) (by decide +kernel)) (goodIn_sub (fun _ h => List.mem_cons_of_mem _ (List.mem_append_right _ h)) (by decide +kernel))
set_option maxRecDepth 20000 in
theorem gX6_nextNode_X6_checkNodes : GoodIn wsX6_nextNode (wsV RX6 49 RX6 yX6_checkNodes wsX6_checkNodes) := goodIn_app (goodIn_of _ (by decide +kernel)) ggX6_nextNode_X6_checkNodes
set_option maxRecDepth 20000 in
theorem ggX6_nextNode_X6_cellOf : GoodIn wsX6_nextNode wsX6_cellOf := goodIn_r _ [17] (by decide +kernel) (by decide +kernel)
set_option maxRecDepth 20000 in
theorem gX6_nextNode_X6_cellOf : GoodIn wsX6_nextNode (va_wsS RX6 119 yX6_cellOf wsX6_cellOf) := goodIn_app (goodIn_of _ (by decide +kernel)) ggX6_nextNode_X6_cellOf
theorem dX6_nextNode_0 : decode cX6_nextNode 0 = .ok (.aload_n 0, 1) := by decide +kernel
theorem dX6_nextNode_1 : decode cX6_nextNode 1 = .ok (.iload_n 1, 1) := by decide +kernel
theorem dX6_nextNode_2 : decode cX6_nextNode 2 = .ok (.iload_n 2, 1) := by decide +kernel
theorem dX6_nextNode_3 : decode cX6_nextNode 3 = .ok (.invokevirtual 49, 3) := by decide +kernel
theorem dX6_nextNode_6 : decode cX6_nextNode 6 = .ok (.aload_n 0, 1) := by decide +kernel
theorem dX6_nextNode_7 : decode cX6_nextNode 7 = .ok (.getfield 27, 3) := by decide +kernel
theorem dX6_nextNode_10 : decode cX6_nextNode 10 = .ok (.getfield 115, 3) := by decide +kernel
theorem dX6_nextNode_13 : decode cX6_nextNode 13 = .ok (.getfield 128, 3) := by decide +kernel
theorem dX6_nextNode_16 : decode cX6_nextNode 16 = .ok (.iload_n 1, 1) := by decide +kernel
theorem dX6_nextNode_17 : decode cX6_nextNode 17 = .ok (.iload_n 2, 1) := by decide +kernel
theorem dX6_nextNode_18 : decode cX6_nextNode 18 = .ok (.invokestatic 119, 3) := by decide +kernel
theorem dX6_nextNode_21 : decode cX6_nextNode 21 = .ok (.iaload, 1) := by decide +kernel
theorem dX6_nextNode_22 : decode cX6_nextNode 22 = .ok (.ireturn, 1) := by decide +kernel
set_option maxRecDepth 20000 in
theorem ggX6_hops_X6_checkNodes : GoodIn wsX6_hops wsX6_checkNodes := goodIn_ca (goodIn_r _ [8, 9, 10, 11, 7, 12, 13, 14, 18, 19, 20, 21, 22] (by decide +kernel) (by decide +kernel)) (goodIn_sub (fun _ h => List.mem_cons_of_mem _ (List.mem_append_right _ h)) (by decide +kernel))
set_option maxRecDepth 20000 in
theorem gX6_hops_X6_checkNodes : GoodIn wsX6_hops (wsV RX6 49 RX6 yX6_checkNodes wsX6_checkNodes) := goodIn_app (goodIn_of _ (by decide +kernel)) ggX6_hops_X6_checkNodes
set_option maxRecDepth 20000 in
theorem ggX6_hops_X6_cellOf : GoodIn wsX6_hops wsX6_cellOf := goodIn_r _ [17] (by decide +kernel) (by decide +kernel)
set_option maxRecDepth 20000 in
theorem gX6_hops_X6_cellOf : GoodIn wsX6_hops (va_wsS RX6 119 yX6_cellOf wsX6_cellOf) := goodIn_app (goodIn_of _ (by decide +kernel)) ggX6_hops_X6_cellOf
theorem dX6_hops_0 : decode cX6_hops 0 = .ok (.aload_n 0, 1) := by decide +kernel
theorem dX6_hops_1 : decode cX6_hops 1 = .ok (.iload_n 1, 1) := by decide +kernel
theorem dX6_hops_2 : decode cX6_hops 2 = .ok (.iload_n 2, 1) := by decide +kernel
theorem dX6_hops_3 : decode cX6_hops 3 = .ok (.invokevirtual 49, 3) := by decide +kernel
theorem dX6_hops_6 : decode cX6_hops 6 = .ok (.aload_n 0, 1) := by decide +kernel
theorem dX6_hops_7 : decode cX6_hops 7 = .ok (.getfield 27, 3) := by decide +kernel
theorem dX6_hops_10 : decode cX6_hops 10 = .ok (.getfield 115, 3) := by decide +kernel
theorem dX6_hops_13 : decode cX6_hops 13 = .ok (.getfield 131, 3) := by decide +kernel
theorem dX6_hops_16 : decode cX6_hops 16 = .ok (.iload_n 1, 1) := by decide +kernel
theorem dX6_hops_17 : decode cX6_hops 17 = .ok (.iload_n 2, 1) := by decide +kernel
theorem dX6_hops_18 : decode cX6_hops 18 = .ok (.invokestatic 119, 3) := by decide +kernel
theorem dX6_hops_21 : decode cX6_hops 21 = .ok (.iaload, 1) := by decide +kernel
theorem dX6_hops_22 : decode cX6_hops 22 = .ok (.ireturn, 1) := by decide +kernel
set_option maxRecDepth 20000 in
theorem ggX6_sequence_X6_checkNodes : GoodIn wsX6_sequence wsX6_checkNodes := goodIn_ca (goodIn_r _ [6, 7, 8, 9, 5, 10, 11, 12, 29, 30, 31, 32, 33] (by decide +kernel) (by decide +kernel)) (goodIn_sub (fun _ h => List.mem_cons_of_mem _ (List.mem_append_right _ h)) (by decide +kernel))
set_option maxRecDepth 20000 in
theorem gX6_sequence_X6_checkNodes : GoodIn wsX6_sequence (wsV RX6 49 RX6 yX6_checkNodes wsX6_checkNodes) := goodIn_app (goodIn_of _ (by decide +kernel)) ggX6_sequence_X6_checkNodes
set_option maxRecDepth 20000 in
theorem ggX6_sequence_X2_sequenceShown : GoodIn wsX6_sequence wsX2_sequenceShown := goodIn_r _ [17, 18, 19, 20, 21, 5, 22, 23, 24, 25, 26, 27, 28, 34, 35, 36, 37, 38, 39, 40, 41, 42, 43, 44, 45, 46, 47, 48, 49, 50, 51] (by decide +kernel) (by decide +kernel)
set_option maxRecDepth 20000 in
theorem gX6_sequence_X2_sequenceShown : GoodIn wsX6_sequence (wsV RX6 134 RX2 yX2_sequenceShown wsX2_sequenceShown) := goodIn_app (goodIn_of _ (by decide +kernel)) ggX6_sequence_X2_sequenceShown
theorem dX6_sequence_0 : decode cX6_sequence 0 = .ok (.aload_n 0, 1) := by decide +kernel
theorem dX6_sequence_1 : decode cX6_sequence 1 = .ok (.iload_n 1, 1) := by decide +kernel
theorem dX6_sequence_2 : decode cX6_sequence 2 = .ok (.iload_n 2, 1) := by decide +kernel
theorem dX6_sequence_3 : decode cX6_sequence 3 = .ok (.invokevirtual 49, 3) := by decide +kernel
theorem dX6_sequence_6 : decode cX6_sequence 6 = .ok (.aload_n 0, 1) := by decide +kernel
theorem dX6_sequence_7 : decode cX6_sequence 7 = .ok (.getfield 27, 3) := by decide +kernel
theorem dX6_sequence_10 : decode cX6_sequence 10 = .ok (.iload_n 1, 1) := by decide +kernel
theorem dX6_sequence_11 : decode cX6_sequence 11 = .ok (.iload_n 2, 1) := by decide +kernel
theorem dX6_sequence_12 : decode cX6_sequence 12 = .ok (.invokevirtual 134, 3) := by decide +kernel
theorem dX6_sequence_15 : decode cX6_sequence 15 = .ok (.ireturn, 1) := by decide +kernel
set_option maxRecDepth 20000 in
theorem ggX6_expiry_X6_checkNodes : GoodIn wsX6_expiry wsX6_checkNodes := goodIn_ca (goodIn_r _ [8, 9, 10, 11, 7, 12, 13, 14, 18, 19, 20, 21, 22] (by decide +kernel) (by decide +kernel)) (goodIn_sub (fun _ h => List.mem_cons_of_mem _ (List.mem_append_right _ h)) (by decide +kernel))
set_option maxRecDepth 20000 in
theorem gX6_expiry_X6_checkNodes : GoodIn wsX6_expiry (wsV RX6 49 RX6 yX6_checkNodes wsX6_checkNodes) := goodIn_app (goodIn_of _ (by decide +kernel)) ggX6_expiry_X6_checkNodes
set_option maxRecDepth 20000 in
theorem ggX6_expiry_X6_cellOf : GoodIn wsX6_expiry wsX6_cellOf := goodIn_r _ [17] (by decide +kernel) (by decide +kernel)
set_option maxRecDepth 20000 in
theorem gX6_expiry_X6_cellOf : GoodIn wsX6_expiry (va_wsS RX6 119 yX6_cellOf wsX6_cellOf) := goodIn_app (goodIn_of _ (by decide +kernel)) ggX6_expiry_X6_cellOf
theorem dX6_expiry_0 : decode cX6_expiry 0 = .ok (.aload_n 0, 1) := by decide +kernel
theorem dX6_expiry_1 : decode cX6_expiry 1 = .ok (.iload_n 1, 1) := by decide +kernel
theorem dX6_expiry_2 : decode cX6_expiry 2 = .ok (.iload_n 2, 1) := by decide +kernel
theorem dX6_expiry_3 : decode cX6_expiry 3 = .ok (.invokevirtual 49, 3) := by decide +kernel
theorem dX6_expiry_6 : decode cX6_expiry 6 = .ok (.aload_n 0, 1) := by decide +kernel
theorem dX6_expiry_7 : decode cX6_expiry 7 = .ok (.getfield 27, 3) := by decide +kernel
theorem dX6_expiry_10 : decode cX6_expiry 10 = .ok (.getfield 115, 3) := by decide +kernel
theorem dX6_expiry_13 : decode cX6_expiry 13 = .ok (.getfield 137, 3) := by decide +kernel
theorem dX6_expiry_16 : decode cX6_expiry 16 = .ok (.iload_n 1, 1) := by decide +kernel
theorem dX6_expiry_17 : decode cX6_expiry 17 = .ok (.iload_n 2, 1) := by decide +kernel
theorem dX6_expiry_18 : decode cX6_expiry 18 = .ok (.invokestatic 119, 3) := by decide +kernel
theorem dX6_expiry_21 : decode cX6_expiry 21 = .ok (.iaload, 1) := by decide +kernel
theorem dX6_expiry_22 : decode cX6_expiry 22 = .ok (.ireturn, 1) := by decide +kernel
set_option maxRecDepth 20000 in
theorem ggX6_users_X6_checkNodes : GoodIn wsX6_users wsX6_checkNodes := goodIn_ca (goodIn_r _ [8, 9, 10, 11, 7, 12, 13, 14, 18, 19, 20, 21, 22] (by decide +kernel) (by decide +kernel)) (goodIn_sub (fun _ h => List.mem_cons_of_mem _ (List.mem_append_right _ h)) (by decide +kernel))
set_option maxRecDepth 20000 in
theorem gX6_users_X6_checkNodes : GoodIn wsX6_users (wsV RX6 49 RX6 yX6_checkNodes wsX6_checkNodes) := goodIn_app (goodIn_of _ (by decide +kernel)) ggX6_users_X6_checkNodes
set_option maxRecDepth 20000 in
theorem ggX6_users_X6_cellOf : GoodIn wsX6_users wsX6_cellOf := goodIn_r _ [17] (by decide +kernel) (by decide +kernel)
set_option maxRecDepth 20000 in
theorem gX6_users_X6_cellOf : GoodIn wsX6_users (va_wsS RX6 119 yX6_cellOf wsX6_cellOf) := goodIn_app (goodIn_of _ (by decide +kernel)) ggX6_users_X6_cellOf
theorem dX6_users_0 : decode cX6_users 0 = .ok (.aload_n 0, 1) := by decide +kernel
theorem dX6_users_1 : decode cX6_users 1 = .ok (.iload_n 1, 1) := by decide +kernel
theorem dX6_users_2 : decode cX6_users 2 = .ok (.iload_n 2, 1) := by decide +kernel
theorem dX6_users_3 : decode cX6_users 3 = .ok (.invokevirtual 49, 3) := by decide +kernel
theorem dX6_users_6 : decode cX6_users 6 = .ok (.aload_n 0, 1) := by decide +kernel
theorem dX6_users_7 : decode cX6_users 7 = .ok (.getfield 27, 3) := by decide +kernel
theorem dX6_users_10 : decode cX6_users 10 = .ok (.getfield 115, 3) := by decide +kernel
theorem dX6_users_13 : decode cX6_users 13 = .ok (.getfield 140, 3) := by decide +kernel
theorem dX6_users_16 : decode cX6_users 16 = .ok (.iload_n 1, 1) := by decide +kernel
theorem dX6_users_17 : decode cX6_users 17 = .ok (.iload_n 2, 1) := by decide +kernel
theorem dX6_users_18 : decode cX6_users 18 = .ok (.invokestatic 119, 3) := by decide +kernel
theorem dX6_users_21 : decode cX6_users 21 = .ok (.iaload, 1) := by decide +kernel
theorem dX6_users_22 : decode cX6_users 22 = .ok (.ireturn, 1) := by decide +kernel
set_option maxRecDepth 20000 in
theorem ggX6_searching_X6_checkNodes : GoodIn wsX6_searching wsX6_checkNodes := goodIn_ca (goodIn_r _ [8, 9, 10, 11, 7, 12, 13, 14, 18, 19, 20, 21, 22] (by decide +kernel) (by decide +kernel)) (goodIn_sub (fun _ h => List.mem_cons_of_mem _ (List.mem_append_right _ h)) (by decide +kernel))
set_option maxRecDepth 20000 in
theorem gX6_searching_X6_checkNodes : GoodIn wsX6_searching (wsV RX6 49 RX6 yX6_checkNodes wsX6_checkNodes) := goodIn_app (goodIn_of _ (by decide +kernel)) ggX6_searching_X6_checkNodes
set_option maxRecDepth 20000 in
theorem ggX6_searching_X6_cellOf : GoodIn wsX6_searching wsX6_cellOf := goodIn_r _ [17] (by decide +kernel) (by decide +kernel)
set_option maxRecDepth 20000 in
theorem gX6_searching_X6_cellOf : GoodIn wsX6_searching (va_wsS RX6 119 yX6_cellOf wsX6_cellOf) := goodIn_app (goodIn_of _ (by decide +kernel)) ggX6_searching_X6_cellOf
theorem dX6_searching_0 : decode cX6_searching 0 = .ok (.aload_n 0, 1) := by decide +kernel
theorem dX6_searching_1 : decode cX6_searching 1 = .ok (.iload_n 1, 1) := by decide +kernel
theorem dX6_searching_2 : decode cX6_searching 2 = .ok (.iload_n 2, 1) := by decide +kernel
theorem dX6_searching_3 : decode cX6_searching 3 = .ok (.invokevirtual 49, 3) := by decide +kernel
theorem dX6_searching_6 : decode cX6_searching 6 = .ok (.aload_n 0, 1) := by decide +kernel
theorem dX6_searching_7 : decode cX6_searching 7 = .ok (.getfield 27, 3) := by decide +kernel
theorem dX6_searching_10 : decode cX6_searching 10 = .ok (.getfield 143, 3) := by decide +kernel
theorem dX6_searching_13 : decode cX6_searching 13 = .ok (.getfield 147, 3) := by decide +kernel
theorem dX6_searching_16 : decode cX6_searching 16 = .ok (.iload_n 1, 1) := by decide +kernel
theorem dX6_searching_17 : decode cX6_searching 17 = .ok (.iload_n 2, 1) := by decide +kernel
theorem dX6_searching_18 : decode cX6_searching 18 = .ok (.invokestatic 119, 3) := by decide +kernel
theorem dX6_searching_21 : decode cX6_searching 21 = .ok (.iaload, 1) := by decide +kernel
theorem dX6_searching_22 : decode cX6_searching 22 = .ok (.ireturn, 1) := by decide +kernel
set_option maxRecDepth 20000 in
theorem ggX6_timeout_X6_checkNodes : GoodIn wsX6_timeout wsX6_checkNodes := goodIn_ca (goodIn_r _ [8, 9, 10, 11, 7, 12, 13, 14, 18, 19, 20, 21, 22] (by decide +kernel) (by decide +kernel)) (goodIn_sub (fun _ h => List.mem_cons_of_mem _ (List.mem_append_right _ h)) (by decide +kernel))
set_option maxRecDepth 20000 in
theorem gX6_timeout_X6_checkNodes : GoodIn wsX6_timeout (wsV RX6 49 RX6 yX6_checkNodes wsX6_checkNodes) := goodIn_app (goodIn_of _ (by decide +kernel)) ggX6_timeout_X6_checkNodes
set_option maxRecDepth 20000 in
theorem ggX6_timeout_X6_cellOf : GoodIn wsX6_timeout wsX6_cellOf := goodIn_r _ [17] (by decide +kernel) (by decide +kernel)
set_option maxRecDepth 20000 in
theorem gX6_timeout_X6_cellOf : GoodIn wsX6_timeout (va_wsS RX6 119 yX6_cellOf wsX6_cellOf) := goodIn_app (goodIn_of _ (by decide +kernel)) ggX6_timeout_X6_cellOf
theorem dX6_timeout_0 : decode cX6_timeout 0 = .ok (.aload_n 0, 1) := by decide +kernel
theorem dX6_timeout_1 : decode cX6_timeout 1 = .ok (.iload_n 1, 1) := by decide +kernel
theorem dX6_timeout_2 : decode cX6_timeout 2 = .ok (.iload_n 2, 1) := by decide +kernel
theorem dX6_timeout_3 : decode cX6_timeout 3 = .ok (.invokevirtual 49, 3) := by decide +kernel
theorem dX6_timeout_6 : decode cX6_timeout 6 = .ok (.aload_n 0, 1) := by decide +kernel
theorem dX6_timeout_7 : decode cX6_timeout 7 = .ok (.getfield 27, 3) := by decide +kernel
theorem dX6_timeout_10 : decode cX6_timeout 10 = .ok (.getfield 143, 3) := by decide +kernel
theorem dX6_timeout_13 : decode cX6_timeout 13 = .ok (.getfield 152, 3) := by decide +kernel
theorem dX6_timeout_16 : decode cX6_timeout 16 = .ok (.iload_n 1, 1) := by decide +kernel
theorem dX6_timeout_17 : decode cX6_timeout 17 = .ok (.iload_n 2, 1) := by decide +kernel
theorem dX6_timeout_18 : decode cX6_timeout 18 = .ok (.invokestatic 119, 3) := by decide +kernel
theorem dX6_timeout_21 : decode cX6_timeout 21 = .ok (.iaload, 1) := by decide +kernel
theorem dX6_timeout_22 : decode cX6_timeout 22 = .ok (.ireturn, 1) := by decide +kernel
set_option maxRecDepth 20000 in
theorem ggX6_buffered_X6_checkNodes : GoodIn wsX6_buffered wsX6_checkNodes := goodIn_ca (goodIn_r _ [8, 9, 10, 11, 7, 12, 13, 14, 18, 19, 20, 21, 22] (by decide +kernel) (by decide +kernel)) (goodIn_sub (fun _ h => List.mem_cons_of_mem _ (List.mem_append_right _ h)) (by decide +kernel))
set_option maxRecDepth 20000 in
theorem gX6_buffered_X6_checkNodes : GoodIn wsX6_buffered (wsV RX6 49 RX6 yX6_checkNodes wsX6_checkNodes) := goodIn_app (goodIn_of _ (by decide +kernel)) ggX6_buffered_X6_checkNodes
set_option maxRecDepth 20000 in
theorem ggX6_buffered_X6_cellOf : GoodIn wsX6_buffered wsX6_cellOf := goodIn_r _ [17] (by decide +kernel) (by decide +kernel)
set_option maxRecDepth 20000 in
theorem gX6_buffered_X6_cellOf : GoodIn wsX6_buffered (va_wsS RX6 119 yX6_cellOf wsX6_cellOf) := goodIn_app (goodIn_of _ (by decide +kernel)) ggX6_buffered_X6_cellOf
theorem dX6_buffered_0 : decode cX6_buffered 0 = .ok (.aload_n 0, 1) := by decide +kernel
theorem dX6_buffered_1 : decode cX6_buffered 1 = .ok (.iload_n 1, 1) := by decide +kernel
theorem dX6_buffered_2 : decode cX6_buffered 2 = .ok (.iload_n 2, 1) := by decide +kernel
theorem dX6_buffered_3 : decode cX6_buffered 3 = .ok (.invokevirtual 49, 3) := by decide +kernel
theorem dX6_buffered_6 : decode cX6_buffered 6 = .ok (.aload_n 0, 1) := by decide +kernel
theorem dX6_buffered_7 : decode cX6_buffered 7 = .ok (.getfield 27, 3) := by decide +kernel
theorem dX6_buffered_10 : decode cX6_buffered 10 = .ok (.getfield 143, 3) := by decide +kernel
theorem dX6_buffered_13 : decode cX6_buffered 13 = .ok (.getfield 155, 3) := by decide +kernel
theorem dX6_buffered_16 : decode cX6_buffered 16 = .ok (.iload_n 1, 1) := by decide +kernel
theorem dX6_buffered_17 : decode cX6_buffered 17 = .ok (.iload_n 2, 1) := by decide +kernel
theorem dX6_buffered_18 : decode cX6_buffered 18 = .ok (.invokestatic 119, 3) := by decide +kernel
theorem dX6_buffered_21 : decode cX6_buffered 21 = .ok (.iaload, 1) := by decide +kernel
theorem dX6_buffered_22 : decode cX6_buffered 22 = .ok (.ireturn, 1) := by decide +kernel
set_option maxRecDepth 20000 in
theorem ggX6_stateOf_X6_checkIndex : GoodIn wsX6_stateOf wsX6_checkIndex := goodIn_ca (goodIn_r _ [8, 9, 10] (by decide +kernel) (by decide +kernel)) (goodIn_sub (fun _ h => List.mem_cons_of_mem _ (List.mem_append_right _ h)) (by decide +kernel))
set_option maxRecDepth 20000 in
theorem gX6_stateOf_X6_checkIndex : GoodIn wsX6_stateOf (va_wsS RX6 62 yX6_checkIndex wsX6_checkIndex) := goodIn_app (goodIn_of _ (by decide +kernel)) ggX6_stateOf_X6_checkIndex
theorem dX6_stateOf_0 : decode cX6_stateOf 0 = .ok (.iload_n 1, 1) := by decide +kernel
theorem dX6_stateOf_1 : decode cX6_stateOf 1 = .ok (.aload_n 0, 1) := by decide +kernel
theorem dX6_stateOf_2 : decode cX6_stateOf 2 = .ok (.getfield 27, 3) := by decide +kernel
theorem dX6_stateOf_5 : decode cX6_stateOf 5 = .ok (.getfield 75, 3) := by decide +kernel
theorem dX6_stateOf_8 : decode cX6_stateOf 8 = .ok (.getfield 79, 3) := by decide +kernel
theorem dX6_stateOf_11 : decode cX6_stateOf 11 = .ok (.invokestatic 62, 3) := by decide +kernel
theorem dX6_stateOf_14 : decode cX6_stateOf 14 = .ok (.aload_n 0, 1) := by decide +kernel
theorem dX6_stateOf_15 : decode cX6_stateOf 15 = .ok (.getfield 27, 3) := by decide +kernel
theorem dX6_stateOf_18 : decode cX6_stateOf 18 = .ok (.getfield 75, 3) := by decide +kernel
theorem dX6_stateOf_21 : decode cX6_stateOf 21 = .ok (.getfield 158, 3) := by decide +kernel
theorem dX6_stateOf_24 : decode cX6_stateOf 24 = .ok (.iload_n 1, 1) := by decide +kernel
theorem dX6_stateOf_25 : decode cX6_stateOf 25 = .ok (.iaload, 1) := by decide +kernel
theorem dX6_stateOf_26 : decode cX6_stateOf 26 = .ok (.ireturn, 1) := by decide +kernel
set_option maxRecDepth 20000 in
theorem ggX6_nodeOf_X6_checkIndex : GoodIn wsX6_nodeOf wsX6_checkIndex := goodIn_ca (goodIn_r _ [8, 9, 10] (by decide +kernel) (by decide +kernel)) (goodIn_sub (fun _ h => List.mem_cons_of_mem _ (List.mem_append_right _ h)) (by decide +kernel))
set_option maxRecDepth 20000 in
theorem gX6_nodeOf_X6_checkIndex : GoodIn wsX6_nodeOf (va_wsS RX6 62 yX6_checkIndex wsX6_checkIndex) := goodIn_app (goodIn_of _ (by decide +kernel)) ggX6_nodeOf_X6_checkIndex
theorem dX6_nodeOf_0 : decode cX6_nodeOf 0 = .ok (.iload_n 1, 1) := by decide +kernel
theorem dX6_nodeOf_1 : decode cX6_nodeOf 1 = .ok (.aload_n 0, 1) := by decide +kernel
theorem dX6_nodeOf_2 : decode cX6_nodeOf 2 = .ok (.getfield 27, 3) := by decide +kernel
theorem dX6_nodeOf_5 : decode cX6_nodeOf 5 = .ok (.getfield 75, 3) := by decide +kernel
theorem dX6_nodeOf_8 : decode cX6_nodeOf 8 = .ok (.getfield 79, 3) := by decide +kernel
theorem dX6_nodeOf_11 : decode cX6_nodeOf 11 = .ok (.invokestatic 62, 3) := by decide +kernel
theorem dX6_nodeOf_14 : decode cX6_nodeOf 14 = .ok (.aload_n 0, 1) := by decide +kernel
theorem dX6_nodeOf_15 : decode cX6_nodeOf 15 = .ok (.getfield 27, 3) := by decide +kernel
theorem dX6_nodeOf_18 : decode cX6_nodeOf 18 = .ok (.getfield 75, 3) := by decide +kernel
theorem dX6_nodeOf_21 : decode cX6_nodeOf 21 = .ok (.getfield 161, 3) := by decide +kernel
theorem dX6_nodeOf_24 : decode cX6_nodeOf 24 = .ok (.iload_n 1, 1) := by decide +kernel
theorem dX6_nodeOf_25 : decode cX6_nodeOf 25 = .ok (.iaload, 1) := by decide +kernel
theorem dX6_nodeOf_26 : decode cX6_nodeOf 26 = .ok (.ireturn, 1) := by decide +kernel
set_option maxRecDepth 20000 in
theorem ggX6_hopsOf_X6_checkIndex : GoodIn wsX6_hopsOf wsX6_checkIndex := goodIn_ca (goodIn_r _ [8, 9, 10] (by decide +kernel) (by decide +kernel)) (goodIn_sub (fun _ h => List.mem_cons_of_mem _ (List.mem_append_right _ h)) (by decide +kernel))
set_option maxRecDepth 20000 in
theorem gX6_hopsOf_X6_checkIndex : GoodIn wsX6_hopsOf (va_wsS RX6 62 yX6_checkIndex wsX6_checkIndex) := goodIn_app (goodIn_of _ (by decide +kernel)) ggX6_hopsOf_X6_checkIndex
theorem dX6_hopsOf_0 : decode cX6_hopsOf 0 = .ok (.iload_n 1, 1) := by decide +kernel
theorem dX6_hopsOf_1 : decode cX6_hopsOf 1 = .ok (.aload_n 0, 1) := by decide +kernel
theorem dX6_hopsOf_2 : decode cX6_hopsOf 2 = .ok (.getfield 27, 3) := by decide +kernel
theorem dX6_hopsOf_5 : decode cX6_hopsOf 5 = .ok (.getfield 75, 3) := by decide +kernel
theorem dX6_hopsOf_8 : decode cX6_hopsOf 8 = .ok (.getfield 79, 3) := by decide +kernel
theorem dX6_hopsOf_11 : decode cX6_hopsOf 11 = .ok (.invokestatic 62, 3) := by decide +kernel
theorem dX6_hopsOf_14 : decode cX6_hopsOf 14 = .ok (.aload_n 0, 1) := by decide +kernel
theorem dX6_hopsOf_15 : decode cX6_hopsOf 15 = .ok (.getfield 27, 3) := by decide +kernel
theorem dX6_hopsOf_18 : decode cX6_hopsOf 18 = .ok (.getfield 75, 3) := by decide +kernel
theorem dX6_hopsOf_21 : decode cX6_hopsOf 21 = .ok (.getfield 164, 3) := by decide +kernel
theorem dX6_hopsOf_24 : decode cX6_hopsOf 24 = .ok (.iload_n 1, 1) := by decide +kernel
theorem dX6_hopsOf_25 : decode cX6_hopsOf 25 = .ok (.iaload, 1) := by decide +kernel
theorem dX6_hopsOf_26 : decode cX6_hopsOf 26 = .ok (.ireturn, 1) := by decide +kernel
set_option maxRecDepth 20000 in
theorem ggX6_endOf_X6_checkIndex : GoodIn wsX6_endOf wsX6_checkIndex := goodIn_ca (goodIn_r _ [8, 9, 10] (by decide +kernel) (by decide +kernel)) (goodIn_sub (fun _ h => List.mem_cons_of_mem _ (List.mem_append_right _ h)) (by decide +kernel))
set_option maxRecDepth 20000 in
theorem gX6_endOf_X6_checkIndex : GoodIn wsX6_endOf (va_wsS RX6 62 yX6_checkIndex wsX6_checkIndex) := goodIn_app (goodIn_of _ (by decide +kernel)) ggX6_endOf_X6_checkIndex
theorem dX6_endOf_0 : decode cX6_endOf 0 = .ok (.iload_n 1, 1) := by decide +kernel
theorem dX6_endOf_1 : decode cX6_endOf 1 = .ok (.aload_n 0, 1) := by decide +kernel
theorem dX6_endOf_2 : decode cX6_endOf 2 = .ok (.getfield 27, 3) := by decide +kernel
theorem dX6_endOf_5 : decode cX6_endOf 5 = .ok (.getfield 75, 3) := by decide +kernel
theorem dX6_endOf_8 : decode cX6_endOf 8 = .ok (.getfield 79, 3) := by decide +kernel
theorem dX6_endOf_11 : decode cX6_endOf 11 = .ok (.invokestatic 62, 3) := by decide +kernel
theorem dX6_endOf_14 : decode cX6_endOf 14 = .ok (.aload_n 0, 1) := by decide +kernel
theorem dX6_endOf_15 : decode cX6_endOf 15 = .ok (.getfield 27, 3) := by decide +kernel
theorem dX6_endOf_18 : decode cX6_endOf 18 = .ok (.getfield 75, 3) := by decide +kernel
theorem dX6_endOf_21 : decode cX6_endOf 21 = .ok (.getfield 167, 3) := by decide +kernel
theorem dX6_endOf_24 : decode cX6_endOf 24 = .ok (.iload_n 1, 1) := by decide +kernel
theorem dX6_endOf_25 : decode cX6_endOf 25 = .ok (.iaload, 1) := by decide +kernel
theorem dX6_endOf_26 : decode cX6_endOf 26 = .ok (.ireturn, 1) := by decide +kernel
set_option maxRecDepth 20000 in
theorem ggX6_whyDropped_X6_checkIndex : GoodIn wsX6_whyDropped wsX6_checkIndex := goodIn_ca (goodIn_r _ [8, 9, 10] (by decide +kernel) (by decide +kernel)) (goodIn_sub (fun _ h => List.mem_cons_of_mem _ (List.mem_append_right _ h)) (by decide +kernel))
set_option maxRecDepth 20000 in
theorem gX6_whyDropped_X6_checkIndex : GoodIn wsX6_whyDropped (va_wsS RX6 62 yX6_checkIndex wsX6_checkIndex) := goodIn_app (goodIn_of _ (by decide +kernel)) ggX6_whyDropped_X6_checkIndex
theorem dX6_whyDropped_0 : decode cX6_whyDropped 0 = .ok (.iload_n 1, 1) := by decide +kernel
theorem dX6_whyDropped_1 : decode cX6_whyDropped 1 = .ok (.aload_n 0, 1) := by decide +kernel
theorem dX6_whyDropped_2 : decode cX6_whyDropped 2 = .ok (.getfield 27, 3) := by decide +kernel
theorem dX6_whyDropped_5 : decode cX6_whyDropped 5 = .ok (.getfield 75, 3) := by decide +kernel
theorem dX6_whyDropped_8 : decode cX6_whyDropped 8 = .ok (.getfield 79, 3) := by decide +kernel
theorem dX6_whyDropped_11 : decode cX6_whyDropped 11 = .ok (.invokestatic 62, 3) := by decide +kernel
theorem dX6_whyDropped_14 : decode cX6_whyDropped 14 = .ok (.iload_n 2, 1) := by decide +kernel
theorem dX6_whyDropped_15 : decode cX6_whyDropped 15 = .ok (.iconst 2, 1) := by decide +kernel
theorem dX6_whyDropped_16 : decode cX6_whyDropped 16 = .ok (.invokestatic 62, 3) := by decide +kernel
theorem dX6_whyDropped_19 : decode cX6_whyDropped 19 = .ok (.aload_n 0, 1) := by decide +kernel
theorem dX6_whyDropped_20 : decode cX6_whyDropped 20 = .ok (.getfield 27, 3) := by decide +kernel
theorem dX6_whyDropped_23 : decode cX6_whyDropped 23 = .ok (.getfield 75, 3) := by decide +kernel
theorem dX6_whyDropped_26 : decode cX6_whyDropped 26 = .ok (.getfield 170, 3) := by decide +kernel
theorem dX6_whyDropped_29 : decode cX6_whyDropped 29 = .ok (.iload_n 1, 1) := by decide +kernel
theorem dX6_whyDropped_30 : decode cX6_whyDropped 30 = .ok (.iaload, 1) := by decide +kernel
theorem dX6_whyDropped_31 : decode cX6_whyDropped 31 = .ok (.istore_n 3, 1) := by decide +kernel
theorem dX6_whyDropped_32 : decode cX6_whyDropped 32 = .ok (.iload_n 2, 1) := by decide +kernel
theorem dX6_whyDropped_33 : decode cX6_whyDropped 33 = .ok (.ifCond .ne 10, 3) := by decide +kernel
theorem dX6_whyDropped_36 : decode cX6_whyDropped 36 = .ok (.iload_n 3, 1) := by decide +kernel
theorem dX6_whyDropped_37 : decode cX6_whyDropped 37 = .ok (.bipush 10, 2) := by decide +kernel
theorem dX6_whyDropped_39 : decode cX6_whyDropped 39 = .ok (.idiv, 1) := by decide +kernel
theorem dX6_whyDropped_40 : decode cX6_whyDropped 40 = .ok (.goto 4, 3) := by decide +kernel
theorem dX6_whyDropped_43 : decode cX6_whyDropped 43 = .ok (.iload_n 3, 1) := by decide +kernel
theorem dX6_whyDropped_44 : decode cX6_whyDropped 44 = .ok (.ireturn, 1) := by decide +kernel
set_option maxRecDepth 20000 in
theorem ggX6_packets_X6_checkIndex : GoodIn wsX6_packets wsX6_checkIndex := goodIn_ca (goodIn_r _ [6, 7, 8] (by decide +kernel) (by decide +kernel)) (goodIn_sub (fun _ h => List.mem_cons_of_mem _ (List.mem_append_right _ h)) (by decide +kernel))
set_option maxRecDepth 20000 in
theorem gX6_packets_X6_checkIndex : GoodIn wsX6_packets (va_wsS RX6 62 yX6_checkIndex wsX6_checkIndex) := goodIn_app (goodIn_of _ (by decide +kernel)) ggX6_packets_X6_checkIndex
set_option maxRecDepth 20000 in
theorem ggX6_packets_X3_inState : GoodIn wsX6_packets wsX3_inState := goodIn_r _ [13, 14, 15, 33, 34, 35, 36, 37, 38, 39, 40, 41] (by decide +kernel) (by decide +kernel)
set_option maxRecDepth 20000 in
theorem gX6_packets_X3_inState : GoodIn wsX6_packets (wsV RX6 173 RX3 yX3_inState wsX3_inState) := goodIn_app (goodIn_of _ (by decide +kernel)) ggX6_packets_X3_inState
theorem dX6_packets_0 : decode cX6_packets 0 = .ok (.iload_n 1, 1) := by decide +kernel
theorem dX6_packets_1 : decode cX6_packets 1 = .ok (.iconst 4, 1) := by decide +kernel
theorem dX6_packets_2 : decode cX6_packets 2 = .ok (.invokestatic 62, 3) := by decide +kernel
theorem dX6_packets_5 : decode cX6_packets 5 = .ok (.aload_n 0, 1) := by decide +kernel
theorem dX6_packets_6 : decode cX6_packets 6 = .ok (.getfield 27, 3) := by decide +kernel
theorem dX6_packets_9 : decode cX6_packets 9 = .ok (.getfield 75, 3) := by decide +kernel
theorem dX6_packets_12 : decode cX6_packets 12 = .ok (.iload_n 1, 1) := by decide +kernel
theorem dX6_packets_13 : decode cX6_packets 13 = .ok (.invokevirtual 173, 3) := by decide +kernel
theorem dX6_packets_16 : decode cX6_packets 16 = .ok (.ireturn, 1) := by decide +kernel
set_option maxRecDepth 20000 in
theorem ggX6_follow_X6_checkNodes : GoodIn wsX6_follow wsX6_checkNodes := goodIn_ca (goodIn_r _ [6, 7, 8, 9, 5, 10, 11, 12, 31, 32, 33, 34, 35] (by decide +kernel) (by decide +kernel)) (goodIn_sub (fun _ h => List.mem_cons_of_mem _ (List.mem_append_right _ h)) (by decide +kernel))
set_option maxRecDepth 20000 in
theorem gX6_follow_X6_checkNodes : GoodIn wsX6_follow (wsV RX6 49 RX6 yX6_checkNodes wsX6_checkNodes) := goodIn_app (goodIn_of _ (by decide +kernel)) ggX6_follow_X6_checkNodes
set_option maxRecDepth 20000 in
theorem ggX6_follow_X2_walk : GoodIn wsX6_follow wsX2_walk := goodIn_r _ [17, 18, 19, 20, 21, 22, 5, 23, 24, 25, 26, 27, 28, 29, 30, 36, 37, 38, 39, 40, 41, 42, 43, 44, 45, 46, 47, 48, 49, 50, 51, 52, 53] (by decide +kernel) (by decide +kernel)
set_option maxRecDepth 20000 in
theorem gX6_follow_X2_walk : GoodIn wsX6_follow (wsV RX6 176 RX2 yX2_walk wsX2_walk) := goodIn_app (goodIn_of _ (by decide +kernel)) ggX6_follow_X2_walk
theorem dX6_follow_0 : decode cX6_follow 0 = .ok (.aload_n 0, 1) := by decide +kernel
theorem dX6_follow_1 : decode cX6_follow 1 = .ok (.iload_n 1, 1) := by decide +kernel
theorem dX6_follow_2 : decode cX6_follow 2 = .ok (.iload_n 2, 1) := by decide +kernel
theorem dX6_follow_3 : decode cX6_follow 3 = .ok (.invokevirtual 49, 3) := by decide +kernel
theorem dX6_follow_6 : decode cX6_follow 6 = .ok (.aload_n 0, 1) := by decide +kernel
theorem dX6_follow_7 : decode cX6_follow 7 = .ok (.getfield 27, 3) := by decide +kernel
theorem dX6_follow_10 : decode cX6_follow 10 = .ok (.iload_n 1, 1) := by decide +kernel
theorem dX6_follow_11 : decode cX6_follow 11 = .ok (.iload_n 2, 1) := by decide +kernel
theorem dX6_follow_12 : decode cX6_follow 12 = .ok (.invokevirtual 176, 3) := by decide +kernel
theorem dX6_follow_15 : decode cX6_follow 15 = .ok (.ireturn, 1) := by decide +kernel
set_option maxRecDepth 20000 in
theorem ggX6_loops_X2_walk : GoodIn wsX6_loops wsX2_walk := goodIn_r _ [7, 8, 9, 10, 11, 12, 13, 14, 15, 16, 17, 18, 19, 20, 21, 27, 28, 29, 30, 31, 32, 33, 34, 35, 36, 37, 38, 39, 40, 41, 42, 43, 44] (by decide +kernel) (by decide +kernel)
set_option maxRecDepth 20000 in
theorem gX6_loops_X2_walk : GoodIn wsX6_loops (wsV RX6 176 RX2 yX2_walk wsX2_walk) := goodIn_app (goodIn_of _ (by decide +kernel)) ggX6_loops_X2_walk
theorem dX6_loops_0 : decode cX6_loops 0 = .ok (.iconst 0, 1) := by decide +kernel
theorem dX6_loops_1 : decode cX6_loops 1 = .ok (.istore_n 1, 1) := by decide +kernel
theorem dX6_loops_2 : decode cX6_loops 2 = .ok (.iconst 0, 1) := by decide +kernel
theorem dX6_loops_3 : decode cX6_loops 3 = .ok (.istore_n 2, 1) := by decide +kernel
theorem dX6_loops_4 : decode cX6_loops 4 = .ok (.iload_n 2, 1) := by decide +kernel
theorem dX6_loops_5 : decode cX6_loops 5 = .ok (.aload_n 0, 1) := by decide +kernel
theorem dX6_loops_6 : decode cX6_loops 6 = .ok (.getfield 18, 3) := by decide +kernel
theorem dX6_loops_9 : decode cX6_loops 9 = .ok (.if_icmp .ge 42, 3) := by decide +kernel
theorem dX6_loops_12 : decode cX6_loops 12 = .ok (.iconst 0, 1) := by decide +kernel
theorem dX6_loops_13 : decode cX6_loops 13 = .ok (.istore_n 3, 1) := by decide +kernel
theorem dX6_loops_14 : decode cX6_loops 14 = .ok (.iload_n 3, 1) := by decide +kernel
theorem dX6_loops_15 : decode cX6_loops 15 = .ok (.aload_n 0, 1) := by decide +kernel
theorem dX6_loops_16 : decode cX6_loops 16 = .ok (.getfield 18, 3) := by decide +kernel
theorem dX6_loops_19 : decode cX6_loops 19 = .ok (.if_icmp .ge 26, 3) := by decide +kernel
theorem dX6_loops_22 : decode cX6_loops 22 = .ok (.aload_n 0, 1) := by decide +kernel
theorem dX6_loops_23 : decode cX6_loops 23 = .ok (.getfield 27, 3) := by decide +kernel
theorem dX6_loops_26 : decode cX6_loops 26 = .ok (.iload_n 2, 1) := by decide +kernel
theorem dX6_loops_27 : decode cX6_loops 27 = .ok (.iload_n 3, 1) := by decide +kernel
theorem dX6_loops_28 : decode cX6_loops 28 = .ok (.invokevirtual 176, 3) := by decide +kernel
theorem dX6_loops_31 : decode cX6_loops 31 = .ok (.bipush (-2), 2) := by decide +kernel
theorem dX6_loops_33 : decode cX6_loops 33 = .ok (.if_icmp .ne 6, 3) := by decide +kernel
theorem dX6_loops_36 : decode cX6_loops 36 = .ok (.iinc 1 1, 3) := by decide +kernel
theorem dX6_loops_39 : decode cX6_loops 39 = .ok (.iinc 3 1, 3) := by decide +kernel
theorem dX6_loops_42 : decode cX6_loops 42 = .ok (.goto (-28), 3) := by decide +kernel
theorem dX6_loops_45 : decode cX6_loops 45 = .ok (.iinc 2 1, 3) := by decide +kernel
theorem dX6_loops_48 : decode cX6_loops 48 = .ok (.goto (-44), 3) := by decide +kernel
theorem dX6_loops_51 : decode cX6_loops 51 = .ok (.iload_n 1, 1) := by decide +kernel
theorem dX6_loops_52 : decode cX6_loops 52 = .ok (.ireturn, 1) := by decide +kernel
set_option maxRecDepth 20000 in
theorem ggX6_distance_X6_checkNodes : GoodIn wsX6_distance wsX6_checkNodes := goodIn_ca (goodIn_r _ [7, 8, 9, 10, 6, 11, 12, 13, 29, 30, 31, 32, 33] (by decide +kernel) (by decide +kernel)) (goodIn_sub (fun _ h => List.mem_cons_of_mem _ (List.mem_append_right _ h)) (by decide +kernel))
set_option maxRecDepth 20000 in
theorem gX6_distance_X6_checkNodes : GoodIn wsX6_distance (wsV RX6 49 RX6 yX6_checkNodes wsX6_checkNodes) := goodIn_app (goodIn_of _ (by decide +kernel)) ggX6_distance_X6_checkNodes
set_option maxRecDepth 20000 in
theorem ggX6_distance_X0_fewestLinks : GoodIn wsX6_distance wsX0_fewestLinks := goodIn_r _ [18, 19, 20, 21, 22, 17, 23, 24, 25, 26, 27, 28, 46, 47, 48, 49, 50, 51, 52] (by decide +kernel) (by decide +kernel)
set_option maxRecDepth 20000 in
theorem gX6_distance_X0_fewestLinks : GoodIn wsX6_distance (wsV RX6 179 RX0 yX0_fewestLinks wsX0_fewestLinks) := goodIn_app (goodIn_of _ (by decide +kernel)) ggX6_distance_X0_fewestLinks
theorem dX6_distance_0 : decode cX6_distance 0 = .ok (.aload_n 0, 1) := by decide +kernel
theorem dX6_distance_1 : decode cX6_distance 1 = .ok (.iload_n 1, 1) := by decide +kernel
theorem dX6_distance_2 : decode cX6_distance 2 = .ok (.iload_n 2, 1) := by decide +kernel
theorem dX6_distance_3 : decode cX6_distance 3 = .ok (.invokevirtual 49, 3) := by decide +kernel
theorem dX6_distance_6 : decode cX6_distance 6 = .ok (.aload_n 0, 1) := by decide +kernel
theorem dX6_distance_7 : decode cX6_distance 7 = .ok (.getfield 27, 3) := by decide +kernel
theorem dX6_distance_10 : decode cX6_distance 10 = .ok (.getfield 52, 3) := by decide +kernel
theorem dX6_distance_13 : decode cX6_distance 13 = .ok (.iload_n 1, 1) := by decide +kernel
theorem dX6_distance_14 : decode cX6_distance 14 = .ok (.iload_n 2, 1) := by decide +kernel
theorem dX6_distance_15 : decode cX6_distance 15 = .ok (.invokevirtual 179, 3) := by decide +kernel
theorem dX6_distance_18 : decode cX6_distance 18 = .ok (.ireturn, 1) := by decide +kernel
set_option maxRecDepth 20000 in
theorem ggX6_totalHops_X3_linksOfDelivered : GoodIn wsX6_totalHops wsX3_linksOfDelivered := goodIn_r _ [7, 8, 9, 10, 28, 29, 30, 31, 32, 33, 34, 35, 36] (by decide +kernel) (by decide +kernel)
set_option maxRecDepth 20000 in
theorem gX6_totalHops_X3_linksOfDelivered : GoodIn wsX6_totalHops (wsV RX6 182 RX3 yX3_linksOfDelivered wsX3_linksOfDelivered) := goodIn_app (goodIn_of _ (by decide +kernel)) ggX6_totalHops_X3_linksOfDelivered
theorem dX6_totalHops_0 : decode cX6_totalHops 0 = .ok (.aload_n 0, 1) := by decide +kernel
theorem dX6_totalHops_1 : decode cX6_totalHops 1 = .ok (.getfield 27, 3) := by decide +kernel
theorem dX6_totalHops_4 : decode cX6_totalHops 4 = .ok (.getfield 75, 3) := by decide +kernel
theorem dX6_totalHops_7 : decode cX6_totalHops 7 = .ok (.invokevirtual 182, 3) := by decide +kernel
theorem dX6_totalHops_10 : decode cX6_totalHops 10 = .ok (.ireturn, 1) := by decide +kernel
set_option maxRecDepth 20000 in
theorem ggX6_forecast_X6_checkTwoNodes : GoodIn wsX6_forecast wsX6_checkTwoNodes := goodIn_ca (goodIn_ca (goodIn_r _ [11, 12, 13, 14, 15, 16, 10, 17, 18, 19, 20, 21, 22, 23, 382, 383, 384, 385, 386] (by decide +kernel) (by decide +kernel)) (goodIn_sub (fun _ h => List.mem_cons_of_mem _ (List.mem_append_left _ (List.mem_append_right _ h))) (by decide +kernel))) (goodIn_sub (fun _ h => List.mem_cons_of_mem _ (List.mem_append_right _ h)) (by decide +kernel))
set_option maxRecDepth 20000 in
theorem gX6_forecast_X6_checkTwoNodes : GoodIn wsX6_forecast (wsV RX6 37 RX6 yX6_checkTwoNodes wsX6_checkTwoNodes) := goodIn_app (goodIn_of _ (by decide +kernel)) ggX6_forecast_X6_checkTwoNodes
set_option maxRecDepth 20000 in
theorem ggX6_forecast_X6_checkRange : GoodIn wsX6_forecast wsX6_checkRange := goodIn_ca (goodIn_r _ [26, 12, 13] (by decide +kernel) (by decide +kernel)) (goodIn_sub (fun _ h => List.mem_cons_of_mem _ (List.mem_append_left _ (List.mem_append_right _ h))) (by decide +kernel))
set_option maxRecDepth 20000 in
theorem gX6_forecast_X6_checkRange : GoodIn wsX6_forecast (va_wsS RX6 41 yX6_checkRange wsX6_checkRange) := goodIn_app (goodIn_of _ (by decide +kernel)) ggX6_forecast_X6_checkRange
set_option maxRecDepth 20000 in
theorem ggX6_forecast_X2_become : GoodIn wsX6_forecast wsX2_become := goodIn_r _ [31, 32, 33, 34, 35, 36, 37, 38, 39, 40, 41, 42, 43, 44, 45, 46, 10, 47, 48, 49, 50, 51, 52, 53, 54, 55, 56, 57, 58, 59, 60, 61, 62, 63, 64, 65, 66, 67, 68, 69, 70, 71, 72, 73, 74, 75, 76, 77, 78, 79, 80, 81, 82, 83, 84, 85, 86, 87, 88, 89, 90, 91, 92, 93, 94, 95, 96, 97, 98, 99, 100, 101, 102, 103, 104, 105, 106, 107, 108, 109, 110, 111, 112, 113, 114, 115, 116, 117, 118, 119, 120, 121, 122, 123, 124, 125, 126, 127, 128, 129, 130, 131, 132, 133, 134, 135, 136, 137, 387, 388, 389, 390, 391, 392, 393, 394, 395, 396, 397, 398, 408, 409, 410, 411, 412, 413, 414, 415, 416, 417, 418, 419, 420, 421, 422, 423, 424, 425, 426, 427, 428, 429, 430, 431, 432, 433, 434, 435, 436, 437, 438, 439, 440, 399, 400, 401, 402, 403, 404, 405, 406, 407] (by decide +kernel) (by decide +kernel)
set_option maxRecDepth 20000 in
theorem gX6_forecast_X2_become : GoodIn wsX6_forecast (wsV RX6 185 RX2 yX2_become wsX2_become) := goodIn_app (goodIn_of _ (by decide +kernel)) ggX6_forecast_X2_become
set_option maxRecDepth 20000 in
theorem ggX6_forecast_X2_launch : GoodIn wsX6_forecast wsX2_launch := goodIn_r _ [141, 38, 142, 143, 144, 145, 146, 147, 148, 30, 149, 150, 32, 151, 36, 37, 33, 152, 35, 153, 10, 154, 155, 156, 157, 127, 158, 132, 136, 159, 160, 161, 162, 137, 163, 164, 165, 104, 166, 106, 110, 167, 168, 169, 170, 171, 172, 173, 174, 175, 176, 177, 178, 73, 74, 56, 75, 71, 76, 77, 78, 63, 60, 61, 62, 70, 59, 65, 64, 79, 80, 81, 82, 83, 84, 85, 86, 87, 179, 180, 181, 182, 133, 134, 135, 183, 184, 185, 186, 187, 188, 189, 190, 191, 192, 50, 193, 194, 195, 196, 197, 198, 199, 200, 201, 202, 115, 203, 121, 204, 205, 206, 207, 122, 208, 43, 44, 45, 209, 210, 211, 212, 213, 214, 215, 216, 217, 117, 218, 219, 220, 221, 120, 222, 223, 224, 225, 34, 226, 227, 228, 229, 230, 231, 232, 233, 234, 235, 236, 237, 238, 119, 118, 239, 240, 241, 242, 123, 243, 244, 245, 246, 39, 40, 247, 248, 249, 250, 251, 252, 253, 254, 255, 256, 41, 257, 49, 51, 258, 259, 260, 261, 262, 263, 264, 265, 266, 267, 58, 268, 89, 90, 91, 92, 93, 94, 95, 96, 97, 98, 99, 100, 269, 270, 271, 272, 273, 274, 275, 276, 277, 278, 279, 280, 387, 388, 389, 390, 391, 392, 393, 394, 395, 396, 397, 398, 399, 400, 401, 402, 403, 404, 405, 406, 407, 428, 429, 430, 431, 432, 433, 415, 416, 417, 418, 419, 420, 421, 422, 423, 424, 425, 426, 427, 408, 409, 410, 411, 412, 413, 414, 434, 435, 436, 437, 438, 439, 440] (by decide +kernel) (by decide +kernel)
set_option maxRecDepth 20000 in
theorem gX6_forecast_X2_launch : GoodIn wsX6_forecast (wsV RX6 91 RX2 yX2_launch wsX2_launch) := goodIn_app (goodIn_of _ (by decide +kernel)) ggX6_forecast_X2_launch
set_option maxRecDepth 20000 in
theorem ggX6_forecast_X2_advance : GoodIn wsX6_forecast wsX2_advance := goodIn_r _ [284, 32, 285, 286, 287, 288, 30, 289, 35, 37, 290, 291, 292, 56, 293, 59, 84, 85, 86, 87, 294, 295, 296, 115, 297, 123, 118, 298, 299, 300, 301, 302, 303, 172, 304, 305, 306, 307, 308, 63, 70, 64, 60, 309, 310, 311, 312, 313, 314, 315, 33, 316, 49, 50, 51, 317, 318, 319, 320, 117, 239, 240, 241, 242, 321, 322, 323, 324, 325, 38, 204, 205, 206, 207, 121, 122, 208, 43, 44, 45, 159, 160, 161, 127, 162, 132, 137, 136, 326, 327, 328, 329, 263, 36, 330, 153, 10, 154, 264, 265, 266, 267, 58, 277, 278, 279, 280, 230, 231, 232, 173, 174, 175, 176, 177, 178, 73, 74, 75, 71, 76, 77, 78, 61, 62, 65, 79, 80, 81, 82, 83, 222, 223, 224, 225, 34, 226, 227, 228, 229, 233, 234, 235, 236, 237, 238, 119, 243, 244, 245, 246, 39, 40, 247, 248, 249, 250, 251, 252, 253, 254, 255, 256, 41, 257, 258, 259, 260, 261, 262, 268, 89, 90, 91, 92, 93, 94, 95, 96, 97, 98, 99, 100, 331, 332, 333, 334, 335, 336, 192, 193, 171, 152, 337, 338, 339, 340, 341, 183, 184, 185, 186, 342, 343, 344, 345, 346, 347, 348, 349, 104, 350, 108, 109, 107, 106, 110, 191, 194, 164, 165, 166, 214, 215, 216, 217, 163, 351, 352, 353, 354, 355, 356, 357, 358, 359, 360, 361, 362, 363, 111, 364, 274, 275, 276, 365, 366, 367, 368, 369, 370, 371, 372, 373, 146, 147, 148, 149, 144, 150, 151, 143, 145, 155, 156, 157, 158, 167, 168, 169, 170, 179, 180, 181, 182, 133, 134, 135, 187, 188, 189, 190, 195, 196, 197, 198, 199, 200, 201, 202, 203, 209, 210, 211, 212, 213, 218, 219, 220, 221, 120, 269, 270, 271, 272, 273, 374, 375, 376, 377, 378, 379, 380, 381, 387, 388, 389, 390, 391, 392, 393, 394, 395, 396, 397, 398, 408, 409, 410, 411, 412, 413, 414, 434, 435, 436, 437, 438, 439, 440, 415, 416, 417, 418, 419, 420, 421, 422, 423, 424, 425, 426, 427, 399, 400, 401, 402, 403, 404, 405, 406, 407, 428, 429, 430, 431, 432, 433] (by decide +kernel) (by decide +kernel)
set_option maxRecDepth 20000 in
theorem gX6_forecast_X2_advance : GoodIn wsX6_forecast (wsV RX6 99 RX2 yX2_advance wsX2_advance) := goodIn_app (goodIn_of _ (by decide +kernel)) ggX6_forecast_X2_advance
theorem dX6_forecast_0 : decode cX6_forecast 0 = .ok (.aload_n 0, 1) := by decide +kernel
theorem dX6_forecast_1 : decode cX6_forecast 1 = .ok (.iload_n 1, 1) := by decide +kernel
theorem dX6_forecast_2 : decode cX6_forecast 2 = .ok (.iload_n 2, 1) := by decide +kernel
theorem dX6_forecast_3 : decode cX6_forecast 3 = .ok (.invokevirtual 37, 3) := by decide +kernel
theorem dX6_forecast_6 : decode cX6_forecast 6 = .ok (.iload_n 3, 1) := by decide +kernel
theorem dX6_forecast_7 : decode cX6_forecast 7 = .ok (.iconst 0, 1) := by decide +kernel
theorem dX6_forecast_8 : decode cX6_forecast 8 = .ok (.ldc 98, 2) := by decide +kernel
theorem dX6_forecast_10 : decode cX6_forecast 10 = .ok (.invokestatic 41, 3) := by decide +kernel
theorem dX6_forecast_13 : decode cX6_forecast 13 = .ok (.aload_n 0, 1) := by decide +kernel
theorem dX6_forecast_14 : decode cX6_forecast 14 = .ok (.getfield 27, 3) := by decide +kernel
theorem dX6_forecast_17 : decode cX6_forecast 17 = .ok (.getfield 75, 3) := by decide +kernel
theorem dX6_forecast_20 : decode cX6_forecast 20 = .ok (.getfield 79, 3) := by decide +kernel
theorem dX6_forecast_23 : decode cX6_forecast 23 = .ok (.sipush 200, 3) := by decide +kernel
theorem dX6_forecast_26 : decode cX6_forecast 26 = .ok (.if_icmp .lt 5, 3) := by decide +kernel
theorem dX6_forecast_29 : decode cX6_forecast 29 = .ok (.iconst (-1), 1) := by decide +kernel
theorem dX6_forecast_30 : decode cX6_forecast 30 = .ok (.ireturn, 1) := by decide +kernel
theorem dX6_forecast_31 : decode cX6_forecast 31 = .ok (.aload_n 0, 1) := by decide +kernel
theorem dX6_forecast_32 : decode cX6_forecast 32 = .ok (.getfield 34, 3) := by decide +kernel
theorem dX6_forecast_35 : decode cX6_forecast 35 = .ok (.aload_n 0, 1) := by decide +kernel
theorem dX6_forecast_36 : decode cX6_forecast 36 = .ok (.getfield 27, 3) := by decide +kernel
theorem dX6_forecast_39 : decode cX6_forecast 39 = .ok (.invokevirtual 185, 3) := by decide +kernel
theorem dX6_forecast_42 : decode cX6_forecast 42 = .ok (.aload_n 0, 1) := by decide +kernel
theorem dX6_forecast_43 : decode cX6_forecast 43 = .ok (.getfield 34, 3) := by decide +kernel
theorem dX6_forecast_46 : decode cX6_forecast 46 = .ok (.iload_n 1, 1) := by decide +kernel
theorem dX6_forecast_47 : decode cX6_forecast 47 = .ok (.iload_n 2, 1) := by decide +kernel
theorem dX6_forecast_48 : decode cX6_forecast 48 = .ok (.invokevirtual 91, 3) := by decide +kernel
theorem dX6_forecast_51 : decode cX6_forecast 51 = .ok (.istore 4, 2) := by decide +kernel
theorem dX6_forecast_53 : decode cX6_forecast 53 = .ok (.aload_n 0, 1) := by decide +kernel
theorem dX6_forecast_54 : decode cX6_forecast 54 = .ok (.getfield 34, 3) := by decide +kernel
theorem dX6_forecast_57 : decode cX6_forecast 57 = .ok (.iload_n 3, 1) := by decide +kernel
theorem dX6_forecast_58 : decode cX6_forecast 58 = .ok (.invokevirtual 99, 3) := by decide +kernel
theorem dX6_forecast_61 : decode cX6_forecast 61 = .ok (.pop, 1) := by decide +kernel
theorem dX6_forecast_62 : decode cX6_forecast 62 = .ok (.aload_n 0, 1) := by decide +kernel
theorem dX6_forecast_63 : decode cX6_forecast 63 = .ok (.getfield 34, 3) := by decide +kernel
theorem dX6_forecast_66 : decode cX6_forecast 66 = .ok (.getfield 75, 3) := by decide +kernel
theorem dX6_forecast_69 : decode cX6_forecast 69 = .ok (.getfield 158, 3) := by decide +kernel
theorem dX6_forecast_72 : decode cX6_forecast 72 = .ok (.iload 4, 2) := by decide +kernel
theorem dX6_forecast_74 : decode cX6_forecast 74 = .ok (.iaload, 1) := by decide +kernel
theorem dX6_forecast_75 : decode cX6_forecast 75 = .ok (.ireturn, 1) := by decide +kernel
set_option maxRecDepth 20000 in
theorem ggX6_damage_X6_checkTwoNodes : GoodIn wsX6_damage wsX6_checkTwoNodes := goodIn_ca (goodIn_ca (goodIn_r _ [9, 10, 11, 12, 13, 14, 8, 15, 16, 17, 18, 19, 20, 21, 407, 408, 409, 410, 411] (by decide +kernel) (by decide +kernel)) (goodIn_sub (fun _ h => List.mem_cons_of_mem _ (List.mem_append_left _ (List.mem_append_right _ h))) (by decide +kernel))) (goodIn_sub (fun _ h => List.mem_cons_of_mem _ (List.mem_append_right _ h)) (by decide +kernel))
set_option maxRecDepth 20000 in
theorem gX6_damage_X6_checkTwoNodes : GoodIn wsX6_damage (wsV RX6 37 RX6 yX6_checkTwoNodes wsX6_checkTwoNodes) := goodIn_app (goodIn_of _ (by decide +kernel)) ggX6_damage_X6_checkTwoNodes
set_option maxRecDepth 20000 in
theorem ggX6_damage_X6_checkRange : GoodIn wsX6_damage wsX6_checkRange := goodIn_ca (goodIn_r _ [24, 10, 11] (by decide +kernel) (by decide +kernel)) (goodIn_sub (fun _ h => List.mem_cons_of_mem _ (List.mem_append_left _ (List.mem_append_right _ h))) (by decide +kernel))
set_option maxRecDepth 20000 in
theorem gX6_damage_X6_checkRange : GoodIn wsX6_damage (va_wsS RX6 41 yX6_checkRange wsX6_checkRange) := goodIn_app (goodIn_of _ (by decide +kernel)) ggX6_damage_X6_checkRange
set_option maxRecDepth 20000 in
theorem ggX6_damage_X2_become : GoodIn wsX6_damage wsX2_become := goodIn_r _ [29, 30, 31, 32, 33, 34, 35, 36, 37, 38, 39, 40, 41, 42, 43, 44, 8, 45, 46, 47, 48, 49, 50, 51, 52, 53, 54, 55, 56, 57, 58, 59, 60, 61, 62, 63, 64, 65, 66, 67, 68, 69, 70, 71, 72, 73, 74, 75, 76, 77, 78, 79, 80, 81, 82, 83, 84, 85, 86, 87, 88, 89, 90, 91, 92, 93, 94, 95, 96, 97, 98, 99, 100, 101, 102, 103, 104, 105, 106, 107, 108, 109, 110, 111, 112, 113, 114, 115, 116, 117, 118, 119, 120, 121, 122, 123, 124, 125, 126, 127, 128, 129, 130, 131, 132, 133, 134, 135, 412, 413, 414, 415, 416, 417, 418, 419, 420, 421, 422, 423, 424, 425, 426, 427, 428, 429, 430, 431, 432, 433, 434, 435, 436, 437, 438, 439, 440, 441, 442, 443, 444, 445, 446, 447, 448, 449, 450, 451, 452, 453, 454, 455, 456, 457, 458, 459, 460, 461, 462, 463, 464, 465] (by decide +kernel) (by decide +kernel)
set_option maxRecDepth 20000 in
theorem gX6_damage_X2_become : GoodIn wsX6_damage (wsV RX6 185 RX2 yX2_become wsX2_become) := goodIn_app (goodIn_of _ (by decide +kernel)) ggX6_damage_X2_become
set_option maxRecDepth 20000 in
theorem ggX6_damage_X2_changeLink : GoodIn wsX6_damage wsX2_changeLink := goodIn_r _ [139, 33, 140, 141, 47, 48, 49, 142, 143, 144, 145, 146, 147, 28, 148, 36, 149, 30, 150, 151, 152, 125, 153, 132, 131, 130, 154, 155, 156, 157, 135, 134, 158, 159, 160, 54, 161, 57, 61, 62, 58, 68, 162, 163, 164, 76, 165, 166, 167, 168, 169, 170, 171, 69, 172, 173, 174, 175, 176, 34, 177, 178, 179, 180, 8, 181, 182, 183, 184, 102, 185, 104, 108, 186, 187, 188, 189, 190, 191, 192, 193, 194, 56, 195, 196, 197, 198, 199, 200, 201, 202, 203, 204, 205, 71, 72, 73, 74, 75, 59, 60, 63, 77, 78, 79, 80, 81, 82, 83, 84, 85, 412, 413, 414, 415, 416, 417, 418, 419, 420, 421, 422, 423, 424, 425, 426, 427, 428, 429, 430, 457, 458, 459, 460, 461, 462, 463, 464, 465, 431, 432, 433, 434, 435, 436, 437, 438, 439, 440, 441, 442, 443, 444, 445, 446, 447, 448, 449] (by decide +kernel) (by decide +kernel)
set_option maxRecDepth 20000 in
theorem gX6_damage_X2_changeLink : GoodIn wsX6_damage (wsV RX6 45 RX2 yX2_changeLink wsX2_changeLink) := goodIn_app (goodIn_of _ (by decide +kernel)) ggX6_damage_X2_changeLink
set_option maxRecDepth 20000 in
theorem ggX6_damage_X2_advance : GoodIn wsX6_damage wsX2_advance := goodIn_r _ [209, 30, 210, 211, 212, 213, 28, 214, 33, 35, 215, 216, 217, 54, 218, 57, 82, 83, 84, 85, 219, 220, 221, 113, 222, 121, 116, 223, 224, 225, 226, 227, 228, 229, 230, 231, 232, 233, 234, 61, 68, 62, 58, 235, 236, 237, 238, 239, 240, 241, 31, 141, 47, 48, 49, 242, 243, 244, 245, 115, 246, 247, 248, 249, 250, 251, 252, 253, 254, 36, 255, 256, 257, 258, 119, 120, 259, 41, 42, 43, 154, 155, 156, 125, 157, 130, 135, 134, 186, 187, 188, 189, 176, 34, 190, 180, 8, 181, 191, 192, 193, 194, 56, 195, 196, 197, 198, 199, 179, 200, 201, 202, 203, 204, 140, 205, 71, 72, 73, 69, 74, 75, 76, 59, 60, 63, 77, 78, 79, 80, 81, 260, 261, 262, 263, 32, 264, 265, 266, 267, 268, 269, 270, 271, 272, 273, 117, 274, 275, 276, 277, 37, 38, 278, 279, 280, 281, 282, 283, 284, 285, 286, 287, 39, 288, 289, 290, 291, 292, 293, 294, 87, 88, 89, 90, 91, 92, 93, 94, 95, 96, 97, 98, 295, 296, 297, 298, 299, 142, 143, 144, 177, 300, 301, 302, 303, 304, 305, 306, 307, 308, 309, 310, 311, 312, 313, 314, 315, 316, 317, 102, 318, 106, 107, 105, 104, 108, 319, 320, 183, 184, 185, 321, 322, 323, 324, 182, 325, 326, 327, 328, 329, 330, 331, 332, 333, 334, 335, 336, 337, 109, 338, 339, 340, 341, 342, 343, 344, 345, 346, 347, 348, 349, 178, 350, 351, 352, 353, 354, 355, 356, 357, 358, 359, 360, 361, 362, 363, 364, 365, 366, 367, 368, 369, 370, 131, 132, 133, 371, 372, 373, 374, 375, 376, 377, 378, 379, 380, 381, 382, 383, 384, 385, 386, 387, 388, 389, 390, 391, 392, 118, 393, 394, 395, 396, 397, 398, 399, 400, 401, 402, 169, 170, 171, 412, 413, 414, 415, 416, 417, 418, 419, 420, 421, 422, 423, 424, 425, 426, 427, 428, 429, 430, 450, 451, 452, 453, 454, 455, 456, 431, 432, 433, 434, 435, 436, 437, 438, 439, 440, 441, 442, 443, 457, 458, 459, 460, 461, 462, 463, 464, 465, 444, 445, 446, 447, 448, 449] (by decide +kernel) (by decide +kernel)
set_option maxRecDepth 20000 in
theorem gX6_damage_X2_advance : GoodIn wsX6_damage (wsV RX6 99 RX2 yX2_advance wsX2_advance) := goodIn_app (goodIn_of _ (by decide +kernel)) ggX6_damage_X2_advance
set_option maxRecDepth 20000 in
theorem ggX6_damage_X3_inState : GoodIn wsX6_damage wsX3_inState := goodIn_r _ [406, 127, 130, 457, 458, 459, 460, 461, 462, 463, 464, 465] (by decide +kernel) (by decide +kernel)
set_option maxRecDepth 20000 in
theorem gX6_damage_X3_inState : GoodIn wsX6_damage (wsV RX6 173 RX3 yX3_inState wsX3_inState) := goodIn_app (goodIn_of _ (by decide +kernel)) ggX6_damage_X3_inState
theorem dX6_damage_0 : decode cX6_damage 0 = .ok (.aload_n 0, 1) := by decide +kernel
theorem dX6_damage_1 : decode cX6_damage 1 = .ok (.iload_n 1, 1) := by decide +kernel
theorem dX6_damage_2 : decode cX6_damage 2 = .ok (.iload_n 2, 1) := by decide +kernel
theorem dX6_damage_3 : decode cX6_damage 3 = .ok (.invokevirtual 37, 3) := by decide +kernel
theorem dX6_damage_6 : decode cX6_damage 6 = .ok (.iload_n 3, 1) := by decide +kernel
theorem dX6_damage_7 : decode cX6_damage 7 = .ok (.iconst 0, 1) := by decide +kernel
theorem dX6_damage_8 : decode cX6_damage 8 = .ok (.ldc 98, 2) := by decide +kernel
theorem dX6_damage_10 : decode cX6_damage 10 = .ok (.invokestatic 41, 3) := by decide +kernel
theorem dX6_damage_13 : decode cX6_damage 13 = .ok (.aload_n 0, 1) := by decide +kernel
theorem dX6_damage_14 : decode cX6_damage 14 = .ok (.getfield 34, 3) := by decide +kernel
theorem dX6_damage_17 : decode cX6_damage 17 = .ok (.aload_n 0, 1) := by decide +kernel
theorem dX6_damage_18 : decode cX6_damage 18 = .ok (.getfield 27, 3) := by decide +kernel
theorem dX6_damage_21 : decode cX6_damage 21 = .ok (.invokevirtual 185, 3) := by decide +kernel
theorem dX6_damage_24 : decode cX6_damage 24 = .ok (.aload_n 0, 1) := by decide +kernel
theorem dX6_damage_25 : decode cX6_damage 25 = .ok (.getfield 34, 3) := by decide +kernel
theorem dX6_damage_28 : decode cX6_damage 28 = .ok (.iload_n 1, 1) := by decide +kernel
theorem dX6_damage_29 : decode cX6_damage 29 = .ok (.iload_n 2, 1) := by decide +kernel
theorem dX6_damage_30 : decode cX6_damage 30 = .ok (.iconst 0, 1) := by decide +kernel
theorem dX6_damage_31 : decode cX6_damage 31 = .ok (.invokevirtual 45, 3) := by decide +kernel
theorem dX6_damage_34 : decode cX6_damage 34 = .ok (.pop, 1) := by decide +kernel
theorem dX6_damage_35 : decode cX6_damage 35 = .ok (.aload_n 0, 1) := by decide +kernel
theorem dX6_damage_36 : decode cX6_damage 36 = .ok (.getfield 34, 3) := by decide +kernel
theorem dX6_damage_39 : decode cX6_damage 39 = .ok (.iload_n 3, 1) := by decide +kernel
theorem dX6_damage_40 : decode cX6_damage 40 = .ok (.invokevirtual 99, 3) := by decide +kernel
theorem dX6_damage_43 : decode cX6_damage 43 = .ok (.pop, 1) := by decide +kernel
theorem dX6_damage_44 : decode cX6_damage 44 = .ok (.aload_n 0, 1) := by decide +kernel
theorem dX6_damage_45 : decode cX6_damage 45 = .ok (.getfield 34, 3) := by decide +kernel
theorem dX6_damage_48 : decode cX6_damage 48 = .ok (.getfield 75, 3) := by decide +kernel
theorem dX6_damage_51 : decode cX6_damage 51 = .ok (.iconst 3, 1) := by decide +kernel
theorem dX6_damage_52 : decode cX6_damage 52 = .ok (.invokevirtual 173, 3) := by decide +kernel
theorem dX6_damage_55 : decode cX6_damage 55 = .ok (.aload_n 0, 1) := by decide +kernel
theorem dX6_damage_56 : decode cX6_damage 56 = .ok (.getfield 27, 3) := by decide +kernel
theorem dX6_damage_59 : decode cX6_damage 59 = .ok (.getfield 75, 3) := by decide +kernel
theorem dX6_damage_62 : decode cX6_damage 62 = .ok (.iconst 3, 1) := by decide +kernel
theorem dX6_damage_63 : decode cX6_damage 63 = .ok (.invokevirtual 173, 3) := by decide +kernel
theorem dX6_damage_66 : decode cX6_damage 66 = .ok (.isub, 1) := by decide +kernel
theorem dX6_damage_67 : decode cX6_damage 67 = .ok (.ireturn, 1) := by decide +kernel
set_option maxRecDepth 20000 in
theorem ggX6_keep_X2_become : GoodIn wsX6_keep wsX2_become := goodIn_r _ [9, 10, 11, 12, 13, 14, 15, 16, 17, 18, 19, 20, 21, 22, 23, 24, 25, 26, 27, 28, 29, 30, 31, 32, 33, 34, 35, 36, 37, 38, 39, 40, 41, 42, 43, 44, 45, 46, 47, 48, 49, 50, 51, 52, 53, 54, 55, 56, 57, 58, 59, 60, 61, 62, 63, 64, 65, 66, 67, 68, 69, 70, 71, 72, 73, 74, 75, 76, 77, 78, 79, 80, 81, 82, 83, 84, 85, 86, 87, 88, 89, 90, 91, 92, 93, 94, 95, 96, 97, 98, 99, 100, 101, 102, 103, 104, 105, 106, 107, 108, 109, 110, 111, 112, 113, 114, 115, 116, 122, 123, 124, 125, 126, 127, 128, 129, 130, 131, 132, 133, 134, 135, 136, 137, 138, 139, 140, 141, 142, 143, 144, 145, 146, 147, 148, 149, 150, 151, 152, 153, 154, 155, 156, 157, 158, 159, 160, 161, 162, 163, 164, 165, 166, 167, 168, 169, 170, 171, 172, 173, 174, 175] (by decide +kernel) (by decide +kernel)
set_option maxRecDepth 20000 in
theorem gX6_keep_X2_become : GoodIn wsX6_keep (wsV RX6 185 RX2 yX2_become wsX2_become) := goodIn_app (goodIn_of _ (by decide +kernel)) ggX6_keep_X2_become
theorem dX6_keep_0 : decode cX6_keep 0 = .ok (.aload_n 0, 1) := by decide +kernel
theorem dX6_keep_1 : decode cX6_keep 1 = .ok (.getfield 31, 3) := by decide +kernel
theorem dX6_keep_4 : decode cX6_keep 4 = .ok (.aload_n 0, 1) := by decide +kernel
theorem dX6_keep_5 : decode cX6_keep 5 = .ok (.getfield 27, 3) := by decide +kernel
theorem dX6_keep_8 : decode cX6_keep 8 = .ok (.invokevirtual 185, 3) := by decide +kernel
theorem dX6_keep_11 : decode cX6_keep 11 = .ok (.aload_n 0, 1) := by decide +kernel
theorem dX6_keep_12 : decode cX6_keep 12 = .ok (.iconst 1, 1) := by decide +kernel
theorem dX6_keep_13 : decode cX6_keep 13 = .ok (.putfield 189, 3) := by decide +kernel
theorem dX6_keep_16 : decode cX6_keep 16 = .ok (.aload_n 0, 1) := by decide +kernel
theorem dX6_keep_17 : decode cX6_keep 17 = .ok (.getfield 27, 3) := by decide +kernel
theorem dX6_keep_20 : decode cX6_keep 20 = .ok (.getfield 103, 3) := by decide +kernel
theorem dX6_keep_23 : decode cX6_keep 23 = .ok (.ireturn, 1) := by decide +kernel
set_option maxRecDepth 20000 in
theorem ggX6_restore_X2_become : GoodIn wsX6_restore wsX2_become := goodIn_r _ [11, 12, 13, 14, 15, 16, 17, 18, 19, 20, 21, 22, 23, 24, 25, 26, 27, 28, 29, 30, 31, 32, 33, 34, 35, 36, 37, 38, 39, 40, 41, 42, 43, 44, 45, 46, 47, 48, 49, 50, 51, 52, 53, 54, 55, 56, 57, 58, 59, 60, 61, 62, 63, 64, 65, 66, 67, 68, 69, 70, 71, 72, 73, 74, 75, 76, 77, 78, 79, 80, 81, 82, 83, 84, 85, 86, 87, 88, 89, 90, 91, 92, 93, 94, 95, 96, 97, 98, 99, 100, 101, 102, 103, 104, 105, 106, 107, 108, 109, 110, 111, 112, 113, 114, 115, 116, 117, 118, 124, 125, 126, 127, 128, 129, 130, 131, 132, 133, 134, 135, 136, 137, 138, 139, 140, 141, 142, 143, 144, 145, 146, 147, 148, 149, 150, 151, 152, 153, 154, 155, 156, 157, 158, 159, 160, 161, 162, 163, 164, 165, 166, 167, 168, 169, 170, 171, 172, 173, 174, 175, 176, 177] (by decide +kernel) (by decide +kernel)
set_option maxRecDepth 20000 in
theorem gX6_restore_X2_become : GoodIn wsX6_restore (wsV RX6 185 RX2 yX2_become wsX2_become) := goodIn_app (goodIn_of _ (by decide +kernel)) ggX6_restore_X2_become
theorem dX6_restore_0 : decode cX6_restore 0 = .ok (.aload_n 0, 1) := by decide +kernel
theorem dX6_restore_1 : decode cX6_restore 1 = .ok (.getfield 189, 3) := by decide +kernel
theorem dX6_restore_4 : decode cX6_restore 4 = .ok (.ifCond .ne 13, 3) := by decide +kernel
theorem dX6_restore_7 : decode cX6_restore 7 = .ok (.new 84, 3) := by decide +kernel
theorem dX6_restore_10 : decode cX6_restore 10 = .ok (.dup, 1) := by decide +kernel
theorem dX6_restore_11 : decode cX6_restore 11 = .ok (.ldc 193, 2) := by decide +kernel
theorem dX6_restore_13 : decode cX6_restore 13 = .ok (.invokespecial 88, 3) := by decide +kernel
theorem dX6_restore_16 : decode cX6_restore 16 = .ok (.athrow, 1) := by decide +kernel
theorem dX6_restore_17 : decode cX6_restore 17 = .ok (.aload_n 0, 1) := by decide +kernel
theorem dX6_restore_18 : decode cX6_restore 18 = .ok (.getfield 27, 3) := by decide +kernel
theorem dX6_restore_21 : decode cX6_restore 21 = .ok (.aload_n 0, 1) := by decide +kernel
theorem dX6_restore_22 : decode cX6_restore 22 = .ok (.getfield 31, 3) := by decide +kernel
theorem dX6_restore_25 : decode cX6_restore 25 = .ok (.invokevirtual 185, 3) := by decide +kernel
theorem dX6_restore_28 : decode cX6_restore 28 = .ok (.aload_n 0, 1) := by decide +kernel
theorem dX6_restore_29 : decode cX6_restore 29 = .ok (.getfield 27, 3) := by decide +kernel
theorem dX6_restore_32 : decode cX6_restore 32 = .ok (.getfield 103, 3) := by decide +kernel
theorem dX6_restore_35 : decode cX6_restore 35 = .ok (.ireturn, 1) := by decide +kernel
set_option maxRecDepth 20000 in
theorem ggX6_fingerprint_X0_mixedInto : GoodIn wsX6_fingerprint wsX0_mixedInto := goodIn_r _ [13, 14, 15, 16, 75, 76, 77, 78, 79, 80, 81] (by decide +kernel) (by decide +kernel)
set_option maxRecDepth 20000 in
theorem gX6_fingerprint_X0_mixedInto : GoodIn wsX6_fingerprint (wsV RX6 197 RX0 yX0_mixedInto wsX0_mixedInto) := goodIn_app (goodIn_of _ (by decide +kernel)) ggX6_fingerprint_X0_mixedInto
set_option maxRecDepth 20000 in
theorem ggX6_fingerprint_X2_cellMixedInto : GoodIn wsX6_fingerprint wsX2_cellMixedInto := goodIn_r _ [21, 22, 23, 24, 25, 26, 27, 28, 29, 30, 31, 32, 33, 34, 35, 36, 37, 38, 39, 40, 41, 42, 43, 20, 44, 45, 46, 47, 48, 49, 50, 63, 64, 65, 66, 67, 68, 69, 70, 71, 72, 73, 74, 82, 83, 84, 85, 86, 87, 88, 89, 90, 91, 92, 93, 94] (by decide +kernel) (by decide +kernel)
set_option maxRecDepth 20000 in
theorem gX6_fingerprint_X2_cellMixedInto : GoodIn wsX6_fingerprint (wsV RX6 201 RX2 yX2_cellMixedInto wsX2_cellMixedInto) := goodIn_app (goodIn_of _ (by decide +kernel)) ggX6_fingerprint_X2_cellMixedInto
set_option maxRecDepth 20000 in
theorem ggX6_fingerprint_X3_inState : GoodIn wsX6_fingerprint wsX3_inState := goodIn_r _ [55, 56, 57, 95, 96, 97, 98, 99, 100, 101, 102, 103] (by decide +kernel) (by decide +kernel)
set_option maxRecDepth 20000 in
theorem gX6_fingerprint_X3_inState : GoodIn wsX6_fingerprint (wsV RX6 173 RX3 yX3_inState wsX3_inState) := goodIn_app (goodIn_of _ (by decide +kernel)) ggX6_fingerprint_X3_inState
theorem dX6_fingerprint_0 : decode cX6_fingerprint 0 = .ok (.aload_n 0, 1) := by decide +kernel
theorem dX6_fingerprint_1 : decode cX6_fingerprint 1 = .ok (.getfield 27, 3) := by decide +kernel
theorem dX6_fingerprint_4 : decode cX6_fingerprint 4 = .ok (.getfield 52, 3) := by decide +kernel
theorem dX6_fingerprint_7 : decode cX6_fingerprint 7 = .ok (.ldc2_w 195, 3) := by decide +kernel
theorem dX6_fingerprint_10 : decode cX6_fingerprint 10 = .ok (.aload_n 0, 1) := by decide +kernel
theorem dX6_fingerprint_11 : decode cX6_fingerprint 11 = .ok (.getfield 27, 3) := by decide +kernel
theorem dX6_fingerprint_14 : decode cX6_fingerprint 14 = .ok (.getfield 103, 3) := by decide +kernel
theorem dX6_fingerprint_17 : decode cX6_fingerprint 17 = .ok (.i2l, 1) := by decide +kernel
theorem dX6_fingerprint_18 : decode cX6_fingerprint 18 = .ok (.ladd, 1) := by decide +kernel
theorem dX6_fingerprint_19 : decode cX6_fingerprint 19 = .ok (.invokevirtual 197, 3) := by decide +kernel
theorem dX6_fingerprint_22 : decode cX6_fingerprint 22 = .ok (.lstore_n 1, 1) := by decide +kernel
theorem dX6_fingerprint_23 : decode cX6_fingerprint 23 = .ok (.iconst 0, 1) := by decide +kernel
theorem dX6_fingerprint_24 : decode cX6_fingerprint 24 = .ok (.istore_n 3, 1) := by decide +kernel
theorem dX6_fingerprint_25 : decode cX6_fingerprint 25 = .ok (.iload_n 3, 1) := by decide +kernel
theorem dX6_fingerprint_26 : decode cX6_fingerprint 26 = .ok (.aload_n 0, 1) := by decide +kernel
theorem dX6_fingerprint_27 : decode cX6_fingerprint 27 = .ok (.getfield 18, 3) := by decide +kernel
theorem dX6_fingerprint_30 : decode cX6_fingerprint 30 = .ok (.if_icmp .ge 45, 3) := by decide +kernel
theorem dX6_fingerprint_33 : decode cX6_fingerprint 33 = .ok (.iconst 0, 1) := by decide +kernel
theorem dX6_fingerprint_34 : decode cX6_fingerprint 34 = .ok (.istore 4, 2) := by decide +kernel
theorem dX6_fingerprint_36 : decode cX6_fingerprint 36 = .ok (.iload 4, 2) := by decide +kernel
theorem dX6_fingerprint_38 : decode cX6_fingerprint 38 = .ok (.aload_n 0, 1) := by decide +kernel
theorem dX6_fingerprint_39 : decode cX6_fingerprint 39 = .ok (.getfield 18, 3) := by decide +kernel
theorem dX6_fingerprint_42 : decode cX6_fingerprint 42 = .ok (.if_icmp .ge 27, 3) := by decide +kernel
theorem dX6_fingerprint_45 : decode cX6_fingerprint 45 = .ok (.iload 4, 2) := by decide +kernel
theorem dX6_fingerprint_47 : decode cX6_fingerprint 47 = .ok (.iload_n 3, 1) := by decide +kernel
theorem dX6_fingerprint_48 : decode cX6_fingerprint 48 = .ok (.if_icmp .eq 15, 3) := by decide +kernel
theorem dX6_fingerprint_51 : decode cX6_fingerprint 51 = .ok (.aload_n 0, 1) := by decide +kernel
theorem dX6_fingerprint_52 : decode cX6_fingerprint 52 = .ok (.getfield 27, 3) := by decide +kernel
theorem dX6_fingerprint_55 : decode cX6_fingerprint 55 = .ok (.lload_n 1, 1) := by decide +kernel
theorem dX6_fingerprint_56 : decode cX6_fingerprint 56 = .ok (.iload_n 3, 1) := by decide +kernel
theorem dX6_fingerprint_57 : decode cX6_fingerprint 57 = .ok (.iload 4, 2) := by decide +kernel
theorem dX6_fingerprint_59 : decode cX6_fingerprint 59 = .ok (.invokevirtual 201, 3) := by decide +kernel
theorem dX6_fingerprint_62 : decode cX6_fingerprint 62 = .ok (.lstore_n 1, 1) := by decide +kernel
theorem dX6_fingerprint_63 : decode cX6_fingerprint 63 = .ok (.iinc 4 1, 3) := by decide +kernel
theorem dX6_fingerprint_66 : decode cX6_fingerprint 66 = .ok (.goto (-30), 3) := by decide +kernel
theorem dX6_fingerprint_69 : decode cX6_fingerprint 69 = .ok (.iinc 3 1, 3) := by decide +kernel
theorem dX6_fingerprint_72 : decode cX6_fingerprint 72 = .ok (.goto (-47), 3) := by decide +kernel
theorem dX6_fingerprint_75 : decode cX6_fingerprint 75 = .ok (.iconst 0, 1) := by decide +kernel
theorem dX6_fingerprint_76 : decode cX6_fingerprint 76 = .ok (.istore_n 3, 1) := by decide +kernel
theorem dX6_fingerprint_77 : decode cX6_fingerprint 77 = .ok (.iload_n 3, 1) := by decide +kernel
theorem dX6_fingerprint_78 : decode cX6_fingerprint 78 = .ok (.aload_n 0, 1) := by decide +kernel
theorem dX6_fingerprint_79 : decode cX6_fingerprint 79 = .ok (.getfield 18, 3) := by decide +kernel
theorem dX6_fingerprint_82 : decode cX6_fingerprint 82 = .ok (.if_icmp .ge 26, 3) := by decide +kernel
theorem dX6_fingerprint_85 : decode cX6_fingerprint 85 = .ok (.lload_n 1, 1) := by decide +kernel
theorem dX6_fingerprint_86 : decode cX6_fingerprint 86 = .ok (.ldc2_w 205, 3) := by decide +kernel
theorem dX6_fingerprint_89 : decode cX6_fingerprint 89 = .ok (.lmul, 1) := by decide +kernel
theorem dX6_fingerprint_90 : decode cX6_fingerprint 90 = .ok (.aload_n 0, 1) := by decide +kernel
theorem dX6_fingerprint_91 : decode cX6_fingerprint 91 = .ok (.getfield 27, 3) := by decide +kernel
theorem dX6_fingerprint_94 : decode cX6_fingerprint 94 = .ok (.getfield 207, 3) := by decide +kernel
theorem dX6_fingerprint_97 : decode cX6_fingerprint 97 = .ok (.iload_n 3, 1) := by decide +kernel
theorem dX6_fingerprint_98 : decode cX6_fingerprint 98 = .ok (.iaload, 1) := by decide +kernel
theorem dX6_fingerprint_99 : decode cX6_fingerprint 99 = .ok (.i2l, 1) := by decide +kernel
theorem dX6_fingerprint_100 : decode cX6_fingerprint 100 = .ok (.ladd, 1) := by decide +kernel
theorem dX6_fingerprint_101 : decode cX6_fingerprint 101 = .ok (.lstore_n 1, 1) := by decide +kernel
theorem dX6_fingerprint_102 : decode cX6_fingerprint 102 = .ok (.iinc 3 1, 3) := by decide +kernel
theorem dX6_fingerprint_105 : decode cX6_fingerprint 105 = .ok (.goto (-28), 3) := by decide +kernel
theorem dX6_fingerprint_108 : decode cX6_fingerprint 108 = .ok (.iconst 0, 1) := by decide +kernel
theorem dX6_fingerprint_109 : decode cX6_fingerprint 109 = .ok (.istore_n 3, 1) := by decide +kernel
theorem dX6_fingerprint_110 : decode cX6_fingerprint 110 = .ok (.iload_n 3, 1) := by decide +kernel
theorem dX6_fingerprint_111 : decode cX6_fingerprint 111 = .ok (.iconst 4, 1) := by decide +kernel
theorem dX6_fingerprint_112 : decode cX6_fingerprint 112 = .ok (.if_icmp .ge 28, 3) := by decide +kernel
theorem dX6_fingerprint_115 : decode cX6_fingerprint 115 = .ok (.lload_n 1, 1) := by decide +kernel
theorem dX6_fingerprint_116 : decode cX6_fingerprint 116 = .ok (.ldc2_w 205, 3) := by decide +kernel
theorem dX6_fingerprint_119 : decode cX6_fingerprint 119 = .ok (.lmul, 1) := by decide +kernel
theorem dX6_fingerprint_120 : decode cX6_fingerprint 120 = .ok (.aload_n 0, 1) := by decide +kernel
theorem dX6_fingerprint_121 : decode cX6_fingerprint 121 = .ok (.getfield 27, 3) := by decide +kernel
theorem dX6_fingerprint_124 : decode cX6_fingerprint 124 = .ok (.getfield 75, 3) := by decide +kernel
theorem dX6_fingerprint_127 : decode cX6_fingerprint 127 = .ok (.iload_n 3, 1) := by decide +kernel
theorem dX6_fingerprint_128 : decode cX6_fingerprint 128 = .ok (.invokevirtual 173, 3) := by decide +kernel
theorem dX6_fingerprint_131 : decode cX6_fingerprint 131 = .ok (.i2l, 1) := by decide +kernel
theorem dX6_fingerprint_132 : decode cX6_fingerprint 132 = .ok (.ladd, 1) := by decide +kernel
theorem dX6_fingerprint_133 : decode cX6_fingerprint 133 = .ok (.lstore_n 1, 1) := by decide +kernel
theorem dX6_fingerprint_134 : decode cX6_fingerprint 134 = .ok (.iinc 3 1, 3) := by decide +kernel
theorem dX6_fingerprint_137 : decode cX6_fingerprint 137 = .ok (.goto (-27), 3) := by decide +kernel
theorem dX6_fingerprint_140 : decode cX6_fingerprint 140 = .ok (.lload_n 1, 1) := by decide +kernel
theorem dX6_fingerprint_141 : decode cX6_fingerprint 141 = .ok (.lreturn, 1) := by decide +kernel
set_option maxRecDepth 20000 in
theorem ggX6_checkNodes_X6_checkIndex : GoodIn wsX6_checkNodes wsX6_checkIndex := goodIn_ca (goodIn_r _ [5, 6, 7] (by decide +kernel) (by decide +kernel)) (goodIn_sub (fun _ h => List.mem_cons_of_mem _ (List.mem_append_right _ h)) (by decide +kernel))
set_option maxRecDepth 20000 in
theorem gX6_checkNodes_X6_checkIndex : GoodIn wsX6_checkNodes (va_wsS RX6 62 yX6_checkIndex wsX6_checkIndex) := goodIn_app (goodIn_of _ (by decide +kernel)) ggX6_checkNodes_X6_checkIndex
theorem dX6_checkNodes_0 : decode cX6_checkNodes 0 = .ok (.iload_n 1, 1) := by decide +kernel
theorem dX6_checkNodes_1 : decode cX6_checkNodes 1 = .ok (.aload_n 0, 1) := by decide +kernel
theorem dX6_checkNodes_2 : decode cX6_checkNodes 2 = .ok (.getfield 18, 3) := by decide +kernel
theorem dX6_checkNodes_5 : decode cX6_checkNodes 5 = .ok (.invokestatic 62, 3) := by decide +kernel
theorem dX6_checkNodes_8 : decode cX6_checkNodes 8 = .ok (.iload_n 2, 1) := by decide +kernel
theorem dX6_checkNodes_9 : decode cX6_checkNodes 9 = .ok (.aload_n 0, 1) := by decide +kernel
theorem dX6_checkNodes_10 : decode cX6_checkNodes 10 = .ok (.getfield 18, 3) := by decide +kernel
theorem dX6_checkNodes_13 : decode cX6_checkNodes 13 = .ok (.invokestatic 62, 3) := by decide +kernel
theorem dX6_checkNodes_16 : decode cX6_checkNodes 16 = .ok (.return_, 1) := by decide +kernel
set_option maxRecDepth 20000 in
theorem ggX6_checkTwoNodes_X6_checkNodes : GoodIn wsX6_checkTwoNodes wsX6_checkNodes := goodIn_ca (goodIn_r _ [7, 8, 9, 10, 6, 11, 12, 13, 14, 15, 16, 17, 18] (by decide +kernel) (by decide +kernel)) (goodIn_sub (fun _ h => List.mem_cons_of_mem _ (List.mem_append_right _ h)) (by decide +kernel))
set_option maxRecDepth 20000 in
theorem gX6_checkTwoNodes_X6_checkNodes : GoodIn wsX6_checkTwoNodes (wsV RX6 49 RX6 yX6_checkNodes wsX6_checkNodes) := goodIn_app (goodIn_of _ (by decide +kernel)) ggX6_checkTwoNodes_X6_checkNodes
theorem dX6_checkTwoNodes_0 : decode cX6_checkTwoNodes 0 = .ok (.aload_n 0, 1) := by decide +kernel
theorem dX6_checkTwoNodes_1 : decode cX6_checkTwoNodes 1 = .ok (.iload_n 1, 1) := by decide +kernel
theorem dX6_checkTwoNodes_2 : decode cX6_checkTwoNodes 2 = .ok (.iload_n 2, 1) := by decide +kernel
theorem dX6_checkTwoNodes_3 : decode cX6_checkTwoNodes 3 = .ok (.invokevirtual 49, 3) := by decide +kernel
theorem dX6_checkTwoNodes_6 : decode cX6_checkTwoNodes 6 = .ok (.iload_n 1, 1) := by decide +kernel
theorem dX6_checkTwoNodes_7 : decode cX6_checkTwoNodes 7 = .ok (.iload_n 2, 1) := by decide +kernel
theorem dX6_checkTwoNodes_8 : decode cX6_checkTwoNodes 8 = .ok (.if_icmp .ne 13, 3) := by decide +kernel
theorem dX6_checkTwoNodes_11 : decode cX6_checkTwoNodes 11 = .ok (.new 210, 3) := by decide +kernel
theorem dX6_checkTwoNodes_14 : decode cX6_checkTwoNodes 14 = .ok (.dup, 1) := by decide +kernel
theorem dX6_checkTwoNodes_15 : decode cX6_checkTwoNodes 15 = .ok (.ldc 212, 2) := by decide +kernel
theorem dX6_checkTwoNodes_17 : decode cX6_checkTwoNodes 17 = .ok (.invokespecial 214, 3) := by decide +kernel
theorem dX6_checkTwoNodes_20 : decode cX6_checkTwoNodes 20 = .ok (.athrow, 1) := by decide +kernel
theorem dX6_checkTwoNodes_21 : decode cX6_checkTwoNodes 21 = .ok (.return_, 1) := by decide +kernel
theorem dX6_checkIndex_0 : decode cX6_checkIndex 0 = .ok (.iload_n 0, 1) := by decide +kernel
theorem dX6_checkIndex_1 : decode cX6_checkIndex 1 = .ok (.ifCond .lt 8, 3) := by decide +kernel
theorem dX6_checkIndex_4 : decode cX6_checkIndex 4 = .ok (.iload_n 0, 1) := by decide +kernel
theorem dX6_checkIndex_5 : decode cX6_checkIndex 5 = .ok (.iload_n 1, 1) := by decide +kernel
theorem dX6_checkIndex_6 : decode cX6_checkIndex 6 = .ok (.if_icmp .lt 13, 3) := by decide +kernel
theorem dX6_checkIndex_9 : decode cX6_checkIndex 9 = .ok (.new 215, 3) := by decide +kernel
theorem dX6_checkIndex_12 : decode cX6_checkIndex 12 = .ok (.dup, 1) := by decide +kernel
theorem dX6_checkIndex_13 : decode cX6_checkIndex 13 = .ok (.ldc 217, 2) := by decide +kernel
theorem dX6_checkIndex_15 : decode cX6_checkIndex 15 = .ok (.invokespecial 219, 3) := by decide +kernel
theorem dX6_checkIndex_18 : decode cX6_checkIndex 18 = .ok (.athrow, 1) := by decide +kernel
theorem dX6_checkIndex_19 : decode cX6_checkIndex 19 = .ok (.return_, 1) := by decide +kernel
theorem dX6_checkRange_0 : decode cX6_checkRange 0 = .ok (.iload_n 0, 1) := by decide +kernel
theorem dX6_checkRange_1 : decode cX6_checkRange 1 = .ok (.iload_n 1, 1) := by decide +kernel
theorem dX6_checkRange_2 : decode cX6_checkRange 2 = .ok (.if_icmp .lt 8, 3) := by decide +kernel
theorem dX6_checkRange_5 : decode cX6_checkRange 5 = .ok (.iload_n 0, 1) := by decide +kernel
theorem dX6_checkRange_6 : decode cX6_checkRange 6 = .ok (.iload_n 2, 1) := by decide +kernel
theorem dX6_checkRange_7 : decode cX6_checkRange 7 = .ok (.if_icmp .le 13, 3) := by decide +kernel
theorem dX6_checkRange_10 : decode cX6_checkRange 10 = .ok (.new 210, 3) := by decide +kernel
theorem dX6_checkRange_13 : decode cX6_checkRange 13 = .ok (.dup, 1) := by decide +kernel
theorem dX6_checkRange_14 : decode cX6_checkRange 14 = .ok (.ldc 217, 2) := by decide +kernel
theorem dX6_checkRange_16 : decode cX6_checkRange 16 = .ok (.invokespecial 214, 3) := by decide +kernel
theorem dX6_checkRange_19 : decode cX6_checkRange 19 = .ok (.athrow, 1) := by decide +kernel
theorem dX6_checkRange_20 : decode cX6_checkRange 20 = .ok (.return_, 1) := by decide +kernel
theorem dX6_cellOf_0 : decode cX6_cellOf 0 = .ok (.iload_n 0, 1) := by decide +kernel
theorem dX6_cellOf_1 : decode cX6_cellOf 1 = .ok (.bipush 10, 2) := by decide +kernel
theorem dX6_cellOf_3 : decode cX6_cellOf 3 = .ok (.imul, 1) := by decide +kernel
theorem dX6_cellOf_4 : decode cX6_cellOf 4 = .ok (.iload_n 1, 1) := by decide +kernel
theorem dX6_cellOf_5 : decode cX6_cellOf 5 = .ok (.iadd, 1) := by decide +kernel
theorem dX6_cellOf_6 : decode cX6_cellOf 6 = .ok (.ireturn, 1) := by decide +kernel
theorem dX6_copyRow_0 : decode cX6_copyRow 0 = .ok (.aload_n 0, 1) := by decide +kernel
theorem dX6_copyRow_1 : decode cX6_copyRow 1 = .ok (.iconst 0, 1) := by decide +kernel
theorem dX6_copyRow_2 : decode cX6_copyRow 2 = .ok (.aload_n 1, 1) := by decide +kernel
theorem dX6_copyRow_3 : decode cX6_copyRow 3 = .ok (.iconst 0, 1) := by decide +kernel
theorem dX6_copyRow_4 : decode cX6_copyRow 4 = .ok (.aload_n 0, 1) := by decide +kernel
theorem dX6_copyRow_5 : decode cX6_copyRow 5 = .ok (.arraylength, 1) := by decide +kernel
theorem dX6_copyRow_6 : decode cX6_copyRow 6 = .ok (.aload_n 1, 1) := by decide +kernel
theorem dX6_copyRow_7 : decode cX6_copyRow 7 = .ok (.arraylength, 1) := by decide +kernel
theorem dX6_copyRow_8 : decode cX6_copyRow 8 = .ok (.invokestatic 9, 3) := by decide +kernel
theorem dX6_copyRow_11 : decode cX6_copyRow 11 = .ok (.invokestatic 220, 3) := by decide +kernel
theorem dX6_copyRow_14 : decode cX6_copyRow 14 = .ok (.return_, 1) := by decide +kernel
set_option maxRecDepth 20000 in
theorem ggX6_filledRow_J7_fill_53178 : GoodIn wsX6_filledRow wsJ7_fill_53178 := goodIn_r _ [9] (by decide +kernel) (by decide +kernel)
set_option maxRecDepth 20000 in
theorem gX6_filledRow_J7_fill_53178 : GoodIn wsX6_filledRow (va_wsS RX6 226 yJ7_fill_53178 wsJ7_fill_53178) := goodIn_app (goodIn_of _ (by decide +kernel)) ggX6_filledRow_J7_fill_53178
theorem dX6_filledRow_0 : decode cX6_filledRow 0 = .ok (.iconst 0, 1) := by decide +kernel
theorem dX6_filledRow_1 : decode cX6_filledRow 1 = .ok (.iload_n 0, 1) := by decide +kernel
theorem dX6_filledRow_2 : decode cX6_filledRow 2 = .ok (.invokestatic 15, 3) := by decide +kernel
theorem dX6_filledRow_5 : decode cX6_filledRow 5 = .ok (.newarray .int, 2) := by decide +kernel
theorem dX6_filledRow_7 : decode cX6_filledRow 7 = .ok (.astore_n 2, 1) := by decide +kernel
theorem dX6_filledRow_8 : decode cX6_filledRow 8 = .ok (.aload_n 2, 1) := by decide +kernel
theorem dX6_filledRow_9 : decode cX6_filledRow 9 = .ok (.iload_n 1, 1) := by decide +kernel
theorem dX6_filledRow_10 : decode cX6_filledRow 10 = .ok (.invokestatic 226, 3) := by decide +kernel
theorem dX6_filledRow_13 : decode cX6_filledRow 13 = .ok (.aload_n 2, 1) := by decide +kernel
theorem dX6_filledRow_14 : decode cX6_filledRow 14 = .ok (.areturn, 1) := by decide +kernel
theorem dJ9_floorMod_7cf53_0 : decode cJ9_floorMod_7cf53 0 = .ok (.iload_n 0, 1) := by decide +kernel
theorem dJ9_floorMod_7cf53_1 : decode cJ9_floorMod_7cf53 1 = .ok (.iload_n 1, 1) := by decide +kernel
theorem dJ9_floorMod_7cf53_2 : decode cJ9_floorMod_7cf53 2 = .ok (.irem, 1) := by decide +kernel
theorem dJ9_floorMod_7cf53_3 : decode cJ9_floorMod_7cf53 3 = .ok (.istore_n 2, 1) := by decide +kernel
theorem dJ9_floorMod_7cf53_4 : decode cJ9_floorMod_7cf53 4 = .ok (.iload_n 0, 1) := by decide +kernel
theorem dJ9_floorMod_7cf53_5 : decode cJ9_floorMod_7cf53 5 = .ok (.iload_n 1, 1) := by decide +kernel
theorem dJ9_floorMod_7cf53_6 : decode cJ9_floorMod_7cf53 6 = .ok (.ixor, 1) := by decide +kernel
theorem dJ9_floorMod_7cf53_7 : decode cJ9_floorMod_7cf53 7 = .ok (.ifCond .ge 11, 3) := by decide +kernel
theorem dJ9_floorMod_7cf53_10 : decode cJ9_floorMod_7cf53 10 = .ok (.iload_n 2, 1) := by decide +kernel
theorem dJ9_floorMod_7cf53_11 : decode cJ9_floorMod_7cf53 11 = .ok (.ifCond .eq 7, 3) := by decide +kernel
theorem dJ9_floorMod_7cf53_14 : decode cJ9_floorMod_7cf53 14 = .ok (.iload_n 2, 1) := by decide +kernel
theorem dJ9_floorMod_7cf53_15 : decode cJ9_floorMod_7cf53 15 = .ok (.iload_n 1, 1) := by decide +kernel
theorem dJ9_floorMod_7cf53_16 : decode cJ9_floorMod_7cf53 16 = .ok (.iadd, 1) := by decide +kernel
theorem dJ9_floorMod_7cf53_17 : decode cJ9_floorMod_7cf53 17 = .ok (.ireturn, 1) := by decide +kernel
theorem dJ9_floorMod_7cf53_18 : decode cJ9_floorMod_7cf53 18 = .ok (.iload_n 2, 1) := by decide +kernel
theorem dJ9_floorMod_7cf53_19 : decode cJ9_floorMod_7cf53 19 = .ok (.ireturn, 1) := by decide +kernel
theorem dJ9_max_7cf53_0 : decode cJ9_max_7cf53 0 = .ok (.iload_n 0, 1) := by decide +kernel
theorem dJ9_max_7cf53_1 : decode cJ9_max_7cf53 1 = .ok (.iload_n 1, 1) := by decide +kernel
theorem dJ9_max_7cf53_2 : decode cJ9_max_7cf53 2 = .ok (.if_icmp .lt 7, 3) := by decide +kernel
theorem dJ9_max_7cf53_5 : decode cJ9_max_7cf53 5 = .ok (.iload_n 0, 1) := by decide +kernel
theorem dJ9_max_7cf53_6 : decode cJ9_max_7cf53 6 = .ok (.goto 4, 3) := by decide +kernel
theorem dJ9_max_7cf53_9 : decode cJ9_max_7cf53 9 = .ok (.iload_n 1, 1) := by decide +kernel
theorem dJ9_max_7cf53_10 : decode cJ9_max_7cf53 10 = .ok (.ireturn, 1) := by decide +kernel
theorem dJ9_min_7cf53_0 : decode cJ9_min_7cf53 0 = .ok (.iload_n 0, 1) := by decide +kernel
theorem dJ9_min_7cf53_1 : decode cJ9_min_7cf53 1 = .ok (.iload_n 1, 1) := by decide +kernel
theorem dJ9_min_7cf53_2 : decode cJ9_min_7cf53 2 = .ok (.if_icmp .gt 7, 3) := by decide +kernel
theorem dJ9_min_7cf53_5 : decode cJ9_min_7cf53 5 = .ok (.iload_n 0, 1) := by decide +kernel
theorem dJ9_min_7cf53_6 : decode cJ9_min_7cf53 6 = .ok (.goto 4, 3) := by decide +kernel
theorem dJ9_min_7cf53_9 : decode cJ9_min_7cf53 9 = .ok (.iload_n 1, 1) := by decide +kernel
theorem dJ9_min_7cf53_10 : decode cJ9_min_7cf53 10 = .ok (.ireturn, 1) := by decide +kernel
theorem dJ7_fill_53178_0 : decode cJ7_fill_53178 0 = .ok (.iconst 0, 1) := by decide +kernel
theorem dJ7_fill_53178_1 : decode cJ7_fill_53178 1 = .ok (.istore_n 2, 1) := by decide +kernel
theorem dJ7_fill_53178_2 : decode cJ7_fill_53178 2 = .ok (.aload_n 0, 1) := by decide +kernel
theorem dJ7_fill_53178_3 : decode cJ7_fill_53178 3 = .ok (.arraylength, 1) := by decide +kernel
theorem dJ7_fill_53178_4 : decode cJ7_fill_53178 4 = .ok (.istore_n 3, 1) := by decide +kernel
theorem dJ7_fill_53178_5 : decode cJ7_fill_53178 5 = .ok (.iload_n 2, 1) := by decide +kernel
theorem dJ7_fill_53178_6 : decode cJ7_fill_53178 6 = .ok (.iload_n 3, 1) := by decide +kernel
theorem dJ7_fill_53178_7 : decode cJ7_fill_53178 7 = .ok (.if_icmp .ge 13, 3) := by decide +kernel
theorem dJ7_fill_53178_10 : decode cJ7_fill_53178 10 = .ok (.aload_n 0, 1) := by decide +kernel
theorem dJ7_fill_53178_11 : decode cJ7_fill_53178 11 = .ok (.iload_n 2, 1) := by decide +kernel
theorem dJ7_fill_53178_12 : decode cJ7_fill_53178 12 = .ok (.iload_n 1, 1) := by decide +kernel
theorem dJ7_fill_53178_13 : decode cJ7_fill_53178 13 = .ok (.iastore, 1) := by decide +kernel
theorem dJ7_fill_53178_14 : decode cJ7_fill_53178 14 = .ok (.iinc 2 1, 3) := by decide +kernel
theorem dJ7_fill_53178_17 : decode cJ7_fill_53178 17 = .ok (.goto (-12), 3) := by decide +kernel
theorem dJ7_fill_53178_20 : decode cJ7_fill_53178 20 = .ok (.return_, 1) := by decide +kernel
