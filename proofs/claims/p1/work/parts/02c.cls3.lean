theorem dX3_init_37 : decode cX3_init 37 = .ok (.putfield 21, 3) := by decide +kernel
theorem dX3_init_40 : decode cX3_init 40 = .ok (.aload_n 0, 1) := by decide +kernel
theorem dX3_init_41 : decode cX3_init 41 = .ok (.sipush 200, 3) := by decide +kernel
theorem dX3_init_44 : decode cX3_init 44 = .ok (.newarray .int, 2) := by decide +kernel
theorem dX3_init_46 : decode cX3_init 46 = .ok (.putfield 24, 3) := by decide +kernel
theorem dX3_init_49 : decode cX3_init 49 = .ok (.aload_n 0, 1) := by decide +kernel
theorem dX3_init_50 : decode cX3_init 50 = .ok (.sipush 200, 3) := by decide +kernel
theorem dX3_init_53 : decode cX3_init 53 = .ok (.newarray .int, 2) := by decide +kernel
theorem dX3_init_55 : decode cX3_init 55 = .ok (.putfield 27, 3) := by decide +kernel
theorem dX3_init_58 : decode cX3_init 58 = .ok (.aload_n 0, 1) := by decide +kernel
theorem dX3_init_59 : decode cX3_init 59 = .ok (.sipush 200, 3) := by decide +kernel
theorem dX3_init_62 : decode cX3_init 62 = .ok (.iconst (-1), 1) := by decide +kernel
theorem dX3_init_63 : decode cX3_init 63 = .ok (.invokestatic 30, 3) := by decide +kernel
theorem dX3_init_66 : decode cX3_init 66 = .ok (.putfield 34, 3) := by decide +kernel
theorem dX3_init_69 : decode cX3_init 69 = .ok (.aload_n 0, 1) := by decide +kernel
theorem dX3_init_70 : decode cX3_init 70 = .ok (.sipush 200, 3) := by decide +kernel
theorem dX3_init_73 : decode cX3_init 73 = .ok (.newarray .int, 2) := by decide +kernel
theorem dX3_init_75 : decode cX3_init 75 = .ok (.putfield 37, 3) := by decide +kernel
theorem dX3_init_78 : decode cX3_init 78 = .ok (.return_, 1) := by decide +kernel
theorem dX3_drop_0 : decode cX3_drop 0 = .ok (.aload_n 0, 1) := by decide +kernel
theorem dX3_drop_1 : decode cX3_drop 1 = .ok (.getfield 18, 3) := by decide +kernel
theorem dX3_drop_4 : decode cX3_drop 4 = .ok (.iload_n 1, 1) := by decide +kernel
theorem dX3_drop_5 : decode cX3_drop 5 = .ok (.iconst 3, 1) := by decide +kernel
theorem dX3_drop_6 : decode cX3_drop 6 = .ok (.iastore, 1) := by decide +kernel
theorem dX3_drop_7 : decode cX3_drop 7 = .ok (.aload_n 0, 1) := by decide +kernel
theorem dX3_drop_8 : decode cX3_drop 8 = .ok (.getfield 37, 3) := by decide +kernel
theorem dX3_drop_11 : decode cX3_drop 11 = .ok (.iload_n 1, 1) := by decide +kernel
theorem dX3_drop_12 : decode cX3_drop 12 = .ok (.iload_n 2, 1) := by decide +kernel
theorem dX3_drop_13 : decode cX3_drop 13 = .ok (.iastore, 1) := by decide +kernel
theorem dX3_drop_14 : decode cX3_drop 14 = .ok (.aload_n 0, 1) := by decide +kernel
theorem dX3_drop_15 : decode cX3_drop 15 = .ok (.getfield 34, 3) := by decide +kernel
theorem dX3_drop_18 : decode cX3_drop 18 = .ok (.iload_n 1, 1) := by decide +kernel
theorem dX3_drop_19 : decode cX3_drop 19 = .ok (.iload_n 3, 1) := by decide +kernel
theorem dX3_drop_20 : decode cX3_drop 20 = .ok (.iastore, 1) := by decide +kernel
theorem dX3_drop_21 : decode cX3_drop 21 = .ok (.return_, 1) := by decide +kernel
theorem dX3_inState_0 : decode cX3_inState 0 = .ok (.iconst 0, 1) := by decide +kernel
theorem dX3_inState_1 : decode cX3_inState 1 = .ok (.istore_n 2, 1) := by decide +kernel
theorem dX3_inState_2 : decode cX3_inState 2 = .ok (.iconst 0, 1) := by decide +kernel
theorem dX3_inState_3 : decode cX3_inState 3 = .ok (.istore_n 3, 1) := by decide +kernel
theorem dX3_inState_4 : decode cX3_inState 4 = .ok (.iload_n 3, 1) := by decide +kernel
theorem dX3_inState_5 : decode cX3_inState 5 = .ok (.aload_n 0, 1) := by decide +kernel
theorem dX3_inState_6 : decode cX3_inState 6 = .ok (.getfield 40, 3) := by decide +kernel
theorem dX3_inState_9 : decode cX3_inState 9 = .ok (.if_icmp .ge 22, 3) := by decide +kernel
theorem dX3_inState_12 : decode cX3_inState 12 = .ok (.aload_n 0, 1) := by decide +kernel
theorem dX3_inState_13 : decode cX3_inState 13 = .ok (.getfield 18, 3) := by decide +kernel
theorem dX3_inState_16 : decode cX3_inState 16 = .ok (.iload_n 3, 1) := by decide +kernel
theorem dX3_inState_17 : decode cX3_inState 17 = .ok (.iaload, 1) := by decide +kernel
theorem dX3_inState_18 : decode cX3_inState 18 = .ok (.iload_n 1, 1) := by decide +kernel
theorem dX3_inState_19 : decode cX3_inState 19 = .ok (.if_icmp .ne 6, 3) := by decide +kernel
theorem dX3_inState_22 : decode cX3_inState 22 = .ok (.iinc 2 1, 3) := by decide +kernel
theorem dX3_inState_25 : decode cX3_inState 25 = .ok (.iinc 3 1, 3) := by decide +kernel
theorem dX3_inState_28 : decode cX3_inState 28 = .ok (.goto (-24), 3) := by decide +kernel
theorem dX3_inState_31 : decode cX3_inState 31 = .ok (.iload_n 2, 1) := by decide +kernel
theorem dX3_inState_32 : decode cX3_inState 32 = .ok (.ireturn, 1) := by decide +kernel
theorem dX3_linksOfDelivered_0 : decode cX3_linksOfDelivered 0 = .ok (.iconst 0, 1) := by decide +kernel
theorem dX3_linksOfDelivered_1 : decode cX3_linksOfDelivered 1 = .ok (.istore_n 1, 1) := by decide +kernel
theorem dX3_linksOfDelivered_2 : decode cX3_linksOfDelivered 2 = .ok (.iconst 0, 1) := by decide +kernel
theorem dX3_linksOfDelivered_3 : decode cX3_linksOfDelivered 3 = .ok (.istore_n 2, 1) := by decide +kernel
theorem dX3_linksOfDelivered_4 : decode cX3_linksOfDelivered 4 = .ok (.iload_n 2, 1) := by decide +kernel
theorem dX3_linksOfDelivered_5 : decode cX3_linksOfDelivered 5 = .ok (.aload_n 0, 1) := by decide +kernel
theorem dX3_linksOfDelivered_6 : decode cX3_linksOfDelivered 6 = .ok (.getfield 40, 3) := by decide +kernel
theorem dX3_linksOfDelivered_9 : decode cX3_linksOfDelivered 9 = .ok (.if_icmp .ge 28, 3) := by decide +kernel
theorem dX3_linksOfDelivered_12 : decode cX3_linksOfDelivered 12 = .ok (.aload_n 0, 1) := by decide +kernel
theorem dX3_linksOfDelivered_13 : decode cX3_linksOfDelivered 13 = .ok (.getfield 18, 3) := by decide +kernel
theorem dX3_linksOfDelivered_16 : decode cX3_linksOfDelivered 16 = .ok (.iload_n 2, 1) := by decide +kernel
theorem dX3_linksOfDelivered_17 : decode cX3_linksOfDelivered 17 = .ok (.iaload, 1) := by decide +kernel
theorem dX3_linksOfDelivered_18 : decode cX3_linksOfDelivered 18 = .ok (.iconst 2, 1) := by decide +kernel
theorem dX3_linksOfDelivered_19 : decode cX3_linksOfDelivered 19 = .ok (.if_icmp .ne 12, 3) := by decide +kernel
theorem dX3_linksOfDelivered_22 : decode cX3_linksOfDelivered 22 = .ok (.iload_n 1, 1) := by decide +kernel
theorem dX3_linksOfDelivered_23 : decode cX3_linksOfDelivered 23 = .ok (.aload_n 0, 1) := by decide +kernel
theorem dX3_linksOfDelivered_24 : decode cX3_linksOfDelivered 24 = .ok (.getfield 27, 3) := by decide +kernel
theorem dX3_linksOfDelivered_27 : decode cX3_linksOfDelivered 27 = .ok (.iload_n 2, 1) := by decide +kernel
theorem dX3_linksOfDelivered_28 : decode cX3_linksOfDelivered 28 = .ok (.iaload, 1) := by decide +kernel
theorem dX3_linksOfDelivered_29 : decode cX3_linksOfDelivered 29 = .ok (.iadd, 1) := by decide +kernel
theorem dX3_linksOfDelivered_30 : decode cX3_linksOfDelivered 30 = .ok (.istore_n 1, 1) := by decide +kernel
theorem dX3_linksOfDelivered_31 : decode cX3_linksOfDelivered 31 = .ok (.iinc 2 1, 3) := by decide +kernel
theorem dX3_linksOfDelivered_34 : decode cX3_linksOfDelivered 34 = .ok (.goto (-30), 3) := by decide +kernel
theorem dX3_linksOfDelivered_37 : decode cX3_linksOfDelivered 37 = .ok (.iload_n 1, 1) := by decide +kernel
theorem dX3_linksOfDelivered_38 : decode cX3_linksOfDelivered 38 = .ok (.ireturn, 1) := by decide +kernel
theorem dX3_become_0 : decode cX3_become 0 = .ok (.aload_n 0, 1) := by decide +kernel
theorem dX3_become_1 : decode cX3_become 1 = .ok (.aload_n 1, 1) := by decide +kernel
theorem dX3_become_2 : decode cX3_become 2 = .ok (.getfield 40, 3) := by decide +kernel
theorem dX3_become_5 : decode cX3_become 5 = .ok (.putfield 40, 3) := by decide +kernel
theorem dX3_become_8 : decode cX3_become 8 = .ok (.aload_n 1, 1) := by decide +kernel
theorem dX3_become_9 : decode cX3_become 9 = .ok (.getfield 9, 3) := by decide +kernel
theorem dX3_become_12 : decode cX3_become 12 = .ok (.aload_n 0, 1) := by decide +kernel
theorem dX3_become_13 : decode cX3_become 13 = .ok (.getfield 9, 3) := by decide +kernel
theorem dX3_become_16 : decode cX3_become 16 = .ok (.invokestatic 44, 3) := by decide +kernel
theorem dX3_become_19 : decode cX3_become 19 = .ok (.aload_n 1, 1) := by decide +kernel
theorem dX3_become_20 : decode cX3_become 20 = .ok (.getfield 15, 3) := by decide +kernel
theorem dX3_become_23 : decode cX3_become 23 = .ok (.aload_n 0, 1) := by decide +kernel
theorem dX3_become_24 : decode cX3_become 24 = .ok (.getfield 15, 3) := by decide +kernel
theorem dX3_become_27 : decode cX3_become 27 = .ok (.invokestatic 44, 3) := by decide +kernel
theorem dX3_become_30 : decode cX3_become 30 = .ok (.aload_n 1, 1) := by decide +kernel
theorem dX3_become_31 : decode cX3_become 31 = .ok (.getfield 18, 3) := by decide +kernel
theorem dX3_become_34 : decode cX3_become 34 = .ok (.aload_n 0, 1) := by decide +kernel
theorem dX3_become_35 : decode cX3_become 35 = .ok (.getfield 18, 3) := by decide +kernel
theorem dX3_become_38 : decode cX3_become 38 = .ok (.invokestatic 44, 3) := by decide +kernel
theorem dX3_become_41 : decode cX3_become 41 = .ok (.aload_n 1, 1) := by decide +kernel
theorem dX3_become_42 : decode cX3_become 42 = .ok (.getfield 21, 3) := by decide +kernel
theorem dX3_become_45 : decode cX3_become 45 = .ok (.aload_n 0, 1) := by decide +kernel
theorem dX3_become_46 : decode cX3_become 46 = .ok (.getfield 21, 3) := by decide +kernel
theorem dX3_become_49 : decode cX3_become 49 = .ok (.invokestatic 44, 3) := by decide +kernel
theorem dX3_become_52 : decode cX3_become 52 = .ok (.aload_n 1, 1) := by decide +kernel
theorem dX3_become_53 : decode cX3_become 53 = .ok (.getfield 24, 3) := by decide +kernel
theorem dX3_become_56 : decode cX3_become 56 = .ok (.aload_n 0, 1) := by decide +kernel
theorem dX3_become_57 : decode cX3_become 57 = .ok (.getfield 24, 3) := by decide +kernel
theorem dX3_become_60 : decode cX3_become 60 = .ok (.invokestatic 44, 3) := by decide +kernel
theorem dX3_become_63 : decode cX3_become 63 = .ok (.aload_n 1, 1) := by decide +kernel
theorem dX3_become_64 : decode cX3_become 64 = .ok (.getfield 27, 3) := by decide +kernel
theorem dX3_become_67 : decode cX3_become 67 = .ok (.aload_n 0, 1) := by decide +kernel
theorem dX3_become_68 : decode cX3_become 68 = .ok (.getfield 27, 3) := by decide +kernel
theorem dX3_become_71 : decode cX3_become 71 = .ok (.invokestatic 44, 3) := by decide +kernel
theorem dX3_become_74 : decode cX3_become 74 = .ok (.aload_n 1, 1) := by decide +kernel
theorem dX3_become_75 : decode cX3_become 75 = .ok (.getfield 34, 3) := by decide +kernel
theorem dX3_become_78 : decode cX3_become 78 = .ok (.aload_n 0, 1) := by decide +kernel
theorem dX3_become_79 : decode cX3_become 79 = .ok (.getfield 34, 3) := by decide +kernel
theorem dX3_become_82 : decode cX3_become 82 = .ok (.invokestatic 44, 3) := by decide +kernel
theorem dX3_become_85 : decode cX3_become 85 = .ok (.aload_n 1, 1) := by decide +kernel
theorem dX3_become_86 : decode cX3_become 86 = .ok (.getfield 37, 3) := by decide +kernel
theorem dX3_become_89 : decode cX3_become 89 = .ok (.aload_n 0, 1) := by decide +kernel
theorem dX3_become_90 : decode cX3_become 90 = .ok (.getfield 37, 3) := by decide +kernel
theorem dX3_become_93 : decode cX3_become 93 = .ok (.invokestatic 44, 3) := by decide +kernel
theorem dX3_become_96 : decode cX3_become 96 = .ok (.return_, 1) := by decide +kernel
theorem dX4_init_0 : decode cX4_init 0 = .ok (.aload_n 0, 1) := by decide +kernel
theorem dX4_init_1 : decode cX4_init 1 = .ok (.invokespecial 3, 3) := by decide +kernel
theorem dX4_init_4 : decode cX4_init 4 = .ok (.aload_n 0, 1) := by decide +kernel
theorem dX4_init_5 : decode cX4_init 5 = .ok (.bipush 100, 2) := by decide +kernel
theorem dX4_init_7 : decode cX4_init 7 = .ok (.newarray .int, 2) := by decide +kernel
theorem dX4_init_9 : decode cX4_init 9 = .ok (.putfield 9, 3) := by decide +kernel
theorem dX4_init_12 : decode cX4_init 12 = .ok (.aload_n 0, 1) := by decide +kernel
theorem dX4_init_13 : decode cX4_init 13 = .ok (.bipush 100, 2) := by decide +kernel
theorem dX4_init_15 : decode cX4_init 15 = .ok (.iconst (-1), 1) := by decide +kernel
theorem dX4_init_16 : decode cX4_init 16 = .ok (.invokestatic 15, 3) := by decide +kernel
theorem dX4_init_19 : decode cX4_init 19 = .ok (.putfield 19, 3) := by decide +kernel
theorem dX4_init_22 : decode cX4_init 22 = .ok (.aload_n 0, 1) := by decide +kernel
theorem dX4_init_23 : decode cX4_init 23 = .ok (.bipush 100, 2) := by decide +kernel
theorem dX4_init_25 : decode cX4_init 25 = .ok (.iconst (-1), 1) := by decide +kernel
theorem dX4_init_26 : decode cX4_init 26 = .ok (.invokestatic 15, 3) := by decide +kernel
theorem dX4_init_29 : decode cX4_init 29 = .ok (.putfield 22, 3) := by decide +kernel
theorem dX4_init_32 : decode cX4_init 32 = .ok (.aload_n 0, 1) := by decide +kernel
theorem dX4_init_33 : decode cX4_init 33 = .ok (.bipush 100, 2) := by decide +kernel
theorem dX4_init_35 : decode cX4_init 35 = .ok (.iconst (-1), 1) := by decide +kernel
theorem dX4_init_36 : decode cX4_init 36 = .ok (.invokestatic 15, 3) := by decide +kernel
theorem dX4_init_39 : decode cX4_init 39 = .ok (.putfield 25, 3) := by decide +kernel
theorem dX4_init_42 : decode cX4_init 42 = .ok (.aload_n 0, 1) := by decide +kernel
theorem dX4_init_43 : decode cX4_init 43 = .ok (.bipush 100, 2) := by decide +kernel
theorem dX4_init_45 : decode cX4_init 45 = .ok (.iconst (-1), 1) := by decide +kernel
theorem dX4_init_46 : decode cX4_init 46 = .ok (.invokestatic 15, 3) := by decide +kernel
theorem dX4_init_49 : decode cX4_init 49 = .ok (.putfield 28, 3) := by decide +kernel
theorem dX4_init_52 : decode cX4_init 52 = .ok (.aload_n 0, 1) := by decide +kernel
theorem dX4_init_53 : decode cX4_init 53 = .ok (.bipush 100, 2) := by decide +kernel
theorem dX4_init_55 : decode cX4_init 55 = .ok (.newarray .int, 2) := by decide +kernel
theorem dX4_init_57 : decode cX4_init 57 = .ok (.putfield 31, 3) := by decide +kernel
theorem dX4_init_60 : decode cX4_init 60 = .ok (.return_, 1) := by decide +kernel
theorem dX4_exists_0 : decode cX4_exists 0 = .ok (.aload_n 0, 1) := by decide +kernel
theorem dX4_exists_1 : decode cX4_exists 1 = .ok (.getfield 9, 3) := by decide +kernel
theorem dX4_exists_4 : decode cX4_exists 4 = .ok (.iload_n 1, 1) := by decide +kernel
theorem dX4_exists_5 : decode cX4_exists 5 = .ok (.iaload, 1) := by decide +kernel
theorem dX4_exists_6 : decode cX4_exists 6 = .ok (.ifCond .eq 7, 3) := by decide +kernel
theorem dX4_exists_9 : decode cX4_exists 9 = .ok (.iconst 1, 1) := by decide +kernel
theorem dX4_exists_10 : decode cX4_exists 10 = .ok (.goto 4, 3) := by decide +kernel
theorem dX4_exists_13 : decode cX4_exists 13 = .ok (.iconst 0, 1) := by decide +kernel
theorem dX4_exists_14 : decode cX4_exists 14 = .ok (.ireturn, 1) := by decide +kernel
theorem dX4_usable_0 : decode cX4_usable 0 = .ok (.aload_n 0, 1) := by decide +kernel
theorem dX4_usable_1 : decode cX4_usable 1 = .ok (.getfield 9, 3) := by decide +kernel
theorem dX4_usable_4 : decode cX4_usable 4 = .ok (.iload_n 1, 1) := by decide +kernel
theorem dX4_usable_5 : decode cX4_usable 5 = .ok (.iaload, 1) := by decide +kernel
theorem dX4_usable_6 : decode cX4_usable 6 = .ok (.iconst 2, 1) := by decide +kernel
theorem dX4_usable_7 : decode cX4_usable 7 = .ok (.if_icmp .ne 17, 3) := by decide +kernel
theorem dX4_usable_10 : decode cX4_usable 10 = .ok (.aload_n 0, 1) := by decide +kernel
theorem dX4_usable_11 : decode cX4_usable 11 = .ok (.getfield 28, 3) := by decide +kernel
theorem dX4_usable_14 : decode cX4_usable 14 = .ok (.iload_n 1, 1) := by decide +kernel
theorem dX4_usable_15 : decode cX4_usable 15 = .ok (.iaload, 1) := by decide +kernel
theorem dX4_usable_16 : decode cX4_usable 16 = .ok (.iload_n 2, 1) := by decide +kernel
theorem dX4_usable_17 : decode cX4_usable 17 = .ok (.if_icmp .le 7, 3) := by decide +kernel
theorem dX4_usable_20 : decode cX4_usable 20 = .ok (.iconst 1, 1) := by decide +kernel
theorem dX4_usable_21 : decode cX4_usable 21 = .ok (.goto 4, 3) := by decide +kernel
theorem dX4_usable_24 : decode cX4_usable 24 = .ok (.iconst 0, 1) := by decide +kernel
theorem dX4_usable_25 : decode cX4_usable 25 = .ok (.ireturn, 1) := by decide +kernel
theorem dX4_become_0 : decode cX4_become 0 = .ok (.aload_n 1, 1) := by decide +kernel
theorem dX4_become_1 : decode cX4_become 1 = .ok (.getfield 9, 3) := by decide +kernel
theorem dX4_become_4 : decode cX4_become 4 = .ok (.aload_n 0, 1) := by decide +kernel
theorem dX4_become_5 : decode cX4_become 5 = .ok (.getfield 9, 3) := by decide +kernel
theorem dX4_become_8 : decode cX4_become 8 = .ok (.invokestatic 48, 3) := by decide +kernel
theorem dX4_become_11 : decode cX4_become 11 = .ok (.aload_n 1, 1) := by decide +kernel
theorem dX4_become_12 : decode cX4_become 12 = .ok (.getfield 19, 3) := by decide +kernel
theorem dX4_become_15 : decode cX4_become 15 = .ok (.aload_n 0, 1) := by decide +kernel
theorem dX4_become_16 : decode cX4_become 16 = .ok (.getfield 19, 3) := by decide +kernel
theorem dX4_become_19 : decode cX4_become 19 = .ok (.invokestatic 48, 3) := by decide +kernel
theorem dX4_become_22 : decode cX4_become 22 = .ok (.aload_n 1, 1) := by decide +kernel
theorem dX4_become_23 : decode cX4_become 23 = .ok (.getfield 22, 3) := by decide +kernel
theorem dX4_become_26 : decode cX4_become 26 = .ok (.aload_n 0, 1) := by decide +kernel
theorem dX4_become_27 : decode cX4_become 27 = .ok (.getfield 22, 3) := by decide +kernel
theorem dX4_become_30 : decode cX4_become 30 = .ok (.invokestatic 48, 3) := by decide +kernel
theorem dX4_become_33 : decode cX4_become 33 = .ok (.aload_n 1, 1) := by decide +kernel
theorem dX4_become_34 : decode cX4_become 34 = .ok (.getfield 25, 3) := by decide +kernel
theorem dX4_become_37 : decode cX4_become 37 = .ok (.aload_n 0, 1) := by decide +kernel
theorem dX4_become_38 : decode cX4_become 38 = .ok (.getfield 25, 3) := by decide +kernel
theorem dX4_become_41 : decode cX4_become 41 = .ok (.invokestatic 48, 3) := by decide +kernel
theorem dX4_become_44 : decode cX4_become 44 = .ok (.aload_n 1, 1) := by decide +kernel
theorem dX4_become_45 : decode cX4_become 45 = .ok (.getfield 28, 3) := by decide +kernel
theorem dX4_become_48 : decode cX4_become 48 = .ok (.aload_n 0, 1) := by decide +kernel
theorem dX4_become_49 : decode cX4_become 49 = .ok (.getfield 28, 3) := by decide +kernel
theorem dX4_become_52 : decode cX4_become 52 = .ok (.invokestatic 48, 3) := by decide +kernel
theorem dX4_become_55 : decode cX4_become 55 = .ok (.aload_n 1, 1) := by decide +kernel
theorem dX4_become_56 : decode cX4_become 56 = .ok (.getfield 31, 3) := by decide +kernel
theorem dX4_become_59 : decode cX4_become 59 = .ok (.aload_n 0, 1) := by decide +kernel
theorem dX4_become_60 : decode cX4_become 60 = .ok (.getfield 31, 3) := by decide +kernel
theorem dX4_become_63 : decode cX4_become 63 = .ok (.invokestatic 48, 3) := by decide +kernel
theorem dX4_become_66 : decode cX4_become 66 = .ok (.return_, 1) := by decide +kernel
theorem dX5_init_0 : decode cX5_init 0 = .ok (.aload_n 0, 1) := by decide +kernel
theorem dX5_init_1 : decode cX5_init 1 = .ok (.invokespecial 3, 3) := by decide +kernel
theorem dX5_init_4 : decode cX5_init 4 = .ok (.aload_n 0, 1) := by decide +kernel
theorem dX5_init_5 : decode cX5_init 5 = .ok (.bipush 100, 2) := by decide +kernel
theorem dX5_init_7 : decode cX5_init 7 = .ok (.newarray .int, 2) := by decide +kernel
theorem dX5_init_9 : decode cX5_init 9 = .ok (.putfield 9, 3) := by decide +kernel
theorem dX5_init_12 : decode cX5_init 12 = .ok (.aload_n 0, 1) := by decide +kernel
theorem dX5_init_13 : decode cX5_init 13 = .ok (.bipush 100, 2) := by decide +kernel
theorem dX5_init_15 : decode cX5_init 15 = .ok (.iconst (-1), 1) := by decide +kernel
theorem dX5_init_16 : decode cX5_init 16 = .ok (.invokestatic 15, 3) := by decide +kernel
theorem dX5_init_19 : decode cX5_init 19 = .ok (.putfield 19, 3) := by decide +kernel
theorem dX5_init_22 : decode cX5_init 22 = .ok (.aload_n 0, 1) := by decide +kernel
theorem dX5_init_23 : decode cX5_init 23 = .ok (.bipush 100, 2) := by decide +kernel
theorem dX5_init_25 : decode cX5_init 25 = .ok (.newarray .int, 2) := by decide +kernel
theorem dX5_init_27 : decode cX5_init 27 = .ok (.putfield 22, 3) := by decide +kernel
theorem dX5_init_30 : decode cX5_init 30 = .ok (.aload_n 0, 1) := by decide +kernel
theorem dX5_init_31 : decode cX5_init 31 = .ok (.bipush 100, 2) := by decide +kernel
theorem dX5_init_33 : decode cX5_init 33 = .ok (.newarray .int, 2) := by decide +kernel
theorem dX5_init_35 : decode cX5_init 35 = .ok (.putfield 25, 3) := by decide +kernel
theorem dX5_init_38 : decode cX5_init 38 = .ok (.aload_n 0, 1) := by decide +kernel
theorem dX5_init_39 : decode cX5_init 39 = .ok (.bipush 100, 2) := by decide +kernel
theorem dX5_init_41 : decode cX5_init 41 = .ok (.newarray .int, 2) := by decide +kernel
theorem dX5_init_43 : decode cX5_init 43 = .ok (.putfield 28, 3) := by decide +kernel
theorem dX5_init_46 : decode cX5_init 46 = .ok (.aload_n 0, 1) := by decide +kernel
theorem dX5_init_47 : decode cX5_init 47 = .ok (.sipush 400, 3) := by decide +kernel
theorem dX5_init_50 : decode cX5_init 50 = .ok (.newarray .int, 2) := by decide +kernel
theorem dX5_init_52 : decode cX5_init 52 = .ok (.putfield 31, 3) := by decide +kernel
theorem dX5_init_55 : decode cX5_init 55 = .ok (.aload_n 0, 1) := by decide +kernel
theorem dX5_init_56 : decode cX5_init 56 = .ok (.iconst (-1), 1) := by decide +kernel
theorem dX5_init_57 : decode cX5_init 57 = .ok (.putfield 34, 3) := by decide +kernel
theorem dX5_init_60 : decode cX5_init 60 = .ok (.return_, 1) := by decide +kernel
theorem dX5_isIdle_0 : decode cX5_isIdle 0 = .ok (.aload_n 0, 1) := by decide +kernel
theorem dX5_isIdle_1 : decode cX5_isIdle 1 = .ok (.getfield 9, 3) := by decide +kernel
theorem dX5_isIdle_4 : decode cX5_isIdle 4 = .ok (.iload_n 1, 1) := by decide +kernel
theorem dX5_isIdle_5 : decode cX5_isIdle 5 = .ok (.iaload, 1) := by decide +kernel
theorem dX5_isIdle_6 : decode cX5_isIdle 6 = .ok (.ifCond .ne 7, 3) := by decide +kernel
theorem dX5_isIdle_9 : decode cX5_isIdle 9 = .ok (.iconst 1, 1) := by decide +kernel
theorem dX5_isIdle_10 : decode cX5_isIdle 10 = .ok (.goto 4, 3) := by decide +kernel
theorem dX5_isIdle_13 : decode cX5_isIdle 13 = .ok (.iconst 0, 1) := by decide +kernel
theorem dX5_isIdle_14 : decode cX5_isIdle 14 = .ok (.ireturn, 1) := by decide +kernel
theorem dX5_begin_0 : decode cX5_begin 0 = .ok (.aload_n 0, 1) := by decide +kernel
theorem dX5_begin_1 : decode cX5_begin 1 = .ok (.getfield 9, 3) := by decide +kernel
theorem dX5_begin_4 : decode cX5_begin 4 = .ok (.iload_n 1, 1) := by decide +kernel
theorem dX5_begin_5 : decode cX5_begin 5 = .ok (.iload_n 2, 1) := by decide +kernel
theorem dX5_begin_6 : decode cX5_begin 6 = .ok (.iastore, 1) := by decide +kernel
theorem dX5_begin_7 : decode cX5_begin 7 = .ok (.aload_n 0, 1) := by decide +kernel
theorem dX5_begin_8 : decode cX5_begin 8 = .ok (.getfield 25, 3) := by decide +kernel
theorem dX5_begin_11 : decode cX5_begin 11 = .ok (.iload_n 1, 1) := by decide +kernel
theorem dX5_begin_12 : decode cX5_begin 12 = .ok (.iconst 0, 1) := by decide +kernel
theorem dX5_begin_13 : decode cX5_begin 13 = .ok (.iastore, 1) := by decide +kernel
theorem dX5_begin_14 : decode cX5_begin 14 = .ok (.return_, 1) := by decide +kernel
theorem dX5_waitUntil_0 : decode cX5_waitUntil 0 = .ok (.aload_n 0, 1) := by decide +kernel
theorem dX5_waitUntil_1 : decode cX5_waitUntil 1 = .ok (.getfield 22, 3) := by decide +kernel
theorem dX5_waitUntil_4 : decode cX5_waitUntil 4 = .ok (.iload_n 1, 1) := by decide +kernel
theorem dX5_waitUntil_5 : decode cX5_waitUntil 5 = .ok (.iload_n 2, 1) := by decide +kernel
theorem dX5_waitUntil_6 : decode cX5_waitUntil 6 = .ok (.iastore, 1) := by decide +kernel
theorem dX5_waitUntil_7 : decode cX5_waitUntil 7 = .ok (.aload_n 0, 1) := by decide +kernel
theorem dX5_waitUntil_8 : decode cX5_waitUntil 8 = .ok (.getfield 19, 3) := by decide +kernel
theorem dX5_waitUntil_11 : decode cX5_waitUntil 11 = .ok (.iload_n 1, 1) := by decide +kernel
theorem dX5_waitUntil_12 : decode cX5_waitUntil 12 = .ok (.iload_n 3, 1) := by decide +kernel
theorem dX5_waitUntil_13 : decode cX5_waitUntil 13 = .ok (.iastore, 1) := by decide +kernel
theorem dX5_waitUntil_14 : decode cX5_waitUntil 14 = .ok (.aload_n 0, 1) := by decide +kernel
theorem dX5_waitUntil_15 : decode cX5_waitUntil 15 = .ok (.invokevirtual 38, 3) := by decide +kernel
theorem dX5_waitUntil_18 : decode cX5_waitUntil 18 = .ok (.return_, 1) := by decide +kernel
theorem dX5_end_0 : decode cX5_end 0 = .ok (.aload_n 0, 1) := by decide +kernel
theorem dX5_end_1 : decode cX5_end 1 = .ok (.getfield 9, 3) := by decide +kernel
theorem dX5_end_4 : decode cX5_end 4 = .ok (.iload_n 1, 1) := by decide +kernel
theorem dX5_end_5 : decode cX5_end 5 = .ok (.iconst 0, 1) := by decide +kernel
theorem dX5_end_6 : decode cX5_end 6 = .ok (.iastore, 1) := by decide +kernel
theorem dX5_end_7 : decode cX5_end 7 = .ok (.aload_n 0, 1) := by decide +kernel
theorem dX5_end_8 : decode cX5_end 8 = .ok (.getfield 19, 3) := by decide +kernel
theorem dX5_end_11 : decode cX5_end 11 = .ok (.iload_n 1, 1) := by decide +kernel
theorem dX5_end_12 : decode cX5_end 12 = .ok (.iconst (-1), 1) := by decide +kernel
theorem dX5_end_13 : decode cX5_end 13 = .ok (.iastore, 1) := by decide +kernel
theorem dX5_end_14 : decode cX5_end 14 = .ok (.aload_n 0, 1) := by decide +kernel
theorem dX5_end_15 : decode cX5_end 15 = .ok (.invokevirtual 38, 3) := by decide +kernel
theorem dX5_end_18 : decode cX5_end 18 = .ok (.return_, 1) := by decide +kernel
theorem dX5_findDue_0 : decode cX5_findDue 0 = .ok (.aload_n 0, 1) := by decide +kernel
theorem dX5_findDue_1 : decode cX5_findDue 1 = .ok (.iconst (-1), 1) := by decide +kernel
theorem dX5_findDue_2 : decode cX5_findDue 2 = .ok (.putfield 34, 3) := by decide +kernel
theorem dX5_findDue_5 : decode cX5_findDue 5 = .ok (.iconst 0, 1) := by decide +kernel
theorem dX5_findDue_6 : decode cX5_findDue 6 = .ok (.istore_n 1, 1) := by decide +kernel
theorem dX5_findDue_7 : decode cX5_findDue 7 = .ok (.iload_n 1, 1) := by decide +kernel
theorem dX5_findDue_8 : decode cX5_findDue 8 = .ok (.bipush 100, 2) := by decide +kernel
theorem dX5_findDue_10 : decode cX5_findDue 10 = .ok (.if_icmp .ge 50, 3) := by decide +kernel
theorem dX5_findDue_13 : decode cX5_findDue 13 = .ok (.aload_n 0, 1) := by decide +kernel
theorem dX5_findDue_14 : decode cX5_findDue 14 = .ok (.getfield 19, 3) := by decide +kernel
theorem dX5_findDue_17 : decode cX5_findDue 17 = .ok (.iload_n 1, 1) := by decide +kernel
theorem dX5_findDue_18 : decode cX5_findDue 18 = .ok (.iaload, 1) := by decide +kernel
theorem dX5_findDue_19 : decode cX5_findDue 19 = .ok (.iconst (-1), 1) := by decide +kernel
theorem dX5_findDue_20 : decode cX5_findDue 20 = .ok (.if_icmp .eq 34, 3) := by decide +kernel
theorem dX5_findDue_23 : decode cX5_findDue 23 = .ok (.aload_n 0, 1) := by decide +kernel
theorem dX5_findDue_24 : decode cX5_findDue 24 = .ok (.getfield 34, 3) := by decide +kernel
theorem dX5_findDue_27 : decode cX5_findDue 27 = .ok (.iconst (-1), 1) := by decide +kernel
theorem dX5_findDue_28 : decode cX5_findDue 28 = .ok (.if_icmp .eq 21, 3) := by decide +kernel
theorem dX5_findDue_31 : decode cX5_findDue 31 = .ok (.aload_n 0, 1) := by decide +kernel
theorem dX5_findDue_32 : decode cX5_findDue 32 = .ok (.getfield 19, 3) := by decide +kernel
theorem dX5_findDue_35 : decode cX5_findDue 35 = .ok (.iload_n 1, 1) := by decide +kernel
theorem dX5_findDue_36 : decode cX5_findDue 36 = .ok (.iaload, 1) := by decide +kernel
theorem dX5_findDue_37 : decode cX5_findDue 37 = .ok (.aload_n 0, 1) := by decide +kernel
theorem dX5_findDue_38 : decode cX5_findDue 38 = .ok (.getfield 19, 3) := by decide +kernel
theorem dX5_findDue_41 : decode cX5_findDue 41 = .ok (.aload_n 0, 1) := by decide +kernel
theorem dX5_findDue_42 : decode cX5_findDue 42 = .ok (.getfield 34, 3) := by decide +kernel
theorem dX5_findDue_45 : decode cX5_findDue 45 = .ok (.iaload, 1) := by decide +kernel
theorem dX5_findDue_46 : decode cX5_findDue 46 = .ok (.if_icmp .ge 8, 3) := by decide +kernel
theorem dX5_findDue_49 : decode cX5_findDue 49 = .ok (.aload_n 0, 1) := by decide +kernel
theorem dX5_findDue_50 : decode cX5_findDue 50 = .ok (.iload_n 1, 1) := by decide +kernel
theorem dX5_findDue_51 : decode cX5_findDue 51 = .ok (.putfield 34, 3) := by decide +kernel
theorem dX5_findDue_54 : decode cX5_findDue 54 = .ok (.iinc 1 1, 3) := by decide +kernel
theorem dX5_findDue_57 : decode cX5_findDue 57 = .ok (.goto (-50), 3) := by decide +kernel
theorem dX5_findDue_60 : decode cX5_findDue 60 = .ok (.return_, 1) := by decide +kernel
theorem dX5_nextDeadline_0 : decode cX5_nextDeadline 0 = .ok (.aload_n 0, 1) := by decide +kernel
theorem dX5_nextDeadline_1 : decode cX5_nextDeadline 1 = .ok (.getfield 34, 3) := by decide +kernel
theorem dX5_nextDeadline_4 : decode cX5_nextDeadline 4 = .ok (.iconst (-1), 1) := by decide +kernel
theorem dX5_nextDeadline_5 : decode cX5_nextDeadline 5 = .ok (.if_icmp .ne 7, 3) := by decide +kernel
theorem dX5_nextDeadline_8 : decode cX5_nextDeadline 8 = .ok (.iconst (-1), 1) := by decide +kernel
theorem dX5_nextDeadline_9 : decode cX5_nextDeadline 9 = .ok (.goto 12, 3) := by decide +kernel
theorem dX5_nextDeadline_12 : decode cX5_nextDeadline 12 = .ok (.aload_n 0, 1) := by decide +kernel
theorem dX5_nextDeadline_13 : decode cX5_nextDeadline 13 = .ok (.getfield 19, 3) := by decide +kernel
theorem dX5_nextDeadline_16 : decode cX5_nextDeadline 16 = .ok (.aload_n 0, 1) := by decide +kernel
theorem dX5_nextDeadline_17 : decode cX5_nextDeadline 17 = .ok (.getfield 34, 3) := by decide +kernel
theorem dX5_nextDeadline_20 : decode cX5_nextDeadline 20 = .ok (.iaload, 1) := by decide +kernel
theorem dX5_nextDeadline_21 : decode cX5_nextDeadline 21 = .ok (.ireturn, 1) := by decide +kernel
theorem dX5_isFull_0 : decode cX5_isFull 0 = .ok (.aload_n 0, 1) := by decide +kernel
theorem dX5_isFull_1 : decode cX5_isFull 1 = .ok (.getfield 28, 3) := by decide +kernel
theorem dX5_isFull_4 : decode cX5_isFull 4 = .ok (.iload_n 1, 1) := by decide +kernel
theorem dX5_isFull_5 : decode cX5_isFull 5 = .ok (.iaload, 1) := by decide +kernel
theorem dX5_isFull_6 : decode cX5_isFull 6 = .ok (.iconst 4, 1) := by decide +kernel
theorem dX5_isFull_7 : decode cX5_isFull 7 = .ok (.if_icmp .lt 7, 3) := by decide +kernel
theorem dX5_isFull_10 : decode cX5_isFull 10 = .ok (.iconst 1, 1) := by decide +kernel
theorem dX5_isFull_11 : decode cX5_isFull 11 = .ok (.goto 4, 3) := by decide +kernel
theorem dX5_isFull_14 : decode cX5_isFull 14 = .ok (.iconst 0, 1) := by decide +kernel
theorem dX5_isFull_15 : decode cX5_isFull 15 = .ok (.ireturn, 1) := by decide +kernel
theorem dX5_hold_0 : decode cX5_hold 0 = .ok (.aload_n 0, 1) := by decide +kernel
theorem dX5_hold_1 : decode cX5_hold 1 = .ok (.iload_n 1, 1) := by decide +kernel
theorem dX5_hold_2 : decode cX5_hold 2 = .ok (.invokevirtual 41, 3) := by decide +kernel
theorem dX5_hold_5 : decode cX5_hold 5 = .ok (.ifCond .ne 29, 3) := by decide +kernel
theorem dX5_hold_8 : decode cX5_hold 8 = .ok (.aload_n 0, 1) := by decide +kernel
theorem dX5_hold_9 : decode cX5_hold 9 = .ok (.getfield 31, 3) := by decide +kernel
theorem dX5_hold_12 : decode cX5_hold 12 = .ok (.iload_n 1, 1) := by decide +kernel
theorem dX5_hold_13 : decode cX5_hold 13 = .ok (.iconst 4, 1) := by decide +kernel
theorem dX5_hold_14 : decode cX5_hold 14 = .ok (.imul, 1) := by decide +kernel
theorem dX5_hold_15 : decode cX5_hold 15 = .ok (.aload_n 0, 1) := by decide +kernel
theorem dX5_hold_16 : decode cX5_hold 16 = .ok (.getfield 28, 3) := by decide +kernel
theorem dX5_hold_19 : decode cX5_hold 19 = .ok (.iload_n 1, 1) := by decide +kernel
theorem dX5_hold_20 : decode cX5_hold 20 = .ok (.iaload, 1) := by decide +kernel
theorem dX5_hold_21 : decode cX5_hold 21 = .ok (.iadd, 1) := by decide +kernel
theorem dX5_hold_22 : decode cX5_hold 22 = .ok (.iload_n 2, 1) := by decide +kernel
theorem dX5_hold_23 : decode cX5_hold 23 = .ok (.iastore, 1) := by decide +kernel
theorem dX5_hold_24 : decode cX5_hold 24 = .ok (.aload_n 0, 1) := by decide +kernel
theorem dX5_hold_25 : decode cX5_hold 25 = .ok (.getfield 28, 3) := by decide +kernel
theorem dX5_hold_28 : decode cX5_hold 28 = .ok (.iload_n 1, 1) := by decide +kernel
theorem dX5_hold_29 : decode cX5_hold 29 = .ok (.dup2, 1) := by decide +kernel
theorem dX5_hold_30 : decode cX5_hold 30 = .ok (.iaload, 1) := by decide +kernel
theorem dX5_hold_31 : decode cX5_hold 31 = .ok (.iconst 1, 1) := by decide +kernel
theorem dX5_hold_32 : decode cX5_hold 32 = .ok (.iadd, 1) := by decide +kernel
theorem dX5_hold_33 : decode cX5_hold 33 = .ok (.iastore, 1) := by decide +kernel
theorem dX5_hold_34 : decode cX5_hold 34 = .ok (.return_, 1) := by decide +kernel
theorem dX5_takeOldest_0 : decode cX5_takeOldest 0 = .ok (.aload_n 0, 1) := by decide +kernel
theorem dX5_takeOldest_1 : decode cX5_takeOldest 1 = .ok (.getfield 28, 3) := by decide +kernel
theorem dX5_takeOldest_4 : decode cX5_takeOldest 4 = .ok (.iload_n 1, 1) := by decide +kernel
theorem dX5_takeOldest_5 : decode cX5_takeOldest 5 = .ok (.iaload, 1) := by decide +kernel
theorem dX5_takeOldest_6 : decode cX5_takeOldest 6 = .ok (.ifCond .ne 5, 3) := by decide +kernel
theorem dX5_takeOldest_9 : decode cX5_takeOldest 9 = .ok (.iconst (-1), 1) := by decide +kernel
theorem dX5_takeOldest_10 : decode cX5_takeOldest 10 = .ok (.ireturn, 1) := by decide +kernel
theorem dX5_takeOldest_11 : decode cX5_takeOldest 11 = .ok (.iload_n 1, 1) := by decide +kernel
theorem dX5_takeOldest_12 : decode cX5_takeOldest 12 = .ok (.iconst 4, 1) := by decide +kernel
theorem dX5_takeOldest_13 : decode cX5_takeOldest 13 = .ok (.imul, 1) := by decide +kernel
theorem dX5_takeOldest_14 : decode cX5_takeOldest 14 = .ok (.istore_n 2, 1) := by decide +kernel
theorem dX5_takeOldest_15 : decode cX5_takeOldest 15 = .ok (.aload_n 0, 1) := by decide +kernel
theorem dX5_takeOldest_16 : decode cX5_takeOldest 16 = .ok (.getfield 31, 3) := by decide +kernel
theorem dX5_takeOldest_19 : decode cX5_takeOldest 19 = .ok (.iload_n 2, 1) := by decide +kernel
theorem dX5_takeOldest_20 : decode cX5_takeOldest 20 = .ok (.iaload, 1) := by decide +kernel
theorem dX5_takeOldest_21 : decode cX5_takeOldest 21 = .ok (.istore_n 3, 1) := by decide +kernel
theorem dX5_takeOldest_22 : decode cX5_takeOldest 22 = .ok (.aload_n 0, 1) := by decide +kernel
theorem dX5_takeOldest_23 : decode cX5_takeOldest 23 = .ok (.getfield 28, 3) := by decide +kernel
theorem dX5_takeOldest_26 : decode cX5_takeOldest 26 = .ok (.iload_n 1, 1) := by decide +kernel
theorem dX5_takeOldest_27 : decode cX5_takeOldest 27 = .ok (.dup2, 1) := by decide +kernel
theorem dX5_takeOldest_28 : decode cX5_takeOldest 28 = .ok (.iaload, 1) := by decide +kernel
theorem dX5_takeOldest_29 : decode cX5_takeOldest 29 = .ok (.iconst 1, 1) := by decide +kernel
theorem dX5_takeOldest_30 : decode cX5_takeOldest 30 = .ok (.isub, 1) := by decide +kernel
theorem dX5_takeOldest_31 : decode cX5_takeOldest 31 = .ok (.iastore, 1) := by decide +kernel
theorem dX5_takeOldest_32 : decode cX5_takeOldest 32 = .ok (.aload_n 0, 1) := by decide +kernel
theorem dX5_takeOldest_33 : decode cX5_takeOldest 33 = .ok (.getfield 31, 3) := by decide +kernel
theorem dX5_takeOldest_36 : decode cX5_takeOldest 36 = .ok (.iload_n 2, 1) := by decide +kernel
theorem dX5_takeOldest_37 : decode cX5_takeOldest 37 = .ok (.iconst 1, 1) := by decide +kernel
theorem dX5_takeOldest_38 : decode cX5_takeOldest 38 = .ok (.iadd, 1) := by decide +kernel
theorem dX5_takeOldest_39 : decode cX5_takeOldest 39 = .ok (.aload_n 0, 1) := by decide +kernel
theorem dX5_takeOldest_40 : decode cX5_takeOldest 40 = .ok (.getfield 31, 3) := by decide +kernel
theorem dX5_takeOldest_43 : decode cX5_takeOldest 43 = .ok (.iload_n 2, 1) := by decide +kernel
theorem dX5_takeOldest_44 : decode cX5_takeOldest 44 = .ok (.aload_n 0, 1) := by decide +kernel
theorem dX5_takeOldest_45 : decode cX5_takeOldest 45 = .ok (.getfield 28, 3) := by decide +kernel
theorem dX5_takeOldest_48 : decode cX5_takeOldest 48 = .ok (.iload_n 1, 1) := by decide +kernel
theorem dX5_takeOldest_49 : decode cX5_takeOldest 49 = .ok (.iaload, 1) := by decide +kernel
theorem dX5_takeOldest_50 : decode cX5_takeOldest 50 = .ok (.invokestatic 45, 3) := by decide +kernel
theorem dX5_takeOldest_53 : decode cX5_takeOldest 53 = .ok (.iload_n 3, 1) := by decide +kernel
theorem dX5_takeOldest_54 : decode cX5_takeOldest 54 = .ok (.ireturn, 1) := by decide +kernel
theorem dX5_become_0 : decode cX5_become 0 = .ok (.aload_n 1, 1) := by decide +kernel
theorem dX5_become_1 : decode cX5_become 1 = .ok (.getfield 9, 3) := by decide +kernel
theorem dX5_become_4 : decode cX5_become 4 = .ok (.aload_n 0, 1) := by decide +kernel
theorem dX5_become_5 : decode cX5_become 5 = .ok (.getfield 9, 3) := by decide +kernel
theorem dX5_become_8 : decode cX5_become 8 = .ok (.invokestatic 51, 3) := by decide +kernel
theorem dX5_become_11 : decode cX5_become 11 = .ok (.aload_n 1, 1) := by decide +kernel
theorem dX5_become_12 : decode cX5_become 12 = .ok (.getfield 19, 3) := by decide +kernel
theorem dX5_become_15 : decode cX5_become 15 = .ok (.aload_n 0, 1) := by decide +kernel
theorem dX5_become_16 : decode cX5_become 16 = .ok (.getfield 19, 3) := by decide +kernel
theorem dX5_become_19 : decode cX5_become 19 = .ok (.invokestatic 51, 3) := by decide +kernel
theorem dX5_become_22 : decode cX5_become 22 = .ok (.aload_n 1, 1) := by decide +kernel
theorem dX5_become_23 : decode cX5_become 23 = .ok (.getfield 22, 3) := by decide +kernel
theorem dX5_become_26 : decode cX5_become 26 = .ok (.aload_n 0, 1) := by decide +kernel
theorem dX5_become_27 : decode cX5_become 27 = .ok (.getfield 22, 3) := by decide +kernel
theorem dX5_become_30 : decode cX5_become 30 = .ok (.invokestatic 51, 3) := by decide +kernel
theorem dX5_become_33 : decode cX5_become 33 = .ok (.aload_n 1, 1) := by decide +kernel
theorem dX5_become_34 : decode cX5_become 34 = .ok (.getfield 25, 3) := by decide +kernel
theorem dX5_become_37 : decode cX5_become 37 = .ok (.aload_n 0, 1) := by decide +kernel
theorem dX5_become_38 : decode cX5_become 38 = .ok (.getfield 25, 3) := by decide +kernel
theorem dX5_become_41 : decode cX5_become 41 = .ok (.invokestatic 51, 3) := by decide +kernel
theorem dX5_become_44 : decode cX5_become 44 = .ok (.aload_n 1, 1) := by decide +kernel
theorem dX5_become_45 : decode cX5_become 45 = .ok (.getfield 28, 3) := by decide +kernel
theorem dX5_become_48 : decode cX5_become 48 = .ok (.aload_n 0, 1) := by decide +kernel
theorem dX5_become_49 : decode cX5_become 49 = .ok (.getfield 28, 3) := by decide +kernel
theorem dX5_become_52 : decode cX5_become 52 = .ok (.invokestatic 51, 3) := by decide +kernel
theorem dX5_become_55 : decode cX5_become 55 = .ok (.aload_n 1, 1) := by decide +kernel
theorem dX5_become_56 : decode cX5_become 56 = .ok (.getfield 31, 3) := by decide +kernel
theorem dX5_become_59 : decode cX5_become 59 = .ok (.aload_n 0, 1) := by decide +kernel
theorem dX5_become_60 : decode cX5_become 60 = .ok (.getfield 31, 3) := by decide +kernel
theorem dX5_become_63 : decode cX5_become 63 = .ok (.invokestatic 51, 3) := by decide +kernel
theorem dX5_become_66 : decode cX5_become 66 = .ok (.aload_n 0, 1) := by decide +kernel
theorem dX5_become_67 : decode cX5_become 67 = .ok (.aload_n 1, 1) := by decide +kernel
theorem dX5_become_68 : decode cX5_become 68 = .ok (.getfield 34, 3) := by decide +kernel
theorem dX5_become_71 : decode cX5_become 71 = .ok (.putfield 34, 3) := by decide +kernel
theorem dX5_become_74 : decode cX5_become 74 = .ok (.return_, 1) := by decide +kernel
theorem dX6_init_0 : decode cX6_init 0 = .ok (.aload_n 0, 1) := by decide +kernel
theorem dX6_init_1 : decode cX6_init 1 = .ok (.invokespecial 3, 3) := by decide +kernel
theorem dX6_init_4 : decode cX6_init 4 = .ok (.aload_n 0, 1) := by decide +kernel
theorem dX6_init_5 : decode cX6_init 5 = .ok (.iconst 2, 1) := by decide +kernel
theorem dX6_init_6 : decode cX6_init 6 = .ok (.bipush 10, 2) := by decide +kernel
theorem dX6_init_8 : decode cX6_init 8 = .ok (.iload_n 1, 1) := by decide +kernel
theorem dX6_init_9 : decode cX6_init 9 = .ok (.invokestatic 9, 3) := by decide +kernel
theorem dX6_init_12 : decode cX6_init 12 = .ok (.invokestatic 15, 3) := by decide +kernel
theorem dX6_init_15 : decode cX6_init 15 = .ok (.putfield 18, 3) := by decide +kernel
theorem dX6_init_18 : decode cX6_init 18 = .ok (.aload_n 0, 1) := by decide +kernel
theorem dX6_init_19 : decode cX6_init 19 = .ok (.new 22, 3) := by decide +kernel
theorem dX6_init_22 : decode cX6_init 22 = .ok (.dup, 1) := by decide +kernel
theorem dX6_init_23 : decode cX6_init 23 = .ok (.aload_n 0, 1) := by decide +kernel
theorem dX6_init_24 : decode cX6_init 24 = .ok (.getfield 18, 3) := by decide +kernel
theorem dX6_init_27 : decode cX6_init 27 = .ok (.invokespecial 24, 3) := by decide +kernel
theorem dX6_init_30 : decode cX6_init 30 = .ok (.putfield 27, 3) := by decide +kernel
theorem dX6_init_33 : decode cX6_init 33 = .ok (.aload_n 0, 1) := by decide +kernel
theorem dX6_init_34 : decode cX6_init 34 = .ok (.new 22, 3) := by decide +kernel
theorem dX6_init_37 : decode cX6_init 37 = .ok (.dup, 1) := by decide +kernel
theorem dX6_init_38 : decode cX6_init 38 = .ok (.aload_n 0, 1) := by decide +kernel
theorem dX6_init_39 : decode cX6_init 39 = .ok (.getfield 18, 3) := by decide +kernel
theorem dX6_init_42 : decode cX6_init 42 = .ok (.invokespecial 24, 3) := by decide +kernel
theorem dX6_init_45 : decode cX6_init 45 = .ok (.putfield 31, 3) := by decide +kernel
theorem dX6_init_48 : decode cX6_init 48 = .ok (.aload_n 0, 1) := by decide +kernel
theorem dX6_init_49 : decode cX6_init 49 = .ok (.new 22, 3) := by decide +kernel
theorem dX6_init_52 : decode cX6_init 52 = .ok (.dup, 1) := by decide +kernel
theorem dX6_init_53 : decode cX6_init 53 = .ok (.aload_n 0, 1) := by decide +kernel
theorem dX6_init_54 : decode cX6_init 54 = .ok (.getfield 18, 3) := by decide +kernel
theorem dX6_init_57 : decode cX6_init 57 = .ok (.invokespecial 24, 3) := by decide +kernel
theorem dX6_init_60 : decode cX6_init 60 = .ok (.putfield 34, 3) := by decide +kernel
theorem dX6_init_63 : decode cX6_init 63 = .ok (.return_, 1) := by decide +kernel
theorem dX6_setLink_0 : decode cX6_setLink 0 = .ok (.aload_n 0, 1) := by decide +kernel
theorem dX6_setLink_1 : decode cX6_setLink 1 = .ok (.iload_n 1, 1) := by decide +kernel
theorem dX6_setLink_2 : decode cX6_setLink 2 = .ok (.iload_n 2, 1) := by decide +kernel
theorem dX6_setLink_3 : decode cX6_setLink 3 = .ok (.invokevirtual 37, 3) := by decide +kernel
theorem dX6_setLink_6 : decode cX6_setLink 6 = .ok (.iload_n 3, 1) := by decide +kernel
theorem dX6_setLink_7 : decode cX6_setLink 7 = .ok (.iconst 0, 1) := by decide +kernel
theorem dX6_setLink_8 : decode cX6_setLink 8 = .ok (.bipush 9, 2) := by decide +kernel
theorem dX6_setLink_10 : decode cX6_setLink 10 = .ok (.invokestatic 41, 3) := by decide +kernel
theorem dX6_setLink_13 : decode cX6_setLink 13 = .ok (.aload_n 0, 1) := by decide +kernel
theorem dX6_setLink_14 : decode cX6_setLink 14 = .ok (.getfield 27, 3) := by decide +kernel
theorem dX6_setLink_17 : decode cX6_setLink 17 = .ok (.iload_n 1, 1) := by decide +kernel
theorem dX6_setLink_18 : decode cX6_setLink 18 = .ok (.iload_n 2, 1) := by decide +kernel
theorem dX6_setLink_19 : decode cX6_setLink 19 = .ok (.iload_n 3, 1) := by decide +kernel
theorem dX6_setLink_20 : decode cX6_setLink 20 = .ok (.invokevirtual 45, 3) := by decide +kernel
theorem dX6_setLink_23 : decode cX6_setLink 23 = .ok (.ireturn, 1) := by decide +kernel
theorem dX6_link_0 : decode cX6_link 0 = .ok (.aload_n 0, 1) := by decide +kernel
theorem dX6_link_1 : decode cX6_link 1 = .ok (.iload_n 1, 1) := by decide +kernel
theorem dX6_link_2 : decode cX6_link 2 = .ok (.iload_n 2, 1) := by decide +kernel
theorem dX6_link_3 : decode cX6_link 3 = .ok (.invokevirtual 49, 3) := by decide +kernel
theorem dX6_link_6 : decode cX6_link 6 = .ok (.aload_n 0, 1) := by decide +kernel
theorem dX6_link_7 : decode cX6_link 7 = .ok (.getfield 27, 3) := by decide +kernel
theorem dX6_link_10 : decode cX6_link 10 = .ok (.getfield 52, 3) := by decide +kernel
theorem dX6_link_13 : decode cX6_link 13 = .ok (.getfield 56, 3) := by decide +kernel
theorem dX6_link_16 : decode cX6_link 16 = .ok (.iload_n 1, 1) := by decide +kernel
theorem dX6_link_17 : decode cX6_link 17 = .ok (.aaload, 1) := by decide +kernel
theorem dX6_link_18 : decode cX6_link 18 = .ok (.iload_n 2, 1) := by decide +kernel
theorem dX6_link_19 : decode cX6_link 19 = .ok (.iaload, 1) := by decide +kernel
theorem dX6_link_20 : decode cX6_link 20 = .ok (.ireturn, 1) := by decide +kernel
theorem dX6_setParameter_0 : decode cX6_setParameter 0 = .ok (.iload_n 1, 1) := by decide +kernel
theorem dX6_setParameter_1 : decode cX6_setParameter 1 = .ok (.bipush 8, 2) := by decide +kernel
theorem dX6_setParameter_3 : decode cX6_setParameter 3 = .ok (.invokestatic 62, 3) := by decide +kernel
theorem dX6_setParameter_6 : decode cX6_setParameter 6 = .ok (.iload_n 2, 1) := by decide +kernel
theorem dX6_setParameter_7 : decode cX6_setParameter 7 = .ok (.getstatic 65, 3) := by decide +kernel
theorem dX6_setParameter_10 : decode cX6_setParameter 10 = .ok (.iload_n 1, 1) := by decide +kernel
theorem dX6_setParameter_11 : decode cX6_setParameter 11 = .ok (.iaload, 1) := by decide +kernel
theorem dX6_setParameter_12 : decode cX6_setParameter 12 = .ok (.getstatic 69, 3) := by decide +kernel
theorem dX6_setParameter_15 : decode cX6_setParameter 15 = .ok (.iload_n 1, 1) := by decide +kernel
theorem dX6_setParameter_16 : decode cX6_setParameter 16 = .ok (.iaload, 1) := by decide +kernel
theorem dX6_setParameter_17 : decode cX6_setParameter 17 = .ok (.invokestatic 41, 3) := by decide +kernel
theorem dX6_setParameter_20 : decode cX6_setParameter 20 = .ok (.aload_n 0, 1) := by decide +kernel
theorem dX6_setParameter_21 : decode cX6_setParameter 21 = .ok (.getfield 27, 3) := by decide +kernel
theorem dX6_setParameter_24 : decode cX6_setParameter 24 = .ok (.getfield 72, 3) := by decide +kernel
theorem dX6_setParameter_27 : decode cX6_setParameter 27 = .ok (.iload_n 1, 1) := by decide +kernel
theorem dX6_setParameter_28 : decode cX6_setParameter 28 = .ok (.iaload, 1) := by decide +kernel
theorem dX6_setParameter_29 : decode cX6_setParameter 29 = .ok (.istore_n 3, 1) := by decide +kernel
theorem dX6_setParameter_30 : decode cX6_setParameter 30 = .ok (.aload_n 0, 1) := by decide +kernel
theorem dX6_setParameter_31 : decode cX6_setParameter 31 = .ok (.getfield 27, 3) := by decide +kernel
theorem dX6_setParameter_34 : decode cX6_setParameter 34 = .ok (.getfield 72, 3) := by decide +kernel
theorem dX6_setParameter_37 : decode cX6_setParameter 37 = .ok (.iload_n 1, 1) := by decide +kernel
theorem dX6_setParameter_38 : decode cX6_setParameter 38 = .ok (.iload_n 2, 1) := by decide +kernel
theorem dX6_setParameter_39 : decode cX6_setParameter 39 = .ok (.iastore, 1) := by decide +kernel
theorem dX6_setParameter_40 : decode cX6_setParameter 40 = .ok (.iload_n 3, 1) := by decide +kernel
theorem dX6_setParameter_41 : decode cX6_setParameter 41 = .ok (.ireturn, 1) := by decide +kernel
theorem dX6_send_0 : decode cX6_send 0 = .ok (.aload_n 0, 1) := by decide +kernel
theorem dX6_send_1 : decode cX6_send 1 = .ok (.iload_n 1, 1) := by decide +kernel
theorem dX6_send_2 : decode cX6_send 2 = .ok (.iload_n 2, 1) := by decide +kernel
theorem dX6_send_3 : decode cX6_send 3 = .ok (.invokevirtual 37, 3) := by decide +kernel
theorem dX6_send_6 : decode cX6_send 6 = .ok (.aload_n 0, 1) := by decide +kernel
theorem dX6_send_7 : decode cX6_send 7 = .ok (.getfield 27, 3) := by decide +kernel
theorem dX6_send_10 : decode cX6_send 10 = .ok (.getfield 75, 3) := by decide +kernel
theorem dX6_send_13 : decode cX6_send 13 = .ok (.getfield 79, 3) := by decide +kernel
theorem dX6_send_16 : decode cX6_send 16 = .ok (.sipush 200, 3) := by decide +kernel
theorem dX6_send_19 : decode cX6_send 19 = .ok (.if_icmp .lt 13, 3) := by decide +kernel
theorem dX6_send_22 : decode cX6_send 22 = .ok (.new 84, 3) := by decide +kernel
theorem dX6_send_25 : decode cX6_send 25 = .ok (.dup, 1) := by decide +kernel
theorem dX6_send_26 : decode cX6_send 26 = .ok (.ldc 86, 2) := by decide +kernel
theorem dX6_send_28 : decode cX6_send 28 = .ok (.invokespecial 88, 3) := by decide +kernel
theorem dX6_send_31 : decode cX6_send 31 = .ok (.athrow, 1) := by decide +kernel
theorem dX6_send_32 : decode cX6_send 32 = .ok (.aload_n 0, 1) := by decide +kernel
theorem dX6_send_33 : decode cX6_send 33 = .ok (.getfield 27, 3) := by decide +kernel
theorem dX6_send_36 : decode cX6_send 36 = .ok (.iload_n 1, 1) := by decide +kernel
theorem dX6_send_37 : decode cX6_send 37 = .ok (.iload_n 2, 1) := by decide +kernel
theorem dX6_send_38 : decode cX6_send 38 = .ok (.invokevirtual 91, 3) := by decide +kernel
theorem dX6_send_41 : decode cX6_send 41 = .ok (.ireturn, 1) := by decide +kernel
theorem dX6_step_0 : decode cX6_step 0 = .ok (.aload_n 0, 1) := by decide +kernel
theorem dX6_step_1 : decode cX6_step 1 = .ok (.getfield 27, 3) := by decide +kernel
theorem dX6_step_4 : decode cX6_step 4 = .ok (.invokevirtual 94, 3) := by decide +kernel
theorem dX6_step_7 : decode cX6_step 7 = .ok (.ireturn, 1) := by decide +kernel
theorem dX6_run_0 : decode cX6_run 0 = .ok (.iload_n 1, 1) := by decide +kernel
theorem dX6_run_1 : decode cX6_run 1 = .ok (.iconst 0, 1) := by decide +kernel
theorem dX6_run_2 : decode cX6_run 2 = .ok (.ldc 98, 2) := by decide +kernel
theorem dX6_run_4 : decode cX6_run 4 = .ok (.invokestatic 41, 3) := by decide +kernel
theorem dX6_run_7 : decode cX6_run 7 = .ok (.aload_n 0, 1) := by decide +kernel
theorem dX6_run_8 : decode cX6_run 8 = .ok (.getfield 27, 3) := by decide +kernel
theorem dX6_run_11 : decode cX6_run 11 = .ok (.iload_n 1, 1) := by decide +kernel
theorem dX6_run_12 : decode cX6_run 12 = .ok (.invokevirtual 99, 3) := by decide +kernel
theorem dX6_run_15 : decode cX6_run 15 = .ok (.ireturn, 1) := by decide +kernel
theorem dX6_time_0 : decode cX6_time 0 = .ok (.aload_n 0, 1) := by decide +kernel
theorem dX6_time_1 : decode cX6_time 1 = .ok (.getfield 27, 3) := by decide +kernel
theorem dX6_time_4 : decode cX6_time 4 = .ok (.getfield 103, 3) := by decide +kernel
theorem dX6_time_7 : decode cX6_time 7 = .ok (.ireturn, 1) := by decide +kernel
theorem dX6_nextEvent_0 : decode cX6_nextEvent 0 = .ok (.aload_n 0, 1) := by decide +kernel
theorem dX6_nextEvent_1 : decode cX6_nextEvent 1 = .ok (.getfield 27, 3) := by decide +kernel
theorem dX6_nextEvent_4 : decode cX6_nextEvent 4 = .ok (.invokevirtual 106, 3) := by decide +kernel
theorem dX6_nextEvent_7 : decode cX6_nextEvent 7 = .ok (.ireturn, 1) := by decide +kernel
theorem dX6_inFlight_0 : decode cX6_inFlight 0 = .ok (.iload_n 1, 1) := by decide +kernel
theorem dX6_inFlight_1 : decode cX6_inFlight 1 = .ok (.iconst 4, 1) := by decide +kernel
theorem dX6_inFlight_2 : decode cX6_inFlight 2 = .ok (.invokestatic 62, 3) := by decide +kernel
theorem dX6_inFlight_5 : decode cX6_inFlight 5 = .ok (.aload_n 0, 1) := by decide +kernel
theorem dX6_inFlight_6 : decode cX6_inFlight 6 = .ok (.getfield 27, 3) := by decide +kernel
theorem dX6_inFlight_9 : decode cX6_inFlight 9 = .ok (.getfield 52, 3) := by decide +kernel
theorem dX6_inFlight_12 : decode cX6_inFlight 12 = .ok (.getfield 109, 3) := by decide +kernel
theorem dX6_inFlight_15 : decode cX6_inFlight 15 = .ok (.iload_n 1, 1) := by decide +kernel
theorem dX6_inFlight_16 : decode cX6_inFlight 16 = .ok (.iaload, 1) := by decide +kernel
theorem dX6_inFlight_17 : decode cX6_inFlight 17 = .ok (.ireturn, 1) := by decide +kernel
theorem dX6_sent_0 : decode cX6_sent 0 = .ok (.iload_n 1, 1) := by decide +kernel
theorem dX6_sent_1 : decode cX6_sent 1 = .ok (.iconst 4, 1) := by decide +kernel
theorem dX6_sent_2 : decode cX6_sent 2 = .ok (.invokestatic 62, 3) := by decide +kernel
theorem dX6_sent_5 : decode cX6_sent 5 = .ok (.aload_n 0, 1) := by decide +kernel
theorem dX6_sent_6 : decode cX6_sent 6 = .ok (.getfield 27, 3) := by decide +kernel
theorem dX6_sent_9 : decode cX6_sent 9 = .ok (.getfield 52, 3) := by decide +kernel
theorem dX6_sent_12 : decode cX6_sent 12 = .ok (.getfield 112, 3) := by decide +kernel
theorem dX6_sent_15 : decode cX6_sent 15 = .ok (.iload_n 1, 1) := by decide +kernel
theorem dX6_sent_16 : decode cX6_sent 16 = .ok (.iaload, 1) := by decide +kernel
theorem dX6_sent_17 : decode cX6_sent 17 = .ok (.ireturn, 1) := by decide +kernel
theorem dX6_isValid_0 : decode cX6_isValid 0 = .ok (.aload_n 0, 1) := by decide +kernel
theorem dX6_isValid_1 : decode cX6_isValid 1 = .ok (.iload_n 1, 1) := by decide +kernel
theorem dX6_isValid_2 : decode cX6_isValid 2 = .ok (.iload_n 2, 1) := by decide +kernel
theorem dX6_isValid_3 : decode cX6_isValid 3 = .ok (.invokevirtual 49, 3) := by decide +kernel
theorem dX6_isValid_6 : decode cX6_isValid 6 = .ok (.aload_n 0, 1) := by decide +kernel
theorem dX6_isValid_7 : decode cX6_isValid 7 = .ok (.getfield 27, 3) := by decide +kernel
theorem dX6_isValid_10 : decode cX6_isValid 10 = .ok (.getfield 115, 3) := by decide +kernel
theorem dX6_isValid_13 : decode cX6_isValid 13 = .ok (.iload_n 1, 1) := by decide +kernel
theorem dX6_isValid_14 : decode cX6_isValid 14 = .ok (.iload_n 2, 1) := by decide +kernel
theorem dX6_isValid_15 : decode cX6_isValid 15 = .ok (.invokestatic 119, 3) := by decide +kernel
theorem dX6_isValid_18 : decode cX6_isValid 18 = .ok (.aload_n 0, 1) := by decide +kernel
