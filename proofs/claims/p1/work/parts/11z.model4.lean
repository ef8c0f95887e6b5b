theorem dX7_nodeOf_0 : decode cX7_nodeOf 0 = .ok (.aload_n 0, 1) := by decide +kernel
theorem dX7_nodeOf_1 : decode cX7_nodeOf 1 = .ok (.iload_n 1, 1) := by decide +kernel
theorem dX7_nodeOf_2 : decode cX7_nodeOf 2 = .ok (.iconst 3, 1) := by decide +kernel
theorem dX7_nodeOf_3 : decode cX7_nodeOf 3 = .ok (.invokevirtual 247, 3) := by decide +kernel
theorem dX7_nodeOf_6 : decode cX7_nodeOf 6 = .ok (.ireturn, 1) := by decide +kernel
theorem dX7_hopsOf_0 : decode cX7_hopsOf 0 = .ok (.aload_n 0, 1) := by decide +kernel
theorem dX7_hopsOf_1 : decode cX7_hopsOf 1 = .ok (.iload_n 1, 1) := by decide +kernel
theorem dX7_hopsOf_2 : decode cX7_hopsOf 2 = .ok (.iconst 4, 1) := by decide +kernel
theorem dX7_hopsOf_3 : decode cX7_hopsOf 3 = .ok (.invokevirtual 247, 3) := by decide +kernel
theorem dX7_hopsOf_6 : decode cX7_hopsOf 6 = .ok (.ireturn, 1) := by decide +kernel
theorem dX7_endOf_0 : decode cX7_endOf 0 = .ok (.aload_n 0, 1) := by decide +kernel
theorem dX7_endOf_1 : decode cX7_endOf 1 = .ok (.iload_n 1, 1) := by decide +kernel
theorem dX7_endOf_2 : decode cX7_endOf 2 = .ok (.iconst 5, 1) := by decide +kernel
theorem dX7_endOf_3 : decode cX7_endOf 3 = .ok (.invokevirtual 247, 3) := by decide +kernel
theorem dX7_endOf_6 : decode cX7_endOf 6 = .ok (.ireturn, 1) := by decide +kernel
theorem dX7_whyDropped_0 : decode cX7_whyDropped 0 = .ok (.aload_n 0, 1) := by decide +kernel
theorem dX7_whyDropped_1 : decode cX7_whyDropped 1 = .ok (.iload_n 1, 1) := by decide +kernel
theorem dX7_whyDropped_2 : decode cX7_whyDropped 2 = .ok (.i2l, 1) := by decide +kernel
theorem dX7_whyDropped_3 : decode cX7_whyDropped 3 = .ok (.lconst 0, 1) := by decide +kernel
theorem dX7_whyDropped_4 : decode cX7_whyDropped 4 = .ok (.aload_n 0, 1) := by decide +kernel
theorem dX7_whyDropped_5 : decode cX7_whyDropped 5 = .ok (.getfield 8, 3) := by decide +kernel
theorem dX7_whyDropped_8 : decode cX7_whyDropped 8 = .ok (.bipush 10, 2) := by decide +kernel
theorem dX7_whyDropped_10 : decode cX7_whyDropped 10 = .ok (.laload, 1) := by decide +kernel
theorem dX7_whyDropped_11 : decode cX7_whyDropped 11 = .ok (.lconst 1, 1) := by decide +kernel
theorem dX7_whyDropped_12 : decode cX7_whyDropped 12 = .ok (.lsub, 1) := by decide +kernel
theorem dX7_whyDropped_13 : decode cX7_whyDropped 13 = .ok (.invokestatic 38, 3) := by decide +kernel
theorem dX7_whyDropped_16 : decode cX7_whyDropped 16 = .ok (.ifCond .eq 17, 3) := by decide +kernel
theorem dX7_whyDropped_19 : decode cX7_whyDropped 19 = .ok (.iload_n 2, 1) := by decide +kernel
theorem dX7_whyDropped_20 : decode cX7_whyDropped 20 = .ok (.i2l, 1) := by decide +kernel
theorem dX7_whyDropped_21 : decode cX7_whyDropped 21 = .ok (.lconst 0, 1) := by decide +kernel
theorem dX7_whyDropped_22 : decode cX7_whyDropped 22 = .ok (.lconst 1, 1) := by decide +kernel
theorem dX7_whyDropped_23 : decode cX7_whyDropped 23 = .ok (.invokestatic 38, 3) := by decide +kernel
theorem dX7_whyDropped_26 : decode cX7_whyDropped 26 = .ok (.ifCond .eq 7, 3) := by decide +kernel
theorem dX7_whyDropped_29 : decode cX7_whyDropped 29 = .ok (.iconst 0, 1) := by decide +kernel
theorem dX7_whyDropped_30 : decode cX7_whyDropped 30 = .ok (.goto 4, 3) := by decide +kernel
theorem dX7_whyDropped_33 : decode cX7_whyDropped 33 = .ok (.iconst 1, 1) := by decide +kernel
theorem dX7_whyDropped_34 : decode cX7_whyDropped 34 = .ok (.putfield 34, 3) := by decide +kernel
theorem dX7_whyDropped_37 : decode cX7_whyDropped 37 = .ok (.aload_n 0, 1) := by decide +kernel
theorem dX7_whyDropped_38 : decode cX7_whyDropped 38 = .ok (.getfield 34, 3) := by decide +kernel
theorem dX7_whyDropped_41 : decode cX7_whyDropped 41 = .ok (.ifCond .ne 19, 3) := by decide +kernel
theorem dX7_whyDropped_44 : decode cX7_whyDropped 44 = .ok (.aload_n 0, 1) := by decide +kernel
theorem dX7_whyDropped_45 : decode cX7_whyDropped 45 = .ok (.getfield 8, 3) := by decide +kernel
theorem dX7_whyDropped_48 : decode cX7_whyDropped 48 = .ok (.iload_n 1, 1) := by decide +kernel
theorem dX7_whyDropped_49 : decode cX7_whyDropped 49 = .ok (.invokestatic 91, 3) := by decide +kernel
theorem dX7_whyDropped_52 : decode cX7_whyDropped 52 = .ok (.bipush 6, 2) := by decide +kernel
theorem dX7_whyDropped_54 : decode cX7_whyDropped 54 = .ok (.iadd, 1) := by decide +kernel
theorem dX7_whyDropped_55 : decode cX7_whyDropped 55 = .ok (.laload, 1) := by decide +kernel
theorem dX7_whyDropped_56 : decode cX7_whyDropped 56 = .ok (.l2i, 1) := by decide +kernel
theorem dX7_whyDropped_57 : decode cX7_whyDropped 57 = .ok (.goto 4, 3) := by decide +kernel
theorem dX7_whyDropped_60 : decode cX7_whyDropped 60 = .ok (.iconst 0, 1) := by decide +kernel
theorem dX7_whyDropped_61 : decode cX7_whyDropped 61 = .ok (.istore_n 3, 1) := by decide +kernel
theorem dX7_whyDropped_62 : decode cX7_whyDropped 62 = .ok (.iload_n 2, 1) := by decide +kernel
theorem dX7_whyDropped_63 : decode cX7_whyDropped 63 = .ok (.ifCond .ne 10, 3) := by decide +kernel
theorem dX7_whyDropped_66 : decode cX7_whyDropped 66 = .ok (.iload_n 3, 1) := by decide +kernel
theorem dX7_whyDropped_67 : decode cX7_whyDropped 67 = .ok (.bipush 10, 2) := by decide +kernel
theorem dX7_whyDropped_69 : decode cX7_whyDropped 69 = .ok (.idiv, 1) := by decide +kernel
theorem dX7_whyDropped_70 : decode cX7_whyDropped 70 = .ok (.goto 4, 3) := by decide +kernel
theorem dX7_whyDropped_73 : decode cX7_whyDropped 73 = .ok (.iload_n 3, 1) := by decide +kernel
theorem dX7_whyDropped_74 : decode cX7_whyDropped 74 = .ok (.ireturn, 1) := by decide +kernel
theorem dX7_inState_0 : decode cX7_inState 0 = .ok (.iconst 0, 1) := by decide +kernel
theorem dX7_inState_1 : decode cX7_inState 1 = .ok (.istore_n 2, 1) := by decide +kernel
theorem dX7_inState_2 : decode cX7_inState 2 = .ok (.iconst 0, 1) := by decide +kernel
theorem dX7_inState_3 : decode cX7_inState 3 = .ok (.istore_n 3, 1) := by decide +kernel
theorem dX7_inState_4 : decode cX7_inState 4 = .ok (.iload_n 3, 1) := by decide +kernel
theorem dX7_inState_5 : decode cX7_inState 5 = .ok (.i2l, 1) := by decide +kernel
theorem dX7_inState_6 : decode cX7_inState 6 = .ok (.aload_n 0, 1) := by decide +kernel
theorem dX7_inState_7 : decode cX7_inState 7 = .ok (.getfield 8, 3) := by decide +kernel
theorem dX7_inState_10 : decode cX7_inState 10 = .ok (.bipush 10, 2) := by decide +kernel
theorem dX7_inState_12 : decode cX7_inState 12 = .ok (.laload, 1) := by decide +kernel
theorem dX7_inState_13 : decode cX7_inState 13 = .ok (.lcmp, 1) := by decide +kernel
theorem dX7_inState_14 : decode cX7_inState 14 = .ok (.ifCond .ge 34, 3) := by decide +kernel
theorem dX7_inState_17 : decode cX7_inState 17 = .ok (.iload_n 2, 1) := by decide +kernel
theorem dX7_inState_18 : decode cX7_inState 18 = .ok (.aload_n 0, 1) := by decide +kernel
theorem dX7_inState_19 : decode cX7_inState 19 = .ok (.getfield 8, 3) := by decide +kernel
theorem dX7_inState_22 : decode cX7_inState 22 = .ok (.iload_n 3, 1) := by decide +kernel
theorem dX7_inState_23 : decode cX7_inState 23 = .ok (.invokestatic 91, 3) := by decide +kernel
theorem dX7_inState_26 : decode cX7_inState 26 = .ok (.iconst 2, 1) := by decide +kernel
theorem dX7_inState_27 : decode cX7_inState 27 = .ok (.iadd, 1) := by decide +kernel
theorem dX7_inState_28 : decode cX7_inState 28 = .ok (.laload, 1) := by decide +kernel
theorem dX7_inState_29 : decode cX7_inState 29 = .ok (.iload_n 1, 1) := by decide +kernel
theorem dX7_inState_30 : decode cX7_inState 30 = .ok (.i2l, 1) := by decide +kernel
theorem dX7_inState_31 : decode cX7_inState 31 = .ok (.lcmp, 1) := by decide +kernel
theorem dX7_inState_32 : decode cX7_inState 32 = .ok (.ifCond .ne 7, 3) := by decide +kernel
theorem dX7_inState_35 : decode cX7_inState 35 = .ok (.iconst 1, 1) := by decide +kernel
theorem dX7_inState_36 : decode cX7_inState 36 = .ok (.goto 4, 3) := by decide +kernel
theorem dX7_inState_39 : decode cX7_inState 39 = .ok (.iconst 0, 1) := by decide +kernel
theorem dX7_inState_40 : decode cX7_inState 40 = .ok (.iadd, 1) := by decide +kernel
theorem dX7_inState_41 : decode cX7_inState 41 = .ok (.istore_n 2, 1) := by decide +kernel
theorem dX7_inState_42 : decode cX7_inState 42 = .ok (.iinc 3 1, 3) := by decide +kernel
theorem dX7_inState_45 : decode cX7_inState 45 = .ok (.goto (-41), 3) := by decide +kernel
theorem dX7_inState_48 : decode cX7_inState 48 = .ok (.iload_n 2, 1) := by decide +kernel
theorem dX7_inState_49 : decode cX7_inState 49 = .ok (.ireturn, 1) := by decide +kernel
theorem dX7_packets_0 : decode cX7_packets 0 = .ok (.aload_n 0, 1) := by decide +kernel
theorem dX7_packets_1 : decode cX7_packets 1 = .ok (.iconst 0, 1) := by decide +kernel
theorem dX7_packets_2 : decode cX7_packets 2 = .ok (.putfield 34, 3) := by decide +kernel
theorem dX7_packets_5 : decode cX7_packets 5 = .ok (.iload_n 1, 1) := by decide +kernel
theorem dX7_packets_6 : decode cX7_packets 6 = .ok (.i2l, 1) := by decide +kernel
theorem dX7_packets_7 : decode cX7_packets 7 = .ok (.lconst 0, 1) := by decide +kernel
theorem dX7_packets_8 : decode cX7_packets 8 = .ok (.ldc2_w 32, 3) := by decide +kernel
theorem dX7_packets_11 : decode cX7_packets 11 = .ok (.invokestatic 38, 3) := by decide +kernel
theorem dX7_packets_14 : decode cX7_packets 14 = .ok (.ifCond .eq 11, 3) := by decide +kernel
theorem dX7_packets_17 : decode cX7_packets 17 = .ok (.aload_n 0, 1) := by decide +kernel
theorem dX7_packets_18 : decode cX7_packets 18 = .ok (.iload_n 1, 1) := by decide +kernel
theorem dX7_packets_19 : decode cX7_packets 19 = .ok (.invokevirtual 250, 3) := by decide +kernel
theorem dX7_packets_22 : decode cX7_packets 22 = .ok (.goto 8, 3) := by decide +kernel
theorem dX7_packets_25 : decode cX7_packets 25 = .ok (.aload_n 0, 1) := by decide +kernel
theorem dX7_packets_26 : decode cX7_packets 26 = .ok (.iconst 1, 1) := by decide +kernel
theorem dX7_packets_27 : decode cX7_packets 27 = .ok (.invokevirtual 208, 3) := by decide +kernel
theorem dX7_packets_30 : decode cX7_packets 30 = .ok (.ireturn, 1) := by decide +kernel
theorem dX7_follows_0 : decode cX7_follows 0 = .ok (.iload_n 1, 1) := by decide +kernel
theorem dX7_follows_1 : decode cX7_follows 1 = .ok (.istore_n 3, 1) := by decide +kernel
theorem dX7_follows_2 : decode cX7_follows 2 = .ok (.iconst 0, 1) := by decide +kernel
theorem dX7_follows_3 : decode cX7_follows 3 = .ok (.istore 4, 2) := by decide +kernel
theorem dX7_follows_5 : decode cX7_follows 5 = .ok (.iconst 0, 1) := by decide +kernel
theorem dX7_follows_6 : decode cX7_follows 6 = .ok (.istore 5, 2) := by decide +kernel
theorem dX7_follows_8 : decode cX7_follows 8 = .ok (.iload 5, 2) := by decide +kernel
theorem dX7_follows_10 : decode cX7_follows 10 = .ok (.bipush 10, 2) := by decide +kernel
theorem dX7_follows_12 : decode cX7_follows 12 = .ok (.if_icmp .gt 63, 3) := by decide +kernel
theorem dX7_follows_15 : decode cX7_follows 15 = .ok (.iload_n 3, 1) := by decide +kernel
theorem dX7_follows_16 : decode cX7_follows 16 = .ok (.iload_n 2, 1) := by decide +kernel
theorem dX7_follows_17 : decode cX7_follows 17 = .ok (.if_icmp .ne 6, 3) := by decide +kernel
theorem dX7_follows_20 : decode cX7_follows 20 = .ok (.iload 5, 2) := by decide +kernel
theorem dX7_follows_22 : decode cX7_follows 22 = .ok (.ireturn, 1) := by decide +kernel
theorem dX7_follows_23 : decode cX7_follows 23 = .ok (.iload 4, 2) := by decide +kernel
theorem dX7_follows_25 : decode cX7_follows 25 = .ok (.iload_n 3, 1) := by decide +kernel
theorem dX7_follows_26 : decode cX7_follows 26 = .ok (.ishr, 1) := by decide +kernel
theorem dX7_follows_27 : decode cX7_follows 27 = .ok (.iconst 1, 1) := by decide +kernel
theorem dX7_follows_28 : decode cX7_follows 28 = .ok (.iand, 1) := by decide +kernel
theorem dX7_follows_29 : decode cX7_follows 29 = .ok (.iconst 1, 1) := by decide +kernel
theorem dX7_follows_30 : decode cX7_follows 30 = .ok (.if_icmp .ne 6, 3) := by decide +kernel
theorem dX7_follows_33 : decode cX7_follows 33 = .ok (.bipush (-2), 2) := by decide +kernel
theorem dX7_follows_35 : decode cX7_follows 35 = .ok (.ireturn, 1) := by decide +kernel
theorem dX7_follows_36 : decode cX7_follows 36 = .ok (.aload_n 0, 1) := by decide +kernel
theorem dX7_follows_37 : decode cX7_follows 37 = .ok (.iload_n 3, 1) := by decide +kernel
theorem dX7_follows_38 : decode cX7_follows 38 = .ok (.iload_n 2, 1) := by decide +kernel
theorem dX7_follows_39 : decode cX7_follows 39 = .ok (.invokevirtual 78, 3) := by decide +kernel
theorem dX7_follows_42 : decode cX7_follows 42 = .ok (.ifCond .ne 5, 3) := by decide +kernel
theorem dX7_follows_45 : decode cX7_follows 45 = .ok (.iconst (-1), 1) := by decide +kernel
theorem dX7_follows_46 : decode cX7_follows 46 = .ok (.ireturn, 1) := by decide +kernel
theorem dX7_follows_47 : decode cX7_follows 47 = .ok (.iload 4, 2) := by decide +kernel
theorem dX7_follows_49 : decode cX7_follows 49 = .ok (.iconst 1, 1) := by decide +kernel
theorem dX7_follows_50 : decode cX7_follows 50 = .ok (.iload_n 3, 1) := by decide +kernel
theorem dX7_follows_51 : decode cX7_follows 51 = .ok (.ishl, 1) := by decide +kernel
theorem dX7_follows_52 : decode cX7_follows 52 = .ok (.ior, 1) := by decide +kernel
theorem dX7_follows_53 : decode cX7_follows 53 = .ok (.istore 4, 2) := by decide +kernel
theorem dX7_follows_55 : decode cX7_follows 55 = .ok (.aload_n 0, 1) := by decide +kernel
theorem dX7_follows_56 : decode cX7_follows 56 = .ok (.getfield 8, 3) := by decide +kernel
theorem dX7_follows_59 : decode cX7_follows 59 = .ok (.iload_n 3, 1) := by decide +kernel
theorem dX7_follows_60 : decode cX7_follows 60 = .ok (.iload_n 2, 1) := by decide +kernel
theorem dX7_follows_61 : decode cX7_follows 61 = .ok (.invokestatic 42, 3) := by decide +kernel
theorem dX7_follows_64 : decode cX7_follows 64 = .ok (.iconst 3, 1) := by decide +kernel
theorem dX7_follows_65 : decode cX7_follows 65 = .ok (.iadd, 1) := by decide +kernel
theorem dX7_follows_66 : decode cX7_follows 66 = .ok (.laload, 1) := by decide +kernel
theorem dX7_follows_67 : decode cX7_follows 67 = .ok (.l2i, 1) := by decide +kernel
theorem dX7_follows_68 : decode cX7_follows 68 = .ok (.istore_n 3, 1) := by decide +kernel
theorem dX7_follows_69 : decode cX7_follows 69 = .ok (.iinc 5 1, 3) := by decide +kernel
theorem dX7_follows_72 : decode cX7_follows 72 = .ok (.goto (-64), 3) := by decide +kernel
theorem dX7_follows_75 : decode cX7_follows 75 = .ok (.bipush (-2), 2) := by decide +kernel
theorem dX7_follows_77 : decode cX7_follows 77 = .ok (.ireturn, 1) := by decide +kernel
theorem dX7_follow_0 : decode cX7_follow 0 = .ok (.aload_n 0, 1) := by decide +kernel
theorem dX7_follow_1 : decode cX7_follow 1 = .ok (.iload_n 1, 1) := by decide +kernel
theorem dX7_follow_2 : decode cX7_follow 2 = .ok (.iload_n 2, 1) := by decide +kernel
theorem dX7_follow_3 : decode cX7_follow 3 = .ok (.invokevirtual 240, 3) := by decide +kernel
theorem dX7_follow_6 : decode cX7_follow 6 = .ok (.ifCond .eq 7, 3) := by decide +kernel
theorem dX7_follow_9 : decode cX7_follow 9 = .ok (.iconst 0, 1) := by decide +kernel
theorem dX7_follow_10 : decode cX7_follow 10 = .ok (.goto 9, 3) := by decide +kernel
theorem dX7_follow_13 : decode cX7_follow 13 = .ok (.aload_n 0, 1) := by decide +kernel
theorem dX7_follow_14 : decode cX7_follow 14 = .ok (.iload_n 1, 1) := by decide +kernel
theorem dX7_follow_15 : decode cX7_follow 15 = .ok (.iload_n 2, 1) := by decide +kernel
theorem dX7_follow_16 : decode cX7_follow 16 = .ok (.invokevirtual 253, 3) := by decide +kernel
theorem dX7_follow_19 : decode cX7_follow 19 = .ok (.ireturn, 1) := by decide +kernel
theorem dX7_loops_0 : decode cX7_loops 0 = .ok (.aload_n 0, 1) := by decide +kernel
theorem dX7_loops_1 : decode cX7_loops 1 = .ok (.iconst 0, 1) := by decide +kernel
theorem dX7_loops_2 : decode cX7_loops 2 = .ok (.putfield 34, 3) := by decide +kernel
theorem dX7_loops_5 : decode cX7_loops 5 = .ok (.iconst 0, 1) := by decide +kernel
theorem dX7_loops_6 : decode cX7_loops 6 = .ok (.istore_n 1, 1) := by decide +kernel
theorem dX7_loops_7 : decode cX7_loops 7 = .ok (.iconst 0, 1) := by decide +kernel
theorem dX7_loops_8 : decode cX7_loops 8 = .ok (.istore_n 2, 1) := by decide +kernel
theorem dX7_loops_9 : decode cX7_loops 9 = .ok (.iload_n 2, 1) := by decide +kernel
theorem dX7_loops_10 : decode cX7_loops 10 = .ok (.i2l, 1) := by decide +kernel
theorem dX7_loops_11 : decode cX7_loops 11 = .ok (.aload_n 0, 1) := by decide +kernel
theorem dX7_loops_12 : decode cX7_loops 12 = .ok (.getfield 8, 3) := by decide +kernel
theorem dX7_loops_15 : decode cX7_loops 15 = .ok (.iconst 1, 1) := by decide +kernel
theorem dX7_loops_16 : decode cX7_loops 16 = .ok (.laload, 1) := by decide +kernel
theorem dX7_loops_17 : decode cX7_loops 17 = .ok (.lcmp, 1) := by decide +kernel
theorem dX7_loops_18 : decode cX7_loops 18 = .ok (.ifCond .ge 53, 3) := by decide +kernel
theorem dX7_loops_21 : decode cX7_loops 21 = .ok (.iconst 0, 1) := by decide +kernel
theorem dX7_loops_22 : decode cX7_loops 22 = .ok (.istore_n 3, 1) := by decide +kernel
theorem dX7_loops_23 : decode cX7_loops 23 = .ok (.iload_n 3, 1) := by decide +kernel
theorem dX7_loops_24 : decode cX7_loops 24 = .ok (.i2l, 1) := by decide +kernel
theorem dX7_loops_25 : decode cX7_loops 25 = .ok (.aload_n 0, 1) := by decide +kernel
theorem dX7_loops_26 : decode cX7_loops 26 = .ok (.getfield 8, 3) := by decide +kernel
theorem dX7_loops_29 : decode cX7_loops 29 = .ok (.iconst 1, 1) := by decide +kernel
theorem dX7_loops_30 : decode cX7_loops 30 = .ok (.laload, 1) := by decide +kernel
theorem dX7_loops_31 : decode cX7_loops 31 = .ok (.lcmp, 1) := by decide +kernel
theorem dX7_loops_32 : decode cX7_loops 32 = .ok (.ifCond .ge 33, 3) := by decide +kernel
theorem dX7_loops_35 : decode cX7_loops 35 = .ok (.iload_n 1, 1) := by decide +kernel
theorem dX7_loops_36 : decode cX7_loops 36 = .ok (.iload_n 2, 1) := by decide +kernel
theorem dX7_loops_37 : decode cX7_loops 37 = .ok (.iload_n 3, 1) := by decide +kernel
theorem dX7_loops_38 : decode cX7_loops 38 = .ok (.if_icmp .eq 18, 3) := by decide +kernel
theorem dX7_loops_41 : decode cX7_loops 41 = .ok (.aload_n 0, 1) := by decide +kernel
theorem dX7_loops_42 : decode cX7_loops 42 = .ok (.iload_n 2, 1) := by decide +kernel
theorem dX7_loops_43 : decode cX7_loops 43 = .ok (.iload_n 3, 1) := by decide +kernel
theorem dX7_loops_44 : decode cX7_loops 44 = .ok (.invokevirtual 253, 3) := by decide +kernel
theorem dX7_loops_47 : decode cX7_loops 47 = .ok (.bipush (-2), 2) := by decide +kernel
theorem dX7_loops_49 : decode cX7_loops 49 = .ok (.if_icmp .ne 7, 3) := by decide +kernel
theorem dX7_loops_52 : decode cX7_loops 52 = .ok (.iconst 1, 1) := by decide +kernel
theorem dX7_loops_53 : decode cX7_loops 53 = .ok (.goto 4, 3) := by decide +kernel
theorem dX7_loops_56 : decode cX7_loops 56 = .ok (.iconst 0, 1) := by decide +kernel
theorem dX7_loops_57 : decode cX7_loops 57 = .ok (.iadd, 1) := by decide +kernel
theorem dX7_loops_58 : decode cX7_loops 58 = .ok (.istore_n 1, 1) := by decide +kernel
theorem dX7_loops_59 : decode cX7_loops 59 = .ok (.iinc 3 1, 3) := by decide +kernel
theorem dX7_loops_62 : decode cX7_loops 62 = .ok (.goto (-39), 3) := by decide +kernel
theorem dX7_loops_65 : decode cX7_loops 65 = .ok (.iinc 2 1, 3) := by decide +kernel
theorem dX7_loops_68 : decode cX7_loops 68 = .ok (.goto (-59), 3) := by decide +kernel
theorem dX7_loops_71 : decode cX7_loops 71 = .ok (.iload_n 1, 1) := by decide +kernel
theorem dX7_loops_72 : decode cX7_loops 72 = .ok (.ireturn, 1) := by decide +kernel
theorem dX7_distance_0 : decode cX7_distance 0 = .ok (.aload_n 0, 1) := by decide +kernel
theorem dX7_distance_1 : decode cX7_distance 1 = .ok (.iload_n 1, 1) := by decide +kernel
theorem dX7_distance_2 : decode cX7_distance 2 = .ok (.iload_n 2, 1) := by decide +kernel
theorem dX7_distance_3 : decode cX7_distance 3 = .ok (.invokevirtual 240, 3) := by decide +kernel
theorem dX7_distance_6 : decode cX7_distance 6 = .ok (.ifCond .eq 5, 3) := by decide +kernel
theorem dX7_distance_9 : decode cX7_distance 9 = .ok (.iconst 0, 1) := by decide +kernel
theorem dX7_distance_10 : decode cX7_distance 10 = .ok (.ireturn, 1) := by decide +kernel
theorem dX7_distance_11 : decode cX7_distance 11 = .ok (.iconst 1, 1) := by decide +kernel
theorem dX7_distance_12 : decode cX7_distance 12 = .ok (.iload_n 1, 1) := by decide +kernel
theorem dX7_distance_13 : decode cX7_distance 13 = .ok (.ishl, 1) := by decide +kernel
theorem dX7_distance_14 : decode cX7_distance 14 = .ok (.istore_n 3, 1) := by decide +kernel
theorem dX7_distance_15 : decode cX7_distance 15 = .ok (.iconst 0, 1) := by decide +kernel
theorem dX7_distance_16 : decode cX7_distance 16 = .ok (.istore 4, 2) := by decide +kernel
theorem dX7_distance_18 : decode cX7_distance 18 = .ok (.iload 4, 2) := by decide +kernel
theorem dX7_distance_20 : decode cX7_distance 20 = .ok (.bipush 10, 2) := by decide +kernel
theorem dX7_distance_22 : decode cX7_distance 22 = .ok (.if_icmp .gt 93, 3) := by decide +kernel
theorem dX7_distance_25 : decode cX7_distance 25 = .ok (.iload_n 3, 1) := by decide +kernel
theorem dX7_distance_26 : decode cX7_distance 26 = .ok (.iload_n 2, 1) := by decide +kernel
theorem dX7_distance_27 : decode cX7_distance 27 = .ok (.ishr, 1) := by decide +kernel
theorem dX7_distance_28 : decode cX7_distance 28 = .ok (.iconst 1, 1) := by decide +kernel
theorem dX7_distance_29 : decode cX7_distance 29 = .ok (.iand, 1) := by decide +kernel
theorem dX7_distance_30 : decode cX7_distance 30 = .ok (.iconst 1, 1) := by decide +kernel
theorem dX7_distance_31 : decode cX7_distance 31 = .ok (.if_icmp .ne 6, 3) := by decide +kernel
theorem dX7_distance_34 : decode cX7_distance 34 = .ok (.iload 4, 2) := by decide +kernel
theorem dX7_distance_36 : decode cX7_distance 36 = .ok (.ireturn, 1) := by decide +kernel
theorem dX7_distance_37 : decode cX7_distance 37 = .ok (.iload_n 3, 1) := by decide +kernel
theorem dX7_distance_38 : decode cX7_distance 38 = .ok (.istore 5, 2) := by decide +kernel
theorem dX7_distance_40 : decode cX7_distance 40 = .ok (.iconst 0, 1) := by decide +kernel
theorem dX7_distance_41 : decode cX7_distance 41 = .ok (.istore 6, 2) := by decide +kernel
theorem dX7_distance_43 : decode cX7_distance 43 = .ok (.iload 6, 2) := by decide +kernel
theorem dX7_distance_45 : decode cX7_distance 45 = .ok (.bipush 10, 2) := by decide +kernel
theorem dX7_distance_47 : decode cX7_distance 47 = .ok (.if_icmp .ge 59, 3) := by decide +kernel
theorem dX7_distance_50 : decode cX7_distance 50 = .ok (.iconst 0, 1) := by decide +kernel
theorem dX7_distance_51 : decode cX7_distance 51 = .ok (.istore 7, 2) := by decide +kernel
theorem dX7_distance_53 : decode cX7_distance 53 = .ok (.iload 7, 2) := by decide +kernel
theorem dX7_distance_55 : decode cX7_distance 55 = .ok (.bipush 10, 2) := by decide +kernel
theorem dX7_distance_57 : decode cX7_distance 57 = .ok (.if_icmp .ge 43, 3) := by decide +kernel
theorem dX7_distance_60 : decode cX7_distance 60 = .ok (.iload_n 3, 1) := by decide +kernel
theorem dX7_distance_61 : decode cX7_distance 61 = .ok (.iload 6, 2) := by decide +kernel
theorem dX7_distance_63 : decode cX7_distance 63 = .ok (.ishr, 1) := by decide +kernel
theorem dX7_distance_64 : decode cX7_distance 64 = .ok (.iconst 1, 1) := by decide +kernel
theorem dX7_distance_65 : decode cX7_distance 65 = .ok (.iand, 1) := by decide +kernel
theorem dX7_distance_66 : decode cX7_distance 66 = .ok (.iconst 1, 1) := by decide +kernel
theorem dX7_distance_67 : decode cX7_distance 67 = .ok (.if_icmp .ne 33, 3) := by decide +kernel
theorem dX7_distance_70 : decode cX7_distance 70 = .ok (.iload 5, 2) := by decide +kernel
theorem dX7_distance_72 : decode cX7_distance 72 = .ok (.aload_n 0, 1) := by decide +kernel
theorem dX7_distance_73 : decode cX7_distance 73 = .ok (.iload 6, 2) := by decide +kernel
theorem dX7_distance_75 : decode cX7_distance 75 = .ok (.iload 7, 2) := by decide +kernel
theorem dX7_distance_77 : decode cX7_distance 77 = .ok (.invokevirtual 54, 3) := by decide +kernel
theorem dX7_distance_80 : decode cX7_distance 80 = .ok (.ifCond .eq 10, 3) := by decide +kernel
theorem dX7_distance_83 : decode cX7_distance 83 = .ok (.iconst 1, 1) := by decide +kernel
theorem dX7_distance_84 : decode cX7_distance 84 = .ok (.iload 7, 2) := by decide +kernel
theorem dX7_distance_86 : decode cX7_distance 86 = .ok (.ishl, 1) := by decide +kernel
theorem dX7_distance_87 : decode cX7_distance 87 = .ok (.goto 4, 3) := by decide +kernel
theorem dX7_distance_90 : decode cX7_distance 90 = .ok (.iconst 0, 1) := by decide +kernel
theorem dX7_distance_91 : decode cX7_distance 91 = .ok (.ior, 1) := by decide +kernel
theorem dX7_distance_92 : decode cX7_distance 92 = .ok (.istore 5, 2) := by decide +kernel
theorem dX7_distance_94 : decode cX7_distance 94 = .ok (.iinc 7 1, 3) := by decide +kernel
theorem dX7_distance_97 : decode cX7_distance 97 = .ok (.goto (-44), 3) := by decide +kernel
theorem dX7_distance_100 : decode cX7_distance 100 = .ok (.iinc 6 1, 3) := by decide +kernel
theorem dX7_distance_103 : decode cX7_distance 103 = .ok (.goto (-60), 3) := by decide +kernel
theorem dX7_distance_106 : decode cX7_distance 106 = .ok (.iload 5, 2) := by decide +kernel
theorem dX7_distance_108 : decode cX7_distance 108 = .ok (.istore_n 3, 1) := by decide +kernel
theorem dX7_distance_109 : decode cX7_distance 109 = .ok (.iinc 4 1, 3) := by decide +kernel
theorem dX7_distance_112 : decode cX7_distance 112 = .ok (.goto (-94), 3) := by decide +kernel
theorem dX7_distance_115 : decode cX7_distance 115 = .ok (.iconst (-1), 1) := by decide +kernel
theorem dX7_distance_116 : decode cX7_distance 116 = .ok (.ireturn, 1) := by decide +kernel
theorem dX7_totalHops_0 : decode cX7_totalHops 0 = .ok (.aload_n 0, 1) := by decide +kernel
theorem dX7_totalHops_1 : decode cX7_totalHops 1 = .ok (.iconst 0, 1) := by decide +kernel
theorem dX7_totalHops_2 : decode cX7_totalHops 2 = .ok (.putfield 34, 3) := by decide +kernel
theorem dX7_totalHops_5 : decode cX7_totalHops 5 = .ok (.iconst 0, 1) := by decide +kernel
theorem dX7_totalHops_6 : decode cX7_totalHops 6 = .ok (.istore_n 1, 1) := by decide +kernel
theorem dX7_totalHops_7 : decode cX7_totalHops 7 = .ok (.iconst 0, 1) := by decide +kernel
theorem dX7_totalHops_8 : decode cX7_totalHops 8 = .ok (.istore_n 2, 1) := by decide +kernel
theorem dX7_totalHops_9 : decode cX7_totalHops 9 = .ok (.iload_n 2, 1) := by decide +kernel
theorem dX7_totalHops_10 : decode cX7_totalHops 10 = .ok (.i2l, 1) := by decide +kernel
theorem dX7_totalHops_11 : decode cX7_totalHops 11 = .ok (.aload_n 0, 1) := by decide +kernel
theorem dX7_totalHops_12 : decode cX7_totalHops 12 = .ok (.getfield 8, 3) := by decide +kernel
theorem dX7_totalHops_15 : decode cX7_totalHops 15 = .ok (.bipush 10, 2) := by decide +kernel
theorem dX7_totalHops_17 : decode cX7_totalHops 17 = .ok (.laload, 1) := by decide +kernel
theorem dX7_totalHops_18 : decode cX7_totalHops 18 = .ok (.lcmp, 1) := by decide +kernel
theorem dX7_totalHops_19 : decode cX7_totalHops 19 = .ok (.ifCond .ge 46, 3) := by decide +kernel
theorem dX7_totalHops_22 : decode cX7_totalHops 22 = .ok (.iload_n 1, 1) := by decide +kernel
theorem dX7_totalHops_23 : decode cX7_totalHops 23 = .ok (.aload_n 0, 1) := by decide +kernel
theorem dX7_totalHops_24 : decode cX7_totalHops 24 = .ok (.getfield 8, 3) := by decide +kernel
theorem dX7_totalHops_27 : decode cX7_totalHops 27 = .ok (.iload_n 2, 1) := by decide +kernel
theorem dX7_totalHops_28 : decode cX7_totalHops 28 = .ok (.invokestatic 91, 3) := by decide +kernel
theorem dX7_totalHops_31 : decode cX7_totalHops 31 = .ok (.iconst 2, 1) := by decide +kernel
theorem dX7_totalHops_32 : decode cX7_totalHops 32 = .ok (.iadd, 1) := by decide +kernel
theorem dX7_totalHops_33 : decode cX7_totalHops 33 = .ok (.laload, 1) := by decide +kernel
theorem dX7_totalHops_34 : decode cX7_totalHops 34 = .ok (.ldc2_w 20, 3) := by decide +kernel
theorem dX7_totalHops_37 : decode cX7_totalHops 37 = .ok (.lcmp, 1) := by decide +kernel
theorem dX7_totalHops_38 : decode cX7_totalHops 38 = .ok (.ifCond .ne 18, 3) := by decide +kernel
theorem dX7_totalHops_41 : decode cX7_totalHops 41 = .ok (.aload_n 0, 1) := by decide +kernel
theorem dX7_totalHops_42 : decode cX7_totalHops 42 = .ok (.getfield 8, 3) := by decide +kernel
theorem dX7_totalHops_45 : decode cX7_totalHops 45 = .ok (.iload_n 2, 1) := by decide +kernel
theorem dX7_totalHops_46 : decode cX7_totalHops 46 = .ok (.invokestatic 91, 3) := by decide +kernel
theorem dX7_totalHops_49 : decode cX7_totalHops 49 = .ok (.iconst 4, 1) := by decide +kernel
theorem dX7_totalHops_50 : decode cX7_totalHops 50 = .ok (.iadd, 1) := by decide +kernel
theorem dX7_totalHops_51 : decode cX7_totalHops 51 = .ok (.laload, 1) := by decide +kernel
theorem dX7_totalHops_52 : decode cX7_totalHops 52 = .ok (.l2i, 1) := by decide +kernel
theorem dX7_totalHops_53 : decode cX7_totalHops 53 = .ok (.goto 4, 3) := by decide +kernel
theorem dX7_totalHops_56 : decode cX7_totalHops 56 = .ok (.iconst 0, 1) := by decide +kernel
theorem dX7_totalHops_57 : decode cX7_totalHops 57 = .ok (.iadd, 1) := by decide +kernel
theorem dX7_totalHops_58 : decode cX7_totalHops 58 = .ok (.istore_n 1, 1) := by decide +kernel
theorem dX7_totalHops_59 : decode cX7_totalHops 59 = .ok (.iinc 2 1, 3) := by decide +kernel
theorem dX7_totalHops_62 : decode cX7_totalHops 62 = .ok (.goto (-53), 3) := by decide +kernel
theorem dX7_totalHops_65 : decode cX7_totalHops 65 = .ok (.iload_n 1, 1) := by decide +kernel
theorem dX7_totalHops_66 : decode cX7_totalHops 66 = .ok (.ireturn, 1) := by decide +kernel
theorem dX7_lays_0 : decode cX7_lays 0 = .ok (.iconst 0, 1) := by decide +kernel
theorem dX7_lays_1 : decode cX7_lays 1 = .ok (.istore_n 2, 1) := by decide +kernel
theorem dX7_lays_2 : decode cX7_lays 2 = .ok (.iload_n 2, 1) := by decide +kernel
theorem dX7_lays_3 : decode cX7_lays 3 = .ok (.ldc 7, 2) := by decide +kernel
theorem dX7_lays_5 : decode cX7_lays 5 = .ok (.if_icmp .ge 15, 3) := by decide +kernel
theorem dX7_lays_8 : decode cX7_lays 8 = .ok (.aload_n 1, 1) := by decide +kernel
theorem dX7_lays_9 : decode cX7_lays 9 = .ok (.iload_n 2, 1) := by decide +kernel
theorem dX7_lays_10 : decode cX7_lays 10 = .ok (.aload_n 0, 1) := by decide +kernel
theorem dX7_lays_11 : decode cX7_lays 11 = .ok (.iload_n 2, 1) := by decide +kernel
theorem dX7_lays_12 : decode cX7_lays 12 = .ok (.laload, 1) := by decide +kernel
theorem dX7_lays_13 : decode cX7_lays 13 = .ok (.lastore, 1) := by decide +kernel
theorem dX7_lays_14 : decode cX7_lays 14 = .ok (.iinc 2 1, 3) := by decide +kernel
theorem dX7_lays_17 : decode cX7_lays 17 = .ok (.goto (-15), 3) := by decide +kernel
theorem dX7_lays_20 : decode cX7_lays 20 = .ok (.return_, 1) := by decide +kernel
theorem dX7_isWrong_0 : decode cX7_isWrong 0 = .ok (.aload_n 0, 1) := by decide +kernel
theorem dX7_isWrong_1 : decode cX7_isWrong 1 = .ok (.aload_n 0, 1) := by decide +kernel
theorem dX7_isWrong_2 : decode cX7_isWrong 2 = .ok (.iload_n 1, 1) := by decide +kernel
theorem dX7_isWrong_3 : decode cX7_isWrong 3 = .ok (.invokevirtual 204, 3) := by decide +kernel
theorem dX7_isWrong_6 : decode cX7_isWrong 6 = .ok (.ifCond .eq 11, 3) := by decide +kernel
theorem dX7_isWrong_9 : decode cX7_isWrong 9 = .ok (.aload_n 0, 1) := by decide +kernel
theorem dX7_isWrong_10 : decode cX7_isWrong 10 = .ok (.iload_n 2, 1) := by decide +kernel
theorem dX7_isWrong_11 : decode cX7_isWrong 11 = .ok (.invokevirtual 204, 3) := by decide +kernel
theorem dX7_isWrong_14 : decode cX7_isWrong 14 = .ok (.ifCond .ne 7, 3) := by decide +kernel
theorem dX7_isWrong_17 : decode cX7_isWrong 17 = .ok (.iconst 1, 1) := by decide +kernel
theorem dX7_isWrong_18 : decode cX7_isWrong 18 = .ok (.goto 25, 3) := by decide +kernel
theorem dX7_isWrong_21 : decode cX7_isWrong 21 = .ok (.iload_n 1, 1) := by decide +kernel
theorem dX7_isWrong_22 : decode cX7_isWrong 22 = .ok (.iload_n 2, 1) := by decide +kernel
theorem dX7_isWrong_23 : decode cX7_isWrong 23 = .ok (.if_icmp .eq 15, 3) := by decide +kernel
theorem dX7_isWrong_26 : decode cX7_isWrong 26 = .ok (.iload_n 3, 1) := by decide +kernel
theorem dX7_isWrong_27 : decode cX7_isWrong 27 = .ok (.i2l, 1) := by decide +kernel
theorem dX7_isWrong_28 : decode cX7_isWrong 28 = .ok (.lconst 0, 1) := by decide +kernel
theorem dX7_isWrong_29 : decode cX7_isWrong 29 = .ok (.ldc2_w 232, 3) := by decide +kernel
theorem dX7_isWrong_32 : decode cX7_isWrong 32 = .ok (.invokestatic 38, 3) := by decide +kernel
theorem dX7_isWrong_35 : decode cX7_isWrong 35 = .ok (.ifCond .ne 7, 3) := by decide +kernel
theorem dX7_isWrong_38 : decode cX7_isWrong 38 = .ok (.iconst 2, 1) := by decide +kernel
theorem dX7_isWrong_39 : decode cX7_isWrong 39 = .ok (.goto 4, 3) := by decide +kernel
theorem dX7_isWrong_42 : decode cX7_isWrong 42 = .ok (.iconst 0, 1) := by decide +kernel
theorem dX7_isWrong_43 : decode cX7_isWrong 43 = .ok (.putfield 34, 3) := by decide +kernel
theorem dX7_isWrong_46 : decode cX7_isWrong 46 = .ok (.aload_n 0, 1) := by decide +kernel
theorem dX7_isWrong_47 : decode cX7_isWrong 47 = .ok (.getfield 34, 3) := by decide +kernel
theorem dX7_isWrong_50 : decode cX7_isWrong 50 = .ok (.ifCond .eq 7, 3) := by decide +kernel
theorem dX7_isWrong_53 : decode cX7_isWrong 53 = .ok (.iconst 1, 1) := by decide +kernel
theorem dX7_isWrong_54 : decode cX7_isWrong 54 = .ok (.goto 4, 3) := by decide +kernel
theorem dX7_isWrong_57 : decode cX7_isWrong 57 = .ok (.iconst 0, 1) := by decide +kernel
theorem dX7_isWrong_58 : decode cX7_isWrong 58 = .ok (.ireturn, 1) := by decide +kernel
theorem dX7_forecast_0 : decode cX7_forecast 0 = .ok (.aload_n 0, 1) := by decide +kernel
theorem dX7_forecast_1 : decode cX7_forecast 1 = .ok (.iload_n 1, 1) := by decide +kernel
theorem dX7_forecast_2 : decode cX7_forecast 2 = .ok (.iload_n 2, 1) := by decide +kernel
theorem dX7_forecast_3 : decode cX7_forecast 3 = .ok (.iload_n 3, 1) := by decide +kernel
theorem dX7_forecast_4 : decode cX7_forecast 4 = .ok (.invokevirtual 256, 3) := by decide +kernel
theorem dX7_forecast_7 : decode cX7_forecast 7 = .ok (.ifCond .eq 5, 3) := by decide +kernel
theorem dX7_forecast_10 : decode cX7_forecast 10 = .ok (.iconst 0, 1) := by decide +kernel
theorem dX7_forecast_11 : decode cX7_forecast 11 = .ok (.ireturn, 1) := by decide +kernel
theorem dX7_forecast_12 : decode cX7_forecast 12 = .ok (.aload_n 0, 1) := by decide +kernel
theorem dX7_forecast_13 : decode cX7_forecast 13 = .ok (.getfield 8, 3) := by decide +kernel
theorem dX7_forecast_16 : decode cX7_forecast 16 = .ok (.bipush 10, 2) := by decide +kernel
theorem dX7_forecast_18 : decode cX7_forecast 18 = .ok (.laload, 1) := by decide +kernel
theorem dX7_forecast_19 : decode cX7_forecast 19 = .ok (.ldc2_w 225, 3) := by decide +kernel
theorem dX7_forecast_22 : decode cX7_forecast 22 = .ok (.lcmp, 1) := by decide +kernel
theorem dX7_forecast_23 : decode cX7_forecast 23 = .ok (.ifCond .ne 5, 3) := by decide +kernel
theorem dX7_forecast_26 : decode cX7_forecast 26 = .ok (.iconst (-1), 1) := by decide +kernel
theorem dX7_forecast_27 : decode cX7_forecast 27 = .ok (.ireturn, 1) := by decide +kernel
theorem dX7_forecast_28 : decode cX7_forecast 28 = .ok (.aload_n 0, 1) := by decide +kernel
theorem dX7_forecast_29 : decode cX7_forecast 29 = .ok (.getfield 8, 3) := by decide +kernel
theorem dX7_forecast_32 : decode cX7_forecast 32 = .ok (.aload_n 0, 1) := by decide +kernel
theorem dX7_forecast_33 : decode cX7_forecast 33 = .ok (.getfield 14, 3) := by decide +kernel
theorem dX7_forecast_36 : decode cX7_forecast 36 = .ok (.invokestatic 260, 3) := by decide +kernel
theorem dX7_forecast_39 : decode cX7_forecast 39 = .ok (.aload_n 0, 1) := by decide +kernel
theorem dX7_forecast_40 : decode cX7_forecast 40 = .ok (.iload_n 1, 1) := by decide +kernel
theorem dX7_forecast_41 : decode cX7_forecast 41 = .ok (.iload_n 2, 1) := by decide +kernel
theorem dX7_forecast_42 : decode cX7_forecast 42 = .ok (.invokevirtual 227, 3) := by decide +kernel
theorem dX7_forecast_45 : decode cX7_forecast 45 = .ok (.istore 4, 2) := by decide +kernel
theorem dX7_forecast_47 : decode cX7_forecast 47 = .ok (.aload_n 0, 1) := by decide +kernel
theorem dX7_forecast_48 : decode cX7_forecast 48 = .ok (.aload_n 0, 1) := by decide +kernel
theorem dX7_forecast_49 : decode cX7_forecast 49 = .ok (.getfield 8, 3) := by decide +kernel
theorem dX7_forecast_52 : decode cX7_forecast 52 = .ok (.iconst 0, 1) := by decide +kernel
theorem dX7_forecast_53 : decode cX7_forecast 53 = .ok (.laload, 1) := by decide +kernel
theorem dX7_forecast_54 : decode cX7_forecast 54 = .ok (.iload_n 3, 1) := by decide +kernel
theorem dX7_forecast_55 : decode cX7_forecast 55 = .ok (.i2l, 1) := by decide +kernel
theorem dX7_forecast_56 : decode cX7_forecast 56 = .ok (.ladd, 1) := by decide +kernel
theorem dX7_forecast_57 : decode cX7_forecast 57 = .ok (.invokevirtual 234, 3) := by decide +kernel
theorem dX7_forecast_60 : decode cX7_forecast 60 = .ok (.istore 5, 2) := by decide +kernel
theorem dX7_forecast_62 : decode cX7_forecast 62 = .ok (.aload_n 0, 1) := by decide +kernel
theorem dX7_forecast_63 : decode cX7_forecast 63 = .ok (.getfield 8, 3) := by decide +kernel
theorem dX7_forecast_66 : decode cX7_forecast 66 = .ok (.iload 4, 2) := by decide +kernel
theorem dX7_forecast_68 : decode cX7_forecast 68 = .ok (.invokestatic 91, 3) := by decide +kernel
theorem dX7_forecast_71 : decode cX7_forecast 71 = .ok (.iconst 2, 1) := by decide +kernel
theorem dX7_forecast_72 : decode cX7_forecast 72 = .ok (.iadd, 1) := by decide +kernel
theorem dX7_forecast_73 : decode cX7_forecast 73 = .ok (.laload, 1) := by decide +kernel
theorem dX7_forecast_74 : decode cX7_forecast 74 = .ok (.l2i, 1) := by decide +kernel
theorem dX7_forecast_75 : decode cX7_forecast 75 = .ok (.istore 6, 2) := by decide +kernel
theorem dX7_forecast_77 : decode cX7_forecast 77 = .ok (.aload_n 0, 1) := by decide +kernel
theorem dX7_forecast_78 : decode cX7_forecast 78 = .ok (.getfield 14, 3) := by decide +kernel
theorem dX7_forecast_81 : decode cX7_forecast 81 = .ok (.aload_n 0, 1) := by decide +kernel
theorem dX7_forecast_82 : decode cX7_forecast 82 = .ok (.getfield 8, 3) := by decide +kernel
theorem dX7_forecast_85 : decode cX7_forecast 85 = .ok (.invokestatic 260, 3) := by decide +kernel
theorem dX7_forecast_88 : decode cX7_forecast 88 = .ok (.iload 6, 2) := by decide +kernel
theorem dX7_forecast_90 : decode cX7_forecast 90 = .ok (.ireturn, 1) := by decide +kernel
theorem dX7_damage_0 : decode cX7_damage 0 = .ok (.aload_n 0, 1) := by decide +kernel
theorem dX7_damage_1 : decode cX7_damage 1 = .ok (.iload_n 1, 1) := by decide +kernel
theorem dX7_damage_2 : decode cX7_damage 2 = .ok (.iload_n 2, 1) := by decide +kernel
theorem dX7_damage_3 : decode cX7_damage 3 = .ok (.iload_n 3, 1) := by decide +kernel
theorem dX7_damage_4 : decode cX7_damage 4 = .ok (.invokevirtual 256, 3) := by decide +kernel
theorem dX7_damage_7 : decode cX7_damage 7 = .ok (.ifCond .eq 5, 3) := by decide +kernel
theorem dX7_damage_10 : decode cX7_damage 10 = .ok (.iconst 0, 1) := by decide +kernel
theorem dX7_damage_11 : decode cX7_damage 11 = .ok (.ireturn, 1) := by decide +kernel
theorem dX7_damage_12 : decode cX7_damage 12 = .ok (.aload_n 0, 1) := by decide +kernel
theorem dX7_damage_13 : decode cX7_damage 13 = .ok (.getfield 8, 3) := by decide +kernel
theorem dX7_damage_16 : decode cX7_damage 16 = .ok (.aload_n 0, 1) := by decide +kernel
theorem dX7_damage_17 : decode cX7_damage 17 = .ok (.getfield 14, 3) := by decide +kernel
theorem dX7_damage_20 : decode cX7_damage 20 = .ok (.invokestatic 260, 3) := by decide +kernel
theorem dX7_damage_23 : decode cX7_damage 23 = .ok (.aload_n 0, 1) := by decide +kernel
theorem dX7_damage_24 : decode cX7_damage 24 = .ok (.iconst 3, 1) := by decide +kernel
theorem dX7_damage_25 : decode cX7_damage 25 = .ok (.invokevirtual 250, 3) := by decide +kernel
theorem dX7_damage_28 : decode cX7_damage 28 = .ok (.istore 4, 2) := by decide +kernel
theorem dX7_damage_30 : decode cX7_damage 30 = .ok (.aload_n 0, 1) := by decide +kernel
theorem dX7_damage_31 : decode cX7_damage 31 = .ok (.iload_n 1, 1) := by decide +kernel
theorem dX7_damage_32 : decode cX7_damage 32 = .ok (.iload_n 2, 1) := by decide +kernel
theorem dX7_damage_33 : decode cX7_damage 33 = .ok (.iconst 0, 1) := by decide +kernel
theorem dX7_damage_34 : decode cX7_damage 34 = .ok (.invokevirtual 213, 3) := by decide +kernel
theorem dX7_damage_37 : decode cX7_damage 37 = .ok (.istore 5, 2) := by decide +kernel
theorem dX7_damage_39 : decode cX7_damage 39 = .ok (.aload_n 0, 1) := by decide +kernel
theorem dX7_damage_40 : decode cX7_damage 40 = .ok (.aload_n 0, 1) := by decide +kernel
theorem dX7_damage_41 : decode cX7_damage 41 = .ok (.getfield 8, 3) := by decide +kernel
theorem dX7_damage_44 : decode cX7_damage 44 = .ok (.iconst 0, 1) := by decide +kernel
theorem dX7_damage_45 : decode cX7_damage 45 = .ok (.laload, 1) := by decide +kernel
theorem dX7_damage_46 : decode cX7_damage 46 = .ok (.iload_n 3, 1) := by decide +kernel
theorem dX7_damage_47 : decode cX7_damage 47 = .ok (.i2l, 1) := by decide +kernel
theorem dX7_damage_48 : decode cX7_damage 48 = .ok (.ladd, 1) := by decide +kernel
theorem dX7_damage_49 : decode cX7_damage 49 = .ok (.invokevirtual 234, 3) := by decide +kernel
theorem dX7_damage_52 : decode cX7_damage 52 = .ok (.istore 6, 2) := by decide +kernel
theorem dX7_damage_54 : decode cX7_damage 54 = .ok (.aload_n 0, 1) := by decide +kernel
theorem dX7_damage_55 : decode cX7_damage 55 = .ok (.iconst 3, 1) := by decide +kernel
theorem dX7_damage_56 : decode cX7_damage 56 = .ok (.invokevirtual 250, 3) := by decide +kernel
theorem dX7_damage_59 : decode cX7_damage 59 = .ok (.iload 4, 2) := by decide +kernel
theorem dX7_damage_61 : decode cX7_damage 61 = .ok (.isub, 1) := by decide +kernel
theorem dX7_damage_62 : decode cX7_damage 62 = .ok (.istore 7, 2) := by decide +kernel
theorem dX7_damage_64 : decode cX7_damage 64 = .ok (.aload_n 0, 1) := by decide +kernel
theorem dX7_damage_65 : decode cX7_damage 65 = .ok (.getfield 14, 3) := by decide +kernel
theorem dX7_damage_68 : decode cX7_damage 68 = .ok (.aload_n 0, 1) := by decide +kernel
theorem dX7_damage_69 : decode cX7_damage 69 = .ok (.getfield 8, 3) := by decide +kernel
theorem dX7_damage_72 : decode cX7_damage 72 = .ok (.invokestatic 260, 3) := by decide +kernel
theorem dX7_damage_75 : decode cX7_damage 75 = .ok (.iload 7, 2) := by decide +kernel
theorem dX7_damage_77 : decode cX7_damage 77 = .ok (.ireturn, 1) := by decide +kernel
theorem dX7_keep_0 : decode cX7_keep 0 = .ok (.aload_n 0, 1) := by decide +kernel
theorem dX7_keep_1 : decode cX7_keep 1 = .ok (.iconst 0, 1) := by decide +kernel
theorem dX7_keep_2 : decode cX7_keep 2 = .ok (.putfield 34, 3) := by decide +kernel
theorem dX7_keep_5 : decode cX7_keep 5 = .ok (.aload_n 0, 1) := by decide +kernel
theorem dX7_keep_6 : decode cX7_keep 6 = .ok (.getfield 8, 3) := by decide +kernel
theorem dX7_keep_9 : decode cX7_keep 9 = .ok (.aload_n 0, 1) := by decide +kernel
theorem dX7_keep_10 : decode cX7_keep 10 = .ok (.getfield 17, 3) := by decide +kernel
theorem dX7_keep_13 : decode cX7_keep 13 = .ok (.invokestatic 260, 3) := by decide +kernel
theorem dX7_keep_16 : decode cX7_keep 16 = .ok (.aload_n 0, 1) := by decide +kernel
theorem dX7_keep_17 : decode cX7_keep 17 = .ok (.iconst 1, 1) := by decide +kernel
theorem dX7_keep_18 : decode cX7_keep 18 = .ok (.putfield 264, 3) := by decide +kernel
theorem dX7_keep_21 : decode cX7_keep 21 = .ok (.aload_n 0, 1) := by decide +kernel
theorem dX7_keep_22 : decode cX7_keep 22 = .ok (.getfield 8, 3) := by decide +kernel
theorem dX7_keep_25 : decode cX7_keep 25 = .ok (.iconst 0, 1) := by decide +kernel
theorem dX7_keep_26 : decode cX7_keep 26 = .ok (.laload, 1) := by decide +kernel
theorem dX7_keep_27 : decode cX7_keep 27 = .ok (.l2i, 1) := by decide +kernel
theorem dX7_keep_28 : decode cX7_keep 28 = .ok (.ireturn, 1) := by decide +kernel
theorem dX7_restore_0 : decode cX7_restore 0 = .ok (.aload_n 0, 1) := by decide +kernel
theorem dX7_restore_1 : decode cX7_restore 1 = .ok (.iconst 0, 1) := by decide +kernel
theorem dX7_restore_2 : decode cX7_restore 2 = .ok (.putfield 34, 3) := by decide +kernel
theorem dX7_restore_5 : decode cX7_restore 5 = .ok (.aload_n 0, 1) := by decide +kernel
theorem dX7_restore_6 : decode cX7_restore 6 = .ok (.getfield 264, 3) := by decide +kernel
theorem dX7_restore_9 : decode cX7_restore 9 = .ok (.ifCond .ne 9, 3) := by decide +kernel
theorem dX7_restore_12 : decode cX7_restore 12 = .ok (.aload_n 0, 1) := by decide +kernel
theorem dX7_restore_13 : decode cX7_restore 13 = .ok (.iconst 1, 1) := by decide +kernel
theorem dX7_restore_14 : decode cX7_restore 14 = .ok (.invokevirtual 208, 3) := by decide +kernel
theorem dX7_restore_17 : decode cX7_restore 17 = .ok (.ireturn, 1) := by decide +kernel
theorem dX7_restore_18 : decode cX7_restore 18 = .ok (.aload_n 0, 1) := by decide +kernel
theorem dX7_restore_19 : decode cX7_restore 19 = .ok (.getfield 17, 3) := by decide +kernel
theorem dX7_restore_22 : decode cX7_restore 22 = .ok (.aload_n 0, 1) := by decide +kernel
theorem dX7_restore_23 : decode cX7_restore 23 = .ok (.getfield 8, 3) := by decide +kernel
theorem dX7_restore_26 : decode cX7_restore 26 = .ok (.invokestatic 260, 3) := by decide +kernel
theorem dX7_restore_29 : decode cX7_restore 29 = .ok (.aload_n 0, 1) := by decide +kernel
theorem dX7_restore_30 : decode cX7_restore 30 = .ok (.getfield 8, 3) := by decide +kernel
theorem dX7_restore_33 : decode cX7_restore 33 = .ok (.iconst 0, 1) := by decide +kernel
theorem dX7_restore_34 : decode cX7_restore 34 = .ok (.laload, 1) := by decide +kernel
theorem dX7_restore_35 : decode cX7_restore 35 = .ok (.l2i, 1) := by decide +kernel
theorem dX7_restore_36 : decode cX7_restore 36 = .ok (.ireturn, 1) := by decide +kernel
theorem dX7_mix_0 : decode cX7_mix 0 = .ok (.ldc2_w 268, 3) := by decide +kernel
theorem dX7_mix_3 : decode cX7_mix 3 = .ok (.lload_n 0, 1) := by decide +kernel
theorem dX7_mix_4 : decode cX7_mix 4 = .ok (.lmul, 1) := by decide +kernel
theorem dX7_mix_5 : decode cX7_mix 5 = .ok (.lload_n 2, 1) := by decide +kernel
theorem dX7_mix_6 : decode cX7_mix 6 = .ok (.ladd, 1) := by decide +kernel
theorem dX7_mix_7 : decode cX7_mix 7 = .ok (.lreturn, 1) := by decide +kernel
theorem dX7_mixEntry_0 : decode cX7_mixEntry 0 = .ok (.iload_n 3, 1) := by decide +kernel
theorem dX7_mixEntry_1 : decode cX7_mixEntry 1 = .ok (.iload 4, 2) := by decide +kernel
theorem dX7_mixEntry_3 : decode cX7_mixEntry 3 = .ok (.invokestatic 42, 3) := by decide +kernel
theorem dX7_mixEntry_6 : decode cX7_mixEntry 6 = .ok (.istore 5, 2) := by decide +kernel
theorem dX7_mixEntry_8 : decode cX7_mixEntry 8 = .ok (.aload_n 0, 1) := by decide +kernel
theorem dX7_mixEntry_9 : decode cX7_mixEntry 9 = .ok (.getfield 8, 3) := by decide +kernel
theorem dX7_mixEntry_12 : decode cX7_mixEntry 12 = .ok (.iload 5, 2) := by decide +kernel
theorem dX7_mixEntry_14 : decode cX7_mixEntry 14 = .ok (.iconst 0, 1) := by decide +kernel
theorem dX7_mixEntry_15 : decode cX7_mixEntry 15 = .ok (.iadd, 1) := by decide +kernel
theorem dX7_mixEntry_16 : decode cX7_mixEntry 16 = .ok (.laload, 1) := by decide +kernel
theorem dX7_mixEntry_17 : decode cX7_mixEntry 17 = .ok (.lconst 1, 1) := by decide +kernel
theorem dX7_mixEntry_18 : decode cX7_mixEntry 18 = .ok (.lcmp, 1) := by decide +kernel
theorem dX7_mixEntry_19 : decode cX7_mixEntry 19 = .ok (.ifCond .ne 7, 3) := by decide +kernel
theorem dX7_mixEntry_22 : decode cX7_mixEntry 22 = .ok (.iconst 1, 1) := by decide +kernel
theorem dX7_mixEntry_23 : decode cX7_mixEntry 23 = .ok (.goto 4, 3) := by decide +kernel
theorem dX7_mixEntry_26 : decode cX7_mixEntry 26 = .ok (.iconst 0, 1) := by decide +kernel
theorem dX7_mixEntry_27 : decode cX7_mixEntry 27 = .ok (.istore 6, 2) := by decide +kernel
theorem dX7_mixEntry_29 : decode cX7_mixEntry 29 = .ok (.lload_n 1, 1) := by decide +kernel
theorem dX7_mixEntry_30 : decode cX7_mixEntry 30 = .ok (.aload_n 0, 1) := by decide +kernel
theorem dX7_mixEntry_31 : decode cX7_mixEntry 31 = .ok (.iload_n 3, 1) := by decide +kernel
theorem dX7_mixEntry_32 : decode cX7_mixEntry 32 = .ok (.iload 4, 2) := by decide +kernel
theorem dX7_mixEntry_34 : decode cX7_mixEntry 34 = .ok (.invokevirtual 78, 3) := by decide +kernel
theorem dX7_mixEntry_37 : decode cX7_mixEntry 37 = .ok (.ifCond .eq 7, 3) := by decide +kernel
theorem dX7_mixEntry_40 : decode cX7_mixEntry 40 = .ok (.lconst 1, 1) := by decide +kernel
theorem dX7_mixEntry_41 : decode cX7_mixEntry 41 = .ok (.goto 4, 3) := by decide +kernel
theorem dX7_mixEntry_44 : decode cX7_mixEntry 44 = .ok (.lconst 0, 1) := by decide +kernel
theorem dX7_mixEntry_45 : decode cX7_mixEntry 45 = .ok (.invokestatic 270, 3) := by decide +kernel
theorem dX7_mixEntry_48 : decode cX7_mixEntry 48 = .ok (.lstore 7, 2) := by decide +kernel
theorem dX7_mixEntry_50 : decode cX7_mixEntry 50 = .ok (.lload 7, 2) := by decide +kernel
theorem dX7_mixEntry_52 : decode cX7_mixEntry 52 = .ok (.iload 6, 2) := by decide +kernel
theorem dX7_mixEntry_54 : decode cX7_mixEntry 54 = .ok (.ifCond .eq 15, 3) := by decide +kernel
theorem dX7_mixEntry_57 : decode cX7_mixEntry 57 = .ok (.aload_n 0, 1) := by decide +kernel
theorem dX7_mixEntry_58 : decode cX7_mixEntry 58 = .ok (.getfield 8, 3) := by decide +kernel
theorem dX7_mixEntry_61 : decode cX7_mixEntry 61 = .ok (.iload 5, 2) := by decide +kernel
theorem dX7_mixEntry_63 : decode cX7_mixEntry 63 = .ok (.iconst 3, 1) := by decide +kernel
theorem dX7_mixEntry_64 : decode cX7_mixEntry 64 = .ok (.iadd, 1) := by decide +kernel
theorem dX7_mixEntry_65 : decode cX7_mixEntry 65 = .ok (.laload, 1) := by decide +kernel
theorem dX7_mixEntry_66 : decode cX7_mixEntry 66 = .ok (.goto 6, 3) := by decide +kernel
theorem dX7_mixEntry_69 : decode cX7_mixEntry 69 = .ok (.ldc2_w 24, 3) := by decide +kernel
theorem dX7_mixEntry_72 : decode cX7_mixEntry 72 = .ok (.invokestatic 270, 3) := by decide +kernel
theorem dX7_mixEntry_75 : decode cX7_mixEntry 75 = .ok (.lstore 7, 2) := by decide +kernel
theorem dX7_mixEntry_77 : decode cX7_mixEntry 77 = .ok (.lload 7, 2) := by decide +kernel
theorem dX7_mixEntry_79 : decode cX7_mixEntry 79 = .ok (.iload 6, 2) := by decide +kernel
theorem dX7_mixEntry_81 : decode cX7_mixEntry 81 = .ok (.ifCond .eq 15, 3) := by decide +kernel
theorem dX7_mixEntry_84 : decode cX7_mixEntry 84 = .ok (.aload_n 0, 1) := by decide +kernel
theorem dX7_mixEntry_85 : decode cX7_mixEntry 85 = .ok (.getfield 8, 3) := by decide +kernel
theorem dX7_mixEntry_88 : decode cX7_mixEntry 88 = .ok (.iload 5, 2) := by decide +kernel
theorem dX7_mixEntry_90 : decode cX7_mixEntry 90 = .ok (.iconst 2, 1) := by decide +kernel
theorem dX7_mixEntry_91 : decode cX7_mixEntry 91 = .ok (.iadd, 1) := by decide +kernel
theorem dX7_mixEntry_92 : decode cX7_mixEntry 92 = .ok (.laload, 1) := by decide +kernel
theorem dX7_mixEntry_93 : decode cX7_mixEntry 93 = .ok (.goto 6, 3) := by decide +kernel
theorem dX7_mixEntry_96 : decode cX7_mixEntry 96 = .ok (.ldc2_w 24, 3) := by decide +kernel
theorem dX7_mixEntry_99 : decode cX7_mixEntry 99 = .ok (.invokestatic 270, 3) := by decide +kernel
theorem dX7_mixEntry_102 : decode cX7_mixEntry 102 = .ok (.lstore 7, 2) := by decide +kernel
theorem dX7_mixEntry_104 : decode cX7_mixEntry 104 = .ok (.lload 7, 2) := by decide +kernel
theorem dX7_mixEntry_106 : decode cX7_mixEntry 106 = .ok (.iload 6, 2) := by decide +kernel
theorem dX7_mixEntry_108 : decode cX7_mixEntry 108 = .ok (.ifCond .eq 15, 3) := by decide +kernel
theorem dX7_mixEntry_111 : decode cX7_mixEntry 111 = .ok (.aload_n 0, 1) := by decide +kernel
theorem dX7_mixEntry_112 : decode cX7_mixEntry 112 = .ok (.getfield 8, 3) := by decide +kernel
theorem dX7_mixEntry_115 : decode cX7_mixEntry 115 = .ok (.iload 5, 2) := by decide +kernel
theorem dX7_mixEntry_117 : decode cX7_mixEntry 117 = .ok (.iconst 1, 1) := by decide +kernel
theorem dX7_mixEntry_118 : decode cX7_mixEntry 118 = .ok (.iadd, 1) := by decide +kernel
theorem dX7_mixEntry_119 : decode cX7_mixEntry 119 = .ok (.laload, 1) := by decide +kernel
theorem dX7_mixEntry_120 : decode cX7_mixEntry 120 = .ok (.goto 6, 3) := by decide +kernel
theorem dX7_mixEntry_123 : decode cX7_mixEntry 123 = .ok (.ldc2_w 274, 3) := by decide +kernel
theorem dX7_mixEntry_126 : decode cX7_mixEntry 126 = .ok (.invokestatic 270, 3) := by decide +kernel
theorem dX7_mixEntry_129 : decode cX7_mixEntry 129 = .ok (.lstore 7, 2) := by decide +kernel
theorem dX7_mixEntry_131 : decode cX7_mixEntry 131 = .ok (.lload 7, 2) := by decide +kernel
theorem dX7_mixEntry_133 : decode cX7_mixEntry 133 = .ok (.iload 6, 2) := by decide +kernel
theorem dX7_mixEntry_135 : decode cX7_mixEntry 135 = .ok (.ifCond .eq 15, 3) := by decide +kernel
theorem dX7_mixEntry_138 : decode cX7_mixEntry 138 = .ok (.aload_n 0, 1) := by decide +kernel
theorem dX7_mixEntry_139 : decode cX7_mixEntry 139 = .ok (.getfield 8, 3) := by decide +kernel
theorem dX7_mixEntry_142 : decode cX7_mixEntry 142 = .ok (.iload 5, 2) := by decide +kernel
theorem dX7_mixEntry_144 : decode cX7_mixEntry 144 = .ok (.iconst 5, 1) := by decide +kernel
theorem dX7_mixEntry_145 : decode cX7_mixEntry 145 = .ok (.iadd, 1) := by decide +kernel
theorem dX7_mixEntry_146 : decode cX7_mixEntry 146 = .ok (.laload, 1) := by decide +kernel
theorem dX7_mixEntry_147 : decode cX7_mixEntry 147 = .ok (.goto 4, 3) := by decide +kernel
theorem dX7_mixEntry_150 : decode cX7_mixEntry 150 = .ok (.lconst 0, 1) := by decide +kernel
theorem dX7_mixEntry_151 : decode cX7_mixEntry 151 = .ok (.invokestatic 270, 3) := by decide +kernel
theorem dX7_mixEntry_154 : decode cX7_mixEntry 154 = .ok (.lstore 7, 2) := by decide +kernel
theorem dX7_mixEntry_156 : decode cX7_mixEntry 156 = .ok (.lload 7, 2) := by decide +kernel
theorem dX7_mixEntry_158 : decode cX7_mixEntry 158 = .ok (.aload_n 0, 1) := by decide +kernel
theorem dX7_mixEntry_159 : decode cX7_mixEntry 159 = .ok (.getfield 8, 3) := by decide +kernel
theorem dX7_mixEntry_162 : decode cX7_mixEntry 162 = .ok (.iload_n 3, 1) := by decide +kernel
theorem dX7_mixEntry_163 : decode cX7_mixEntry 163 = .ok (.iload 4, 2) := by decide +kernel
theorem dX7_mixEntry_165 : decode cX7_mixEntry 165 = .ok (.invokestatic 85, 3) := by decide +kernel
