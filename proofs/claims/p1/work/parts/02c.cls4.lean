theorem dX6_isValid_19 : decode cX6_isValid 19 = .ok (.getfield 27, 3) := by decide +kernel
theorem dX6_isValid_22 : decode cX6_isValid 22 = .ok (.getfield 103, 3) := by decide +kernel
theorem dX6_isValid_25 : decode cX6_isValid 25 = .ok (.invokevirtual 122, 3) := by decide +kernel
theorem dX6_isValid_28 : decode cX6_isValid 28 = .ok (.ireturn, 1) := by decide +kernel
theorem dX6_nextNode_0 : decode cX6_nextNode 0 = .ok (.aload_n 0, 1) := by decide +kernel
theorem dX6_nextNode_1 : decode cX6_nextNode 1 = .ok (.iload_n 1, 1) := by decide +kernel
theorem dX6_nextNode_2 : decode cX6_nextNode 2 = .ok (.iload_n 2, 1) := by decide +kernel
theorem dX6_nextNode_3 : decode cX6_nextNode 3 = .ok (.invokevirtual 49, 3) := by decide +kernel
theorem dX6_nextNode_6 : decode cX6_nextNode 6 = .ok (.aload_n 0, 1) := by decide +kernel
theorem dX6_nextNode_7 : decode cX6_nextNode 7 = .ok (.getfield 27, 3) := by decide +kernel
theorem dX6_nextNode_10 : decode cX6_nextNode 10 = .ok (.getfield 115, 3) := by decide +kernel
theorem dX6_nextNode_13 : decode cX6_nextNode 13 = .ok (.getfield 128, 3) := by decide +kernel
theorem dX6_nextNode_16 : decode cX6_nextNode 16 = .ok (.iload_n 1, 1) := by decide +kernel
theorem dX6_nextNode_17 : decode cX6_nextNode 17 = .ok (.iload_n 2, 1) := by decide +kernel
theorem dX6_nextNode_18 : decode cX6_nextNode 18 = .ok (.invokestatic 119, 3) := by decide +kernel
theorem dX6_nextNode_21 : decode cX6_nextNode 21 = .ok (.iaload, 1) := by decide +kernel
theorem dX6_nextNode_22 : decode cX6_nextNode 22 = .ok (.ireturn, 1) := by decide +kernel
theorem dX6_hops_0 : decode cX6_hops 0 = .ok (.aload_n 0, 1) := by decide +kernel
theorem dX6_hops_1 : decode cX6_hops 1 = .ok (.iload_n 1, 1) := by decide +kernel
theorem dX6_hops_2 : decode cX6_hops 2 = .ok (.iload_n 2, 1) := by decide +kernel
theorem dX6_hops_3 : decode cX6_hops 3 = .ok (.invokevirtual 49, 3) := by decide +kernel
theorem dX6_hops_6 : decode cX6_hops 6 = .ok (.aload_n 0, 1) := by decide +kernel
theorem dX6_hops_7 : decode cX6_hops 7 = .ok (.getfield 27, 3) := by decide +kernel
theorem dX6_hops_10 : decode cX6_hops 10 = .ok (.getfield 115, 3) := by decide +kernel
theorem dX6_hops_13 : decode cX6_hops 13 = .ok (.getfield 131, 3) := by decide +kernel
theorem dX6_hops_16 : decode cX6_hops 16 = .ok (.iload_n 1, 1) := by decide +kernel
theorem dX6_hops_17 : decode cX6_hops 17 = .ok (.iload_n 2, 1) := by decide +kernel
theorem dX6_hops_18 : decode cX6_hops 18 = .ok (.invokestatic 119, 3) := by decide +kernel
theorem dX6_hops_21 : decode cX6_hops 21 = .ok (.iaload, 1) := by decide +kernel
theorem dX6_hops_22 : decode cX6_hops 22 = .ok (.ireturn, 1) := by decide +kernel
theorem dX6_sequence_0 : decode cX6_sequence 0 = .ok (.aload_n 0, 1) := by decide +kernel
theorem dX6_sequence_1 : decode cX6_sequence 1 = .ok (.iload_n 1, 1) := by decide +kernel
theorem dX6_sequence_2 : decode cX6_sequence 2 = .ok (.iload_n 2, 1) := by decide +kernel
theorem dX6_sequence_3 : decode cX6_sequence 3 = .ok (.invokevirtual 49, 3) := by decide +kernel
theorem dX6_sequence_6 : decode cX6_sequence 6 = .ok (.aload_n 0, 1) := by decide +kernel
theorem dX6_sequence_7 : decode cX6_sequence 7 = .ok (.getfield 27, 3) := by decide +kernel
theorem dX6_sequence_10 : decode cX6_sequence 10 = .ok (.iload_n 1, 1) := by decide +kernel
theorem dX6_sequence_11 : decode cX6_sequence 11 = .ok (.iload_n 2, 1) := by decide +kernel
theorem dX6_sequence_12 : decode cX6_sequence 12 = .ok (.invokevirtual 134, 3) := by decide +kernel
theorem dX6_sequence_15 : decode cX6_sequence 15 = .ok (.ireturn, 1) := by decide +kernel
theorem dX6_expiry_0 : decode cX6_expiry 0 = .ok (.aload_n 0, 1) := by decide +kernel
theorem dX6_expiry_1 : decode cX6_expiry 1 = .ok (.iload_n 1, 1) := by decide +kernel
theorem dX6_expiry_2 : decode cX6_expiry 2 = .ok (.iload_n 2, 1) := by decide +kernel
theorem dX6_expiry_3 : decode cX6_expiry 3 = .ok (.invokevirtual 49, 3) := by decide +kernel
theorem dX6_expiry_6 : decode cX6_expiry 6 = .ok (.aload_n 0, 1) := by decide +kernel
theorem dX6_expiry_7 : decode cX6_expiry 7 = .ok (.getfield 27, 3) := by decide +kernel
theorem dX6_expiry_10 : decode cX6_expiry 10 = .ok (.getfield 115, 3) := by decide +kernel
theorem dX6_expiry_13 : decode cX6_expiry 13 = .ok (.getfield 137, 3) := by decide +kernel
theorem dX6_expiry_16 : decode cX6_expiry 16 = .ok (.iload_n 1, 1) := by decide +kernel
theorem dX6_expiry_17 : decode cX6_expiry 17 = .ok (.iload_n 2, 1) := by decide +kernel
theorem dX6_expiry_18 : decode cX6_expiry 18 = .ok (.invokestatic 119, 3) := by decide +kernel
theorem dX6_expiry_21 : decode cX6_expiry 21 = .ok (.iaload, 1) := by decide +kernel
theorem dX6_expiry_22 : decode cX6_expiry 22 = .ok (.ireturn, 1) := by decide +kernel
theorem dX6_users_0 : decode cX6_users 0 = .ok (.aload_n 0, 1) := by decide +kernel
theorem dX6_users_1 : decode cX6_users 1 = .ok (.iload_n 1, 1) := by decide +kernel
theorem dX6_users_2 : decode cX6_users 2 = .ok (.iload_n 2, 1) := by decide +kernel
theorem dX6_users_3 : decode cX6_users 3 = .ok (.invokevirtual 49, 3) := by decide +kernel
theorem dX6_users_6 : decode cX6_users 6 = .ok (.aload_n 0, 1) := by decide +kernel
theorem dX6_users_7 : decode cX6_users 7 = .ok (.getfield 27, 3) := by decide +kernel
theorem dX6_users_10 : decode cX6_users 10 = .ok (.getfield 115, 3) := by decide +kernel
theorem dX6_users_13 : decode cX6_users 13 = .ok (.getfield 140, 3) := by decide +kernel
theorem dX6_users_16 : decode cX6_users 16 = .ok (.iload_n 1, 1) := by decide +kernel
theorem dX6_users_17 : decode cX6_users 17 = .ok (.iload_n 2, 1) := by decide +kernel
theorem dX6_users_18 : decode cX6_users 18 = .ok (.invokestatic 119, 3) := by decide +kernel
theorem dX6_users_21 : decode cX6_users 21 = .ok (.iaload, 1) := by decide +kernel
theorem dX6_users_22 : decode cX6_users 22 = .ok (.ireturn, 1) := by decide +kernel
theorem dX6_searching_0 : decode cX6_searching 0 = .ok (.aload_n 0, 1) := by decide +kernel
theorem dX6_searching_1 : decode cX6_searching 1 = .ok (.iload_n 1, 1) := by decide +kernel
theorem dX6_searching_2 : decode cX6_searching 2 = .ok (.iload_n 2, 1) := by decide +kernel
theorem dX6_searching_3 : decode cX6_searching 3 = .ok (.invokevirtual 49, 3) := by decide +kernel
theorem dX6_searching_6 : decode cX6_searching 6 = .ok (.aload_n 0, 1) := by decide +kernel
theorem dX6_searching_7 : decode cX6_searching 7 = .ok (.getfield 27, 3) := by decide +kernel
theorem dX6_searching_10 : decode cX6_searching 10 = .ok (.getfield 143, 3) := by decide +kernel
theorem dX6_searching_13 : decode cX6_searching 13 = .ok (.getfield 147, 3) := by decide +kernel
theorem dX6_searching_16 : decode cX6_searching 16 = .ok (.iload_n 1, 1) := by decide +kernel
theorem dX6_searching_17 : decode cX6_searching 17 = .ok (.iload_n 2, 1) := by decide +kernel
theorem dX6_searching_18 : decode cX6_searching 18 = .ok (.invokestatic 119, 3) := by decide +kernel
theorem dX6_searching_21 : decode cX6_searching 21 = .ok (.iaload, 1) := by decide +kernel
theorem dX6_searching_22 : decode cX6_searching 22 = .ok (.ireturn, 1) := by decide +kernel
theorem dX6_timeout_0 : decode cX6_timeout 0 = .ok (.aload_n 0, 1) := by decide +kernel
theorem dX6_timeout_1 : decode cX6_timeout 1 = .ok (.iload_n 1, 1) := by decide +kernel
theorem dX6_timeout_2 : decode cX6_timeout 2 = .ok (.iload_n 2, 1) := by decide +kernel
theorem dX6_timeout_3 : decode cX6_timeout 3 = .ok (.invokevirtual 49, 3) := by decide +kernel
theorem dX6_timeout_6 : decode cX6_timeout 6 = .ok (.aload_n 0, 1) := by decide +kernel
theorem dX6_timeout_7 : decode cX6_timeout 7 = .ok (.getfield 27, 3) := by decide +kernel
theorem dX6_timeout_10 : decode cX6_timeout 10 = .ok (.getfield 143, 3) := by decide +kernel
theorem dX6_timeout_13 : decode cX6_timeout 13 = .ok (.getfield 152, 3) := by decide +kernel
theorem dX6_timeout_16 : decode cX6_timeout 16 = .ok (.iload_n 1, 1) := by decide +kernel
theorem dX6_timeout_17 : decode cX6_timeout 17 = .ok (.iload_n 2, 1) := by decide +kernel
theorem dX6_timeout_18 : decode cX6_timeout 18 = .ok (.invokestatic 119, 3) := by decide +kernel
theorem dX6_timeout_21 : decode cX6_timeout 21 = .ok (.iaload, 1) := by decide +kernel
theorem dX6_timeout_22 : decode cX6_timeout 22 = .ok (.ireturn, 1) := by decide +kernel
theorem dX6_buffered_0 : decode cX6_buffered 0 = .ok (.aload_n 0, 1) := by decide +kernel
theorem dX6_buffered_1 : decode cX6_buffered 1 = .ok (.iload_n 1, 1) := by decide +kernel
theorem dX6_buffered_2 : decode cX6_buffered 2 = .ok (.iload_n 2, 1) := by decide +kernel
theorem dX6_buffered_3 : decode cX6_buffered 3 = .ok (.invokevirtual 49, 3) := by decide +kernel
theorem dX6_buffered_6 : decode cX6_buffered 6 = .ok (.aload_n 0, 1) := by decide +kernel
theorem dX6_buffered_7 : decode cX6_buffered 7 = .ok (.getfield 27, 3) := by decide +kernel
theorem dX6_buffered_10 : decode cX6_buffered 10 = .ok (.getfield 143, 3) := by decide +kernel
theorem dX6_buffered_13 : decode cX6_buffered 13 = .ok (.getfield 155, 3) := by decide +kernel
theorem dX6_buffered_16 : decode cX6_buffered 16 = .ok (.iload_n 1, 1) := by decide +kernel
theorem dX6_buffered_17 : decode cX6_buffered 17 = .ok (.iload_n 2, 1) := by decide +kernel
theorem dX6_buffered_18 : decode cX6_buffered 18 = .ok (.invokestatic 119, 3) := by decide +kernel
theorem dX6_buffered_21 : decode cX6_buffered 21 = .ok (.iaload, 1) := by decide +kernel
theorem dX6_buffered_22 : decode cX6_buffered 22 = .ok (.ireturn, 1) := by decide +kernel
theorem dX6_stateOf_0 : decode cX6_stateOf 0 = .ok (.iload_n 1, 1) := by decide +kernel
theorem dX6_stateOf_1 : decode cX6_stateOf 1 = .ok (.aload_n 0, 1) := by decide +kernel
theorem dX6_stateOf_2 : decode cX6_stateOf 2 = .ok (.getfield 27, 3) := by decide +kernel
theorem dX6_stateOf_5 : decode cX6_stateOf 5 = .ok (.getfield 75, 3) := by decide +kernel
theorem dX6_stateOf_8 : decode cX6_stateOf 8 = .ok (.getfield 79, 3) := by decide +kernel
theorem dX6_stateOf_11 : decode cX6_stateOf 11 = .ok (.invokestatic 62, 3) := by decide +kernel
theorem dX6_stateOf_14 : decode cX6_stateOf 14 = .ok (.aload_n 0, 1) := by decide +kernel
theorem dX6_stateOf_15 : decode cX6_stateOf 15 = .ok (.getfield 27, 3) := by decide +kernel
theorem dX6_stateOf_18 : decode cX6_stateOf 18 = .ok (.getfield 75, 3) := by decide +kernel
theorem dX6_stateOf_21 : decode cX6_stateOf 21 = .ok (.getfield 158, 3) := by decide +kernel
theorem dX6_stateOf_24 : decode cX6_stateOf 24 = .ok (.iload_n 1, 1) := by decide +kernel
theorem dX6_stateOf_25 : decode cX6_stateOf 25 = .ok (.iaload, 1) := by decide +kernel
theorem dX6_stateOf_26 : decode cX6_stateOf 26 = .ok (.ireturn, 1) := by decide +kernel
theorem dX6_nodeOf_0 : decode cX6_nodeOf 0 = .ok (.iload_n 1, 1) := by decide +kernel
theorem dX6_nodeOf_1 : decode cX6_nodeOf 1 = .ok (.aload_n 0, 1) := by decide +kernel
theorem dX6_nodeOf_2 : decode cX6_nodeOf 2 = .ok (.getfield 27, 3) := by decide +kernel
theorem dX6_nodeOf_5 : decode cX6_nodeOf 5 = .ok (.getfield 75, 3) := by decide +kernel
theorem dX6_nodeOf_8 : decode cX6_nodeOf 8 = .ok (.getfield 79, 3) := by decide +kernel
theorem dX6_nodeOf_11 : decode cX6_nodeOf 11 = .ok (.invokestatic 62, 3) := by decide +kernel
theorem dX6_nodeOf_14 : decode cX6_nodeOf 14 = .ok (.aload_n 0, 1) := by decide +kernel
theorem dX6_nodeOf_15 : decode cX6_nodeOf 15 = .ok (.getfield 27, 3) := by decide +kernel
theorem dX6_nodeOf_18 : decode cX6_nodeOf 18 = .ok (.getfield 75, 3) := by decide +kernel
theorem dX6_nodeOf_21 : decode cX6_nodeOf 21 = .ok (.getfield 161, 3) := by decide +kernel
theorem dX6_nodeOf_24 : decode cX6_nodeOf 24 = .ok (.iload_n 1, 1) := by decide +kernel
theorem dX6_nodeOf_25 : decode cX6_nodeOf 25 = .ok (.iaload, 1) := by decide +kernel
theorem dX6_nodeOf_26 : decode cX6_nodeOf 26 = .ok (.ireturn, 1) := by decide +kernel
theorem dX6_hopsOf_0 : decode cX6_hopsOf 0 = .ok (.iload_n 1, 1) := by decide +kernel
theorem dX6_hopsOf_1 : decode cX6_hopsOf 1 = .ok (.aload_n 0, 1) := by decide +kernel
theorem dX6_hopsOf_2 : decode cX6_hopsOf 2 = .ok (.getfield 27, 3) := by decide +kernel
theorem dX6_hopsOf_5 : decode cX6_hopsOf 5 = .ok (.getfield 75, 3) := by decide +kernel
theorem dX6_hopsOf_8 : decode cX6_hopsOf 8 = .ok (.getfield 79, 3) := by decide +kernel
theorem dX6_hopsOf_11 : decode cX6_hopsOf 11 = .ok (.invokestatic 62, 3) := by decide +kernel
theorem dX6_hopsOf_14 : decode cX6_hopsOf 14 = .ok (.aload_n 0, 1) := by decide +kernel
theorem dX6_hopsOf_15 : decode cX6_hopsOf 15 = .ok (.getfield 27, 3) := by decide +kernel
theorem dX6_hopsOf_18 : decode cX6_hopsOf 18 = .ok (.getfield 75, 3) := by decide +kernel
theorem dX6_hopsOf_21 : decode cX6_hopsOf 21 = .ok (.getfield 164, 3) := by decide +kernel
theorem dX6_hopsOf_24 : decode cX6_hopsOf 24 = .ok (.iload_n 1, 1) := by decide +kernel
theorem dX6_hopsOf_25 : decode cX6_hopsOf 25 = .ok (.iaload, 1) := by decide +kernel
theorem dX6_hopsOf_26 : decode cX6_hopsOf 26 = .ok (.ireturn, 1) := by decide +kernel
theorem dX6_endOf_0 : decode cX6_endOf 0 = .ok (.iload_n 1, 1) := by decide +kernel
theorem dX6_endOf_1 : decode cX6_endOf 1 = .ok (.aload_n 0, 1) := by decide +kernel
theorem dX6_endOf_2 : decode cX6_endOf 2 = .ok (.getfield 27, 3) := by decide +kernel
theorem dX6_endOf_5 : decode cX6_endOf 5 = .ok (.getfield 75, 3) := by decide +kernel
theorem dX6_endOf_8 : decode cX6_endOf 8 = .ok (.getfield 79, 3) := by decide +kernel
theorem dX6_endOf_11 : decode cX6_endOf 11 = .ok (.invokestatic 62, 3) := by decide +kernel
theorem dX6_endOf_14 : decode cX6_endOf 14 = .ok (.aload_n 0, 1) := by decide +kernel
theorem dX6_endOf_15 : decode cX6_endOf 15 = .ok (.getfield 27, 3) := by decide +kernel
theorem dX6_endOf_18 : decode cX6_endOf 18 = .ok (.getfield 75, 3) := by decide +kernel
theorem dX6_endOf_21 : decode cX6_endOf 21 = .ok (.getfield 167, 3) := by decide +kernel
theorem dX6_endOf_24 : decode cX6_endOf 24 = .ok (.iload_n 1, 1) := by decide +kernel
theorem dX6_endOf_25 : decode cX6_endOf 25 = .ok (.iaload, 1) := by decide +kernel
theorem dX6_endOf_26 : decode cX6_endOf 26 = .ok (.ireturn, 1) := by decide +kernel
theorem dX6_whyDropped_0 : decode cX6_whyDropped 0 = .ok (.iload_n 1, 1) := by decide +kernel
theorem dX6_whyDropped_1 : decode cX6_whyDropped 1 = .ok (.aload_n 0, 1) := by decide +kernel
theorem dX6_whyDropped_2 : decode cX6_whyDropped 2 = .ok (.getfield 27, 3) := by decide +kernel
theorem dX6_whyDropped_5 : decode cX6_whyDropped 5 = .ok (.getfield 75, 3) := by decide +kernel
theorem dX6_whyDropped_8 : decode cX6_whyDropped 8 = .ok (.getfield 79, 3) := by decide +kernel
theorem dX6_whyDropped_11 : decode cX6_whyDropped 11 = .ok (.invokestatic 62, 3) := by decide +kernel
theorem dX6_whyDropped_14 : decode cX6_whyDropped 14 = .ok (.iload_n 2, 1) := by decide +kernel
theorem dX6_whyDropped_15 : decode cX6_whyDropped 15 = .ok (.iconst 2, 1) := by decide +kernel
theorem dX6_whyDropped_16 : decode cX6_whyDropped 16 = .ok (.invokestatic 62, 3) := by decide +kernel
theorem dX6_whyDropped_19 : decode cX6_whyDropped 19 = .ok (.aload_n 0, 1) := by decide +kernel
theorem dX6_whyDropped_20 : decode cX6_whyDropped 20 = .ok (.getfield 27, 3) := by decide +kernel
theorem dX6_whyDropped_23 : decode cX6_whyDropped 23 = .ok (.getfield 75, 3) := by decide +kernel
theorem dX6_whyDropped_26 : decode cX6_whyDropped 26 = .ok (.getfield 170, 3) := by decide +kernel
theorem dX6_whyDropped_29 : decode cX6_whyDropped 29 = .ok (.iload_n 1, 1) := by decide +kernel
theorem dX6_whyDropped_30 : decode cX6_whyDropped 30 = .ok (.iaload, 1) := by decide +kernel
theorem dX6_whyDropped_31 : decode cX6_whyDropped 31 = .ok (.istore_n 3, 1) := by decide +kernel
theorem dX6_whyDropped_32 : decode cX6_whyDropped 32 = .ok (.iload_n 2, 1) := by decide +kernel
theorem dX6_whyDropped_33 : decode cX6_whyDropped 33 = .ok (.ifCond .ne 10, 3) := by decide +kernel
theorem dX6_whyDropped_36 : decode cX6_whyDropped 36 = .ok (.iload_n 3, 1) := by decide +kernel
theorem dX6_whyDropped_37 : decode cX6_whyDropped 37 = .ok (.bipush 10, 2) := by decide +kernel
theorem dX6_whyDropped_39 : decode cX6_whyDropped 39 = .ok (.idiv, 1) := by decide +kernel
theorem dX6_whyDropped_40 : decode cX6_whyDropped 40 = .ok (.goto 4, 3) := by decide +kernel
theorem dX6_whyDropped_43 : decode cX6_whyDropped 43 = .ok (.iload_n 3, 1) := by decide +kernel
theorem dX6_whyDropped_44 : decode cX6_whyDropped 44 = .ok (.ireturn, 1) := by decide +kernel
theorem dX6_packets_0 : decode cX6_packets 0 = .ok (.iload_n 1, 1) := by decide +kernel
theorem dX6_packets_1 : decode cX6_packets 1 = .ok (.iconst 4, 1) := by decide +kernel
theorem dX6_packets_2 : decode cX6_packets 2 = .ok (.invokestatic 62, 3) := by decide +kernel
theorem dX6_packets_5 : decode cX6_packets 5 = .ok (.aload_n 0, 1) := by decide +kernel
theorem dX6_packets_6 : decode cX6_packets 6 = .ok (.getfield 27, 3) := by decide +kernel
theorem dX6_packets_9 : decode cX6_packets 9 = .ok (.getfield 75, 3) := by decide +kernel
theorem dX6_packets_12 : decode cX6_packets 12 = .ok (.iload_n 1, 1) := by decide +kernel
theorem dX6_packets_13 : decode cX6_packets 13 = .ok (.invokevirtual 173, 3) := by decide +kernel
theorem dX6_packets_16 : decode cX6_packets 16 = .ok (.ireturn, 1) := by decide +kernel
theorem dX6_follow_0 : decode cX6_follow 0 = .ok (.aload_n 0, 1) := by decide +kernel
theorem dX6_follow_1 : decode cX6_follow 1 = .ok (.iload_n 1, 1) := by decide +kernel
theorem dX6_follow_2 : decode cX6_follow 2 = .ok (.iload_n 2, 1) := by decide +kernel
theorem dX6_follow_3 : decode cX6_follow 3 = .ok (.invokevirtual 49, 3) := by decide +kernel
theorem dX6_follow_6 : decode cX6_follow 6 = .ok (.aload_n 0, 1) := by decide +kernel
theorem dX6_follow_7 : decode cX6_follow 7 = .ok (.getfield 27, 3) := by decide +kernel
theorem dX6_follow_10 : decode cX6_follow 10 = .ok (.iload_n 1, 1) := by decide +kernel
theorem dX6_follow_11 : decode cX6_follow 11 = .ok (.iload_n 2, 1) := by decide +kernel
theorem dX6_follow_12 : decode cX6_follow 12 = .ok (.invokevirtual 176, 3) := by decide +kernel
theorem dX6_follow_15 : decode cX6_follow 15 = .ok (.ireturn, 1) := by decide +kernel
theorem dX6_loops_0 : decode cX6_loops 0 = .ok (.iconst 0, 1) := by decide +kernel
theorem dX6_loops_1 : decode cX6_loops 1 = .ok (.istore_n 1, 1) := by decide +kernel
theorem dX6_loops_2 : decode cX6_loops 2 = .ok (.iconst 0, 1) := by decide +kernel
theorem dX6_loops_3 : decode cX6_loops 3 = .ok (.istore_n 2, 1) := by decide +kernel
theorem dX6_loops_4 : decode cX6_loops 4 = .ok (.iload_n 2, 1) := by decide +kernel
theorem dX6_loops_5 : decode cX6_loops 5 = .ok (.aload_n 0, 1) := by decide +kernel
theorem dX6_loops_6 : decode cX6_loops 6 = .ok (.getfield 18, 3) := by decide +kernel
theorem dX6_loops_9 : decode cX6_loops 9 = .ok (.if_icmp .ge 42, 3) := by decide +kernel
theorem dX6_loops_12 : decode cX6_loops 12 = .ok (.iconst 0, 1) := by decide +kernel
theorem dX6_loops_13 : decode cX6_loops 13 = .ok (.istore_n 3, 1) := by decide +kernel
theorem dX6_loops_14 : decode cX6_loops 14 = .ok (.iload_n 3, 1) := by decide +kernel
theorem dX6_loops_15 : decode cX6_loops 15 = .ok (.aload_n 0, 1) := by decide +kernel
theorem dX6_loops_16 : decode cX6_loops 16 = .ok (.getfield 18, 3) := by decide +kernel
theorem dX6_loops_19 : decode cX6_loops 19 = .ok (.if_icmp .ge 26, 3) := by decide +kernel
theorem dX6_loops_22 : decode cX6_loops 22 = .ok (.aload_n 0, 1) := by decide +kernel
theorem dX6_loops_23 : decode cX6_loops 23 = .ok (.getfield 27, 3) := by decide +kernel
theorem dX6_loops_26 : decode cX6_loops 26 = .ok (.iload_n 2, 1) := by decide +kernel
theorem dX6_loops_27 : decode cX6_loops 27 = .ok (.iload_n 3, 1) := by decide +kernel
theorem dX6_loops_28 : decode cX6_loops 28 = .ok (.invokevirtual 176, 3) := by decide +kernel
theorem dX6_loops_31 : decode cX6_loops 31 = .ok (.bipush (-2), 2) := by decide +kernel
theorem dX6_loops_33 : decode cX6_loops 33 = .ok (.if_icmp .ne 6, 3) := by decide +kernel
theorem dX6_loops_36 : decode cX6_loops 36 = .ok (.iinc 1 1, 3) := by decide +kernel
theorem dX6_loops_39 : decode cX6_loops 39 = .ok (.iinc 3 1, 3) := by decide +kernel
theorem dX6_loops_42 : decode cX6_loops 42 = .ok (.goto (-28), 3) := by decide +kernel
theorem dX6_loops_45 : decode cX6_loops 45 = .ok (.iinc 2 1, 3) := by decide +kernel
theorem dX6_loops_48 : decode cX6_loops 48 = .ok (.goto (-44), 3) := by decide +kernel
theorem dX6_loops_51 : decode cX6_loops 51 = .ok (.iload_n 1, 1) := by decide +kernel
theorem dX6_loops_52 : decode cX6_loops 52 = .ok (.ireturn, 1) := by decide +kernel
theorem dX6_distance_0 : decode cX6_distance 0 = .ok (.aload_n 0, 1) := by decide +kernel
theorem dX6_distance_1 : decode cX6_distance 1 = .ok (.iload_n 1, 1) := by decide +kernel
theorem dX6_distance_2 : decode cX6_distance 2 = .ok (.iload_n 2, 1) := by decide +kernel
theorem dX6_distance_3 : decode cX6_distance 3 = .ok (.invokevirtual 49, 3) := by decide +kernel
theorem dX6_distance_6 : decode cX6_distance 6 = .ok (.aload_n 0, 1) := by decide +kernel
theorem dX6_distance_7 : decode cX6_distance 7 = .ok (.getfield 27, 3) := by decide +kernel
theorem dX6_distance_10 : decode cX6_distance 10 = .ok (.getfield 52, 3) := by decide +kernel
theorem dX6_distance_13 : decode cX6_distance 13 = .ok (.iload_n 1, 1) := by decide +kernel
theorem dX6_distance_14 : decode cX6_distance 14 = .ok (.iload_n 2, 1) := by decide +kernel
theorem dX6_distance_15 : decode cX6_distance 15 = .ok (.invokevirtual 179, 3) := by decide +kernel
theorem dX6_distance_18 : decode cX6_distance 18 = .ok (.ireturn, 1) := by decide +kernel
theorem dX6_totalHops_0 : decode cX6_totalHops 0 = .ok (.aload_n 0, 1) := by decide +kernel
theorem dX6_totalHops_1 : decode cX6_totalHops 1 = .ok (.getfield 27, 3) := by decide +kernel
theorem dX6_totalHops_4 : decode cX6_totalHops 4 = .ok (.getfield 75, 3) := by decide +kernel
theorem dX6_totalHops_7 : decode cX6_totalHops 7 = .ok (.invokevirtual 182, 3) := by decide +kernel
theorem dX6_totalHops_10 : decode cX6_totalHops 10 = .ok (.ireturn, 1) := by decide +kernel
theorem dX6_forecast_0 : decode cX6_forecast 0 = .ok (.aload_n 0, 1) := by decide +kernel
theorem dX6_forecast_1 : decode cX6_forecast 1 = .ok (.iload_n 1, 1) := by decide +kernel
theorem dX6_forecast_2 : decode cX6_forecast 2 = .ok (.iload_n 2, 1) := by decide +kernel
theorem dX6_forecast_3 : decode cX6_forecast 3 = .ok (.invokevirtual 37, 3) := by decide +kernel
theorem dX6_forecast_6 : decode cX6_forecast 6 = .ok (.iload_n 3, 1) := by decide +kernel
theorem dX6_forecast_7 : decode cX6_forecast 7 = .ok (.iconst 0, 1) := by decide +kernel
theorem dX6_forecast_8 : decode cX6_forecast 8 = .ok (.ldc 98, 2) := by decide +kernel
theorem dX6_forecast_10 : decode cX6_forecast 10 = .ok (.invokestatic 41, 3) := by decide +kernel
theorem dX6_forecast_13 : decode cX6_forecast 13 = .ok (.aload_n 0, 1) := by decide +kernel
theorem dX6_forecast_14 : decode cX6_forecast 14 = .ok (.getfield 27, 3) := by decide +kernel
theorem dX6_forecast_17 : decode cX6_forecast 17 = .ok (.getfield 75, 3) := by decide +kernel
theorem dX6_forecast_20 : decode cX6_forecast 20 = .ok (.getfield 79, 3) := by decide +kernel
theorem dX6_forecast_23 : decode cX6_forecast 23 = .ok (.sipush 200, 3) := by decide +kernel
theorem dX6_forecast_26 : decode cX6_forecast 26 = .ok (.if_icmp .lt 5, 3) := by decide +kernel
theorem dX6_forecast_29 : decode cX6_forecast 29 = .ok (.iconst (-1), 1) := by decide +kernel
theorem dX6_forecast_30 : decode cX6_forecast 30 = .ok (.ireturn, 1) := by decide +kernel
theorem dX6_forecast_31 : decode cX6_forecast 31 = .ok (.aload_n 0, 1) := by decide +kernel
theorem dX6_forecast_32 : decode cX6_forecast 32 = .ok (.getfield 34, 3) := by decide +kernel
theorem dX6_forecast_35 : decode cX6_forecast 35 = .ok (.aload_n 0, 1) := by decide +kernel
theorem dX6_forecast_36 : decode cX6_forecast 36 = .ok (.getfield 27, 3) := by decide +kernel
theorem dX6_forecast_39 : decode cX6_forecast 39 = .ok (.invokevirtual 185, 3) := by decide +kernel
theorem dX6_forecast_42 : decode cX6_forecast 42 = .ok (.aload_n 0, 1) := by decide +kernel
theorem dX6_forecast_43 : decode cX6_forecast 43 = .ok (.getfield 34, 3) := by decide +kernel
theorem dX6_forecast_46 : decode cX6_forecast 46 = .ok (.iload_n 1, 1) := by decide +kernel
theorem dX6_forecast_47 : decode cX6_forecast 47 = .ok (.iload_n 2, 1) := by decide +kernel
theorem dX6_forecast_48 : decode cX6_forecast 48 = .ok (.invokevirtual 91, 3) := by decide +kernel
theorem dX6_forecast_51 : decode cX6_forecast 51 = .ok (.istore 4, 2) := by decide +kernel
theorem dX6_forecast_53 : decode cX6_forecast 53 = .ok (.aload_n 0, 1) := by decide +kernel
theorem dX6_forecast_54 : decode cX6_forecast 54 = .ok (.getfield 34, 3) := by decide +kernel
theorem dX6_forecast_57 : decode cX6_forecast 57 = .ok (.iload_n 3, 1) := by decide +kernel
theorem dX6_forecast_58 : decode cX6_forecast 58 = .ok (.invokevirtual 99, 3) := by decide +kernel
theorem dX6_forecast_61 : decode cX6_forecast 61 = .ok (.pop, 1) := by decide +kernel
theorem dX6_forecast_62 : decode cX6_forecast 62 = .ok (.aload_n 0, 1) := by decide +kernel
theorem dX6_forecast_63 : decode cX6_forecast 63 = .ok (.getfield 34, 3) := by decide +kernel
theorem dX6_forecast_66 : decode cX6_forecast 66 = .ok (.getfield 75, 3) := by decide +kernel
theorem dX6_forecast_69 : decode cX6_forecast 69 = .ok (.getfield 158, 3) := by decide +kernel
theorem dX6_forecast_72 : decode cX6_forecast 72 = .ok (.iload 4, 2) := by decide +kernel
theorem dX6_forecast_74 : decode cX6_forecast 74 = .ok (.iaload, 1) := by decide +kernel
theorem dX6_forecast_75 : decode cX6_forecast 75 = .ok (.ireturn, 1) := by decide +kernel
theorem dX6_damage_0 : decode cX6_damage 0 = .ok (.aload_n 0, 1) := by decide +kernel
theorem dX6_damage_1 : decode cX6_damage 1 = .ok (.iload_n 1, 1) := by decide +kernel
theorem dX6_damage_2 : decode cX6_damage 2 = .ok (.iload_n 2, 1) := by decide +kernel
theorem dX6_damage_3 : decode cX6_damage 3 = .ok (.invokevirtual 37, 3) := by decide +kernel
theorem dX6_damage_6 : decode cX6_damage 6 = .ok (.iload_n 3, 1) := by decide +kernel
theorem dX6_damage_7 : decode cX6_damage 7 = .ok (.iconst 0, 1) := by decide +kernel
theorem dX6_damage_8 : decode cX6_damage 8 = .ok (.ldc 98, 2) := by decide +kernel
theorem dX6_damage_10 : decode cX6_damage 10 = .ok (.invokestatic 41, 3) := by decide +kernel
theorem dX6_damage_13 : decode cX6_damage 13 = .ok (.aload_n 0, 1) := by decide +kernel
theorem dX6_damage_14 : decode cX6_damage 14 = .ok (.getfield 34, 3) := by decide +kernel
theorem dX6_damage_17 : decode cX6_damage 17 = .ok (.aload_n 0, 1) := by decide +kernel
theorem dX6_damage_18 : decode cX6_damage 18 = .ok (.getfield 27, 3) := by decide +kernel
theorem dX6_damage_21 : decode cX6_damage 21 = .ok (.invokevirtual 185, 3) := by decide +kernel
theorem dX6_damage_24 : decode cX6_damage 24 = .ok (.aload_n 0, 1) := by decide +kernel
theorem dX6_damage_25 : decode cX6_damage 25 = .ok (.getfield 34, 3) := by decide +kernel
theorem dX6_damage_28 : decode cX6_damage 28 = .ok (.iload_n 1, 1) := by decide +kernel
theorem dX6_damage_29 : decode cX6_damage 29 = .ok (.iload_n 2, 1) := by decide +kernel
theorem dX6_damage_30 : decode cX6_damage 30 = .ok (.iconst 0, 1) := by decide +kernel
theorem dX6_damage_31 : decode cX6_damage 31 = .ok (.invokevirtual 45, 3) := by decide +kernel
theorem dX6_damage_34 : decode cX6_damage 34 = .ok (.pop, 1) := by decide +kernel
theorem dX6_damage_35 : decode cX6_damage 35 = .ok (.aload_n 0, 1) := by decide +kernel
theorem dX6_damage_36 : decode cX6_damage 36 = .ok (.getfield 34, 3) := by decide +kernel
theorem dX6_damage_39 : decode cX6_damage 39 = .ok (.iload_n 3, 1) := by decide +kernel
theorem dX6_damage_40 : decode cX6_damage 40 = .ok (.invokevirtual 99, 3) := by decide +kernel
theorem dX6_damage_43 : decode cX6_damage 43 = .ok (.pop, 1) := by decide +kernel
theorem dX6_damage_44 : decode cX6_damage 44 = .ok (.aload_n 0, 1) := by decide +kernel
theorem dX6_damage_45 : decode cX6_damage 45 = .ok (.getfield 34, 3) := by decide +kernel
theorem dX6_damage_48 : decode cX6_damage 48 = .ok (.getfield 75, 3) := by decide +kernel
theorem dX6_damage_51 : decode cX6_damage 51 = .ok (.iconst 3, 1) := by decide +kernel
theorem dX6_damage_52 : decode cX6_damage 52 = .ok (.invokevirtual 173, 3) := by decide +kernel
theorem dX6_damage_55 : decode cX6_damage 55 = .ok (.aload_n 0, 1) := by decide +kernel
theorem dX6_damage_56 : decode cX6_damage 56 = .ok (.getfield 27, 3) := by decide +kernel
theorem dX6_damage_59 : decode cX6_damage 59 = .ok (.getfield 75, 3) := by decide +kernel
theorem dX6_damage_62 : decode cX6_damage 62 = .ok (.iconst 3, 1) := by decide +kernel
theorem dX6_damage_63 : decode cX6_damage 63 = .ok (.invokevirtual 173, 3) := by decide +kernel
theorem dX6_damage_66 : decode cX6_damage 66 = .ok (.isub, 1) := by decide +kernel
theorem dX6_damage_67 : decode cX6_damage 67 = .ok (.ireturn, 1) := by decide +kernel
theorem dX6_keep_0 : decode cX6_keep 0 = .ok (.aload_n 0, 1) := by decide +kernel
theorem dX6_keep_1 : decode cX6_keep 1 = .ok (.getfield 31, 3) := by decide +kernel
theorem dX6_keep_4 : decode cX6_keep 4 = .ok (.aload_n 0, 1) := by decide +kernel
theorem dX6_keep_5 : decode cX6_keep 5 = .ok (.getfield 27, 3) := by decide +kernel
theorem dX6_keep_8 : decode cX6_keep 8 = .ok (.invokevirtual 185, 3) := by decide +kernel
theorem dX6_keep_11 : decode cX6_keep 11 = .ok (.aload_n 0, 1) := by decide +kernel
theorem dX6_keep_12 : decode cX6_keep 12 = .ok (.iconst 1, 1) := by decide +kernel
theorem dX6_keep_13 : decode cX6_keep 13 = .ok (.putfield 189, 3) := by decide +kernel
theorem dX6_keep_16 : decode cX6_keep 16 = .ok (.aload_n 0, 1) := by decide +kernel
theorem dX6_keep_17 : decode cX6_keep 17 = .ok (.getfield 27, 3) := by decide +kernel
theorem dX6_keep_20 : decode cX6_keep 20 = .ok (.getfield 103, 3) := by decide +kernel
theorem dX6_keep_23 : decode cX6_keep 23 = .ok (.ireturn, 1) := by decide +kernel
theorem dX6_restore_0 : decode cX6_restore 0 = .ok (.aload_n 0, 1) := by decide +kernel
theorem dX6_restore_1 : decode cX6_restore 1 = .ok (.getfield 189, 3) := by decide +kernel
theorem dX6_restore_4 : decode cX6_restore 4 = .ok (.ifCond .ne 13, 3) := by decide +kernel
theorem dX6_restore_7 : decode cX6_restore 7 = .ok (.new 84, 3) := by decide +kernel
theorem dX6_restore_10 : decode cX6_restore 10 = .ok (.dup, 1) := by decide +kernel
theorem dX6_restore_11 : decode cX6_restore 11 = .ok (.ldc 193, 2) := by decide +kernel
theorem dX6_restore_13 : decode cX6_restore 13 = .ok (.invokespecial 88, 3) := by decide +kernel
theorem dX6_restore_16 : decode cX6_restore 16 = .ok (.athrow, 1) := by decide +kernel
theorem dX6_restore_17 : decode cX6_restore 17 = .ok (.aload_n 0, 1) := by decide +kernel
theorem dX6_restore_18 : decode cX6_restore 18 = .ok (.getfield 27, 3) := by decide +kernel
theorem dX6_restore_21 : decode cX6_restore 21 = .ok (.aload_n 0, 1) := by decide +kernel
theorem dX6_restore_22 : decode cX6_restore 22 = .ok (.getfield 31, 3) := by decide +kernel
theorem dX6_restore_25 : decode cX6_restore 25 = .ok (.invokevirtual 185, 3) := by decide +kernel
theorem dX6_restore_28 : decode cX6_restore 28 = .ok (.aload_n 0, 1) := by decide +kernel
theorem dX6_restore_29 : decode cX6_restore 29 = .ok (.getfield 27, 3) := by decide +kernel
theorem dX6_restore_32 : decode cX6_restore 32 = .ok (.getfield 103, 3) := by decide +kernel
theorem dX6_restore_35 : decode cX6_restore 35 = .ok (.ireturn, 1) := by decide +kernel
theorem dX6_fingerprint_0 : decode cX6_fingerprint 0 = .ok (.aload_n 0, 1) := by decide +kernel
theorem dX6_fingerprint_1 : decode cX6_fingerprint 1 = .ok (.getfield 27, 3) := by decide +kernel
theorem dX6_fingerprint_4 : decode cX6_fingerprint 4 = .ok (.getfield 52, 3) := by decide +kernel
theorem dX6_fingerprint_7 : decode cX6_fingerprint 7 = .ok (.ldc2_w 195, 3) := by decide +kernel
theorem dX6_fingerprint_10 : decode cX6_fingerprint 10 = .ok (.aload_n 0, 1) := by decide +kernel
theorem dX6_fingerprint_11 : decode cX6_fingerprint 11 = .ok (.getfield 27, 3) := by decide +kernel
theorem dX6_fingerprint_14 : decode cX6_fingerprint 14 = .ok (.getfield 103, 3) := by decide +kernel
theorem dX6_fingerprint_17 : decode cX6_fingerprint 17 = .ok (.i2l, 1) := by decide +kernel
theorem dX6_fingerprint_18 : decode cX6_fingerprint 18 = .ok (.ladd, 1) := by decide +kernel
theorem dX6_fingerprint_19 : decode cX6_fingerprint 19 = .ok (.invokevirtual 197, 3) := by decide +kernel
theorem dX6_fingerprint_22 : decode cX6_fingerprint 22 = .ok (.lstore_n 1, 1) := by decide +kernel
theorem dX6_fingerprint_23 : decode cX6_fingerprint 23 = .ok (.iconst 0, 1) := by decide +kernel
theorem dX6_fingerprint_24 : decode cX6_fingerprint 24 = .ok (.istore_n 3, 1) := by decide +kernel
theorem dX6_fingerprint_25 : decode cX6_fingerprint 25 = .ok (.iload_n 3, 1) := by decide +kernel
theorem dX6_fingerprint_26 : decode cX6_fingerprint 26 = .ok (.aload_n 0, 1) := by decide +kernel
theorem dX6_fingerprint_27 : decode cX6_fingerprint 27 = .ok (.getfield 18, 3) := by decide +kernel
theorem dX6_fingerprint_30 : decode cX6_fingerprint 30 = .ok (.if_icmp .ge 45, 3) := by decide +kernel
theorem dX6_fingerprint_33 : decode cX6_fingerprint 33 = .ok (.iconst 0, 1) := by decide +kernel
theorem dX6_fingerprint_34 : decode cX6_fingerprint 34 = .ok (.istore 4, 2) := by decide +kernel
theorem dX6_fingerprint_36 : decode cX6_fingerprint 36 = .ok (.iload 4, 2) := by decide +kernel
theorem dX6_fingerprint_38 : decode cX6_fingerprint 38 = .ok (.aload_n 0, 1) := by decide +kernel
theorem dX6_fingerprint_39 : decode cX6_fingerprint 39 = .ok (.getfield 18, 3) := by decide +kernel
theorem dX6_fingerprint_42 : decode cX6_fingerprint 42 = .ok (.if_icmp .ge 27, 3) := by decide +kernel
theorem dX6_fingerprint_45 : decode cX6_fingerprint 45 = .ok (.iload 4, 2) := by decide +kernel
theorem dX6_fingerprint_47 : decode cX6_fingerprint 47 = .ok (.iload_n 3, 1) := by decide +kernel
theorem dX6_fingerprint_48 : decode cX6_fingerprint 48 = .ok (.if_icmp .eq 15, 3) := by decide +kernel
theorem dX6_fingerprint_51 : decode cX6_fingerprint 51 = .ok (.aload_n 0, 1) := by decide +kernel
theorem dX6_fingerprint_52 : decode cX6_fingerprint 52 = .ok (.getfield 27, 3) := by decide +kernel
theorem dX6_fingerprint_55 : decode cX6_fingerprint 55 = .ok (.lload_n 1, 1) := by decide +kernel
theorem dX6_fingerprint_56 : decode cX6_fingerprint 56 = .ok (.iload_n 3, 1) := by decide +kernel
theorem dX6_fingerprint_57 : decode cX6_fingerprint 57 = .ok (.iload 4, 2) := by decide +kernel
theorem dX6_fingerprint_59 : decode cX6_fingerprint 59 = .ok (.invokevirtual 201, 3) := by decide +kernel
theorem dX6_fingerprint_62 : decode cX6_fingerprint 62 = .ok (.lstore_n 1, 1) := by decide +kernel
theorem dX6_fingerprint_63 : decode cX6_fingerprint 63 = .ok (.iinc 4 1, 3) := by decide +kernel
theorem dX6_fingerprint_66 : decode cX6_fingerprint 66 = .ok (.goto (-30), 3) := by decide +kernel
theorem dX6_fingerprint_69 : decode cX6_fingerprint 69 = .ok (.iinc 3 1, 3) := by decide +kernel
theorem dX6_fingerprint_72 : decode cX6_fingerprint 72 = .ok (.goto (-47), 3) := by decide +kernel
theorem dX6_fingerprint_75 : decode cX6_fingerprint 75 = .ok (.iconst 0, 1) := by decide +kernel
theorem dX6_fingerprint_76 : decode cX6_fingerprint 76 = .ok (.istore_n 3, 1) := by decide +kernel
theorem dX6_fingerprint_77 : decode cX6_fingerprint 77 = .ok (.iload_n 3, 1) := by decide +kernel
theorem dX6_fingerprint_78 : decode cX6_fingerprint 78 = .ok (.aload_n 0, 1) := by decide +kernel
theorem dX6_fingerprint_79 : decode cX6_fingerprint 79 = .ok (.getfield 18, 3) := by decide +kernel
theorem dX6_fingerprint_82 : decode cX6_fingerprint 82 = .ok (.if_icmp .ge 26, 3) := by decide +kernel
theorem dX6_fingerprint_85 : decode cX6_fingerprint 85 = .ok (.lload_n 1, 1) := by decide +kernel
theorem dX6_fingerprint_86 : decode cX6_fingerprint 86 = .ok (.ldc2_w 205, 3) := by decide +kernel
theorem dX6_fingerprint_89 : decode cX6_fingerprint 89 = .ok (.lmul, 1) := by decide +kernel
theorem dX6_fingerprint_90 : decode cX6_fingerprint 90 = .ok (.aload_n 0, 1) := by decide +kernel
theorem dX6_fingerprint_91 : decode cX6_fingerprint 91 = .ok (.getfield 27, 3) := by decide +kernel
theorem dX6_fingerprint_94 : decode cX6_fingerprint 94 = .ok (.getfield 207, 3) := by decide +kernel
theorem dX6_fingerprint_97 : decode cX6_fingerprint 97 = .ok (.iload_n 3, 1) := by decide +kernel
theorem dX6_fingerprint_98 : decode cX6_fingerprint 98 = .ok (.iaload, 1) := by decide +kernel
theorem dX6_fingerprint_99 : decode cX6_fingerprint 99 = .ok (.i2l, 1) := by decide +kernel
theorem dX6_fingerprint_100 : decode cX6_fingerprint 100 = .ok (.ladd, 1) := by decide +kernel
theorem dX6_fingerprint_101 : decode cX6_fingerprint 101 = .ok (.lstore_n 1, 1) := by decide +kernel
theorem dX6_fingerprint_102 : decode cX6_fingerprint 102 = .ok (.iinc 3 1, 3) := by decide +kernel
theorem dX6_fingerprint_105 : decode cX6_fingerprint 105 = .ok (.goto (-28), 3) := by decide +kernel
theorem dX6_fingerprint_108 : decode cX6_fingerprint 108 = .ok (.iconst 0, 1) := by decide +kernel
theorem dX6_fingerprint_109 : decode cX6_fingerprint 109 = .ok (.istore_n 3, 1) := by decide +kernel
theorem dX6_fingerprint_110 : decode cX6_fingerprint 110 = .ok (.iload_n 3, 1) := by decide +kernel
theorem dX6_fingerprint_111 : decode cX6_fingerprint 111 = .ok (.iconst 4, 1) := by decide +kernel
theorem dX6_fingerprint_112 : decode cX6_fingerprint 112 = .ok (.if_icmp .ge 28, 3) := by decide +kernel
theorem dX6_fingerprint_115 : decode cX6_fingerprint 115 = .ok (.lload_n 1, 1) := by decide +kernel
theorem dX6_fingerprint_116 : decode cX6_fingerprint 116 = .ok (.ldc2_w 205, 3) := by decide +kernel
theorem dX6_fingerprint_119 : decode cX6_fingerprint 119 = .ok (.lmul, 1) := by decide +kernel
theorem dX6_fingerprint_120 : decode cX6_fingerprint 120 = .ok (.aload_n 0, 1) := by decide +kernel
theorem dX6_fingerprint_121 : decode cX6_fingerprint 121 = .ok (.getfield 27, 3) := by decide +kernel
theorem dX6_fingerprint_124 : decode cX6_fingerprint 124 = .ok (.getfield 75, 3) := by decide +kernel
theorem dX6_fingerprint_127 : decode cX6_fingerprint 127 = .ok (.iload_n 3, 1) := by decide +kernel
theorem dX6_fingerprint_128 : decode cX6_fingerprint 128 = .ok (.invokevirtual 173, 3) := by decide +kernel
theorem dX6_fingerprint_131 : decode cX6_fingerprint 131 = .ok (.i2l, 1) := by decide +kernel
theorem dX6_fingerprint_132 : decode cX6_fingerprint 132 = .ok (.ladd, 1) := by decide +kernel
theorem dX6_fingerprint_133 : decode cX6_fingerprint 133 = .ok (.lstore_n 1, 1) := by decide +kernel
theorem dX6_fingerprint_134 : decode cX6_fingerprint 134 = .ok (.iinc 3 1, 3) := by decide +kernel
theorem dX6_fingerprint_137 : decode cX6_fingerprint 137 = .ok (.goto (-27), 3) := by decide +kernel
theorem dX6_fingerprint_140 : decode cX6_fingerprint 140 = .ok (.lload_n 1, 1) := by decide +kernel
theorem dX6_fingerprint_141 : decode cX6_fingerprint 141 = .ok (.lreturn, 1) := by decide +kernel
theorem dX6_checkNodes_0 : decode cX6_checkNodes 0 = .ok (.iload_n 1, 1) := by decide +kernel
theorem dX6_checkNodes_1 : decode cX6_checkNodes 1 = .ok (.aload_n 0, 1) := by decide +kernel
theorem dX6_checkNodes_2 : decode cX6_checkNodes 2 = .ok (.getfield 18, 3) := by decide +kernel
theorem dX6_checkNodes_5 : decode cX6_checkNodes 5 = .ok (.invokestatic 62, 3) := by decide +kernel
theorem dX6_checkNodes_8 : decode cX6_checkNodes 8 = .ok (.iload_n 2, 1) := by decide +kernel
theorem dX6_checkNodes_9 : decode cX6_checkNodes 9 = .ok (.aload_n 0, 1) := by decide +kernel
theorem dX6_checkNodes_10 : decode cX6_checkNodes 10 = .ok (.getfield 18, 3) := by decide +kernel
theorem dX6_checkNodes_13 : decode cX6_checkNodes 13 = .ok (.invokestatic 62, 3) := by decide +kernel
theorem dX6_checkNodes_16 : decode cX6_checkNodes 16 = .ok (.return_, 1) := by decide +kernel
theorem dX6_checkTwoNodes_0 : decode cX6_checkTwoNodes 0 = .ok (.aload_n 0, 1) := by decide +kernel
theorem dX6_checkTwoNodes_1 : decode cX6_checkTwoNodes 1 = .ok (.iload_n 1, 1) := by decide +kernel
theorem dX6_checkTwoNodes_2 : decode cX6_checkTwoNodes 2 = .ok (.iload_n 2, 1) := by decide +kernel
theorem dX6_checkTwoNodes_3 : decode cX6_checkTwoNodes 3 = .ok (.invokevirtual 49, 3) := by decide +kernel
theorem dX6_checkTwoNodes_6 : decode cX6_checkTwoNodes 6 = .ok (.iload_n 1, 1) := by decide +kernel
theorem dX6_checkTwoNodes_7 : decode cX6_checkTwoNodes 7 = .ok (.iload_n 2, 1) := by decide +kernel
theorem dX6_checkTwoNodes_8 : decode cX6_checkTwoNodes 8 = .ok (.if_icmp .ne 13, 3) := by decide +kernel
theorem dX6_checkTwoNodes_11 : decode cX6_checkTwoNodes 11 = .ok (.new 210, 3) := by decide +kernel
theorem dX6_checkTwoNodes_14 : decode cX6_checkTwoNodes 14 = .ok (.dup, 1) := by decide +kernel
theorem dX6_checkTwoNodes_15 : decode cX6_checkTwoNodes 15 = .ok (.ldc 212, 2) := by decide +kernel
theorem dX6_checkTwoNodes_17 : decode cX6_checkTwoNodes 17 = .ok (.invokespecial 214, 3) := by decide +kernel
theorem dX6_checkTwoNodes_20 : decode cX6_checkTwoNodes 20 = .ok (.athrow, 1) := by decide +kernel
theorem dX6_checkTwoNodes_21 : decode cX6_checkTwoNodes 21 = .ok (.return_, 1) := by decide +kernel
theorem dX6_checkIndex_0 : decode cX6_checkIndex 0 = .ok (.iload_n 0, 1) := by decide +kernel
theorem dX6_checkIndex_1 : decode cX6_checkIndex 1 = .ok (.ifCond .lt 8, 3) := by decide +kernel
theorem dX6_checkIndex_4 : decode cX6_checkIndex 4 = .ok (.iload_n 0, 1) := by decide +kernel
theorem dX6_checkIndex_5 : decode cX6_checkIndex 5 = .ok (.iload_n 1, 1) := by decide +kernel
theorem dX6_checkIndex_6 : decode cX6_checkIndex 6 = .ok (.if_icmp .lt 13, 3) := by decide +kernel
theorem dX6_checkIndex_9 : decode cX6_checkIndex 9 = .ok (.new 215, 3) := by decide +kernel
theorem dX6_checkIndex_12 : decode cX6_checkIndex 12 = .ok (.dup, 1) := by decide +kernel
theorem dX6_checkIndex_13 : decode cX6_checkIndex 13 = .ok (.ldc 217, 2) := by decide +kernel
theorem dX6_checkIndex_15 : decode cX6_checkIndex 15 = .ok (.invokespecial 219, 3) := by decide +kernel
theorem dX6_checkIndex_18 : decode cX6_checkIndex 18 = .ok (.athrow, 1) := by decide +kernel
theorem dX6_checkIndex_19 : decode cX6_checkIndex 19 = .ok (.return_, 1) := by decide +kernel
theorem dX6_checkRange_0 : decode cX6_checkRange 0 = .ok (.iload_n 0, 1) := by decide +kernel
theorem dX6_checkRange_1 : decode cX6_checkRange 1 = .ok (.iload_n 1, 1) := by decide +kernel
theorem dX6_checkRange_2 : decode cX6_checkRange 2 = .ok (.if_icmp .lt 8, 3) := by decide +kernel
theorem dX6_checkRange_5 : decode cX6_checkRange 5 = .ok (.iload_n 0, 1) := by decide +kernel
theorem dX6_checkRange_6 : decode cX6_checkRange 6 = .ok (.iload_n 2, 1) := by decide +kernel
theorem dX6_checkRange_7 : decode cX6_checkRange 7 = .ok (.if_icmp .le 13, 3) := by decide +kernel
theorem dX6_checkRange_10 : decode cX6_checkRange 10 = .ok (.new 210, 3) := by decide +kernel
theorem dX6_checkRange_13 : decode cX6_checkRange 13 = .ok (.dup, 1) := by decide +kernel
theorem dX6_checkRange_14 : decode cX6_checkRange 14 = .ok (.ldc 217, 2) := by decide +kernel
theorem dX6_checkRange_16 : decode cX6_checkRange 16 = .ok (.invokespecial 214, 3) := by decide +kernel
theorem dX6_checkRange_19 : decode cX6_checkRange 19 = .ok (.athrow, 1) := by decide +kernel
theorem dX6_checkRange_20 : decode cX6_checkRange 20 = .ok (.return_, 1) := by decide +kernel
theorem dX6_cellOf_0 : decode cX6_cellOf 0 = .ok (.iload_n 0, 1) := by decide +kernel
theorem dX6_cellOf_1 : decode cX6_cellOf 1 = .ok (.bipush 10, 2) := by decide +kernel
theorem dX6_cellOf_3 : decode cX6_cellOf 3 = .ok (.imul, 1) := by decide +kernel
theorem dX6_cellOf_4 : decode cX6_cellOf 4 = .ok (.iload_n 1, 1) := by decide +kernel
theorem dX6_cellOf_5 : decode cX6_cellOf 5 = .ok (.iadd, 1) := by decide +kernel
theorem dX6_cellOf_6 : decode cX6_cellOf 6 = .ok (.ireturn, 1) := by decide +kernel
theorem dX6_copyRow_0 : decode cX6_copyRow 0 = .ok (.aload_n 0, 1) := by decide +kernel
theorem dX6_copyRow_1 : decode cX6_copyRow 1 = .ok (.iconst 0, 1) := by decide +kernel
theorem dX6_copyRow_2 : decode cX6_copyRow 2 = .ok (.aload_n 1, 1) := by decide +kernel
theorem dX6_copyRow_3 : decode cX6_copyRow 3 = .ok (.iconst 0, 1) := by decide +kernel
theorem dX6_copyRow_4 : decode cX6_copyRow 4 = .ok (.aload_n 0, 1) := by decide +kernel
theorem dX6_copyRow_5 : decode cX6_copyRow 5 = .ok (.arraylength, 1) := by decide +kernel
theorem dX6_copyRow_6 : decode cX6_copyRow 6 = .ok (.aload_n 1, 1) := by decide +kernel
theorem dX6_copyRow_7 : decode cX6_copyRow 7 = .ok (.arraylength, 1) := by decide +kernel
theorem dX6_copyRow_8 : decode cX6_copyRow 8 = .ok (.invokestatic 9, 3) := by decide +kernel
theorem dX6_copyRow_11 : decode cX6_copyRow 11 = .ok (.invokestatic 220, 3) := by decide +kernel
theorem dX6_copyRow_14 : decode cX6_copyRow 14 = .ok (.return_, 1) := by decide +kernel
theorem dX6_filledRow_0 : decode cX6_filledRow 0 = .ok (.iconst 0, 1) := by decide +kernel
theorem dX6_filledRow_1 : decode cX6_filledRow 1 = .ok (.iload_n 0, 1) := by decide +kernel
theorem dX6_filledRow_2 : decode cX6_filledRow 2 = .ok (.invokestatic 15, 3) := by decide +kernel
theorem dX6_filledRow_5 : decode cX6_filledRow 5 = .ok (.newarray .int, 2) := by decide +kernel
theorem dX6_filledRow_7 : decode cX6_filledRow 7 = .ok (.astore_n 2, 1) := by decide +kernel
theorem dX6_filledRow_8 : decode cX6_filledRow 8 = .ok (.aload_n 2, 1) := by decide +kernel
theorem dX6_filledRow_9 : decode cX6_filledRow 9 = .ok (.iload_n 1, 1) := by decide +kernel
theorem dX6_filledRow_10 : decode cX6_filledRow 10 = .ok (.invokestatic 226, 3) := by decide +kernel
theorem dX6_filledRow_13 : decode cX6_filledRow 13 = .ok (.aload_n 2, 1) := by decide +kernel
theorem dX6_filledRow_14 : decode cX6_filledRow 14 = .ok (.areturn, 1) := by decide +kernel
theorem dJ9_floorMod_7cf53_0 : decode cJ9_floorMod_7cf53 0 = .ok (.iload_n 0, 1) := by decide +kernel
theorem dJ9_floorMod_7cf53_1 : decode cJ9_floorMod_7cf53 1 = .ok (.iload_n 1, 1) := by decide +kernel
theorem dJ9_floorMod_7cf53_2 : decode cJ9_floorMod_7cf53 2 = .ok (.irem, 1) := by decide +kernel
theorem dJ9_floorMod_7cf53_3 : decode cJ9_floorMod_7cf53 3 = .ok (.istore_n 2, 1) := by decide +kernel
theorem dJ9_floorMod_7cf53_4 : decode cJ9_floorMod_7cf53 4 = .ok (.iload_n 0, 1) := by decide +kernel
theorem dJ9_floorMod_7cf53_5 : decode cJ9_floorMod_7cf53 5 = .ok (.iload_n 1, 1) := by decide +kernel
theorem dJ9_floorMod_7cf53_6 : decode cJ9_floorMod_7cf53 6 = .ok (.ixor, 1) := by decide +kernel
theorem dJ9_floorMod_7cf53_7 : decode cJ9_floorMod_7cf53 7 = .ok (.ifCond .ge 11, 3) := by decide +kernel
theorem dJ9_floorMod_7cf53_10 : decode cJ9_floorMod_7cf53 10 = .ok (.iload_n 2, 1) := by decide +kernel
theorem dJ9_floorMod_7cf53_11 : decode cJ9_floorMod_7cf53 11 = .ok (.ifCond .eq 7, 3) := by decide +kernel
theorem dJ9_floorMod_7cf53_14 : decode cJ9_floorMod_7cf53 14 = .ok (.iload_n 2, 1) := by decide +kernel
theorem dJ9_floorMod_7cf53_15 : decode cJ9_floorMod_7cf53 15 = .ok (.iload_n 1, 1) := by decide +kernel
theorem dJ9_floorMod_7cf53_16 : decode cJ9_floorMod_7cf53 16 = .ok (.iadd, 1) := by decide +kernel
theorem dJ9_floorMod_7cf53_17 : decode cJ9_floorMod_7cf53 17 = .ok (.ireturn, 1) := by decide +kernel
theorem dJ9_floorMod_7cf53_18 : decode cJ9_floorMod_7cf53 18 = .ok (.iload_n 2, 1) := by decide +kernel
theorem dJ9_floorMod_7cf53_19 : decode cJ9_floorMod_7cf53 19 = .ok (.ireturn, 1) := by decide +kernel
theorem dJ9_max_7cf53_0 : decode cJ9_max_7cf53 0 = .ok (.iload_n 0, 1) := by decide +kernel
theorem dJ9_max_7cf53_1 : decode cJ9_max_7cf53 1 = .ok (.iload_n 1, 1) := by decide +kernel
theorem dJ9_max_7cf53_2 : decode cJ9_max_7cf53 2 = .ok (.if_icmp .lt 7, 3) := by decide +kernel
theorem dJ9_max_7cf53_5 : decode cJ9_max_7cf53 5 = .ok (.iload_n 0, 1) := by decide +kernel
theorem dJ9_max_7cf53_6 : decode cJ9_max_7cf53 6 = .ok (.goto 4, 3) := by decide +kernel
theorem dJ9_max_7cf53_9 : decode cJ9_max_7cf53 9 = .ok (.iload_n 1, 1) := by decide +kernel
theorem dJ9_max_7cf53_10 : decode cJ9_max_7cf53 10 = .ok (.ireturn, 1) := by decide +kernel
theorem dJ9_min_7cf53_0 : decode cJ9_min_7cf53 0 = .ok (.iload_n 0, 1) := by decide +kernel
theorem dJ9_min_7cf53_1 : decode cJ9_min_7cf53 1 = .ok (.iload_n 1, 1) := by decide +kernel
theorem dJ9_min_7cf53_2 : decode cJ9_min_7cf53 2 = .ok (.if_icmp .gt 7, 3) := by decide +kernel
theorem dJ9_min_7cf53_5 : decode cJ9_min_7cf53 5 = .ok (.iload_n 0, 1) := by decide +kernel
theorem dJ9_min_7cf53_6 : decode cJ9_min_7cf53 6 = .ok (.goto 4, 3) := by decide +kernel
theorem dJ9_min_7cf53_9 : decode cJ9_min_7cf53 9 = .ok (.iload_n 1, 1) := by decide +kernel
theorem dJ9_min_7cf53_10 : decode cJ9_min_7cf53 10 = .ok (.ireturn, 1) := by decide +kernel
theorem dJ7_fill_53178_0 : decode cJ7_fill_53178 0 = .ok (.iconst 0, 1) := by decide +kernel
theorem dJ7_fill_53178_1 : decode cJ7_fill_53178 1 = .ok (.istore_n 2, 1) := by decide +kernel
theorem dJ7_fill_53178_2 : decode cJ7_fill_53178 2 = .ok (.aload_n 0, 1) := by decide +kernel
theorem dJ7_fill_53178_3 : decode cJ7_fill_53178 3 = .ok (.arraylength, 1) := by decide +kernel
theorem dJ7_fill_53178_4 : decode cJ7_fill_53178 4 = .ok (.istore_n 3, 1) := by decide +kernel
theorem dJ7_fill_53178_5 : decode cJ7_fill_53178 5 = .ok (.iload_n 2, 1) := by decide +kernel
theorem dJ7_fill_53178_6 : decode cJ7_fill_53178 6 = .ok (.iload_n 3, 1) := by decide +kernel
theorem dJ7_fill_53178_7 : decode cJ7_fill_53178 7 = .ok (.if_icmp .ge 13, 3) := by decide +kernel
theorem dJ7_fill_53178_10 : decode cJ7_fill_53178 10 = .ok (.aload_n 0, 1) := by decide +kernel
theorem dJ7_fill_53178_11 : decode cJ7_fill_53178 11 = .ok (.iload_n 2, 1) := by decide +kernel
theorem dJ7_fill_53178_12 : decode cJ7_fill_53178 12 = .ok (.iload_n 1, 1) := by decide +kernel
theorem dJ7_fill_53178_13 : decode cJ7_fill_53178 13 = .ok (.iastore, 1) := by decide +kernel
theorem dJ7_fill_53178_14 : decode cJ7_fill_53178 14 = .ok (.iinc 2 1, 3) := by decide +kernel
theorem dJ7_fill_53178_17 : decode cJ7_fill_53178 17 = .ok (.goto (-12), 3) := by decide +kernel
theorem dJ7_fill_53178_20 : decode cJ7_fill_53178 20 = .ok (.return_, 1) := by decide +kernel
