theorem dL_cell_0 : decode cL_cell 0 = .ok (.iload_n 1, 1) := by decide +kernel
theorem dL_cell_1 : decode cL_cell 1 = .ok (.aload_n 0, 1) := by decide +kernel
theorem dL_cell_2 : decode cL_cell 2 = .ok (.arraylength, 1) := by decide +kernel
theorem dL_cell_3 : decode cL_cell 3 = .ok (.if_icmp .ge 9, 3) := by decide +kernel
theorem dL_cell_6 : decode cL_cell 6 = .ok (.aload_n 0, 1) := by decide +kernel
theorem dL_cell_7 : decode cL_cell 7 = .ok (.iload_n 1, 1) := by decide +kernel
theorem dL_cell_8 : decode cL_cell 8 = .ok (.iaload, 1) := by decide +kernel
theorem dL_cell_9 : decode cL_cell 9 = .ok (.goto 4, 3) := by decide +kernel
theorem dL_cell_12 : decode cL_cell 12 = .ok (.iconst 0, 1) := by decide +kernel
theorem dL_cell_13 : decode cL_cell 13 = .ok (.ireturn, 1) := by decide +kernel
theorem dL_setLink_0 : decode cL_setLink 0 = .ok (.aload 4, 2) := by decide +kernel
theorem dL_setLink_2 : decode cL_setLink 2 = .ok (.iconst 0, 1) := by decide +kernel
theorem dL_setLink_3 : decode cL_setLink 3 = .ok (.aload_n 0, 1) := by decide +kernel
theorem dL_setLink_4 : decode cL_setLink 4 = .ok (.iload_n 1, 1) := by decide +kernel
theorem dL_setLink_5 : decode cL_setLink 5 = .ok (.iload_n 2, 1) := by decide +kernel
theorem dL_setLink_6 : decode cL_setLink 6 = .ok (.iload_n 3, 1) := by decide +kernel
theorem dL_setLink_7 : decode cL_setLink 7 = .ok (.invokevirtual 7, 3) := by decide +kernel
theorem dL_setLink_10 : decode cL_setLink 10 = .ok (.i2l, 1) := by decide +kernel
theorem dL_setLink_11 : decode cL_setLink 11 = .ok (.lastore, 1) := by decide +kernel
theorem dL_setLink_12 : decode cL_setLink 12 = .ok (.goto 11, 3) := by decide +kernel
theorem dL_setLink_15 : decode cL_setLink 15 = .ok (.astore 5, 2) := by decide +kernel
theorem dL_setLink_17 : decode cL_setLink 17 = .ok (.iconst 1, 1) := by decide +kernel
theorem dL_setLink_18 : decode cL_setLink 18 = .ok (.ireturn, 1) := by decide +kernel
theorem dL_setLink_19 : decode cL_setLink 19 = .ok (.astore 5, 2) := by decide +kernel
theorem dL_setLink_21 : decode cL_setLink 21 = .ok (.iconst 2, 1) := by decide +kernel
theorem dL_setLink_22 : decode cL_setLink 22 = .ok (.ireturn, 1) := by decide +kernel
theorem dL_setLink_23 : decode cL_setLink 23 = .ok (.iconst 0, 1) := by decide +kernel
theorem dL_setLink_24 : decode cL_setLink 24 = .ok (.ireturn, 1) := by decide +kernel
theorem dL_link_0 : decode cL_link 0 = .ok (.aload_n 3, 1) := by decide +kernel
theorem dL_link_1 : decode cL_link 1 = .ok (.iconst 0, 1) := by decide +kernel
theorem dL_link_2 : decode cL_link 2 = .ok (.aload_n 0, 1) := by decide +kernel
theorem dL_link_3 : decode cL_link 3 = .ok (.iload_n 1, 1) := by decide +kernel
theorem dL_link_4 : decode cL_link 4 = .ok (.iload_n 2, 1) := by decide +kernel
theorem dL_link_5 : decode cL_link 5 = .ok (.invokevirtual 17, 3) := by decide +kernel
theorem dL_link_8 : decode cL_link 8 = .ok (.i2l, 1) := by decide +kernel
theorem dL_link_9 : decode cL_link 9 = .ok (.lastore, 1) := by decide +kernel
theorem dL_link_10 : decode cL_link 10 = .ok (.goto 7, 3) := by decide +kernel
theorem dL_link_13 : decode cL_link 13 = .ok (.astore 4, 2) := by decide +kernel
theorem dL_link_15 : decode cL_link 15 = .ok (.iconst 1, 1) := by decide +kernel
theorem dL_link_16 : decode cL_link 16 = .ok (.ireturn, 1) := by decide +kernel
theorem dL_link_17 : decode cL_link 17 = .ok (.iconst 0, 1) := by decide +kernel
theorem dL_link_18 : decode cL_link 18 = .ok (.ireturn, 1) := by decide +kernel
theorem dL_setParameter_0 : decode cL_setParameter 0 = .ok (.aload_n 3, 1) := by decide +kernel
theorem dL_setParameter_1 : decode cL_setParameter 1 = .ok (.iconst 0, 1) := by decide +kernel
theorem dL_setParameter_2 : decode cL_setParameter 2 = .ok (.aload_n 0, 1) := by decide +kernel
theorem dL_setParameter_3 : decode cL_setParameter 3 = .ok (.iload_n 1, 1) := by decide +kernel
theorem dL_setParameter_4 : decode cL_setParameter 4 = .ok (.iload_n 2, 1) := by decide +kernel
theorem dL_setParameter_5 : decode cL_setParameter 5 = .ok (.invokevirtual 21, 3) := by decide +kernel
theorem dL_setParameter_8 : decode cL_setParameter 8 = .ok (.i2l, 1) := by decide +kernel
theorem dL_setParameter_9 : decode cL_setParameter 9 = .ok (.lastore, 1) := by decide +kernel
theorem dL_setParameter_10 : decode cL_setParameter 10 = .ok (.goto 11, 3) := by decide +kernel
theorem dL_setParameter_13 : decode cL_setParameter 13 = .ok (.astore 4, 2) := by decide +kernel
theorem dL_setParameter_15 : decode cL_setParameter 15 = .ok (.iconst 1, 1) := by decide +kernel
theorem dL_setParameter_16 : decode cL_setParameter 16 = .ok (.ireturn, 1) := by decide +kernel
theorem dL_setParameter_17 : decode cL_setParameter 17 = .ok (.astore 4, 2) := by decide +kernel
theorem dL_setParameter_19 : decode cL_setParameter 19 = .ok (.iconst 2, 1) := by decide +kernel
theorem dL_setParameter_20 : decode cL_setParameter 20 = .ok (.ireturn, 1) := by decide +kernel
theorem dL_setParameter_21 : decode cL_setParameter 21 = .ok (.iconst 0, 1) := by decide +kernel
theorem dL_setParameter_22 : decode cL_setParameter 22 = .ok (.ireturn, 1) := by decide +kernel
theorem dL_send_0 : decode cL_send 0 = .ok (.aload_n 3, 1) := by decide +kernel
theorem dL_send_1 : decode cL_send 1 = .ok (.iconst 0, 1) := by decide +kernel
theorem dL_send_2 : decode cL_send 2 = .ok (.aload_n 0, 1) := by decide +kernel
theorem dL_send_3 : decode cL_send 3 = .ok (.iload_n 1, 1) := by decide +kernel
theorem dL_send_4 : decode cL_send 4 = .ok (.iload_n 2, 1) := by decide +kernel
theorem dL_send_5 : decode cL_send 5 = .ok (.invokevirtual 24, 3) := by decide +kernel
theorem dL_send_8 : decode cL_send 8 = .ok (.i2l, 1) := by decide +kernel
theorem dL_send_9 : decode cL_send 9 = .ok (.lastore, 1) := by decide +kernel
theorem dL_send_10 : decode cL_send 10 = .ok (.goto 15, 3) := by decide +kernel
theorem dL_send_13 : decode cL_send 13 = .ok (.astore 4, 2) := by decide +kernel
theorem dL_send_15 : decode cL_send 15 = .ok (.iconst 1, 1) := by decide +kernel
theorem dL_send_16 : decode cL_send 16 = .ok (.ireturn, 1) := by decide +kernel
theorem dL_send_17 : decode cL_send 17 = .ok (.astore 4, 2) := by decide +kernel
theorem dL_send_19 : decode cL_send 19 = .ok (.iconst 2, 1) := by decide +kernel
theorem dL_send_20 : decode cL_send 20 = .ok (.ireturn, 1) := by decide +kernel
theorem dL_send_21 : decode cL_send 21 = .ok (.astore 4, 2) := by decide +kernel
theorem dL_send_23 : decode cL_send 23 = .ok (.iconst 3, 1) := by decide +kernel
theorem dL_send_24 : decode cL_send 24 = .ok (.ireturn, 1) := by decide +kernel
theorem dL_send_25 : decode cL_send 25 = .ok (.iconst 0, 1) := by decide +kernel
theorem dL_send_26 : decode cL_send 26 = .ok (.ireturn, 1) := by decide +kernel
theorem dL_run_0 : decode cL_run 0 = .ok (.aload_n 2, 1) := by decide +kernel
theorem dL_run_1 : decode cL_run 1 = .ok (.iconst 0, 1) := by decide +kernel
theorem dL_run_2 : decode cL_run 2 = .ok (.aload_n 0, 1) := by decide +kernel
theorem dL_run_3 : decode cL_run 3 = .ok (.iload_n 1, 1) := by decide +kernel
theorem dL_run_4 : decode cL_run 4 = .ok (.invokevirtual 29, 3) := by decide +kernel
theorem dL_run_7 : decode cL_run 7 = .ok (.i2l, 1) := by decide +kernel
theorem dL_run_8 : decode cL_run 8 = .ok (.lastore, 1) := by decide +kernel
theorem dL_run_9 : decode cL_run 9 = .ok (.goto 6, 3) := by decide +kernel
theorem dL_run_12 : decode cL_run 12 = .ok (.astore_n 3, 1) := by decide +kernel
theorem dL_run_13 : decode cL_run 13 = .ok (.iconst 1, 1) := by decide +kernel
theorem dL_run_14 : decode cL_run 14 = .ok (.ireturn, 1) := by decide +kernel
theorem dL_run_15 : decode cL_run 15 = .ok (.iconst 0, 1) := by decide +kernel
theorem dL_run_16 : decode cL_run 16 = .ok (.ireturn, 1) := by decide +kernel
theorem dL_inFlight_0 : decode cL_inFlight 0 = .ok (.aload_n 2, 1) := by decide +kernel
theorem dL_inFlight_1 : decode cL_inFlight 1 = .ok (.iconst 0, 1) := by decide +kernel
theorem dL_inFlight_2 : decode cL_inFlight 2 = .ok (.aload_n 0, 1) := by decide +kernel
theorem dL_inFlight_3 : decode cL_inFlight 3 = .ok (.iload_n 1, 1) := by decide +kernel
theorem dL_inFlight_4 : decode cL_inFlight 4 = .ok (.invokevirtual 33, 3) := by decide +kernel
theorem dL_inFlight_7 : decode cL_inFlight 7 = .ok (.i2l, 1) := by decide +kernel
theorem dL_inFlight_8 : decode cL_inFlight 8 = .ok (.lastore, 1) := by decide +kernel
theorem dL_inFlight_9 : decode cL_inFlight 9 = .ok (.goto 6, 3) := by decide +kernel
theorem dL_inFlight_12 : decode cL_inFlight 12 = .ok (.astore_n 3, 1) := by decide +kernel
theorem dL_inFlight_13 : decode cL_inFlight 13 = .ok (.iconst 1, 1) := by decide +kernel
theorem dL_inFlight_14 : decode cL_inFlight 14 = .ok (.ireturn, 1) := by decide +kernel
theorem dL_inFlight_15 : decode cL_inFlight 15 = .ok (.iconst 0, 1) := by decide +kernel
theorem dL_inFlight_16 : decode cL_inFlight 16 = .ok (.ireturn, 1) := by decide +kernel
theorem dL_sent_0 : decode cL_sent 0 = .ok (.aload_n 2, 1) := by decide +kernel
theorem dL_sent_1 : decode cL_sent 1 = .ok (.iconst 0, 1) := by decide +kernel
theorem dL_sent_2 : decode cL_sent 2 = .ok (.aload_n 0, 1) := by decide +kernel
theorem dL_sent_3 : decode cL_sent 3 = .ok (.iload_n 1, 1) := by decide +kernel
theorem dL_sent_4 : decode cL_sent 4 = .ok (.invokevirtual 36, 3) := by decide +kernel
theorem dL_sent_7 : decode cL_sent 7 = .ok (.i2l, 1) := by decide +kernel
theorem dL_sent_8 : decode cL_sent 8 = .ok (.lastore, 1) := by decide +kernel
theorem dL_sent_9 : decode cL_sent 9 = .ok (.goto 6, 3) := by decide +kernel
theorem dL_sent_12 : decode cL_sent 12 = .ok (.astore_n 3, 1) := by decide +kernel
theorem dL_sent_13 : decode cL_sent 13 = .ok (.iconst 1, 1) := by decide +kernel
theorem dL_sent_14 : decode cL_sent 14 = .ok (.ireturn, 1) := by decide +kernel
theorem dL_sent_15 : decode cL_sent 15 = .ok (.iconst 0, 1) := by decide +kernel
theorem dL_sent_16 : decode cL_sent 16 = .ok (.ireturn, 1) := by decide +kernel
theorem dL_isValid_0 : decode cL_isValid 0 = .ok (.aload_n 3, 1) := by decide +kernel
theorem dL_isValid_1 : decode cL_isValid 1 = .ok (.iconst 0, 1) := by decide +kernel
theorem dL_isValid_2 : decode cL_isValid 2 = .ok (.aload_n 0, 1) := by decide +kernel
theorem dL_isValid_3 : decode cL_isValid 3 = .ok (.iload_n 1, 1) := by decide +kernel
theorem dL_isValid_4 : decode cL_isValid 4 = .ok (.iload_n 2, 1) := by decide +kernel
theorem dL_isValid_5 : decode cL_isValid 5 = .ok (.invokevirtual 39, 3) := by decide +kernel
theorem dL_isValid_8 : decode cL_isValid 8 = .ok (.ifCond .eq 7, 3) := by decide +kernel
theorem dL_isValid_11 : decode cL_isValid 11 = .ok (.lconst 1, 1) := by decide +kernel
theorem dL_isValid_12 : decode cL_isValid 12 = .ok (.goto 4, 3) := by decide +kernel
theorem dL_isValid_15 : decode cL_isValid 15 = .ok (.lconst 0, 1) := by decide +kernel
theorem dL_isValid_16 : decode cL_isValid 16 = .ok (.lastore, 1) := by decide +kernel
theorem dL_isValid_17 : decode cL_isValid 17 = .ok (.goto 7, 3) := by decide +kernel
theorem dL_isValid_20 : decode cL_isValid 20 = .ok (.astore 4, 2) := by decide +kernel
theorem dL_isValid_22 : decode cL_isValid 22 = .ok (.iconst 1, 1) := by decide +kernel
theorem dL_isValid_23 : decode cL_isValid 23 = .ok (.ireturn, 1) := by decide +kernel
theorem dL_isValid_24 : decode cL_isValid 24 = .ok (.iconst 0, 1) := by decide +kernel
theorem dL_isValid_25 : decode cL_isValid 25 = .ok (.ireturn, 1) := by decide +kernel
theorem dL_nextNode_0 : decode cL_nextNode 0 = .ok (.aload_n 3, 1) := by decide +kernel
theorem dL_nextNode_1 : decode cL_nextNode 1 = .ok (.iconst 0, 1) := by decide +kernel
theorem dL_nextNode_2 : decode cL_nextNode 2 = .ok (.aload_n 0, 1) := by decide +kernel
theorem dL_nextNode_3 : decode cL_nextNode 3 = .ok (.iload_n 1, 1) := by decide +kernel
theorem dL_nextNode_4 : decode cL_nextNode 4 = .ok (.iload_n 2, 1) := by decide +kernel
theorem dL_nextNode_5 : decode cL_nextNode 5 = .ok (.invokevirtual 43, 3) := by decide +kernel
theorem dL_nextNode_8 : decode cL_nextNode 8 = .ok (.i2l, 1) := by decide +kernel
theorem dL_nextNode_9 : decode cL_nextNode 9 = .ok (.lastore, 1) := by decide +kernel
theorem dL_nextNode_10 : decode cL_nextNode 10 = .ok (.goto 7, 3) := by decide +kernel
theorem dL_nextNode_13 : decode cL_nextNode 13 = .ok (.astore 4, 2) := by decide +kernel
theorem dL_nextNode_15 : decode cL_nextNode 15 = .ok (.iconst 1, 1) := by decide +kernel
theorem dL_nextNode_16 : decode cL_nextNode 16 = .ok (.ireturn, 1) := by decide +kernel
theorem dL_nextNode_17 : decode cL_nextNode 17 = .ok (.iconst 0, 1) := by decide +kernel
theorem dL_nextNode_18 : decode cL_nextNode 18 = .ok (.ireturn, 1) := by decide +kernel
theorem dL_hops_0 : decode cL_hops 0 = .ok (.aload_n 3, 1) := by decide +kernel
theorem dL_hops_1 : decode cL_hops 1 = .ok (.iconst 0, 1) := by decide +kernel
theorem dL_hops_2 : decode cL_hops 2 = .ok (.aload_n 0, 1) := by decide +kernel
theorem dL_hops_3 : decode cL_hops 3 = .ok (.iload_n 1, 1) := by decide +kernel
theorem dL_hops_4 : decode cL_hops 4 = .ok (.iload_n 2, 1) := by decide +kernel
theorem dL_hops_5 : decode cL_hops 5 = .ok (.invokevirtual 46, 3) := by decide +kernel
theorem dL_hops_8 : decode cL_hops 8 = .ok (.i2l, 1) := by decide +kernel
theorem dL_hops_9 : decode cL_hops 9 = .ok (.lastore, 1) := by decide +kernel
theorem dL_hops_10 : decode cL_hops 10 = .ok (.goto 7, 3) := by decide +kernel
theorem dL_hops_13 : decode cL_hops 13 = .ok (.astore 4, 2) := by decide +kernel
theorem dL_hops_15 : decode cL_hops 15 = .ok (.iconst 1, 1) := by decide +kernel
theorem dL_hops_16 : decode cL_hops 16 = .ok (.ireturn, 1) := by decide +kernel
theorem dL_hops_17 : decode cL_hops 17 = .ok (.iconst 0, 1) := by decide +kernel
theorem dL_hops_18 : decode cL_hops 18 = .ok (.ireturn, 1) := by decide +kernel
theorem dL_sequence_0 : decode cL_sequence 0 = .ok (.aload_n 3, 1) := by decide +kernel
theorem dL_sequence_1 : decode cL_sequence 1 = .ok (.iconst 0, 1) := by decide +kernel
theorem dL_sequence_2 : decode cL_sequence 2 = .ok (.aload_n 0, 1) := by decide +kernel
theorem dL_sequence_3 : decode cL_sequence 3 = .ok (.iload_n 1, 1) := by decide +kernel
theorem dL_sequence_4 : decode cL_sequence 4 = .ok (.iload_n 2, 1) := by decide +kernel
theorem dL_sequence_5 : decode cL_sequence 5 = .ok (.invokevirtual 49, 3) := by decide +kernel
theorem dL_sequence_8 : decode cL_sequence 8 = .ok (.i2l, 1) := by decide +kernel
theorem dL_sequence_9 : decode cL_sequence 9 = .ok (.lastore, 1) := by decide +kernel
theorem dL_sequence_10 : decode cL_sequence 10 = .ok (.goto 7, 3) := by decide +kernel
theorem dL_sequence_13 : decode cL_sequence 13 = .ok (.astore 4, 2) := by decide +kernel
theorem dL_sequence_15 : decode cL_sequence 15 = .ok (.iconst 1, 1) := by decide +kernel
theorem dL_sequence_16 : decode cL_sequence 16 = .ok (.ireturn, 1) := by decide +kernel
theorem dL_sequence_17 : decode cL_sequence 17 = .ok (.iconst 0, 1) := by decide +kernel
theorem dL_sequence_18 : decode cL_sequence 18 = .ok (.ireturn, 1) := by decide +kernel
theorem dL_expiry_0 : decode cL_expiry 0 = .ok (.aload_n 3, 1) := by decide +kernel
theorem dL_expiry_1 : decode cL_expiry 1 = .ok (.iconst 0, 1) := by decide +kernel
theorem dL_expiry_2 : decode cL_expiry 2 = .ok (.aload_n 0, 1) := by decide +kernel
theorem dL_expiry_3 : decode cL_expiry 3 = .ok (.iload_n 1, 1) := by decide +kernel
theorem dL_expiry_4 : decode cL_expiry 4 = .ok (.iload_n 2, 1) := by decide +kernel
theorem dL_expiry_5 : decode cL_expiry 5 = .ok (.invokevirtual 52, 3) := by decide +kernel
theorem dL_expiry_8 : decode cL_expiry 8 = .ok (.i2l, 1) := by decide +kernel
theorem dL_expiry_9 : decode cL_expiry 9 = .ok (.lastore, 1) := by decide +kernel
theorem dL_expiry_10 : decode cL_expiry 10 = .ok (.goto 7, 3) := by decide +kernel
theorem dL_expiry_13 : decode cL_expiry 13 = .ok (.astore 4, 2) := by decide +kernel
theorem dL_expiry_15 : decode cL_expiry 15 = .ok (.iconst 1, 1) := by decide +kernel
theorem dL_expiry_16 : decode cL_expiry 16 = .ok (.ireturn, 1) := by decide +kernel
theorem dL_expiry_17 : decode cL_expiry 17 = .ok (.iconst 0, 1) := by decide +kernel
theorem dL_expiry_18 : decode cL_expiry 18 = .ok (.ireturn, 1) := by decide +kernel
theorem dL_users_0 : decode cL_users 0 = .ok (.aload_n 3, 1) := by decide +kernel
theorem dL_users_1 : decode cL_users 1 = .ok (.iconst 0, 1) := by decide +kernel
theorem dL_users_2 : decode cL_users 2 = .ok (.aload_n 0, 1) := by decide +kernel
theorem dL_users_3 : decode cL_users 3 = .ok (.iload_n 1, 1) := by decide +kernel
theorem dL_users_4 : decode cL_users 4 = .ok (.iload_n 2, 1) := by decide +kernel
theorem dL_users_5 : decode cL_users 5 = .ok (.invokevirtual 55, 3) := by decide +kernel
theorem dL_users_8 : decode cL_users 8 = .ok (.i2l, 1) := by decide +kernel
theorem dL_users_9 : decode cL_users 9 = .ok (.lastore, 1) := by decide +kernel
theorem dL_users_10 : decode cL_users 10 = .ok (.goto 7, 3) := by decide +kernel
theorem dL_users_13 : decode cL_users 13 = .ok (.astore 4, 2) := by decide +kernel
theorem dL_users_15 : decode cL_users 15 = .ok (.iconst 1, 1) := by decide +kernel
theorem dL_users_16 : decode cL_users 16 = .ok (.ireturn, 1) := by decide +kernel
theorem dL_users_17 : decode cL_users 17 = .ok (.iconst 0, 1) := by decide +kernel
theorem dL_users_18 : decode cL_users 18 = .ok (.ireturn, 1) := by decide +kernel
theorem dL_searching_0 : decode cL_searching 0 = .ok (.aload_n 3, 1) := by decide +kernel
theorem dL_searching_1 : decode cL_searching 1 = .ok (.iconst 0, 1) := by decide +kernel
theorem dL_searching_2 : decode cL_searching 2 = .ok (.aload_n 0, 1) := by decide +kernel
theorem dL_searching_3 : decode cL_searching 3 = .ok (.iload_n 1, 1) := by decide +kernel
theorem dL_searching_4 : decode cL_searching 4 = .ok (.iload_n 2, 1) := by decide +kernel
theorem dL_searching_5 : decode cL_searching 5 = .ok (.invokevirtual 58, 3) := by decide +kernel
theorem dL_searching_8 : decode cL_searching 8 = .ok (.i2l, 1) := by decide +kernel
theorem dL_searching_9 : decode cL_searching 9 = .ok (.lastore, 1) := by decide +kernel
theorem dL_searching_10 : decode cL_searching 10 = .ok (.goto 7, 3) := by decide +kernel
theorem dL_searching_13 : decode cL_searching 13 = .ok (.astore 4, 2) := by decide +kernel
theorem dL_searching_15 : decode cL_searching 15 = .ok (.iconst 1, 1) := by decide +kernel
theorem dL_searching_16 : decode cL_searching 16 = .ok (.ireturn, 1) := by decide +kernel
theorem dL_searching_17 : decode cL_searching 17 = .ok (.iconst 0, 1) := by decide +kernel
theorem dL_searching_18 : decode cL_searching 18 = .ok (.ireturn, 1) := by decide +kernel
theorem dL_timeout_0 : decode cL_timeout 0 = .ok (.aload_n 3, 1) := by decide +kernel
theorem dL_timeout_1 : decode cL_timeout 1 = .ok (.iconst 0, 1) := by decide +kernel
theorem dL_timeout_2 : decode cL_timeout 2 = .ok (.aload_n 0, 1) := by decide +kernel
theorem dL_timeout_3 : decode cL_timeout 3 = .ok (.iload_n 1, 1) := by decide +kernel
theorem dL_timeout_4 : decode cL_timeout 4 = .ok (.iload_n 2, 1) := by decide +kernel
theorem dL_timeout_5 : decode cL_timeout 5 = .ok (.invokevirtual 61, 3) := by decide +kernel
theorem dL_timeout_8 : decode cL_timeout 8 = .ok (.i2l, 1) := by decide +kernel
theorem dL_timeout_9 : decode cL_timeout 9 = .ok (.lastore, 1) := by decide +kernel
theorem dL_timeout_10 : decode cL_timeout 10 = .ok (.goto 7, 3) := by decide +kernel
theorem dL_timeout_13 : decode cL_timeout 13 = .ok (.astore 4, 2) := by decide +kernel
theorem dL_timeout_15 : decode cL_timeout 15 = .ok (.iconst 1, 1) := by decide +kernel
theorem dL_timeout_16 : decode cL_timeout 16 = .ok (.ireturn, 1) := by decide +kernel
theorem dL_timeout_17 : decode cL_timeout 17 = .ok (.iconst 0, 1) := by decide +kernel
theorem dL_timeout_18 : decode cL_timeout 18 = .ok (.ireturn, 1) := by decide +kernel
theorem dL_buffered_0 : decode cL_buffered 0 = .ok (.aload_n 3, 1) := by decide +kernel
theorem dL_buffered_1 : decode cL_buffered 1 = .ok (.iconst 0, 1) := by decide +kernel
theorem dL_buffered_2 : decode cL_buffered 2 = .ok (.aload_n 0, 1) := by decide +kernel
theorem dL_buffered_3 : decode cL_buffered 3 = .ok (.iload_n 1, 1) := by decide +kernel
theorem dL_buffered_4 : decode cL_buffered 4 = .ok (.iload_n 2, 1) := by decide +kernel
theorem dL_buffered_5 : decode cL_buffered 5 = .ok (.invokevirtual 64, 3) := by decide +kernel
theorem dL_buffered_8 : decode cL_buffered 8 = .ok (.i2l, 1) := by decide +kernel
theorem dL_buffered_9 : decode cL_buffered 9 = .ok (.lastore, 1) := by decide +kernel
theorem dL_buffered_10 : decode cL_buffered 10 = .ok (.goto 7, 3) := by decide +kernel
theorem dL_buffered_13 : decode cL_buffered 13 = .ok (.astore 4, 2) := by decide +kernel
theorem dL_buffered_15 : decode cL_buffered 15 = .ok (.iconst 1, 1) := by decide +kernel
theorem dL_buffered_16 : decode cL_buffered 16 = .ok (.ireturn, 1) := by decide +kernel
theorem dL_buffered_17 : decode cL_buffered 17 = .ok (.iconst 0, 1) := by decide +kernel
theorem dL_buffered_18 : decode cL_buffered 18 = .ok (.ireturn, 1) := by decide +kernel
theorem dL_stateOf_0 : decode cL_stateOf 0 = .ok (.aload_n 2, 1) := by decide +kernel
theorem dL_stateOf_1 : decode cL_stateOf 1 = .ok (.iconst 0, 1) := by decide +kernel
theorem dL_stateOf_2 : decode cL_stateOf 2 = .ok (.aload_n 0, 1) := by decide +kernel
theorem dL_stateOf_3 : decode cL_stateOf 3 = .ok (.iload_n 1, 1) := by decide +kernel
theorem dL_stateOf_4 : decode cL_stateOf 4 = .ok (.invokevirtual 67, 3) := by decide +kernel
theorem dL_stateOf_7 : decode cL_stateOf 7 = .ok (.i2l, 1) := by decide +kernel
theorem dL_stateOf_8 : decode cL_stateOf 8 = .ok (.lastore, 1) := by decide +kernel
theorem dL_stateOf_9 : decode cL_stateOf 9 = .ok (.goto 6, 3) := by decide +kernel
theorem dL_stateOf_12 : decode cL_stateOf 12 = .ok (.astore_n 3, 1) := by decide +kernel
theorem dL_stateOf_13 : decode cL_stateOf 13 = .ok (.iconst 1, 1) := by decide +kernel
theorem dL_stateOf_14 : decode cL_stateOf 14 = .ok (.ireturn, 1) := by decide +kernel
theorem dL_stateOf_15 : decode cL_stateOf 15 = .ok (.iconst 0, 1) := by decide +kernel
theorem dL_stateOf_16 : decode cL_stateOf 16 = .ok (.ireturn, 1) := by decide +kernel
theorem dL_nodeOf_0 : decode cL_nodeOf 0 = .ok (.aload_n 2, 1) := by decide +kernel
theorem dL_nodeOf_1 : decode cL_nodeOf 1 = .ok (.iconst 0, 1) := by decide +kernel
theorem dL_nodeOf_2 : decode cL_nodeOf 2 = .ok (.aload_n 0, 1) := by decide +kernel
theorem dL_nodeOf_3 : decode cL_nodeOf 3 = .ok (.iload_n 1, 1) := by decide +kernel
theorem dL_nodeOf_4 : decode cL_nodeOf 4 = .ok (.invokevirtual 70, 3) := by decide +kernel
theorem dL_nodeOf_7 : decode cL_nodeOf 7 = .ok (.i2l, 1) := by decide +kernel
theorem dL_nodeOf_8 : decode cL_nodeOf 8 = .ok (.lastore, 1) := by decide +kernel
theorem dL_nodeOf_9 : decode cL_nodeOf 9 = .ok (.goto 6, 3) := by decide +kernel
theorem dL_nodeOf_12 : decode cL_nodeOf 12 = .ok (.astore_n 3, 1) := by decide +kernel
theorem dL_nodeOf_13 : decode cL_nodeOf 13 = .ok (.iconst 1, 1) := by decide +kernel
theorem dL_nodeOf_14 : decode cL_nodeOf 14 = .ok (.ireturn, 1) := by decide +kernel
theorem dL_nodeOf_15 : decode cL_nodeOf 15 = .ok (.iconst 0, 1) := by decide +kernel
theorem dL_nodeOf_16 : decode cL_nodeOf 16 = .ok (.ireturn, 1) := by decide +kernel
theorem dL_hopsOf_0 : decode cL_hopsOf 0 = .ok (.aload_n 2, 1) := by decide +kernel
theorem dL_hopsOf_1 : decode cL_hopsOf 1 = .ok (.iconst 0, 1) := by decide +kernel
theorem dL_hopsOf_2 : decode cL_hopsOf 2 = .ok (.aload_n 0, 1) := by decide +kernel
theorem dL_hopsOf_3 : decode cL_hopsOf 3 = .ok (.iload_n 1, 1) := by decide +kernel
theorem dL_hopsOf_4 : decode cL_hopsOf 4 = .ok (.invokevirtual 73, 3) := by decide +kernel
theorem dL_hopsOf_7 : decode cL_hopsOf 7 = .ok (.i2l, 1) := by decide +kernel
theorem dL_hopsOf_8 : decode cL_hopsOf 8 = .ok (.lastore, 1) := by decide +kernel
theorem dL_hopsOf_9 : decode cL_hopsOf 9 = .ok (.goto 6, 3) := by decide +kernel
theorem dL_hopsOf_12 : decode cL_hopsOf 12 = .ok (.astore_n 3, 1) := by decide +kernel
theorem dL_hopsOf_13 : decode cL_hopsOf 13 = .ok (.iconst 1, 1) := by decide +kernel
theorem dL_hopsOf_14 : decode cL_hopsOf 14 = .ok (.ireturn, 1) := by decide +kernel
theorem dL_hopsOf_15 : decode cL_hopsOf 15 = .ok (.iconst 0, 1) := by decide +kernel
theorem dL_hopsOf_16 : decode cL_hopsOf 16 = .ok (.ireturn, 1) := by decide +kernel
theorem dL_endOf_0 : decode cL_endOf 0 = .ok (.aload_n 2, 1) := by decide +kernel
theorem dL_endOf_1 : decode cL_endOf 1 = .ok (.iconst 0, 1) := by decide +kernel
theorem dL_endOf_2 : decode cL_endOf 2 = .ok (.aload_n 0, 1) := by decide +kernel
theorem dL_endOf_3 : decode cL_endOf 3 = .ok (.iload_n 1, 1) := by decide +kernel
theorem dL_endOf_4 : decode cL_endOf 4 = .ok (.invokevirtual 76, 3) := by decide +kernel
theorem dL_endOf_7 : decode cL_endOf 7 = .ok (.i2l, 1) := by decide +kernel
theorem dL_endOf_8 : decode cL_endOf 8 = .ok (.lastore, 1) := by decide +kernel
theorem dL_endOf_9 : decode cL_endOf 9 = .ok (.goto 6, 3) := by decide +kernel
theorem dL_endOf_12 : decode cL_endOf 12 = .ok (.astore_n 3, 1) := by decide +kernel
theorem dL_endOf_13 : decode cL_endOf 13 = .ok (.iconst 1, 1) := by decide +kernel
theorem dL_endOf_14 : decode cL_endOf 14 = .ok (.ireturn, 1) := by decide +kernel
theorem dL_endOf_15 : decode cL_endOf 15 = .ok (.iconst 0, 1) := by decide +kernel
theorem dL_endOf_16 : decode cL_endOf 16 = .ok (.ireturn, 1) := by decide +kernel
theorem dL_whyDropped_0 : decode cL_whyDropped 0 = .ok (.aload_n 3, 1) := by decide +kernel
theorem dL_whyDropped_1 : decode cL_whyDropped 1 = .ok (.iconst 0, 1) := by decide +kernel
theorem dL_whyDropped_2 : decode cL_whyDropped 2 = .ok (.aload_n 0, 1) := by decide +kernel
theorem dL_whyDropped_3 : decode cL_whyDropped 3 = .ok (.iload_n 1, 1) := by decide +kernel
theorem dL_whyDropped_4 : decode cL_whyDropped 4 = .ok (.iload_n 2, 1) := by decide +kernel
theorem dL_whyDropped_5 : decode cL_whyDropped 5 = .ok (.invokevirtual 79, 3) := by decide +kernel
theorem dL_whyDropped_8 : decode cL_whyDropped 8 = .ok (.i2l, 1) := by decide +kernel
theorem dL_whyDropped_9 : decode cL_whyDropped 9 = .ok (.lastore, 1) := by decide +kernel
theorem dL_whyDropped_10 : decode cL_whyDropped 10 = .ok (.goto 7, 3) := by decide +kernel
theorem dL_whyDropped_13 : decode cL_whyDropped 13 = .ok (.astore 4, 2) := by decide +kernel
theorem dL_whyDropped_15 : decode cL_whyDropped 15 = .ok (.iconst 1, 1) := by decide +kernel
theorem dL_whyDropped_16 : decode cL_whyDropped 16 = .ok (.ireturn, 1) := by decide +kernel
theorem dL_whyDropped_17 : decode cL_whyDropped 17 = .ok (.iconst 0, 1) := by decide +kernel
theorem dL_whyDropped_18 : decode cL_whyDropped 18 = .ok (.ireturn, 1) := by decide +kernel
theorem dL_packets_0 : decode cL_packets 0 = .ok (.aload_n 2, 1) := by decide +kernel
theorem dL_packets_1 : decode cL_packets 1 = .ok (.iconst 0, 1) := by decide +kernel
theorem dL_packets_2 : decode cL_packets 2 = .ok (.aload_n 0, 1) := by decide +kernel
theorem dL_packets_3 : decode cL_packets 3 = .ok (.iload_n 1, 1) := by decide +kernel
theorem dL_packets_4 : decode cL_packets 4 = .ok (.invokevirtual 82, 3) := by decide +kernel
theorem dL_packets_7 : decode cL_packets 7 = .ok (.i2l, 1) := by decide +kernel
theorem dL_packets_8 : decode cL_packets 8 = .ok (.lastore, 1) := by decide +kernel
theorem dL_packets_9 : decode cL_packets 9 = .ok (.goto 6, 3) := by decide +kernel
theorem dL_packets_12 : decode cL_packets 12 = .ok (.astore_n 3, 1) := by decide +kernel
theorem dL_packets_13 : decode cL_packets 13 = .ok (.iconst 1, 1) := by decide +kernel
theorem dL_packets_14 : decode cL_packets 14 = .ok (.ireturn, 1) := by decide +kernel
theorem dL_packets_15 : decode cL_packets 15 = .ok (.iconst 0, 1) := by decide +kernel
theorem dL_packets_16 : decode cL_packets 16 = .ok (.ireturn, 1) := by decide +kernel
theorem dL_follow_0 : decode cL_follow 0 = .ok (.aload_n 3, 1) := by decide +kernel
theorem dL_follow_1 : decode cL_follow 1 = .ok (.iconst 0, 1) := by decide +kernel
theorem dL_follow_2 : decode cL_follow 2 = .ok (.aload_n 0, 1) := by decide +kernel
theorem dL_follow_3 : decode cL_follow 3 = .ok (.iload_n 1, 1) := by decide +kernel
theorem dL_follow_4 : decode cL_follow 4 = .ok (.iload_n 2, 1) := by decide +kernel
theorem dL_follow_5 : decode cL_follow 5 = .ok (.invokevirtual 85, 3) := by decide +kernel
theorem dL_follow_8 : decode cL_follow 8 = .ok (.i2l, 1) := by decide +kernel
theorem dL_follow_9 : decode cL_follow 9 = .ok (.lastore, 1) := by decide +kernel
theorem dL_follow_10 : decode cL_follow 10 = .ok (.goto 7, 3) := by decide +kernel
theorem dL_follow_13 : decode cL_follow 13 = .ok (.astore 4, 2) := by decide +kernel
theorem dL_follow_15 : decode cL_follow 15 = .ok (.iconst 1, 1) := by decide +kernel
theorem dL_follow_16 : decode cL_follow 16 = .ok (.ireturn, 1) := by decide +kernel
theorem dL_follow_17 : decode cL_follow 17 = .ok (.iconst 0, 1) := by decide +kernel
theorem dL_follow_18 : decode cL_follow 18 = .ok (.ireturn, 1) := by decide +kernel
theorem dL_distance_0 : decode cL_distance 0 = .ok (.aload_n 3, 1) := by decide +kernel
theorem dL_distance_1 : decode cL_distance 1 = .ok (.iconst 0, 1) := by decide +kernel
theorem dL_distance_2 : decode cL_distance 2 = .ok (.aload_n 0, 1) := by decide +kernel
theorem dL_distance_3 : decode cL_distance 3 = .ok (.iload_n 1, 1) := by decide +kernel
theorem dL_distance_4 : decode cL_distance 4 = .ok (.iload_n 2, 1) := by decide +kernel
theorem dL_distance_5 : decode cL_distance 5 = .ok (.invokevirtual 88, 3) := by decide +kernel
theorem dL_distance_8 : decode cL_distance 8 = .ok (.i2l, 1) := by decide +kernel
theorem dL_distance_9 : decode cL_distance 9 = .ok (.lastore, 1) := by decide +kernel
theorem dL_distance_10 : decode cL_distance 10 = .ok (.goto 7, 3) := by decide +kernel
theorem dL_distance_13 : decode cL_distance 13 = .ok (.astore 4, 2) := by decide +kernel
theorem dL_distance_15 : decode cL_distance 15 = .ok (.iconst 1, 1) := by decide +kernel
theorem dL_distance_16 : decode cL_distance 16 = .ok (.ireturn, 1) := by decide +kernel
theorem dL_distance_17 : decode cL_distance 17 = .ok (.iconst 0, 1) := by decide +kernel
theorem dL_distance_18 : decode cL_distance 18 = .ok (.ireturn, 1) := by decide +kernel
theorem dL_forecast_0 : decode cL_forecast 0 = .ok (.aload 4, 2) := by decide +kernel
theorem dL_forecast_2 : decode cL_forecast 2 = .ok (.iconst 0, 1) := by decide +kernel
theorem dL_forecast_3 : decode cL_forecast 3 = .ok (.aload_n 0, 1) := by decide +kernel
theorem dL_forecast_4 : decode cL_forecast 4 = .ok (.iload_n 1, 1) := by decide +kernel
theorem dL_forecast_5 : decode cL_forecast 5 = .ok (.iload_n 2, 1) := by decide +kernel
theorem dL_forecast_6 : decode cL_forecast 6 = .ok (.iload_n 3, 1) := by decide +kernel
theorem dL_forecast_7 : decode cL_forecast 7 = .ok (.invokevirtual 91, 3) := by decide +kernel
theorem dL_forecast_10 : decode cL_forecast 10 = .ok (.i2l, 1) := by decide +kernel
theorem dL_forecast_11 : decode cL_forecast 11 = .ok (.lastore, 1) := by decide +kernel
theorem dL_forecast_12 : decode cL_forecast 12 = .ok (.goto 11, 3) := by decide +kernel
theorem dL_forecast_15 : decode cL_forecast 15 = .ok (.astore 5, 2) := by decide +kernel
theorem dL_forecast_17 : decode cL_forecast 17 = .ok (.iconst 1, 1) := by decide +kernel
theorem dL_forecast_18 : decode cL_forecast 18 = .ok (.ireturn, 1) := by decide +kernel
theorem dL_forecast_19 : decode cL_forecast 19 = .ok (.astore 5, 2) := by decide +kernel
theorem dL_forecast_21 : decode cL_forecast 21 = .ok (.iconst 2, 1) := by decide +kernel
theorem dL_forecast_22 : decode cL_forecast 22 = .ok (.ireturn, 1) := by decide +kernel
theorem dL_forecast_23 : decode cL_forecast 23 = .ok (.iconst 0, 1) := by decide +kernel
theorem dL_forecast_24 : decode cL_forecast 24 = .ok (.ireturn, 1) := by decide +kernel
theorem dL_damage_0 : decode cL_damage 0 = .ok (.aload 4, 2) := by decide +kernel
theorem dL_damage_2 : decode cL_damage 2 = .ok (.iconst 0, 1) := by decide +kernel
theorem dL_damage_3 : decode cL_damage 3 = .ok (.aload_n 0, 1) := by decide +kernel
theorem dL_damage_4 : decode cL_damage 4 = .ok (.iload_n 1, 1) := by decide +kernel
theorem dL_damage_5 : decode cL_damage 5 = .ok (.iload_n 2, 1) := by decide +kernel
theorem dL_damage_6 : decode cL_damage 6 = .ok (.iload_n 3, 1) := by decide +kernel
theorem dL_damage_7 : decode cL_damage 7 = .ok (.invokevirtual 94, 3) := by decide +kernel
theorem dL_damage_10 : decode cL_damage 10 = .ok (.i2l, 1) := by decide +kernel
theorem dL_damage_11 : decode cL_damage 11 = .ok (.lastore, 1) := by decide +kernel
theorem dL_damage_12 : decode cL_damage 12 = .ok (.goto 11, 3) := by decide +kernel
theorem dL_damage_15 : decode cL_damage 15 = .ok (.astore 5, 2) := by decide +kernel
theorem dL_damage_17 : decode cL_damage 17 = .ok (.iconst 1, 1) := by decide +kernel
theorem dL_damage_18 : decode cL_damage 18 = .ok (.ireturn, 1) := by decide +kernel
theorem dL_damage_19 : decode cL_damage 19 = .ok (.astore 5, 2) := by decide +kernel
theorem dL_damage_21 : decode cL_damage 21 = .ok (.iconst 2, 1) := by decide +kernel
theorem dL_damage_22 : decode cL_damage 22 = .ok (.ireturn, 1) := by decide +kernel
theorem dL_damage_23 : decode cL_damage 23 = .ok (.iconst 0, 1) := by decide +kernel
theorem dL_damage_24 : decode cL_damage 24 = .ok (.ireturn, 1) := by decide +kernel
theorem dL_restore_0 : decode cL_restore 0 = .ok (.aload_n 1, 1) := by decide +kernel
theorem dL_restore_1 : decode cL_restore 1 = .ok (.iconst 0, 1) := by decide +kernel
theorem dL_restore_2 : decode cL_restore 2 = .ok (.aload_n 0, 1) := by decide +kernel
theorem dL_restore_3 : decode cL_restore 3 = .ok (.invokevirtual 97, 3) := by decide +kernel
theorem dL_restore_6 : decode cL_restore 6 = .ok (.i2l, 1) := by decide +kernel
theorem dL_restore_7 : decode cL_restore 7 = .ok (.lastore, 1) := by decide +kernel
theorem dL_restore_8 : decode cL_restore 8 = .ok (.goto 6, 3) := by decide +kernel
theorem dL_restore_11 : decode cL_restore 11 = .ok (.astore_n 2, 1) := by decide +kernel
theorem dL_restore_12 : decode cL_restore 12 = .ok (.iconst 1, 1) := by decide +kernel
theorem dL_restore_13 : decode cL_restore 13 = .ok (.ireturn, 1) := by decide +kernel
theorem dL_restore_14 : decode cL_restore 14 = .ok (.iconst 0, 1) := by decide +kernel
theorem dL_restore_15 : decode cL_restore 15 = .ok (.ireturn, 1) := by decide +kernel
theorem dL_law_0 : decode cL_law 0 = .ok (.new 8, 3) := by decide +kernel
theorem dL_law_3 : decode cL_law 3 = .ok (.dup, 1) := by decide +kernel
theorem dL_law_4 : decode cL_law 4 = .ok (.aload_n 0, 1) := by decide +kernel
theorem dL_law_5 : decode cL_law 5 = .ok (.iconst 0, 1) := by decide +kernel
theorem dL_law_6 : decode cL_law 6 = .ok (.invokestatic 101, 3) := by decide +kernel
theorem dL_law_9 : decode cL_law 9 = .ok (.invokespecial 107, 3) := by decide +kernel
theorem dL_law_12 : decode cL_law 12 = .ok (.astore_n 1, 1) := by decide +kernel
theorem dL_law_13 : decode cL_law 13 = .ok (.new 110, 3) := by decide +kernel
theorem dL_law_16 : decode cL_law 16 = .ok (.dup, 1) := by decide +kernel
theorem dL_law_17 : decode cL_law 17 = .ok (.aload_n 0, 1) := by decide +kernel
theorem dL_law_18 : decode cL_law 18 = .ok (.iconst 0, 1) := by decide +kernel
theorem dL_law_19 : decode cL_law 19 = .ok (.invokestatic 101, 3) := by decide +kernel
theorem dL_law_22 : decode cL_law 22 = .ok (.invokespecial 112, 3) := by decide +kernel
theorem dL_law_25 : decode cL_law 25 = .ok (.astore_n 2, 1) := by decide +kernel
theorem dL_law_26 : decode cL_law 26 = .ok (.iconst 1, 1) := by decide +kernel
theorem dL_law_27 : decode cL_law 27 = .ok (.newarray .long, 2) := by decide +kernel
theorem dL_law_29 : decode cL_law 29 = .ok (.astore_n 3, 1) := by decide +kernel
theorem dL_law_30 : decode cL_law 30 = .ok (.iconst 1, 1) := by decide +kernel
theorem dL_law_31 : decode cL_law 31 = .ok (.istore 4, 2) := by decide +kernel
theorem dL_law_33 : decode cL_law 33 = .ok (.iload 4, 2) := by decide +kernel
theorem dL_law_35 : decode cL_law 35 = .ok (.aload_n 0, 1) := by decide +kernel
theorem dL_law_36 : decode cL_law 36 = .ok (.arraylength, 1) := by decide +kernel
theorem dL_law_37 : decode cL_law 37 = .ok (.iconst 4, 1) := by decide +kernel
theorem dL_law_38 : decode cL_law 38 = .ok (.isub, 1) := by decide +kernel
theorem dL_law_39 : decode cL_law 39 = .ok (.if_icmp .gt 2018, 3) := by decide +kernel
theorem dL_law_42 : decode cL_law 42 = .ok (.aload_n 0, 1) := by decide +kernel
theorem dL_law_43 : decode cL_law 43 = .ok (.iload 4, 2) := by decide +kernel
theorem dL_law_45 : decode cL_law 45 = .ok (.iaload, 1) := by decide +kernel
theorem dL_law_46 : decode cL_law 46 = .ok (.bipush 63, 2) := by decide +kernel
theorem dL_law_48 : decode cL_law 48 = .ok (.iand, 1) := by decide +kernel
theorem dL_law_49 : decode cL_law 49 = .ok (.tableswitch 2002 0 33 #[151, 231, 299, 367, 435, 448, 504, 517, 530, 586, 642, 717, 785, 853, 921, 989, 1057, 1125, 1193, 1261, 1317, 1373, 1429, 1485, 1553, 1609, 1677, 1690, 1758, 1771, 1851, 1931, 1944, 1988], 151) := by decide +kernel
theorem dL_law_200 : decode cL_law 200 = .ok (.aload_n 1, 1) := by decide +kernel
theorem dL_law_201 : decode cL_law 201 = .ok (.aload_n 0, 1) := by decide +kernel
theorem dL_law_202 : decode cL_law 202 = .ok (.iload 4, 2) := by decide +kernel
theorem dL_law_204 : decode cL_law 204 = .ok (.iconst 1, 1) := by decide +kernel
theorem dL_law_205 : decode cL_law 205 = .ok (.iadd, 1) := by decide +kernel
theorem dL_law_206 : decode cL_law 206 = .ok (.iaload, 1) := by decide +kernel
theorem dL_law_207 : decode cL_law 207 = .ok (.aload_n 0, 1) := by decide +kernel
theorem dL_law_208 : decode cL_law 208 = .ok (.iload 4, 2) := by decide +kernel
theorem dL_law_210 : decode cL_law 210 = .ok (.iconst 2, 1) := by decide +kernel
theorem dL_law_211 : decode cL_law 211 = .ok (.iadd, 1) := by decide +kernel
theorem dL_law_212 : decode cL_law 212 = .ok (.iaload, 1) := by decide +kernel
theorem dL_law_213 : decode cL_law 213 = .ok (.aload_n 0, 1) := by decide +kernel
theorem dL_law_214 : decode cL_law 214 = .ok (.iload 4, 2) := by decide +kernel
theorem dL_law_216 : decode cL_law 216 = .ok (.iconst 3, 1) := by decide +kernel
theorem dL_law_217 : decode cL_law 217 = .ok (.iadd, 1) := by decide +kernel
theorem dL_law_218 : decode cL_law 218 = .ok (.iaload, 1) := by decide +kernel
theorem dL_law_219 : decode cL_law 219 = .ok (.aload_n 3, 1) := by decide +kernel
theorem dL_law_220 : decode cL_law 220 = .ok (.invokestatic 113, 3) := by decide +kernel
theorem dL_law_223 : decode cL_law 223 = .ok (.istore 5, 2) := by decide +kernel
theorem dL_law_225 : decode cL_law 225 = .ok (.aload_n 2, 1) := by decide +kernel
theorem dL_law_226 : decode cL_law 226 = .ok (.aload_n 0, 1) := by decide +kernel
theorem dL_law_227 : decode cL_law 227 = .ok (.iload 4, 2) := by decide +kernel
theorem dL_law_229 : decode cL_law 229 = .ok (.iconst 1, 1) := by decide +kernel
theorem dL_law_230 : decode cL_law 230 = .ok (.iadd, 1) := by decide +kernel
theorem dL_law_231 : decode cL_law 231 = .ok (.iaload, 1) := by decide +kernel
theorem dL_law_232 : decode cL_law 232 = .ok (.aload_n 0, 1) := by decide +kernel
theorem dL_law_233 : decode cL_law 233 = .ok (.iload 4, 2) := by decide +kernel
theorem dL_law_235 : decode cL_law 235 = .ok (.iconst 2, 1) := by decide +kernel
theorem dL_law_236 : decode cL_law 236 = .ok (.iadd, 1) := by decide +kernel
theorem dL_law_237 : decode cL_law 237 = .ok (.iaload, 1) := by decide +kernel
theorem dL_law_238 : decode cL_law 238 = .ok (.aload_n 0, 1) := by decide +kernel
theorem dL_law_239 : decode cL_law 239 = .ok (.iload 4, 2) := by decide +kernel
theorem dL_law_241 : decode cL_law 241 = .ok (.iconst 3, 1) := by decide +kernel
theorem dL_law_242 : decode cL_law 242 = .ok (.iadd, 1) := by decide +kernel
theorem dL_law_243 : decode cL_law 243 = .ok (.iaload, 1) := by decide +kernel
theorem dL_law_244 : decode cL_law 244 = .ok (.invokevirtual 116, 3) := by decide +kernel
theorem dL_law_247 : decode cL_law 247 = .ok (.istore 6, 2) := by decide +kernel
theorem dL_law_249 : decode cL_law 249 = .ok (.aload_n 2, 1) := by decide +kernel
theorem dL_law_250 : decode cL_law 250 = .ok (.invokevirtual 117, 3) := by decide +kernel
theorem dL_law_253 : decode cL_law 253 = .ok (.iload 5, 2) := by decide +kernel
theorem dL_law_255 : decode cL_law 255 = .ok (.if_icmp .eq 5, 3) := by decide +kernel
theorem dL_law_258 : decode cL_law 258 = .ok (.iconst 0, 1) := by decide +kernel
theorem dL_law_259 : decode cL_law 259 = .ok (.ireturn, 1) := by decide +kernel
theorem dL_law_260 : decode cL_law 260 = .ok (.iload 5, 2) := by decide +kernel
theorem dL_law_262 : decode cL_law 262 = .ok (.ifCond .ne 15, 3) := by decide +kernel
theorem dL_law_265 : decode cL_law 265 = .ok (.aload_n 3, 1) := by decide +kernel
theorem dL_law_266 : decode cL_law 266 = .ok (.iconst 0, 1) := by decide +kernel
theorem dL_law_267 : decode cL_law 267 = .ok (.laload, 1) := by decide +kernel
theorem dL_law_268 : decode cL_law 268 = .ok (.iload 6, 2) := by decide +kernel
theorem dL_law_270 : decode cL_law 270 = .ok (.i2l, 1) := by decide +kernel
theorem dL_law_271 : decode cL_law 271 = .ok (.lcmp, 1) := by decide +kernel
theorem dL_law_272 : decode cL_law 272 = .ok (.ifCond .eq 5, 3) := by decide +kernel
theorem dL_law_275 : decode cL_law 275 = .ok (.iconst 0, 1) := by decide +kernel
theorem dL_law_276 : decode cL_law 276 = .ok (.ireturn, 1) := by decide +kernel
theorem dL_law_277 : decode cL_law 277 = .ok (.goto 1774, 3) := by decide +kernel
theorem dL_law_280 : decode cL_law 280 = .ok (.aload_n 1, 1) := by decide +kernel
theorem dL_law_281 : decode cL_law 281 = .ok (.aload_n 0, 1) := by decide +kernel
theorem dL_law_282 : decode cL_law 282 = .ok (.iload 4, 2) := by decide +kernel
theorem dL_law_284 : decode cL_law 284 = .ok (.iconst 1, 1) := by decide +kernel
theorem dL_law_285 : decode cL_law 285 = .ok (.iadd, 1) := by decide +kernel
theorem dL_law_286 : decode cL_law 286 = .ok (.iaload, 1) := by decide +kernel
theorem dL_law_287 : decode cL_law 287 = .ok (.aload_n 0, 1) := by decide +kernel
theorem dL_law_288 : decode cL_law 288 = .ok (.iload 4, 2) := by decide +kernel
theorem dL_law_290 : decode cL_law 290 = .ok (.iconst 2, 1) := by decide +kernel
theorem dL_law_291 : decode cL_law 291 = .ok (.iadd, 1) := by decide +kernel
theorem dL_law_292 : decode cL_law 292 = .ok (.iaload, 1) := by decide +kernel
theorem dL_law_293 : decode cL_law 293 = .ok (.aload_n 3, 1) := by decide +kernel
theorem dL_law_294 : decode cL_law 294 = .ok (.invokestatic 120, 3) := by decide +kernel
theorem dL_law_297 : decode cL_law 297 = .ok (.istore 5, 2) := by decide +kernel
theorem dL_law_299 : decode cL_law 299 = .ok (.aload_n 2, 1) := by decide +kernel
theorem dL_law_300 : decode cL_law 300 = .ok (.aload_n 0, 1) := by decide +kernel
theorem dL_law_301 : decode cL_law 301 = .ok (.iload 4, 2) := by decide +kernel
theorem dL_law_303 : decode cL_law 303 = .ok (.iconst 1, 1) := by decide +kernel
theorem dL_law_304 : decode cL_law 304 = .ok (.iadd, 1) := by decide +kernel
theorem dL_law_305 : decode cL_law 305 = .ok (.iaload, 1) := by decide +kernel
theorem dL_law_306 : decode cL_law 306 = .ok (.aload_n 0, 1) := by decide +kernel
theorem dL_law_307 : decode cL_law 307 = .ok (.iload 4, 2) := by decide +kernel
theorem dL_law_309 : decode cL_law 309 = .ok (.iconst 2, 1) := by decide +kernel
theorem dL_law_310 : decode cL_law 310 = .ok (.iadd, 1) := by decide +kernel
theorem dL_law_311 : decode cL_law 311 = .ok (.iaload, 1) := by decide +kernel
theorem dL_law_312 : decode cL_law 312 = .ok (.invokevirtual 123, 3) := by decide +kernel
theorem dL_law_315 : decode cL_law 315 = .ok (.istore 6, 2) := by decide +kernel
theorem dL_law_317 : decode cL_law 317 = .ok (.aload_n 2, 1) := by decide +kernel
theorem dL_law_318 : decode cL_law 318 = .ok (.invokevirtual 117, 3) := by decide +kernel
theorem dL_law_321 : decode cL_law 321 = .ok (.iload 5, 2) := by decide +kernel
theorem dL_law_323 : decode cL_law 323 = .ok (.if_icmp .eq 5, 3) := by decide +kernel
theorem dL_law_326 : decode cL_law 326 = .ok (.iconst 0, 1) := by decide +kernel
theorem dL_law_327 : decode cL_law 327 = .ok (.ireturn, 1) := by decide +kernel
theorem dL_law_328 : decode cL_law 328 = .ok (.iload 5, 2) := by decide +kernel
theorem dL_law_330 : decode cL_law 330 = .ok (.ifCond .ne 15, 3) := by decide +kernel
theorem dL_law_333 : decode cL_law 333 = .ok (.aload_n 3, 1) := by decide +kernel
theorem dL_law_334 : decode cL_law 334 = .ok (.iconst 0, 1) := by decide +kernel
theorem dL_law_335 : decode cL_law 335 = .ok (.laload, 1) := by decide +kernel
theorem dL_law_336 : decode cL_law 336 = .ok (.iload 6, 2) := by decide +kernel
theorem dL_law_338 : decode cL_law 338 = .ok (.i2l, 1) := by decide +kernel
theorem dL_law_339 : decode cL_law 339 = .ok (.lcmp, 1) := by decide +kernel
theorem dL_law_340 : decode cL_law 340 = .ok (.ifCond .eq 5, 3) := by decide +kernel
theorem dL_law_343 : decode cL_law 343 = .ok (.iconst 0, 1) := by decide +kernel
theorem dL_law_344 : decode cL_law 344 = .ok (.ireturn, 1) := by decide +kernel
theorem dL_law_345 : decode cL_law 345 = .ok (.goto 1706, 3) := by decide +kernel
theorem dL_law_348 : decode cL_law 348 = .ok (.aload_n 1, 1) := by decide +kernel
theorem dL_law_349 : decode cL_law 349 = .ok (.aload_n 0, 1) := by decide +kernel
theorem dL_law_350 : decode cL_law 350 = .ok (.iload 4, 2) := by decide +kernel
theorem dL_law_352 : decode cL_law 352 = .ok (.iconst 1, 1) := by decide +kernel
theorem dL_law_353 : decode cL_law 353 = .ok (.iadd, 1) := by decide +kernel
theorem dL_law_354 : decode cL_law 354 = .ok (.iaload, 1) := by decide +kernel
theorem dL_law_355 : decode cL_law 355 = .ok (.aload_n 0, 1) := by decide +kernel
theorem dL_law_356 : decode cL_law 356 = .ok (.iload 4, 2) := by decide +kernel
theorem dL_law_358 : decode cL_law 358 = .ok (.iconst 2, 1) := by decide +kernel
theorem dL_law_359 : decode cL_law 359 = .ok (.iadd, 1) := by decide +kernel
theorem dL_law_360 : decode cL_law 360 = .ok (.iaload, 1) := by decide +kernel
theorem dL_law_361 : decode cL_law 361 = .ok (.aload_n 3, 1) := by decide +kernel
theorem dL_law_362 : decode cL_law 362 = .ok (.invokestatic 124, 3) := by decide +kernel
theorem dL_law_365 : decode cL_law 365 = .ok (.istore 5, 2) := by decide +kernel
theorem dL_law_367 : decode cL_law 367 = .ok (.aload_n 2, 1) := by decide +kernel
theorem dL_law_368 : decode cL_law 368 = .ok (.aload_n 0, 1) := by decide +kernel
theorem dL_law_369 : decode cL_law 369 = .ok (.iload 4, 2) := by decide +kernel
theorem dL_law_371 : decode cL_law 371 = .ok (.iconst 1, 1) := by decide +kernel
theorem dL_law_372 : decode cL_law 372 = .ok (.iadd, 1) := by decide +kernel
theorem dL_law_373 : decode cL_law 373 = .ok (.iaload, 1) := by decide +kernel
theorem dL_law_374 : decode cL_law 374 = .ok (.aload_n 0, 1) := by decide +kernel
theorem dL_law_375 : decode cL_law 375 = .ok (.iload 4, 2) := by decide +kernel
theorem dL_law_377 : decode cL_law 377 = .ok (.iconst 2, 1) := by decide +kernel
theorem dL_law_378 : decode cL_law 378 = .ok (.iadd, 1) := by decide +kernel
theorem dL_law_379 : decode cL_law 379 = .ok (.iaload, 1) := by decide +kernel
theorem dL_law_380 : decode cL_law 380 = .ok (.invokevirtual 126, 3) := by decide +kernel
theorem dL_law_383 : decode cL_law 383 = .ok (.istore 6, 2) := by decide +kernel
theorem dL_law_385 : decode cL_law 385 = .ok (.aload_n 2, 1) := by decide +kernel
theorem dL_law_386 : decode cL_law 386 = .ok (.invokevirtual 117, 3) := by decide +kernel
theorem dL_law_389 : decode cL_law 389 = .ok (.iload 5, 2) := by decide +kernel
theorem dL_law_391 : decode cL_law 391 = .ok (.if_icmp .eq 5, 3) := by decide +kernel
theorem dL_law_394 : decode cL_law 394 = .ok (.iconst 0, 1) := by decide +kernel
theorem dL_law_395 : decode cL_law 395 = .ok (.ireturn, 1) := by decide +kernel
theorem dL_law_396 : decode cL_law 396 = .ok (.iload 5, 2) := by decide +kernel
theorem dL_law_398 : decode cL_law 398 = .ok (.ifCond .ne 15, 3) := by decide +kernel
theorem dL_law_401 : decode cL_law 401 = .ok (.aload_n 3, 1) := by decide +kernel
theorem dL_law_402 : decode cL_law 402 = .ok (.iconst 0, 1) := by decide +kernel
theorem dL_law_403 : decode cL_law 403 = .ok (.laload, 1) := by decide +kernel
theorem dL_law_404 : decode cL_law 404 = .ok (.iload 6, 2) := by decide +kernel
theorem dL_law_406 : decode cL_law 406 = .ok (.i2l, 1) := by decide +kernel
theorem dL_law_407 : decode cL_law 407 = .ok (.lcmp, 1) := by decide +kernel
theorem dL_law_408 : decode cL_law 408 = .ok (.ifCond .eq 5, 3) := by decide +kernel
theorem dL_law_411 : decode cL_law 411 = .ok (.iconst 0, 1) := by decide +kernel
theorem dL_law_412 : decode cL_law 412 = .ok (.ireturn, 1) := by decide +kernel
theorem dL_law_413 : decode cL_law 413 = .ok (.goto 1638, 3) := by decide +kernel
theorem dL_law_416 : decode cL_law 416 = .ok (.aload_n 1, 1) := by decide +kernel
theorem dL_law_417 : decode cL_law 417 = .ok (.aload_n 0, 1) := by decide +kernel
theorem dL_law_418 : decode cL_law 418 = .ok (.iload 4, 2) := by decide +kernel
theorem dL_law_420 : decode cL_law 420 = .ok (.iconst 1, 1) := by decide +kernel
theorem dL_law_421 : decode cL_law 421 = .ok (.iadd, 1) := by decide +kernel
theorem dL_law_422 : decode cL_law 422 = .ok (.iaload, 1) := by decide +kernel
theorem dL_law_423 : decode cL_law 423 = .ok (.aload_n 0, 1) := by decide +kernel
theorem dL_law_424 : decode cL_law 424 = .ok (.iload 4, 2) := by decide +kernel
theorem dL_law_426 : decode cL_law 426 = .ok (.iconst 2, 1) := by decide +kernel
theorem dL_law_427 : decode cL_law 427 = .ok (.iadd, 1) := by decide +kernel
theorem dL_law_428 : decode cL_law 428 = .ok (.iaload, 1) := by decide +kernel
theorem dL_law_429 : decode cL_law 429 = .ok (.aload_n 3, 1) := by decide +kernel
theorem dL_law_430 : decode cL_law 430 = .ok (.invokestatic 127, 3) := by decide +kernel
theorem dL_law_433 : decode cL_law 433 = .ok (.istore 5, 2) := by decide +kernel
theorem dL_law_435 : decode cL_law 435 = .ok (.aload_n 2, 1) := by decide +kernel
theorem dL_law_436 : decode cL_law 436 = .ok (.aload_n 0, 1) := by decide +kernel
theorem dL_law_437 : decode cL_law 437 = .ok (.iload 4, 2) := by decide +kernel
theorem dL_law_439 : decode cL_law 439 = .ok (.iconst 1, 1) := by decide +kernel
theorem dL_law_440 : decode cL_law 440 = .ok (.iadd, 1) := by decide +kernel
theorem dL_law_441 : decode cL_law 441 = .ok (.iaload, 1) := by decide +kernel
theorem dL_law_442 : decode cL_law 442 = .ok (.aload_n 0, 1) := by decide +kernel
theorem dL_law_443 : decode cL_law 443 = .ok (.iload 4, 2) := by decide +kernel
