theorem dX7_init_0 : decode cX7_init 0 = .ok (.aload_n 0, 1) := by decide +kernel
theorem dX7_init_1 : decode cX7_init 1 = .ok (.invokespecial 1, 3) := by decide +kernel
theorem dX7_init_4 : decode cX7_init 4 = .ok (.aload_n 0, 1) := by decide +kernel
theorem dX7_init_5 : decode cX7_init 5 = .ok (.ldc 7, 2) := by decide +kernel
theorem dX7_init_7 : decode cX7_init 7 = .ok (.newarray .long, 2) := by decide +kernel
theorem dX7_init_9 : decode cX7_init 9 = .ok (.putfield 8, 3) := by decide +kernel
theorem dX7_init_12 : decode cX7_init 12 = .ok (.aload_n 0, 1) := by decide +kernel
theorem dX7_init_13 : decode cX7_init 13 = .ok (.ldc 7, 2) := by decide +kernel
theorem dX7_init_15 : decode cX7_init 15 = .ok (.newarray .long, 2) := by decide +kernel
theorem dX7_init_17 : decode cX7_init 17 = .ok (.putfield 14, 3) := by decide +kernel
theorem dX7_init_20 : decode cX7_init 20 = .ok (.aload_n 0, 1) := by decide +kernel
theorem dX7_init_21 : decode cX7_init 21 = .ok (.ldc 7, 2) := by decide +kernel
theorem dX7_init_23 : decode cX7_init 23 = .ok (.newarray .long, 2) := by decide +kernel
theorem dX7_init_25 : decode cX7_init 25 = .ok (.putfield 17, 3) := by decide +kernel
theorem dX7_init_28 : decode cX7_init 28 = .ok (.aload_n 0, 1) := by decide +kernel
theorem dX7_init_29 : decode cX7_init 29 = .ok (.getfield 8, 3) := by decide +kernel
theorem dX7_init_32 : decode cX7_init 32 = .ok (.iconst 1, 1) := by decide +kernel
theorem dX7_init_33 : decode cX7_init 33 = .ok (.iload_n 1, 1) := by decide +kernel
theorem dX7_init_34 : decode cX7_init 34 = .ok (.iconst 2, 1) := by decide +kernel
theorem dX7_init_35 : decode cX7_init 35 = .ok (.if_icmp .ge 9, 3) := by decide +kernel
theorem dX7_init_38 : decode cX7_init 38 = .ok (.ldc2_w 20, 3) := by decide +kernel
theorem dX7_init_41 : decode cX7_init 41 = .ok (.goto 17, 3) := by decide +kernel
theorem dX7_init_44 : decode cX7_init 44 = .ok (.iload_n 1, 1) := by decide +kernel
theorem dX7_init_45 : decode cX7_init 45 = .ok (.bipush 10, 2) := by decide +kernel
theorem dX7_init_47 : decode cX7_init 47 = .ok (.if_icmp .le 9, 3) := by decide +kernel
theorem dX7_init_50 : decode cX7_init 50 = .ok (.ldc2_w 22, 3) := by decide +kernel
theorem dX7_init_53 : decode cX7_init 53 = .ok (.goto 5, 3) := by decide +kernel
theorem dX7_init_56 : decode cX7_init 56 = .ok (.iload_n 1, 1) := by decide +kernel
theorem dX7_init_57 : decode cX7_init 57 = .ok (.i2l, 1) := by decide +kernel
theorem dX7_init_58 : decode cX7_init 58 = .ok (.lastore, 1) := by decide +kernel
theorem dX7_init_59 : decode cX7_init 59 = .ok (.aload_n 0, 1) := by decide +kernel
theorem dX7_init_60 : decode cX7_init 60 = .ok (.getfield 8, 3) := by decide +kernel
theorem dX7_init_63 : decode cX7_init 63 = .ok (.bipush 11, 2) := by decide +kernel
theorem dX7_init_65 : decode cX7_init 65 = .ok (.ldc2_w 24, 3) := by decide +kernel
theorem dX7_init_68 : decode cX7_init 68 = .ok (.lastore, 1) := by decide +kernel
theorem dX7_init_69 : decode cX7_init 69 = .ok (.iconst 0, 1) := by decide +kernel
theorem dX7_init_70 : decode cX7_init 70 = .ok (.istore_n 2, 1) := by decide +kernel
theorem dX7_init_71 : decode cX7_init 71 = .ok (.iload_n 2, 1) := by decide +kernel
theorem dX7_init_72 : decode cX7_init 72 = .ok (.bipush 10, 2) := by decide +kernel
theorem dX7_init_74 : decode cX7_init 74 = .ok (.if_icmp .ge 33, 3) := by decide +kernel
theorem dX7_init_77 : decode cX7_init 77 = .ok (.aload_n 0, 1) := by decide +kernel
theorem dX7_init_78 : decode cX7_init 78 = .ok (.getfield 8, 3) := by decide +kernel
theorem dX7_init_81 : decode cX7_init 81 = .ok (.bipush 20, 2) := by decide +kernel
theorem dX7_init_83 : decode cX7_init 83 = .ok (.iload_n 2, 1) := by decide +kernel
theorem dX7_init_84 : decode cX7_init 84 = .ok (.iadd, 1) := by decide +kernel
theorem dX7_init_85 : decode cX7_init 85 = .ok (.ldc2_w 24, 3) := by decide +kernel
theorem dX7_init_88 : decode cX7_init 88 = .ok (.lastore, 1) := by decide +kernel
theorem dX7_init_89 : decode cX7_init 89 = .ok (.aload_n 0, 1) := by decide +kernel
theorem dX7_init_90 : decode cX7_init 90 = .ok (.getfield 8, 3) := by decide +kernel
theorem dX7_init_93 : decode cX7_init 93 = .ok (.bipush 30, 2) := by decide +kernel
theorem dX7_init_95 : decode cX7_init 95 = .ok (.iload_n 2, 1) := by decide +kernel
theorem dX7_init_96 : decode cX7_init 96 = .ok (.iadd, 1) := by decide +kernel
theorem dX7_init_97 : decode cX7_init 97 = .ok (.ldc2_w 24, 3) := by decide +kernel
theorem dX7_init_100 : decode cX7_init 100 = .ok (.lastore, 1) := by decide +kernel
theorem dX7_init_101 : decode cX7_init 101 = .ok (.iinc 2 1, 3) := by decide +kernel
theorem dX7_init_104 : decode cX7_init 104 = .ok (.goto (-33), 3) := by decide +kernel
theorem dX7_init_107 : decode cX7_init 107 = .ok (.aload_n 0, 1) := by decide +kernel
theorem dX7_init_108 : decode cX7_init 108 = .ok (.getfield 8, 3) := by decide +kernel
theorem dX7_init_111 : decode cX7_init 111 = .ok (.bipush 40, 2) := by decide +kernel
theorem dX7_init_113 : decode cX7_init 113 = .ok (.ldc2_w 26, 3) := by decide +kernel
theorem dX7_init_116 : decode cX7_init 116 = .ok (.lastore, 1) := by decide +kernel
theorem dX7_init_117 : decode cX7_init 117 = .ok (.aload_n 0, 1) := by decide +kernel
theorem dX7_init_118 : decode cX7_init 118 = .ok (.getfield 8, 3) := by decide +kernel
theorem dX7_init_121 : decode cX7_init 121 = .ok (.bipush 41, 2) := by decide +kernel
theorem dX7_init_123 : decode cX7_init 123 = .ok (.lconst 1, 1) := by decide +kernel
theorem dX7_init_124 : decode cX7_init 124 = .ok (.lastore, 1) := by decide +kernel
theorem dX7_init_125 : decode cX7_init 125 = .ok (.aload_n 0, 1) := by decide +kernel
theorem dX7_init_126 : decode cX7_init 126 = .ok (.getfield 8, 3) := by decide +kernel
theorem dX7_init_129 : decode cX7_init 129 = .ok (.bipush 42, 2) := by decide +kernel
theorem dX7_init_131 : decode cX7_init 131 = .ok (.ldc2_w 20, 3) := by decide +kernel
theorem dX7_init_134 : decode cX7_init 134 = .ok (.lastore, 1) := by decide +kernel
theorem dX7_init_135 : decode cX7_init 135 = .ok (.aload_n 0, 1) := by decide +kernel
theorem dX7_init_136 : decode cX7_init 136 = .ok (.getfield 8, 3) := by decide +kernel
theorem dX7_init_139 : decode cX7_init 139 = .ok (.bipush 43, 2) := by decide +kernel
theorem dX7_init_141 : decode cX7_init 141 = .ok (.ldc2_w 28, 3) := by decide +kernel
theorem dX7_init_144 : decode cX7_init 144 = .ok (.lastore, 1) := by decide +kernel
theorem dX7_init_145 : decode cX7_init 145 = .ok (.aload_n 0, 1) := by decide +kernel
theorem dX7_init_146 : decode cX7_init 146 = .ok (.getfield 8, 3) := by decide +kernel
theorem dX7_init_149 : decode cX7_init 149 = .ok (.bipush 44, 2) := by decide +kernel
theorem dX7_init_151 : decode cX7_init 151 = .ok (.ldc2_w 22, 3) := by decide +kernel
theorem dX7_init_154 : decode cX7_init 154 = .ok (.lastore, 1) := by decide +kernel
theorem dX7_init_155 : decode cX7_init 155 = .ok (.aload_n 0, 1) := by decide +kernel
theorem dX7_init_156 : decode cX7_init 156 = .ok (.getfield 8, 3) := by decide +kernel
theorem dX7_init_159 : decode cX7_init 159 = .ok (.bipush 45, 2) := by decide +kernel
theorem dX7_init_161 : decode cX7_init 161 = .ok (.ldc2_w 20, 3) := by decide +kernel
theorem dX7_init_164 : decode cX7_init 164 = .ok (.lastore, 1) := by decide +kernel
theorem dX7_init_165 : decode cX7_init 165 = .ok (.aload_n 0, 1) := by decide +kernel
theorem dX7_init_166 : decode cX7_init 166 = .ok (.getfield 8, 3) := by decide +kernel
theorem dX7_init_169 : decode cX7_init 169 = .ok (.bipush 46, 2) := by decide +kernel
theorem dX7_init_171 : decode cX7_init 171 = .ok (.ldc2_w 30, 3) := by decide +kernel
theorem dX7_init_174 : decode cX7_init 174 = .ok (.lastore, 1) := by decide +kernel
theorem dX7_init_175 : decode cX7_init 175 = .ok (.aload_n 0, 1) := by decide +kernel
theorem dX7_init_176 : decode cX7_init 176 = .ok (.getfield 8, 3) := by decide +kernel
theorem dX7_init_179 : decode cX7_init 179 = .ok (.bipush 47, 2) := by decide +kernel
theorem dX7_init_181 : decode cX7_init 181 = .ok (.ldc2_w 32, 3) := by decide +kernel
theorem dX7_init_184 : decode cX7_init 184 = .ok (.lastore, 1) := by decide +kernel
theorem dX7_init_185 : decode cX7_init 185 = .ok (.return_, 1) := by decide +kernel
theorem dX7_thrown_0 : decode cX7_thrown 0 = .ok (.aload_n 0, 1) := by decide +kernel
theorem dX7_thrown_1 : decode cX7_thrown 1 = .ok (.getfield 34, 3) := by decide +kernel
theorem dX7_thrown_4 : decode cX7_thrown 4 = .ok (.ireturn, 1) := by decide +kernel
theorem dX7_in_0 : decode cX7_in 0 = .ok (.lload_n 0, 1) := by decide +kernel
theorem dX7_in_1 : decode cX7_in 1 = .ok (.lload_n 2, 1) := by decide +kernel
theorem dX7_in_2 : decode cX7_in 2 = .ok (.lcmp, 1) := by decide +kernel
theorem dX7_in_3 : decode cX7_in 3 = .ok (.ifCond .lt 14, 3) := by decide +kernel
theorem dX7_in_6 : decode cX7_in 6 = .ok (.lload_n 0, 1) := by decide +kernel
theorem dX7_in_7 : decode cX7_in 7 = .ok (.lload 4, 2) := by decide +kernel
theorem dX7_in_9 : decode cX7_in 9 = .ok (.lcmp, 1) := by decide +kernel
theorem dX7_in_10 : decode cX7_in 10 = .ok (.ifCond .gt 7, 3) := by decide +kernel
theorem dX7_in_13 : decode cX7_in 13 = .ok (.iconst 1, 1) := by decide +kernel
theorem dX7_in_14 : decode cX7_in 14 = .ok (.goto 4, 3) := by decide +kernel
theorem dX7_in_17 : decode cX7_in 17 = .ok (.iconst 0, 1) := by decide +kernel
theorem dX7_in_18 : decode cX7_in 18 = .ok (.ireturn, 1) := by decide +kernel
theorem dX7_fails_0 : decode cX7_fails 0 = .ok (.aload_n 0, 1) := by decide +kernel
theorem dX7_fails_1 : decode cX7_fails 1 = .ok (.iload_n 1, 1) := by decide +kernel
theorem dX7_fails_2 : decode cX7_fails 2 = .ok (.putfield 34, 3) := by decide +kernel
theorem dX7_fails_5 : decode cX7_fails 5 = .ok (.iconst 0, 1) := by decide +kernel
theorem dX7_fails_6 : decode cX7_fails 6 = .ok (.ireturn, 1) := by decide +kernel
theorem dX7_isNode_0 : decode cX7_isNode 0 = .ok (.iload_n 1, 1) := by decide +kernel
theorem dX7_isNode_1 : decode cX7_isNode 1 = .ok (.i2l, 1) := by decide +kernel
theorem dX7_isNode_2 : decode cX7_isNode 2 = .ok (.lconst 0, 1) := by decide +kernel
theorem dX7_isNode_3 : decode cX7_isNode 3 = .ok (.aload_n 0, 1) := by decide +kernel
theorem dX7_isNode_4 : decode cX7_isNode 4 = .ok (.getfield 8, 3) := by decide +kernel
theorem dX7_isNode_7 : decode cX7_isNode 7 = .ok (.iconst 1, 1) := by decide +kernel
theorem dX7_isNode_8 : decode cX7_isNode 8 = .ok (.laload, 1) := by decide +kernel
theorem dX7_isNode_9 : decode cX7_isNode 9 = .ok (.lconst 1, 1) := by decide +kernel
theorem dX7_isNode_10 : decode cX7_isNode 10 = .ok (.lsub, 1) := by decide +kernel
theorem dX7_isNode_11 : decode cX7_isNode 11 = .ok (.invokestatic 38, 3) := by decide +kernel
theorem dX7_isNode_14 : decode cX7_isNode 14 = .ok (.ireturn, 1) := by decide +kernel
theorem dX7_entry_0 : decode cX7_entry 0 = .ok (.sipush 200, 3) := by decide +kernel
theorem dX7_entry_3 : decode cX7_entry 3 = .ok (.bipush 8, 2) := by decide +kernel
theorem dX7_entry_5 : decode cX7_entry 5 = .ok (.bipush 10, 2) := by decide +kernel
theorem dX7_entry_7 : decode cX7_entry 7 = .ok (.iload_n 0, 1) := by decide +kernel
theorem dX7_entry_8 : decode cX7_entry 8 = .ok (.imul, 1) := by decide +kernel
theorem dX7_entry_9 : decode cX7_entry 9 = .ok (.iload_n 1, 1) := by decide +kernel
theorem dX7_entry_10 : decode cX7_entry 10 = .ok (.iadd, 1) := by decide +kernel
theorem dX7_entry_11 : decode cX7_entry 11 = .ok (.imul, 1) := by decide +kernel
theorem dX7_entry_12 : decode cX7_entry 12 = .ok (.iadd, 1) := by decide +kernel
theorem dX7_entry_13 : decode cX7_entry 13 = .ok (.ireturn, 1) := by decide +kernel
theorem dX7_search_0 : decode cX7_search 0 = .ok (.sipush 1000, 3) := by decide +kernel
theorem dX7_search_3 : decode cX7_search 3 = .ok (.iconst 4, 1) := by decide +kernel
theorem dX7_search_4 : decode cX7_search 4 = .ok (.bipush 10, 2) := by decide +kernel
theorem dX7_search_6 : decode cX7_search 6 = .ok (.iload_n 0, 1) := by decide +kernel
theorem dX7_search_7 : decode cX7_search 7 = .ok (.imul, 1) := by decide +kernel
theorem dX7_search_8 : decode cX7_search 8 = .ok (.iload_n 1, 1) := by decide +kernel
theorem dX7_search_9 : decode cX7_search 9 = .ok (.iadd, 1) := by decide +kernel
theorem dX7_search_10 : decode cX7_search 10 = .ok (.imul, 1) := by decide +kernel
theorem dX7_search_11 : decode cX7_search 11 = .ok (.iadd, 1) := by decide +kernel
theorem dX7_search_12 : decode cX7_search 12 = .ok (.ireturn, 1) := by decide +kernel
theorem dX7_buffer_0 : decode cX7_buffer 0 = .ok (.sipush 1400, 3) := by decide +kernel
theorem dX7_buffer_3 : decode cX7_buffer 3 = .ok (.bipush 9, 2) := by decide +kernel
theorem dX7_buffer_5 : decode cX7_buffer 5 = .ok (.bipush 10, 2) := by decide +kernel
theorem dX7_buffer_7 : decode cX7_buffer 7 = .ok (.iload_n 0, 1) := by decide +kernel
theorem dX7_buffer_8 : decode cX7_buffer 8 = .ok (.imul, 1) := by decide +kernel
theorem dX7_buffer_9 : decode cX7_buffer 9 = .ok (.iload_n 1, 1) := by decide +kernel
theorem dX7_buffer_10 : decode cX7_buffer 10 = .ok (.iadd, 1) := by decide +kernel
theorem dX7_buffer_11 : decode cX7_buffer 11 = .ok (.imul, 1) := by decide +kernel
theorem dX7_buffer_12 : decode cX7_buffer 12 = .ok (.iadd, 1) := by decide +kernel
theorem dX7_buffer_13 : decode cX7_buffer 13 = .ok (.ireturn, 1) := by decide +kernel
theorem dX7_packet_0 : decode cX7_packet 0 = .ok (.sipush 2300, 3) := by decide +kernel
theorem dX7_packet_3 : decode cX7_packet 3 = .ok (.bipush 8, 2) := by decide +kernel
theorem dX7_packet_5 : decode cX7_packet 5 = .ok (.iload_n 0, 1) := by decide +kernel
theorem dX7_packet_6 : decode cX7_packet 6 = .ok (.imul, 1) := by decide +kernel
theorem dX7_packet_7 : decode cX7_packet 7 = .ok (.iadd, 1) := by decide +kernel
theorem dX7_packet_8 : decode cX7_packet 8 = .ok (.ireturn, 1) := by decide +kernel
theorem dX7_fresh_0 : decode cX7_fresh 0 = .ok (.aload_n 0, 1) := by decide +kernel
theorem dX7_fresh_1 : decode cX7_fresh 1 = .ok (.getfield 8, 3) := by decide +kernel
theorem dX7_fresh_4 : decode cX7_fresh 4 = .ok (.iconst 0, 1) := by decide +kernel
theorem dX7_fresh_5 : decode cX7_fresh 5 = .ok (.laload, 1) := by decide +kernel
theorem dX7_fresh_6 : decode cX7_fresh 6 = .ok (.aload_n 0, 1) := by decide +kernel
theorem dX7_fresh_7 : decode cX7_fresh 7 = .ok (.getfield 8, 3) := by decide +kernel
theorem dX7_fresh_10 : decode cX7_fresh 10 = .ok (.bipush 40, 2) := by decide +kernel
theorem dX7_fresh_12 : decode cX7_fresh 12 = .ok (.laload, 1) := by decide +kernel
theorem dX7_fresh_13 : decode cX7_fresh 13 = .ok (.ladd, 1) := by decide +kernel
theorem dX7_fresh_14 : decode cX7_fresh 14 = .ok (.lreturn, 1) := by decide +kernel
theorem dX7_isUp_0 : decode cX7_isUp 0 = .ok (.aload_n 0, 1) := by decide +kernel
theorem dX7_isUp_1 : decode cX7_isUp 1 = .ok (.getfield 8, 3) := by decide +kernel
theorem dX7_isUp_4 : decode cX7_isUp 4 = .ok (.bipush 100, 2) := by decide +kernel
theorem dX7_isUp_6 : decode cX7_isUp 6 = .ok (.bipush 10, 2) := by decide +kernel
theorem dX7_isUp_8 : decode cX7_isUp 8 = .ok (.iload_n 1, 1) := by decide +kernel
theorem dX7_isUp_9 : decode cX7_isUp 9 = .ok (.imul, 1) := by decide +kernel
theorem dX7_isUp_10 : decode cX7_isUp 10 = .ok (.iadd, 1) := by decide +kernel
theorem dX7_isUp_11 : decode cX7_isUp 11 = .ok (.iload_n 2, 1) := by decide +kernel
theorem dX7_isUp_12 : decode cX7_isUp 12 = .ok (.iadd, 1) := by decide +kernel
theorem dX7_isUp_13 : decode cX7_isUp 13 = .ok (.laload, 1) := by decide +kernel
theorem dX7_isUp_14 : decode cX7_isUp 14 = .ok (.lconst 0, 1) := by decide +kernel
theorem dX7_isUp_15 : decode cX7_isUp 15 = .ok (.lcmp, 1) := by decide +kernel
theorem dX7_isUp_16 : decode cX7_isUp 16 = .ok (.ifCond .le 7, 3) := by decide +kernel
theorem dX7_isUp_19 : decode cX7_isUp 19 = .ok (.iconst 1, 1) := by decide +kernel
theorem dX7_isUp_20 : decode cX7_isUp 20 = .ok (.goto 4, 3) := by decide +kernel
theorem dX7_isUp_23 : decode cX7_isUp 23 = .ok (.iconst 0, 1) := by decide +kernel
theorem dX7_isUp_24 : decode cX7_isUp 24 = .ok (.ireturn, 1) := by decide +kernel
theorem dX7_isGood_0 : decode cX7_isGood 0 = .ok (.iload_n 1, 1) := by decide +kernel
theorem dX7_isGood_1 : decode cX7_isGood 1 = .ok (.iload_n 2, 1) := by decide +kernel
theorem dX7_isGood_2 : decode cX7_isGood 2 = .ok (.invokestatic 42, 3) := by decide +kernel
theorem dX7_isGood_5 : decode cX7_isGood 5 = .ok (.istore_n 3, 1) := by decide +kernel
theorem dX7_isGood_6 : decode cX7_isGood 6 = .ok (.iload_n 1, 1) := by decide +kernel
theorem dX7_isGood_7 : decode cX7_isGood 7 = .ok (.iload_n 2, 1) := by decide +kernel
theorem dX7_isGood_8 : decode cX7_isGood 8 = .ok (.if_icmp .eq 52, 3) := by decide +kernel
theorem dX7_isGood_11 : decode cX7_isGood 11 = .ok (.aload_n 0, 1) := by decide +kernel
theorem dX7_isGood_12 : decode cX7_isGood 12 = .ok (.getfield 8, 3) := by decide +kernel
theorem dX7_isGood_15 : decode cX7_isGood 15 = .ok (.iload_n 3, 1) := by decide +kernel
theorem dX7_isGood_16 : decode cX7_isGood 16 = .ok (.iconst 0, 1) := by decide +kernel
theorem dX7_isGood_17 : decode cX7_isGood 17 = .ok (.iadd, 1) := by decide +kernel
theorem dX7_isGood_18 : decode cX7_isGood 18 = .ok (.laload, 1) := by decide +kernel
theorem dX7_isGood_19 : decode cX7_isGood 19 = .ok (.lconst 1, 1) := by decide +kernel
theorem dX7_isGood_20 : decode cX7_isGood 20 = .ok (.lcmp, 1) := by decide +kernel
theorem dX7_isGood_21 : decode cX7_isGood 21 = .ok (.ifCond .ne 39, 3) := by decide +kernel
theorem dX7_isGood_24 : decode cX7_isGood 24 = .ok (.aload_n 0, 1) := by decide +kernel
theorem dX7_isGood_25 : decode cX7_isGood 25 = .ok (.getfield 8, 3) := by decide +kernel
theorem dX7_isGood_28 : decode cX7_isGood 28 = .ok (.iload_n 3, 1) := by decide +kernel
theorem dX7_isGood_29 : decode cX7_isGood 29 = .ok (.bipush 6, 2) := by decide +kernel
theorem dX7_isGood_31 : decode cX7_isGood 31 = .ok (.iadd, 1) := by decide +kernel
theorem dX7_isGood_32 : decode cX7_isGood 32 = .ok (.laload, 1) := by decide +kernel
theorem dX7_isGood_33 : decode cX7_isGood 33 = .ok (.lconst 1, 1) := by decide +kernel
theorem dX7_isGood_34 : decode cX7_isGood 34 = .ok (.lcmp, 1) := by decide +kernel
theorem dX7_isGood_35 : decode cX7_isGood 35 = .ok (.ifCond .ne 25, 3) := by decide +kernel
theorem dX7_isGood_38 : decode cX7_isGood 38 = .ok (.aload_n 0, 1) := by decide +kernel
theorem dX7_isGood_39 : decode cX7_isGood 39 = .ok (.getfield 8, 3) := by decide +kernel
theorem dX7_isGood_42 : decode cX7_isGood 42 = .ok (.iload_n 3, 1) := by decide +kernel
theorem dX7_isGood_43 : decode cX7_isGood 43 = .ok (.iconst 4, 1) := by decide +kernel
theorem dX7_isGood_44 : decode cX7_isGood 44 = .ok (.iadd, 1) := by decide +kernel
theorem dX7_isGood_45 : decode cX7_isGood 45 = .ok (.laload, 1) := by decide +kernel
theorem dX7_isGood_46 : decode cX7_isGood 46 = .ok (.aload_n 0, 1) := by decide +kernel
theorem dX7_isGood_47 : decode cX7_isGood 47 = .ok (.getfield 8, 3) := by decide +kernel
theorem dX7_isGood_50 : decode cX7_isGood 50 = .ok (.iconst 0, 1) := by decide +kernel
theorem dX7_isGood_51 : decode cX7_isGood 51 = .ok (.laload, 1) := by decide +kernel
theorem dX7_isGood_52 : decode cX7_isGood 52 = .ok (.lcmp, 1) := by decide +kernel
theorem dX7_isGood_53 : decode cX7_isGood 53 = .ok (.ifCond .le 7, 3) := by decide +kernel
theorem dX7_isGood_56 : decode cX7_isGood 56 = .ok (.iconst 1, 1) := by decide +kernel
theorem dX7_isGood_57 : decode cX7_isGood 57 = .ok (.goto 4, 3) := by decide +kernel
theorem dX7_isGood_60 : decode cX7_isGood 60 = .ok (.iconst 0, 1) := by decide +kernel
theorem dX7_isGood_61 : decode cX7_isGood 61 = .ok (.ireturn, 1) := by decide +kernel
theorem dX7_part_0 : decode cX7_part 0 = .ok (.lload_n 0, 1) := by decide +kernel
theorem dX7_part_1 : decode cX7_part 1 = .ok (.iload_n 2, 1) := by decide +kernel
theorem dX7_part_2 : decode cX7_part 2 = .ok (.lshr, 1) := by decide +kernel
theorem dX7_part_3 : decode cX7_part 3 = .ok (.lconst 1, 1) := by decide +kernel
theorem dX7_part_4 : decode cX7_part 4 = .ok (.iload_n 3, 1) := by decide +kernel
theorem dX7_part_5 : decode cX7_part 5 = .ok (.lshl, 1) := by decide +kernel
theorem dX7_part_6 : decode cX7_part 6 = .ok (.lconst 1, 1) := by decide +kernel
theorem dX7_part_7 : decode cX7_part 7 = .ok (.lsub, 1) := by decide +kernel
theorem dX7_part_8 : decode cX7_part 8 = .ok (.land, 1) := by decide +kernel
theorem dX7_part_9 : decode cX7_part 9 = .ok (.lreturn, 1) := by decide +kernel
theorem dX7_headOf_0 : decode cX7_headOf 0 = .ok (.lload_n 0, 1) := by decide +kernel
theorem dX7_headOf_1 : decode cX7_headOf 1 = .ok (.bipush 37, 2) := by decide +kernel
theorem dX7_headOf_3 : decode cX7_headOf 3 = .ok (.lshl, 1) := by decide +kernel
theorem dX7_headOf_4 : decode cX7_headOf 4 = .ok (.lload_n 2, 1) := by decide +kernel
theorem dX7_headOf_5 : decode cX7_headOf 5 = .ok (.bipush 41, 2) := by decide +kernel
theorem dX7_headOf_7 : decode cX7_headOf 7 = .ok (.lshl, 1) := by decide +kernel
theorem dX7_headOf_8 : decode cX7_headOf 8 = .ok (.lor, 1) := by decide +kernel
theorem dX7_headOf_9 : decode cX7_headOf 9 = .ok (.lload 4, 2) := by decide +kernel
theorem dX7_headOf_11 : decode cX7_headOf 11 = .ok (.bipush 45, 2) := by decide +kernel
theorem dX7_headOf_13 : decode cX7_headOf 13 = .ok (.lshl, 1) := by decide +kernel
theorem dX7_headOf_14 : decode cX7_headOf 14 = .ok (.lor, 1) := by decide +kernel
theorem dX7_headOf_15 : decode cX7_headOf 15 = .ok (.lload 6, 2) := by decide +kernel
theorem dX7_headOf_17 : decode cX7_headOf 17 = .ok (.bipush 57, 2) := by decide +kernel
theorem dX7_headOf_19 : decode cX7_headOf 19 = .ok (.lshl, 1) := by decide +kernel
theorem dX7_headOf_20 : decode cX7_headOf 20 = .ok (.lor, 1) := by decide +kernel
theorem dX7_headOf_21 : decode cX7_headOf 21 = .ok (.lreturn, 1) := by decide +kernel
theorem dX7_nextArrival_0 : decode cX7_nextArrival 0 = .ok (.iconst 0, 1) := by decide +kernel
theorem dX7_nextArrival_1 : decode cX7_nextArrival 1 = .ok (.istore_n 1, 1) := by decide +kernel
theorem dX7_nextArrival_2 : decode cX7_nextArrival 2 = .ok (.iload_n 1, 1) := by decide +kernel
theorem dX7_nextArrival_3 : decode cX7_nextArrival 3 = .ok (.bipush 10, 2) := by decide +kernel
theorem dX7_nextArrival_5 : decode cX7_nextArrival 5 = .ok (.if_icmp .ge 48, 3) := by decide +kernel
theorem dX7_nextArrival_8 : decode cX7_nextArrival 8 = .ok (.aload_n 0, 1) := by decide +kernel
theorem dX7_nextArrival_9 : decode cX7_nextArrival 9 = .ok (.getfield 8, 3) := by decide +kernel
theorem dX7_nextArrival_12 : decode cX7_nextArrival 12 = .ok (.bipush 20, 2) := by decide +kernel
theorem dX7_nextArrival_14 : decode cX7_nextArrival 14 = .ok (.aload_n 0, 1) := by decide +kernel
theorem dX7_nextArrival_15 : decode cX7_nextArrival 15 = .ok (.getfield 8, 3) := by decide +kernel
theorem dX7_nextArrival_18 : decode cX7_nextArrival 18 = .ok (.iconst 0, 1) := by decide +kernel
theorem dX7_nextArrival_19 : decode cX7_nextArrival 19 = .ok (.laload, 1) := by decide +kernel
theorem dX7_nextArrival_20 : decode cX7_nextArrival 20 = .ok (.iload_n 1, 1) := by decide +kernel
theorem dX7_nextArrival_21 : decode cX7_nextArrival 21 = .ok (.i2l, 1) := by decide +kernel
theorem dX7_nextArrival_22 : decode cX7_nextArrival 22 = .ok (.ladd, 1) := by decide +kernel
theorem dX7_nextArrival_23 : decode cX7_nextArrival 23 = .ok (.ldc2_w 22, 3) := by decide +kernel
theorem dX7_nextArrival_26 : decode cX7_nextArrival 26 = .ok (.lrem, 1) := by decide +kernel
theorem dX7_nextArrival_27 : decode cX7_nextArrival 27 = .ok (.l2i, 1) := by decide +kernel
theorem dX7_nextArrival_28 : decode cX7_nextArrival 28 = .ok (.iadd, 1) := by decide +kernel
theorem dX7_nextArrival_29 : decode cX7_nextArrival 29 = .ok (.laload, 1) := by decide +kernel
theorem dX7_nextArrival_30 : decode cX7_nextArrival 30 = .ok (.ldc2_w 24, 3) := by decide +kernel
theorem dX7_nextArrival_33 : decode cX7_nextArrival 33 = .ok (.lcmp, 1) := by decide +kernel
theorem dX7_nextArrival_34 : decode cX7_nextArrival 34 = .ok (.ifCond .eq 13, 3) := by decide +kernel
theorem dX7_nextArrival_37 : decode cX7_nextArrival 37 = .ok (.aload_n 0, 1) := by decide +kernel
theorem dX7_nextArrival_38 : decode cX7_nextArrival 38 = .ok (.getfield 8, 3) := by decide +kernel
theorem dX7_nextArrival_41 : decode cX7_nextArrival 41 = .ok (.iconst 0, 1) := by decide +kernel
theorem dX7_nextArrival_42 : decode cX7_nextArrival 42 = .ok (.laload, 1) := by decide +kernel
theorem dX7_nextArrival_43 : decode cX7_nextArrival 43 = .ok (.iload_n 1, 1) := by decide +kernel
theorem dX7_nextArrival_44 : decode cX7_nextArrival 44 = .ok (.i2l, 1) := by decide +kernel
theorem dX7_nextArrival_45 : decode cX7_nextArrival 45 = .ok (.ladd, 1) := by decide +kernel
theorem dX7_nextArrival_46 : decode cX7_nextArrival 46 = .ok (.lreturn, 1) := by decide +kernel
theorem dX7_nextArrival_47 : decode cX7_nextArrival 47 = .ok (.iinc 1 1, 3) := by decide +kernel
theorem dX7_nextArrival_50 : decode cX7_nextArrival 50 = .ok (.goto (-48), 3) := by decide +kernel
theorem dX7_nextArrival_53 : decode cX7_nextArrival 53 = .ok (.ldc2_w 24, 3) := by decide +kernel
theorem dX7_nextArrival_56 : decode cX7_nextArrival 56 = .ok (.lreturn, 1) := by decide +kernel
theorem dX7_seenAt_0 : decode cX7_seenAt 0 = .ok (.sipush 4000, 3) := by decide +kernel
theorem dX7_seenAt_3 : decode cX7_seenAt 3 = .ok (.sipush 128, 3) := by decide +kernel
theorem dX7_seenAt_6 : decode cX7_seenAt 6 = .ok (.bipush 10, 2) := by decide +kernel
theorem dX7_seenAt_8 : decode cX7_seenAt 8 = .ok (.iload_n 0, 1) := by decide +kernel
theorem dX7_seenAt_9 : decode cX7_seenAt 9 = .ok (.imul, 1) := by decide +kernel
theorem dX7_seenAt_10 : decode cX7_seenAt 10 = .ok (.iload_n 1, 1) := by decide +kernel
theorem dX7_seenAt_11 : decode cX7_seenAt 11 = .ok (.iadd, 1) := by decide +kernel
theorem dX7_seenAt_12 : decode cX7_seenAt 12 = .ok (.imul, 1) := by decide +kernel
theorem dX7_seenAt_13 : decode cX7_seenAt 13 = .ok (.iadd, 1) := by decide +kernel
theorem dX7_seenAt_14 : decode cX7_seenAt 14 = .ok (.lload_n 2, 1) := by decide +kernel
theorem dX7_seenAt_15 : decode cX7_seenAt 15 = .ok (.bipush 6, 2) := by decide +kernel
theorem dX7_seenAt_17 : decode cX7_seenAt 17 = .ok (.lshr, 1) := by decide +kernel
theorem dX7_seenAt_18 : decode cX7_seenAt 18 = .ok (.ldc2_w 66, 3) := by decide +kernel
theorem dX7_seenAt_21 : decode cX7_seenAt 21 = .ok (.land, 1) := by decide +kernel
theorem dX7_seenAt_22 : decode cX7_seenAt 22 = .ok (.l2i, 1) := by decide +kernel
theorem dX7_seenAt_23 : decode cX7_seenAt 23 = .ok (.iadd, 1) := by decide +kernel
theorem dX7_seenAt_24 : decode cX7_seenAt 24 = .ok (.ireturn, 1) := by decide +kernel
theorem dX7_remembers_0 : decode cX7_remembers 0 = .ok (.aload_n 0, 1) := by decide +kernel
theorem dX7_remembers_1 : decode cX7_remembers 1 = .ok (.getfield 8, 3) := by decide +kernel
theorem dX7_remembers_4 : decode cX7_remembers 4 = .ok (.iload_n 1, 1) := by decide +kernel
theorem dX7_remembers_5 : decode cX7_remembers 5 = .ok (.iload_n 2, 1) := by decide +kernel
theorem dX7_remembers_6 : decode cX7_remembers 6 = .ok (.lload_n 3, 1) := by decide +kernel
theorem dX7_remembers_7 : decode cX7_remembers 7 = .ok (.invokestatic 68, 3) := by decide +kernel
theorem dX7_remembers_10 : decode cX7_remembers 10 = .ok (.dup2, 1) := by decide +kernel
theorem dX7_remembers_11 : decode cX7_remembers 11 = .ok (.laload, 1) := by decide +kernel
theorem dX7_remembers_12 : decode cX7_remembers 12 = .ok (.lconst 1, 1) := by decide +kernel
theorem dX7_remembers_13 : decode cX7_remembers 13 = .ok (.lload_n 3, 1) := by decide +kernel
theorem dX7_remembers_14 : decode cX7_remembers 14 = .ok (.ldc2_w 72, 3) := by decide +kernel
theorem dX7_remembers_17 : decode cX7_remembers 17 = .ok (.land, 1) := by decide +kernel
theorem dX7_remembers_18 : decode cX7_remembers 18 = .ok (.l2i, 1) := by decide +kernel
theorem dX7_remembers_19 : decode cX7_remembers 19 = .ok (.lshl, 1) := by decide +kernel
theorem dX7_remembers_20 : decode cX7_remembers 20 = .ok (.lor, 1) := by decide +kernel
theorem dX7_remembers_21 : decode cX7_remembers 21 = .ok (.lastore, 1) := by decide +kernel
theorem dX7_remembers_22 : decode cX7_remembers 22 = .ok (.return_, 1) := by decide +kernel
theorem dX7_begins_0 : decode cX7_begins 0 = .ok (.iconst 0, 1) := by decide +kernel
theorem dX7_begins_1 : decode cX7_begins 1 = .ok (.istore 4, 2) := by decide +kernel
theorem dX7_begins_3 : decode cX7_begins 3 = .ok (.iload 4, 2) := by decide +kernel
theorem dX7_begins_5 : decode cX7_begins 5 = .ok (.bipush 10, 2) := by decide +kernel
theorem dX7_begins_7 : decode cX7_begins 7 = .ok (.if_icmp .ge 36, 3) := by decide +kernel
theorem dX7_begins_10 : decode cX7_begins 10 = .ok (.aload_n 0, 1) := by decide +kernel
theorem dX7_begins_11 : decode cX7_begins 11 = .ok (.getfield 8, 3) := by decide +kernel
theorem dX7_begins_14 : decode cX7_begins 14 = .ok (.iload 4, 2) := by decide +kernel
theorem dX7_begins_16 : decode cX7_begins 16 = .ok (.iload_n 1, 1) := by decide +kernel
theorem dX7_begins_17 : decode cX7_begins 17 = .ok (.lload_n 2, 1) := by decide +kernel
theorem dX7_begins_18 : decode cX7_begins 18 = .ok (.invokestatic 68, 3) := by decide +kernel
theorem dX7_begins_21 : decode cX7_begins 21 = .ok (.dup2, 1) := by decide +kernel
theorem dX7_begins_22 : decode cX7_begins 22 = .ok (.laload, 1) := by decide +kernel
theorem dX7_begins_23 : decode cX7_begins 23 = .ok (.lconst 1, 1) := by decide +kernel
theorem dX7_begins_24 : decode cX7_begins 24 = .ok (.lload_n 2, 1) := by decide +kernel
theorem dX7_begins_25 : decode cX7_begins 25 = .ok (.ldc2_w 72, 3) := by decide +kernel
theorem dX7_begins_28 : decode cX7_begins 28 = .ok (.land, 1) := by decide +kernel
theorem dX7_begins_29 : decode cX7_begins 29 = .ok (.l2i, 1) := by decide +kernel
theorem dX7_begins_30 : decode cX7_begins 30 = .ok (.lshl, 1) := by decide +kernel
theorem dX7_begins_31 : decode cX7_begins 31 = .ok (.ldc2_w 24, 3) := by decide +kernel
theorem dX7_begins_34 : decode cX7_begins 34 = .ok (.lxor, 1) := by decide +kernel
theorem dX7_begins_35 : decode cX7_begins 35 = .ok (.land, 1) := by decide +kernel
theorem dX7_begins_36 : decode cX7_begins 36 = .ok (.lastore, 1) := by decide +kernel
theorem dX7_begins_37 : decode cX7_begins 37 = .ok (.iinc 4 1, 3) := by decide +kernel
theorem dX7_begins_40 : decode cX7_begins 40 = .ok (.goto (-37), 3) := by decide +kernel
theorem dX7_begins_43 : decode cX7_begins 43 = .ok (.aload_n 0, 1) := by decide +kernel
theorem dX7_begins_44 : decode cX7_begins 44 = .ok (.iload_n 1, 1) := by decide +kernel
theorem dX7_begins_45 : decode cX7_begins 45 = .ok (.iload_n 1, 1) := by decide +kernel
theorem dX7_begins_46 : decode cX7_begins 46 = .ok (.lload_n 2, 1) := by decide +kernel
theorem dX7_begins_47 : decode cX7_begins 47 = .ok (.invokevirtual 74, 3) := by decide +kernel
theorem dX7_begins_50 : decode cX7_begins 50 = .ok (.return_, 1) := by decide +kernel
theorem dX7_ends_0 : decode cX7_ends 0 = .ok (.aload_n 0, 1) := by decide +kernel
theorem dX7_ends_1 : decode cX7_ends 1 = .ok (.getfield 8, 3) := by decide +kernel
theorem dX7_ends_4 : decode cX7_ends 4 = .ok (.iload_n 1, 1) := by decide +kernel
theorem dX7_ends_5 : decode cX7_ends 5 = .ok (.invokestatic 91, 3) := by decide +kernel
theorem dX7_ends_8 : decode cX7_ends 8 = .ok (.iconst 2, 1) := by decide +kernel
theorem dX7_ends_9 : decode cX7_ends 9 = .ok (.iadd, 1) := by decide +kernel
theorem dX7_ends_10 : decode cX7_ends 10 = .ok (.iload_n 2, 1) := by decide +kernel
theorem dX7_ends_11 : decode cX7_ends 11 = .ok (.i2l, 1) := by decide +kernel
theorem dX7_ends_12 : decode cX7_ends 12 = .ok (.lastore, 1) := by decide +kernel
theorem dX7_ends_13 : decode cX7_ends 13 = .ok (.aload_n 0, 1) := by decide +kernel
theorem dX7_ends_14 : decode cX7_ends 14 = .ok (.getfield 8, 3) := by decide +kernel
theorem dX7_ends_17 : decode cX7_ends 17 = .ok (.iload_n 1, 1) := by decide +kernel
theorem dX7_ends_18 : decode cX7_ends 18 = .ok (.invokestatic 91, 3) := by decide +kernel
theorem dX7_ends_21 : decode cX7_ends 21 = .ok (.iconst 3, 1) := by decide +kernel
theorem dX7_ends_22 : decode cX7_ends 22 = .ok (.iadd, 1) := by decide +kernel
theorem dX7_ends_23 : decode cX7_ends 23 = .ok (.iload_n 3, 1) := by decide +kernel
theorem dX7_ends_24 : decode cX7_ends 24 = .ok (.i2l, 1) := by decide +kernel
theorem dX7_ends_25 : decode cX7_ends 25 = .ok (.lastore, 1) := by decide +kernel
theorem dX7_ends_26 : decode cX7_ends 26 = .ok (.aload_n 0, 1) := by decide +kernel
theorem dX7_ends_27 : decode cX7_ends 27 = .ok (.getfield 8, 3) := by decide +kernel
theorem dX7_ends_30 : decode cX7_ends 30 = .ok (.iload_n 1, 1) := by decide +kernel
theorem dX7_ends_31 : decode cX7_ends 31 = .ok (.invokestatic 91, 3) := by decide +kernel
theorem dX7_ends_34 : decode cX7_ends 34 = .ok (.iconst 5, 1) := by decide +kernel
theorem dX7_ends_35 : decode cX7_ends 35 = .ok (.iadd, 1) := by decide +kernel
theorem dX7_ends_36 : decode cX7_ends 36 = .ok (.aload_n 0, 1) := by decide +kernel
theorem dX7_ends_37 : decode cX7_ends 37 = .ok (.getfield 8, 3) := by decide +kernel
theorem dX7_ends_40 : decode cX7_ends 40 = .ok (.iconst 0, 1) := by decide +kernel
theorem dX7_ends_41 : decode cX7_ends 41 = .ok (.laload, 1) := by decide +kernel
theorem dX7_ends_42 : decode cX7_ends 42 = .ok (.lastore, 1) := by decide +kernel
theorem dX7_ends_43 : decode cX7_ends 43 = .ok (.aload_n 0, 1) := by decide +kernel
theorem dX7_ends_44 : decode cX7_ends 44 = .ok (.getfield 8, 3) := by decide +kernel
theorem dX7_ends_47 : decode cX7_ends 47 = .ok (.iload_n 1, 1) := by decide +kernel
theorem dX7_ends_48 : decode cX7_ends 48 = .ok (.invokestatic 91, 3) := by decide +kernel
theorem dX7_ends_51 : decode cX7_ends 51 = .ok (.bipush 6, 2) := by decide +kernel
theorem dX7_ends_53 : decode cX7_ends 53 = .ok (.iadd, 1) := by decide +kernel
theorem dX7_ends_54 : decode cX7_ends 54 = .ok (.iload 4, 2) := by decide +kernel
theorem dX7_ends_56 : decode cX7_ends 56 = .ok (.i2l, 1) := by decide +kernel
theorem dX7_ends_57 : decode cX7_ends 57 = .ok (.lastore, 1) := by decide +kernel
theorem dX7_ends_58 : decode cX7_ends 58 = .ok (.return_, 1) := by decide +kernel
theorem dX7_unbuffers_0 : decode cX7_unbuffers 0 = .ok (.iload_n 1, 1) := by decide +kernel
theorem dX7_unbuffers_1 : decode cX7_unbuffers 1 = .ok (.iload_n 2, 1) := by decide +kernel
theorem dX7_unbuffers_2 : decode cX7_unbuffers 2 = .ok (.invokestatic 95, 3) := by decide +kernel
theorem dX7_unbuffers_5 : decode cX7_unbuffers 5 = .ok (.istore_n 3, 1) := by decide +kernel
theorem dX7_unbuffers_6 : decode cX7_unbuffers 6 = .ok (.aload_n 0, 1) := by decide +kernel
theorem dX7_unbuffers_7 : decode cX7_unbuffers 7 = .ok (.getfield 8, 3) := by decide +kernel
theorem dX7_unbuffers_10 : decode cX7_unbuffers 10 = .ok (.iload_n 3, 1) := by decide +kernel
theorem dX7_unbuffers_11 : decode cX7_unbuffers 11 = .ok (.iconst 1, 1) := by decide +kernel
theorem dX7_unbuffers_12 : decode cX7_unbuffers 12 = .ok (.iadd, 1) := by decide +kernel
theorem dX7_unbuffers_13 : decode cX7_unbuffers 13 = .ok (.laload, 1) := by decide +kernel
theorem dX7_unbuffers_14 : decode cX7_unbuffers 14 = .ok (.l2i, 1) := by decide +kernel
theorem dX7_unbuffers_15 : decode cX7_unbuffers 15 = .ok (.istore 4, 2) := by decide +kernel
theorem dX7_unbuffers_17 : decode cX7_unbuffers 17 = .ok (.iconst 1, 1) := by decide +kernel
theorem dX7_unbuffers_18 : decode cX7_unbuffers 18 = .ok (.istore 5, 2) := by decide +kernel
theorem dX7_unbuffers_20 : decode cX7_unbuffers 20 = .ok (.iload 5, 2) := by decide +kernel
theorem dX7_unbuffers_22 : decode cX7_unbuffers 22 = .ok (.bipush 7, 2) := by decide +kernel
theorem dX7_unbuffers_24 : decode cX7_unbuffers 24 = .ok (.if_icmp .ge 29, 3) := by decide +kernel
theorem dX7_unbuffers_27 : decode cX7_unbuffers 27 = .ok (.aload_n 0, 1) := by decide +kernel
theorem dX7_unbuffers_28 : decode cX7_unbuffers 28 = .ok (.getfield 8, 3) := by decide +kernel
theorem dX7_unbuffers_31 : decode cX7_unbuffers 31 = .ok (.iload_n 3, 1) := by decide +kernel
theorem dX7_unbuffers_32 : decode cX7_unbuffers 32 = .ok (.iload 5, 2) := by decide +kernel
theorem dX7_unbuffers_34 : decode cX7_unbuffers 34 = .ok (.iadd, 1) := by decide +kernel
theorem dX7_unbuffers_35 : decode cX7_unbuffers 35 = .ok (.aload_n 0, 1) := by decide +kernel
theorem dX7_unbuffers_36 : decode cX7_unbuffers 36 = .ok (.getfield 8, 3) := by decide +kernel
theorem dX7_unbuffers_39 : decode cX7_unbuffers 39 = .ok (.iload_n 3, 1) := by decide +kernel
theorem dX7_unbuffers_40 : decode cX7_unbuffers 40 = .ok (.iload 5, 2) := by decide +kernel
theorem dX7_unbuffers_42 : decode cX7_unbuffers 42 = .ok (.iadd, 1) := by decide +kernel
theorem dX7_unbuffers_43 : decode cX7_unbuffers 43 = .ok (.iconst 2, 1) := by decide +kernel
theorem dX7_unbuffers_44 : decode cX7_unbuffers 44 = .ok (.iadd, 1) := by decide +kernel
theorem dX7_unbuffers_45 : decode cX7_unbuffers 45 = .ok (.laload, 1) := by decide +kernel
theorem dX7_unbuffers_46 : decode cX7_unbuffers 46 = .ok (.lastore, 1) := by decide +kernel
theorem dX7_unbuffers_47 : decode cX7_unbuffers 47 = .ok (.iinc 5 1, 3) := by decide +kernel
theorem dX7_unbuffers_50 : decode cX7_unbuffers 50 = .ok (.goto (-30), 3) := by decide +kernel
theorem dX7_unbuffers_53 : decode cX7_unbuffers 53 = .ok (.aload_n 0, 1) := by decide +kernel
theorem dX7_unbuffers_54 : decode cX7_unbuffers 54 = .ok (.getfield 8, 3) := by decide +kernel
theorem dX7_unbuffers_57 : decode cX7_unbuffers 57 = .ok (.iload_n 3, 1) := by decide +kernel
theorem dX7_unbuffers_58 : decode cX7_unbuffers 58 = .ok (.dup2, 1) := by decide +kernel
theorem dX7_unbuffers_59 : decode cX7_unbuffers 59 = .ok (.laload, 1) := by decide +kernel
theorem dX7_unbuffers_60 : decode cX7_unbuffers 60 = .ok (.lconst 1, 1) := by decide +kernel
theorem dX7_unbuffers_61 : decode cX7_unbuffers 61 = .ok (.lsub, 1) := by decide +kernel
theorem dX7_unbuffers_62 : decode cX7_unbuffers 62 = .ok (.lastore, 1) := by decide +kernel
theorem dX7_unbuffers_63 : decode cX7_unbuffers 63 = .ok (.iload 4, 2) := by decide +kernel
theorem dX7_unbuffers_65 : decode cX7_unbuffers 65 = .ok (.ireturn, 1) := by decide +kernel
theorem dX7_buffers_0 : decode cX7_buffers 0 = .ok (.iload_n 2, 1) := by decide +kernel
theorem dX7_buffers_1 : decode cX7_buffers 1 = .ok (.iload_n 3, 1) := by decide +kernel
theorem dX7_buffers_2 : decode cX7_buffers 2 = .ok (.invokestatic 95, 3) := by decide +kernel
theorem dX7_buffers_5 : decode cX7_buffers 5 = .ok (.istore 5, 2) := by decide +kernel
theorem dX7_buffers_7 : decode cX7_buffers 7 = .ok (.aload_n 0, 1) := by decide +kernel
theorem dX7_buffers_8 : decode cX7_buffers 8 = .ok (.getfield 8, 3) := by decide +kernel
theorem dX7_buffers_11 : decode cX7_buffers 11 = .ok (.iload 5, 2) := by decide +kernel
theorem dX7_buffers_13 : decode cX7_buffers 13 = .ok (.laload, 1) := by decide +kernel
theorem dX7_buffers_14 : decode cX7_buffers 14 = .ok (.ldc2_w 98, 3) := by decide +kernel
theorem dX7_buffers_17 : decode cX7_buffers 17 = .ok (.lcmp, 1) := by decide +kernel
theorem dX7_buffers_18 : decode cX7_buffers 18 = .ok (.ifCond .ne 17, 3) := by decide +kernel
theorem dX7_buffers_21 : decode cX7_buffers 21 = .ok (.aload_n 0, 1) := by decide +kernel
theorem dX7_buffers_22 : decode cX7_buffers 22 = .ok (.aload_n 0, 1) := by decide +kernel
theorem dX7_buffers_23 : decode cX7_buffers 23 = .ok (.iload_n 2, 1) := by decide +kernel
theorem dX7_buffers_24 : decode cX7_buffers 24 = .ok (.iload_n 3, 1) := by decide +kernel
theorem dX7_buffers_25 : decode cX7_buffers 25 = .ok (.invokevirtual 100, 3) := by decide +kernel
theorem dX7_buffers_28 : decode cX7_buffers 28 = .ok (.iconst 3, 1) := by decide +kernel
theorem dX7_buffers_29 : decode cX7_buffers 29 = .ok (.iload_n 2, 1) := by decide +kernel
theorem dX7_buffers_30 : decode cX7_buffers 30 = .ok (.bipush 21, 2) := by decide +kernel
theorem dX7_buffers_32 : decode cX7_buffers 32 = .ok (.invokevirtual 103, 3) := by decide +kernel
theorem dX7_buffers_35 : decode cX7_buffers 35 = .ok (.aload_n 0, 1) := by decide +kernel
theorem dX7_buffers_36 : decode cX7_buffers 36 = .ok (.getfield 8, 3) := by decide +kernel
theorem dX7_buffers_39 : decode cX7_buffers 39 = .ok (.iload 5, 2) := by decide +kernel
theorem dX7_buffers_41 : decode cX7_buffers 41 = .ok (.iconst 1, 1) := by decide +kernel
theorem dX7_buffers_42 : decode cX7_buffers 42 = .ok (.iadd, 1) := by decide +kernel
theorem dX7_buffers_43 : decode cX7_buffers 43 = .ok (.iconst 2, 1) := by decide +kernel
theorem dX7_buffers_44 : decode cX7_buffers 44 = .ok (.aload_n 0, 1) := by decide +kernel
theorem dX7_buffers_45 : decode cX7_buffers 45 = .ok (.getfield 8, 3) := by decide +kernel
theorem dX7_buffers_48 : decode cX7_buffers 48 = .ok (.iload 5, 2) := by decide +kernel
theorem dX7_buffers_50 : decode cX7_buffers 50 = .ok (.laload, 1) := by decide +kernel
theorem dX7_buffers_51 : decode cX7_buffers 51 = .ok (.l2i, 1) := by decide +kernel
theorem dX7_buffers_52 : decode cX7_buffers 52 = .ok (.imul, 1) := by decide +kernel
theorem dX7_buffers_53 : decode cX7_buffers 53 = .ok (.iadd, 1) := by decide +kernel
theorem dX7_buffers_54 : decode cX7_buffers 54 = .ok (.iload_n 1, 1) := by decide +kernel
theorem dX7_buffers_55 : decode cX7_buffers 55 = .ok (.i2l, 1) := by decide +kernel
theorem dX7_buffers_56 : decode cX7_buffers 56 = .ok (.lastore, 1) := by decide +kernel
theorem dX7_buffers_57 : decode cX7_buffers 57 = .ok (.aload_n 0, 1) := by decide +kernel
theorem dX7_buffers_58 : decode cX7_buffers 58 = .ok (.getfield 8, 3) := by decide +kernel
theorem dX7_buffers_61 : decode cX7_buffers 61 = .ok (.iload 5, 2) := by decide +kernel
theorem dX7_buffers_63 : decode cX7_buffers 63 = .ok (.iconst 2, 1) := by decide +kernel
theorem dX7_buffers_64 : decode cX7_buffers 64 = .ok (.iadd, 1) := by decide +kernel
theorem dX7_buffers_65 : decode cX7_buffers 65 = .ok (.iconst 2, 1) := by decide +kernel
theorem dX7_buffers_66 : decode cX7_buffers 66 = .ok (.aload_n 0, 1) := by decide +kernel
theorem dX7_buffers_67 : decode cX7_buffers 67 = .ok (.getfield 8, 3) := by decide +kernel
theorem dX7_buffers_70 : decode cX7_buffers 70 = .ok (.iload 5, 2) := by decide +kernel
theorem dX7_buffers_72 : decode cX7_buffers 72 = .ok (.laload, 1) := by decide +kernel
theorem dX7_buffers_73 : decode cX7_buffers 73 = .ok (.l2i, 1) := by decide +kernel
theorem dX7_buffers_74 : decode cX7_buffers 74 = .ok (.imul, 1) := by decide +kernel
theorem dX7_buffers_75 : decode cX7_buffers 75 = .ok (.iadd, 1) := by decide +kernel
theorem dX7_buffers_76 : decode cX7_buffers 76 = .ok (.iload 4, 2) := by decide +kernel
theorem dX7_buffers_78 : decode cX7_buffers 78 = .ok (.i2l, 1) := by decide +kernel
theorem dX7_buffers_79 : decode cX7_buffers 79 = .ok (.lastore, 1) := by decide +kernel
theorem dX7_buffers_80 : decode cX7_buffers 80 = .ok (.aload_n 0, 1) := by decide +kernel
theorem dX7_buffers_81 : decode cX7_buffers 81 = .ok (.getfield 8, 3) := by decide +kernel
theorem dX7_buffers_84 : decode cX7_buffers 84 = .ok (.iload 5, 2) := by decide +kernel
theorem dX7_buffers_86 : decode cX7_buffers 86 = .ok (.dup2, 1) := by decide +kernel
theorem dX7_buffers_87 : decode cX7_buffers 87 = .ok (.laload, 1) := by decide +kernel
theorem dX7_buffers_88 : decode cX7_buffers 88 = .ok (.lconst 1, 1) := by decide +kernel
theorem dX7_buffers_89 : decode cX7_buffers 89 = .ok (.ladd, 1) := by decide +kernel
theorem dX7_buffers_90 : decode cX7_buffers 90 = .ok (.lastore, 1) := by decide +kernel
theorem dX7_buffers_91 : decode cX7_buffers 91 = .ok (.aload_n 0, 1) := by decide +kernel
theorem dX7_buffers_92 : decode cX7_buffers 92 = .ok (.getfield 8, 3) := by decide +kernel
theorem dX7_buffers_95 : decode cX7_buffers 95 = .ok (.iload_n 1, 1) := by decide +kernel
theorem dX7_buffers_96 : decode cX7_buffers 96 = .ok (.invokestatic 91, 3) := by decide +kernel
theorem dX7_buffers_99 : decode cX7_buffers 99 = .ok (.iconst 2, 1) := by decide +kernel
theorem dX7_buffers_100 : decode cX7_buffers 100 = .ok (.iadd, 1) := by decide +kernel
theorem dX7_buffers_101 : decode cX7_buffers 101 = .ok (.lconst 0, 1) := by decide +kernel
theorem dX7_buffers_102 : decode cX7_buffers 102 = .ok (.lastore, 1) := by decide +kernel
theorem dX7_buffers_103 : decode cX7_buffers 103 = .ok (.aload_n 0, 1) := by decide +kernel
theorem dX7_buffers_104 : decode cX7_buffers 104 = .ok (.getfield 8, 3) := by decide +kernel
theorem dX7_buffers_107 : decode cX7_buffers 107 = .ok (.iload_n 1, 1) := by decide +kernel
theorem dX7_buffers_108 : decode cX7_buffers 108 = .ok (.invokestatic 91, 3) := by decide +kernel
theorem dX7_buffers_111 : decode cX7_buffers 111 = .ok (.iconst 3, 1) := by decide +kernel
theorem dX7_buffers_112 : decode cX7_buffers 112 = .ok (.iadd, 1) := by decide +kernel
theorem dX7_buffers_113 : decode cX7_buffers 113 = .ok (.iload_n 2, 1) := by decide +kernel
theorem dX7_buffers_114 : decode cX7_buffers 114 = .ok (.i2l, 1) := by decide +kernel
theorem dX7_buffers_115 : decode cX7_buffers 115 = .ok (.lastore, 1) := by decide +kernel
theorem dX7_buffers_116 : decode cX7_buffers 116 = .ok (.return_, 1) := by decide +kernel
theorem dX7_dropsAll_0 : decode cX7_dropsAll 0 = .ok (.aload_n 0, 1) := by decide +kernel
theorem dX7_dropsAll_1 : decode cX7_dropsAll 1 = .ok (.getfield 8, 3) := by decide +kernel
theorem dX7_dropsAll_4 : decode cX7_dropsAll 4 = .ok (.iload_n 1, 1) := by decide +kernel
theorem dX7_dropsAll_5 : decode cX7_dropsAll 5 = .ok (.iload_n 2, 1) := by decide +kernel
theorem dX7_dropsAll_6 : decode cX7_dropsAll 6 = .ok (.invokestatic 95, 3) := by decide +kernel
theorem dX7_dropsAll_9 : decode cX7_dropsAll 9 = .ok (.laload, 1) := by decide +kernel
theorem dX7_dropsAll_10 : decode cX7_dropsAll 10 = .ok (.lconst 0, 1) := by decide +kernel
theorem dX7_dropsAll_11 : decode cX7_dropsAll 11 = .ok (.lcmp, 1) := by decide +kernel
theorem dX7_dropsAll_12 : decode cX7_dropsAll 12 = .ok (.ifCond .le 19, 3) := by decide +kernel
theorem dX7_dropsAll_15 : decode cX7_dropsAll 15 = .ok (.aload_n 0, 1) := by decide +kernel
theorem dX7_dropsAll_16 : decode cX7_dropsAll 16 = .ok (.aload_n 0, 1) := by decide +kernel
theorem dX7_dropsAll_17 : decode cX7_dropsAll 17 = .ok (.iload_n 1, 1) := by decide +kernel
theorem dX7_dropsAll_18 : decode cX7_dropsAll 18 = .ok (.iload_n 2, 1) := by decide +kernel
theorem dX7_dropsAll_19 : decode cX7_dropsAll 19 = .ok (.invokevirtual 100, 3) := by decide +kernel
theorem dX7_dropsAll_22 : decode cX7_dropsAll 22 = .ok (.iconst 3, 1) := by decide +kernel
theorem dX7_dropsAll_23 : decode cX7_dropsAll 23 = .ok (.iload_n 1, 1) := by decide +kernel
theorem dX7_dropsAll_24 : decode cX7_dropsAll 24 = .ok (.iload_n 3, 1) := by decide +kernel
theorem dX7_dropsAll_25 : decode cX7_dropsAll 25 = .ok (.invokevirtual 103, 3) := by decide +kernel
theorem dX7_dropsAll_28 : decode cX7_dropsAll 28 = .ok (.goto (-28), 3) := by decide +kernel
theorem dX7_dropsAll_31 : decode cX7_dropsAll 31 = .ok (.return_, 1) := by decide +kernel
theorem dX7_carries_0 : decode cX7_carries 0 = .ok (.iload_n 1, 1) := by decide +kernel
theorem dX7_carries_1 : decode cX7_carries 1 = .ok (.invokestatic 91, 3) := by decide +kernel
theorem dX7_carries_4 : decode cX7_carries 4 = .ok (.istore 4, 2) := by decide +kernel
theorem dX7_carries_6 : decode cX7_carries 6 = .ok (.aload_n 0, 1) := by decide +kernel
theorem dX7_carries_7 : decode cX7_carries 7 = .ok (.getfield 8, 3) := by decide +kernel
theorem dX7_carries_10 : decode cX7_carries 10 = .ok (.iload 4, 2) := by decide +kernel
theorem dX7_carries_12 : decode cX7_carries 12 = .ok (.iconst 1, 1) := by decide +kernel
theorem dX7_carries_13 : decode cX7_carries 13 = .ok (.iadd, 1) := by decide +kernel
theorem dX7_carries_14 : decode cX7_carries 14 = .ok (.laload, 1) := by decide +kernel
theorem dX7_carries_15 : decode cX7_carries 15 = .ok (.l2i, 1) := by decide +kernel
theorem dX7_carries_16 : decode cX7_carries 16 = .ok (.istore 5, 2) := by decide +kernel
theorem dX7_carries_18 : decode cX7_carries 18 = .ok (.iload_n 2, 1) := by decide +kernel
theorem dX7_carries_19 : decode cX7_carries 19 = .ok (.iload 5, 2) := by decide +kernel
theorem dX7_carries_21 : decode cX7_carries 21 = .ok (.if_icmp .ne 14, 3) := by decide +kernel
theorem dX7_carries_24 : decode cX7_carries 24 = .ok (.aload_n 0, 1) := by decide +kernel
theorem dX7_carries_25 : decode cX7_carries 25 = .ok (.iload_n 1, 1) := by decide +kernel
theorem dX7_carries_26 : decode cX7_carries 26 = .ok (.iconst 2, 1) := by decide +kernel
theorem dX7_carries_27 : decode cX7_carries 27 = .ok (.iload_n 2, 1) := by decide +kernel
theorem dX7_carries_28 : decode cX7_carries 28 = .ok (.iconst 0, 1) := by decide +kernel
theorem dX7_carries_29 : decode cX7_carries 29 = .ok (.invokevirtual 103, 3) := by decide +kernel
theorem dX7_carries_32 : decode cX7_carries 32 = .ok (.goto 334, 3) := by decide +kernel
theorem dX7_carries_35 : decode cX7_carries 35 = .ok (.aload_n 0, 1) := by decide +kernel
theorem dX7_carries_36 : decode cX7_carries 36 = .ok (.getfield 8, 3) := by decide +kernel
theorem dX7_carries_39 : decode cX7_carries 39 = .ok (.iload 4, 2) := by decide +kernel
theorem dX7_carries_41 : decode cX7_carries 41 = .ok (.iconst 4, 1) := by decide +kernel
theorem dX7_carries_42 : decode cX7_carries 42 = .ok (.iadd, 1) := by decide +kernel
theorem dX7_carries_43 : decode cX7_carries 43 = .ok (.laload, 1) := by decide +kernel
theorem dX7_carries_44 : decode cX7_carries 44 = .ok (.ldc2_w 111, 3) := by decide +kernel
theorem dX7_carries_47 : decode cX7_carries 47 = .ok (.lcmp, 1) := by decide +kernel
theorem dX7_carries_48 : decode cX7_carries 48 = .ok (.ifCond .lt 15, 3) := by decide +kernel
theorem dX7_carries_51 : decode cX7_carries 51 = .ok (.aload_n 0, 1) := by decide +kernel
theorem dX7_carries_52 : decode cX7_carries 52 = .ok (.iload_n 1, 1) := by decide +kernel
theorem dX7_carries_53 : decode cX7_carries 53 = .ok (.iconst 3, 1) := by decide +kernel
theorem dX7_carries_54 : decode cX7_carries 54 = .ok (.iload_n 2, 1) := by decide +kernel
theorem dX7_carries_55 : decode cX7_carries 55 = .ok (.bipush 23, 2) := by decide +kernel
theorem dX7_carries_57 : decode cX7_carries 57 = .ok (.invokevirtual 103, 3) := by decide +kernel
theorem dX7_carries_60 : decode cX7_carries 60 = .ok (.goto 306, 3) := by decide +kernel
theorem dX7_carries_63 : decode cX7_carries 63 = .ok (.aload_n 0, 1) := by decide +kernel
theorem dX7_carries_64 : decode cX7_carries 64 = .ok (.iload_n 2, 1) := by decide +kernel
theorem dX7_carries_65 : decode cX7_carries 65 = .ok (.iload 5, 2) := by decide +kernel
theorem dX7_carries_67 : decode cX7_carries 67 = .ok (.invokevirtual 78, 3) := by decide +kernel
theorem dX7_carries_70 : decode cX7_carries 70 = .ok (.ifCond .eq 97, 3) := by decide +kernel
theorem dX7_carries_73 : decode cX7_carries 73 = .ok (.aload_n 0, 1) := by decide +kernel
theorem dX7_carries_74 : decode cX7_carries 74 = .ok (.getfield 8, 3) := by decide +kernel
theorem dX7_carries_77 : decode cX7_carries 77 = .ok (.iload_n 2, 1) := by decide +kernel
theorem dX7_carries_78 : decode cX7_carries 78 = .ok (.iload 5, 2) := by decide +kernel
theorem dX7_carries_80 : decode cX7_carries 80 = .ok (.invokestatic 42, 3) := by decide +kernel
theorem dX7_carries_83 : decode cX7_carries 83 = .ok (.iconst 3, 1) := by decide +kernel
theorem dX7_carries_84 : decode cX7_carries 84 = .ok (.iadd, 1) := by decide +kernel
theorem dX7_carries_85 : decode cX7_carries 85 = .ok (.laload, 1) := by decide +kernel
theorem dX7_carries_86 : decode cX7_carries 86 = .ok (.l2i, 1) := by decide +kernel
theorem dX7_carries_87 : decode cX7_carries 87 = .ok (.istore 6, 2) := by decide +kernel
theorem dX7_carries_89 : decode cX7_carries 89 = .ok (.aload_n 0, 1) := by decide +kernel
theorem dX7_carries_90 : decode cX7_carries 90 = .ok (.iconst 3, 1) := by decide +kernel
theorem dX7_carries_91 : decode cX7_carries 91 = .ok (.iload_n 2, 1) := by decide +kernel
theorem dX7_carries_92 : decode cX7_carries 92 = .ok (.iload 6, 2) := by decide +kernel
theorem dX7_carries_94 : decode cX7_carries 94 = .ok (.lconst 0, 1) := by decide +kernel
theorem dX7_carries_95 : decode cX7_carries 95 = .ok (.iload_n 1, 1) := by decide +kernel
theorem dX7_carries_96 : decode cX7_carries 96 = .ok (.i2l, 1) := by decide +kernel
theorem dX7_carries_97 : decode cX7_carries 97 = .ok (.invokevirtual 50, 3) := by decide +kernel
theorem dX7_carries_100 : decode cX7_carries 100 = .ok (.aload_n 0, 1) := by decide +kernel
theorem dX7_carries_101 : decode cX7_carries 101 = .ok (.getfield 8, 3) := by decide +kernel
