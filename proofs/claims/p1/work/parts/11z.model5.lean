theorem dX7_mixEntry_168 : decode cX7_mixEntry 168 = .ok (.iconst 0, 1) := by decide +kernel
theorem dX7_mixEntry_169 : decode cX7_mixEntry 169 = .ok (.iadd, 1) := by decide +kernel
theorem dX7_mixEntry_170 : decode cX7_mixEntry 170 = .ok (.laload, 1) := by decide +kernel
theorem dX7_mixEntry_171 : decode cX7_mixEntry 171 = .ok (.invokestatic 270, 3) := by decide +kernel
theorem dX7_mixEntry_174 : decode cX7_mixEntry 174 = .ok (.lstore 7, 2) := by decide +kernel
theorem dX7_mixEntry_176 : decode cX7_mixEntry 176 = .ok (.lload 7, 2) := by decide +kernel
theorem dX7_mixEntry_178 : decode cX7_mixEntry 178 = .ok (.aload_n 0, 1) := by decide +kernel
theorem dX7_mixEntry_179 : decode cX7_mixEntry 179 = .ok (.getfield 8, 3) := by decide +kernel
theorem dX7_mixEntry_182 : decode cX7_mixEntry 182 = .ok (.iload_n 3, 1) := by decide +kernel
theorem dX7_mixEntry_183 : decode cX7_mixEntry 183 = .ok (.iload 4, 2) := by decide +kernel
theorem dX7_mixEntry_185 : decode cX7_mixEntry 185 = .ok (.invokestatic 95, 3) := by decide +kernel
theorem dX7_mixEntry_188 : decode cX7_mixEntry 188 = .ok (.laload, 1) := by decide +kernel
theorem dX7_mixEntry_189 : decode cX7_mixEntry 189 = .ok (.invokestatic 270, 3) := by decide +kernel
theorem dX7_mixEntry_192 : decode cX7_mixEntry 192 = .ok (.lreturn, 1) := by decide +kernel
theorem dX7_fingerprint_0 : decode cX7_fingerprint 0 = .ok (.aload_n 0, 1) := by decide +kernel
theorem dX7_fingerprint_1 : decode cX7_fingerprint 1 = .ok (.iconst 0, 1) := by decide +kernel
theorem dX7_fingerprint_2 : decode cX7_fingerprint 2 = .ok (.putfield 34, 3) := by decide +kernel
theorem dX7_fingerprint_5 : decode cX7_fingerprint 5 = .ok (.ldc2_w 276, 3) := by decide +kernel
theorem dX7_fingerprint_8 : decode cX7_fingerprint 8 = .ok (.aload_n 0, 1) := by decide +kernel
theorem dX7_fingerprint_9 : decode cX7_fingerprint 9 = .ok (.getfield 8, 3) := by decide +kernel
theorem dX7_fingerprint_12 : decode cX7_fingerprint 12 = .ok (.iconst 0, 1) := by decide +kernel
theorem dX7_fingerprint_13 : decode cX7_fingerprint 13 = .ok (.laload, 1) := by decide +kernel
theorem dX7_fingerprint_14 : decode cX7_fingerprint 14 = .ok (.invokestatic 270, 3) := by decide +kernel
theorem dX7_fingerprint_17 : decode cX7_fingerprint 17 = .ok (.lstore_n 1, 1) := by decide +kernel
theorem dX7_fingerprint_18 : decode cX7_fingerprint 18 = .ok (.iconst 0, 1) := by decide +kernel
theorem dX7_fingerprint_19 : decode cX7_fingerprint 19 = .ok (.istore_n 3, 1) := by decide +kernel
theorem dX7_fingerprint_20 : decode cX7_fingerprint 20 = .ok (.iload_n 3, 1) := by decide +kernel
theorem dX7_fingerprint_21 : decode cX7_fingerprint 21 = .ok (.bipush 8, 2) := by decide +kernel
theorem dX7_fingerprint_23 : decode cX7_fingerprint 23 = .ok (.if_icmp .ge 22, 3) := by decide +kernel
theorem dX7_fingerprint_26 : decode cX7_fingerprint 26 = .ok (.lload_n 1, 1) := by decide +kernel
theorem dX7_fingerprint_27 : decode cX7_fingerprint 27 = .ok (.aload_n 0, 1) := by decide +kernel
theorem dX7_fingerprint_28 : decode cX7_fingerprint 28 = .ok (.getfield 8, 3) := by decide +kernel
theorem dX7_fingerprint_31 : decode cX7_fingerprint 31 = .ok (.iconst 2, 1) := by decide +kernel
theorem dX7_fingerprint_32 : decode cX7_fingerprint 32 = .ok (.iload_n 3, 1) := by decide +kernel
theorem dX7_fingerprint_33 : decode cX7_fingerprint 33 = .ok (.iadd, 1) := by decide +kernel
theorem dX7_fingerprint_34 : decode cX7_fingerprint 34 = .ok (.laload, 1) := by decide +kernel
theorem dX7_fingerprint_35 : decode cX7_fingerprint 35 = .ok (.invokestatic 270, 3) := by decide +kernel
theorem dX7_fingerprint_38 : decode cX7_fingerprint 38 = .ok (.lstore_n 1, 1) := by decide +kernel
theorem dX7_fingerprint_39 : decode cX7_fingerprint 39 = .ok (.iinc 3 1, 3) := by decide +kernel
theorem dX7_fingerprint_42 : decode cX7_fingerprint 42 = .ok (.goto (-22), 3) := by decide +kernel
theorem dX7_fingerprint_45 : decode cX7_fingerprint 45 = .ok (.iconst 0, 1) := by decide +kernel
theorem dX7_fingerprint_46 : decode cX7_fingerprint 46 = .ok (.istore_n 3, 1) := by decide +kernel
theorem dX7_fingerprint_47 : decode cX7_fingerprint 47 = .ok (.iload_n 3, 1) := by decide +kernel
theorem dX7_fingerprint_48 : decode cX7_fingerprint 48 = .ok (.i2l, 1) := by decide +kernel
theorem dX7_fingerprint_49 : decode cX7_fingerprint 49 = .ok (.aload_n 0, 1) := by decide +kernel
theorem dX7_fingerprint_50 : decode cX7_fingerprint 50 = .ok (.getfield 8, 3) := by decide +kernel
theorem dX7_fingerprint_53 : decode cX7_fingerprint 53 = .ok (.iconst 1, 1) := by decide +kernel
theorem dX7_fingerprint_54 : decode cX7_fingerprint 54 = .ok (.laload, 1) := by decide +kernel
theorem dX7_fingerprint_55 : decode cX7_fingerprint 55 = .ok (.lcmp, 1) := by decide +kernel
theorem dX7_fingerprint_56 : decode cX7_fingerprint 56 = .ok (.ifCond .ge 50, 3) := by decide +kernel
theorem dX7_fingerprint_59 : decode cX7_fingerprint 59 = .ok (.iconst 0, 1) := by decide +kernel
theorem dX7_fingerprint_60 : decode cX7_fingerprint 60 = .ok (.istore 4, 2) := by decide +kernel
theorem dX7_fingerprint_62 : decode cX7_fingerprint 62 = .ok (.iload 4, 2) := by decide +kernel
theorem dX7_fingerprint_64 : decode cX7_fingerprint 64 = .ok (.i2l, 1) := by decide +kernel
theorem dX7_fingerprint_65 : decode cX7_fingerprint 65 = .ok (.aload_n 0, 1) := by decide +kernel
theorem dX7_fingerprint_66 : decode cX7_fingerprint 66 = .ok (.getfield 8, 3) := by decide +kernel
theorem dX7_fingerprint_69 : decode cX7_fingerprint 69 = .ok (.iconst 1, 1) := by decide +kernel
theorem dX7_fingerprint_70 : decode cX7_fingerprint 70 = .ok (.laload, 1) := by decide +kernel
theorem dX7_fingerprint_71 : decode cX7_fingerprint 71 = .ok (.lcmp, 1) := by decide +kernel
theorem dX7_fingerprint_72 : decode cX7_fingerprint 72 = .ok (.ifCond .ge 28, 3) := by decide +kernel
theorem dX7_fingerprint_75 : decode cX7_fingerprint 75 = .ok (.iload_n 3, 1) := by decide +kernel
theorem dX7_fingerprint_76 : decode cX7_fingerprint 76 = .ok (.iload 4, 2) := by decide +kernel
theorem dX7_fingerprint_78 : decode cX7_fingerprint 78 = .ok (.if_icmp .ne 7, 3) := by decide +kernel
theorem dX7_fingerprint_81 : decode cX7_fingerprint 81 = .ok (.lload_n 1, 1) := by decide +kernel
theorem dX7_fingerprint_82 : decode cX7_fingerprint 82 = .ok (.goto 11, 3) := by decide +kernel
theorem dX7_fingerprint_85 : decode cX7_fingerprint 85 = .ok (.aload_n 0, 1) := by decide +kernel
theorem dX7_fingerprint_86 : decode cX7_fingerprint 86 = .ok (.lload_n 1, 1) := by decide +kernel
theorem dX7_fingerprint_87 : decode cX7_fingerprint 87 = .ok (.iload_n 3, 1) := by decide +kernel
theorem dX7_fingerprint_88 : decode cX7_fingerprint 88 = .ok (.iload 4, 2) := by decide +kernel
theorem dX7_fingerprint_90 : decode cX7_fingerprint 90 = .ok (.invokevirtual 278, 3) := by decide +kernel
theorem dX7_fingerprint_93 : decode cX7_fingerprint 93 = .ok (.lstore_n 1, 1) := by decide +kernel
theorem dX7_fingerprint_94 : decode cX7_fingerprint 94 = .ok (.iinc 4 1, 3) := by decide +kernel
theorem dX7_fingerprint_97 : decode cX7_fingerprint 97 = .ok (.goto (-35), 3) := by decide +kernel
theorem dX7_fingerprint_100 : decode cX7_fingerprint 100 = .ok (.iinc 3 1, 3) := by decide +kernel
theorem dX7_fingerprint_103 : decode cX7_fingerprint 103 = .ok (.goto (-56), 3) := by decide +kernel
theorem dX7_fingerprint_106 : decode cX7_fingerprint 106 = .ok (.iconst 0, 1) := by decide +kernel
theorem dX7_fingerprint_107 : decode cX7_fingerprint 107 = .ok (.istore_n 3, 1) := by decide +kernel
theorem dX7_fingerprint_108 : decode cX7_fingerprint 108 = .ok (.iload_n 3, 1) := by decide +kernel
theorem dX7_fingerprint_109 : decode cX7_fingerprint 109 = .ok (.i2l, 1) := by decide +kernel
theorem dX7_fingerprint_110 : decode cX7_fingerprint 110 = .ok (.aload_n 0, 1) := by decide +kernel
theorem dX7_fingerprint_111 : decode cX7_fingerprint 111 = .ok (.getfield 8, 3) := by decide +kernel
theorem dX7_fingerprint_114 : decode cX7_fingerprint 114 = .ok (.iconst 1, 1) := by decide +kernel
theorem dX7_fingerprint_115 : decode cX7_fingerprint 115 = .ok (.laload, 1) := by decide +kernel
theorem dX7_fingerprint_116 : decode cX7_fingerprint 116 = .ok (.lcmp, 1) := by decide +kernel
theorem dX7_fingerprint_117 : decode cX7_fingerprint 117 = .ok (.ifCond .ge 23, 3) := by decide +kernel
theorem dX7_fingerprint_120 : decode cX7_fingerprint 120 = .ok (.lload_n 1, 1) := by decide +kernel
theorem dX7_fingerprint_121 : decode cX7_fingerprint 121 = .ok (.aload_n 0, 1) := by decide +kernel
theorem dX7_fingerprint_122 : decode cX7_fingerprint 122 = .ok (.getfield 8, 3) := by decide +kernel
theorem dX7_fingerprint_125 : decode cX7_fingerprint 125 = .ok (.bipush 50, 2) := by decide +kernel
theorem dX7_fingerprint_127 : decode cX7_fingerprint 127 = .ok (.iload_n 3, 1) := by decide +kernel
theorem dX7_fingerprint_128 : decode cX7_fingerprint 128 = .ok (.iadd, 1) := by decide +kernel
theorem dX7_fingerprint_129 : decode cX7_fingerprint 129 = .ok (.laload, 1) := by decide +kernel
theorem dX7_fingerprint_130 : decode cX7_fingerprint 130 = .ok (.invokestatic 270, 3) := by decide +kernel
theorem dX7_fingerprint_133 : decode cX7_fingerprint 133 = .ok (.lstore_n 1, 1) := by decide +kernel
theorem dX7_fingerprint_134 : decode cX7_fingerprint 134 = .ok (.iinc 3 1, 3) := by decide +kernel
theorem dX7_fingerprint_137 : decode cX7_fingerprint 137 = .ok (.goto (-29), 3) := by decide +kernel
theorem dX7_fingerprint_140 : decode cX7_fingerprint 140 = .ok (.iconst 0, 1) := by decide +kernel
theorem dX7_fingerprint_141 : decode cX7_fingerprint 141 = .ok (.istore_n 3, 1) := by decide +kernel
theorem dX7_fingerprint_142 : decode cX7_fingerprint 142 = .ok (.iload_n 3, 1) := by decide +kernel
theorem dX7_fingerprint_143 : decode cX7_fingerprint 143 = .ok (.iconst 4, 1) := by decide +kernel
theorem dX7_fingerprint_144 : decode cX7_fingerprint 144 = .ok (.if_icmp .ge 20, 3) := by decide +kernel
theorem dX7_fingerprint_147 : decode cX7_fingerprint 147 = .ok (.lload_n 1, 1) := by decide +kernel
theorem dX7_fingerprint_148 : decode cX7_fingerprint 148 = .ok (.aload_n 0, 1) := by decide +kernel
theorem dX7_fingerprint_149 : decode cX7_fingerprint 149 = .ok (.iload_n 3, 1) := by decide +kernel
theorem dX7_fingerprint_150 : decode cX7_fingerprint 150 = .ok (.invokevirtual 250, 3) := by decide +kernel
theorem dX7_fingerprint_153 : decode cX7_fingerprint 153 = .ok (.i2l, 1) := by decide +kernel
theorem dX7_fingerprint_154 : decode cX7_fingerprint 154 = .ok (.invokestatic 270, 3) := by decide +kernel
theorem dX7_fingerprint_157 : decode cX7_fingerprint 157 = .ok (.lstore_n 1, 1) := by decide +kernel
theorem dX7_fingerprint_158 : decode cX7_fingerprint 158 = .ok (.iinc 3 1, 3) := by decide +kernel
theorem dX7_fingerprint_161 : decode cX7_fingerprint 161 = .ok (.goto (-19), 3) := by decide +kernel
theorem dX7_fingerprint_164 : decode cX7_fingerprint 164 = .ok (.lload_n 1, 1) := by decide +kernel
theorem dX7_fingerprint_165 : decode cX7_fingerprint 165 = .ok (.lreturn, 1) := by decide +kernel
