theorem dX7_links_15 : decode cX7_links 15 = .ok (.istore 4, 2) := by decide +kernel
theorem dX7_links_17 : decode cX7_links 17 = .ok (.aload_n 0, 1) := by decide +kernel
theorem dX7_links_18 : decode cX7_links 18 = .ok (.getfield 8, 3) := by decide +kernel
theorem dX7_links_21 : decode cX7_links 21 = .ok (.bipush 100, 2) := by decide +kernel
theorem dX7_links_23 : decode cX7_links 23 = .ok (.bipush 10, 2) := by decide +kernel
theorem dX7_links_25 : decode cX7_links 25 = .ok (.iload_n 1, 1) := by decide +kernel
theorem dX7_links_26 : decode cX7_links 26 = .ok (.imul, 1) := by decide +kernel
theorem dX7_links_27 : decode cX7_links 27 = .ok (.iadd, 1) := by decide +kernel
theorem dX7_links_28 : decode cX7_links 28 = .ok (.iload_n 2, 1) := by decide +kernel
theorem dX7_links_29 : decode cX7_links 29 = .ok (.iadd, 1) := by decide +kernel
theorem dX7_links_30 : decode cX7_links 30 = .ok (.iload_n 3, 1) := by decide +kernel
theorem dX7_links_31 : decode cX7_links 31 = .ok (.i2l, 1) := by decide +kernel
theorem dX7_links_32 : decode cX7_links 32 = .ok (.lastore, 1) := by decide +kernel
theorem dX7_links_33 : decode cX7_links 33 = .ok (.aload_n 0, 1) := by decide +kernel
theorem dX7_links_34 : decode cX7_links 34 = .ok (.getfield 8, 3) := by decide +kernel
theorem dX7_links_37 : decode cX7_links 37 = .ok (.bipush 100, 2) := by decide +kernel
theorem dX7_links_39 : decode cX7_links 39 = .ok (.bipush 10, 2) := by decide +kernel
theorem dX7_links_41 : decode cX7_links 41 = .ok (.iload_n 2, 1) := by decide +kernel
theorem dX7_links_42 : decode cX7_links 42 = .ok (.imul, 1) := by decide +kernel
theorem dX7_links_43 : decode cX7_links 43 = .ok (.iadd, 1) := by decide +kernel
theorem dX7_links_44 : decode cX7_links 44 = .ok (.iload_n 1, 1) := by decide +kernel
theorem dX7_links_45 : decode cX7_links 45 = .ok (.iadd, 1) := by decide +kernel
theorem dX7_links_46 : decode cX7_links 46 = .ok (.iload_n 3, 1) := by decide +kernel
theorem dX7_links_47 : decode cX7_links 47 = .ok (.i2l, 1) := by decide +kernel
theorem dX7_links_48 : decode cX7_links 48 = .ok (.lastore, 1) := by decide +kernel
theorem dX7_links_49 : decode cX7_links 49 = .ok (.iload 4, 2) := by decide +kernel
theorem dX7_links_51 : decode cX7_links 51 = .ok (.ifCond .le 49, 3) := by decide +kernel
theorem dX7_links_54 : decode cX7_links 54 = .ok (.iload_n 3, 1) := by decide +kernel
theorem dX7_links_55 : decode cX7_links 55 = .ok (.ifCond .ne 45, 3) := by decide +kernel
theorem dX7_links_58 : decode cX7_links 58 = .ok (.iload_n 1, 1) := by decide +kernel
theorem dX7_links_59 : decode cX7_links 59 = .ok (.iload_n 2, 1) := by decide +kernel
theorem dX7_links_60 : decode cX7_links 60 = .ok (.if_icmp .ge 7, 3) := by decide +kernel
theorem dX7_links_63 : decode cX7_links 63 = .ok (.iload_n 1, 1) := by decide +kernel
theorem dX7_links_64 : decode cX7_links 64 = .ok (.goto 4, 3) := by decide +kernel
theorem dX7_links_67 : decode cX7_links 67 = .ok (.iload_n 2, 1) := by decide +kernel
theorem dX7_links_68 : decode cX7_links 68 = .ok (.istore 5, 2) := by decide +kernel
theorem dX7_links_70 : decode cX7_links 70 = .ok (.aload_n 0, 1) := by decide +kernel
theorem dX7_links_71 : decode cX7_links 71 = .ok (.iload_n 1, 1) := by decide +kernel
theorem dX7_links_72 : decode cX7_links 72 = .ok (.iload_n 2, 1) := by decide +kernel
theorem dX7_links_73 : decode cX7_links 73 = .ok (.invokevirtual 198, 3) := by decide +kernel
theorem dX7_links_76 : decode cX7_links 76 = .ok (.aload_n 0, 1) := by decide +kernel
theorem dX7_links_77 : decode cX7_links 77 = .ok (.iload 5, 2) := by decide +kernel
theorem dX7_links_79 : decode cX7_links 79 = .ok (.iload_n 1, 1) := by decide +kernel
theorem dX7_links_80 : decode cX7_links 80 = .ok (.iload_n 2, 1) := by decide +kernel
theorem dX7_links_81 : decode cX7_links 81 = .ok (.iadd, 1) := by decide +kernel
theorem dX7_links_82 : decode cX7_links 82 = .ok (.iload 5, 2) := by decide +kernel
theorem dX7_links_84 : decode cX7_links 84 = .ok (.isub, 1) := by decide +kernel
theorem dX7_links_85 : decode cX7_links 85 = .ok (.invokevirtual 201, 3) := by decide +kernel
theorem dX7_links_88 : decode cX7_links 88 = .ok (.aload_n 0, 1) := by decide +kernel
theorem dX7_links_89 : decode cX7_links 89 = .ok (.iload_n 1, 1) := by decide +kernel
theorem dX7_links_90 : decode cX7_links 90 = .ok (.iload_n 2, 1) := by decide +kernel
theorem dX7_links_91 : decode cX7_links 91 = .ok (.iadd, 1) := by decide +kernel
theorem dX7_links_92 : decode cX7_links 92 = .ok (.iload 5, 2) := by decide +kernel
theorem dX7_links_94 : decode cX7_links 94 = .ok (.isub, 1) := by decide +kernel
theorem dX7_links_95 : decode cX7_links 95 = .ok (.iload 5, 2) := by decide +kernel
theorem dX7_links_97 : decode cX7_links 97 = .ok (.invokevirtual 201, 3) := by decide +kernel
theorem dX7_links_100 : decode cX7_links 100 = .ok (.iload 4, 2) := by decide +kernel
theorem dX7_links_102 : decode cX7_links 102 = .ok (.ireturn, 1) := by decide +kernel
theorem dX7_setLink_0 : decode cX7_setLink 0 = .ok (.aload_n 0, 1) := by decide +kernel
theorem dX7_setLink_1 : decode cX7_setLink 1 = .ok (.iconst 0, 1) := by decide +kernel
theorem dX7_setLink_2 : decode cX7_setLink 2 = .ok (.putfield 34, 3) := by decide +kernel
theorem dX7_setLink_5 : decode cX7_setLink 5 = .ok (.aload_n 0, 1) := by decide +kernel
theorem dX7_setLink_6 : decode cX7_setLink 6 = .ok (.iload_n 1, 1) := by decide +kernel
theorem dX7_setLink_7 : decode cX7_setLink 7 = .ok (.invokevirtual 204, 3) := by decide +kernel
theorem dX7_setLink_10 : decode cX7_setLink 10 = .ok (.ifCond .eq 11, 3) := by decide +kernel
theorem dX7_setLink_13 : decode cX7_setLink 13 = .ok (.aload_n 0, 1) := by decide +kernel
theorem dX7_setLink_14 : decode cX7_setLink 14 = .ok (.iload_n 2, 1) := by decide +kernel
theorem dX7_setLink_15 : decode cX7_setLink 15 = .ok (.invokevirtual 204, 3) := by decide +kernel
theorem dX7_setLink_18 : decode cX7_setLink 18 = .ok (.ifCond .ne 9, 3) := by decide +kernel
theorem dX7_setLink_21 : decode cX7_setLink 21 = .ok (.aload_n 0, 1) := by decide +kernel
theorem dX7_setLink_22 : decode cX7_setLink 22 = .ok (.iconst 1, 1) := by decide +kernel
theorem dX7_setLink_23 : decode cX7_setLink 23 = .ok (.invokevirtual 208, 3) := by decide +kernel
theorem dX7_setLink_26 : decode cX7_setLink 26 = .ok (.ireturn, 1) := by decide +kernel
theorem dX7_setLink_27 : decode cX7_setLink 27 = .ok (.iload_n 1, 1) := by decide +kernel
theorem dX7_setLink_28 : decode cX7_setLink 28 = .ok (.iload_n 2, 1) := by decide +kernel
theorem dX7_setLink_29 : decode cX7_setLink 29 = .ok (.if_icmp .eq 15, 3) := by decide +kernel
theorem dX7_setLink_32 : decode cX7_setLink 32 = .ok (.iload_n 3, 1) := by decide +kernel
theorem dX7_setLink_33 : decode cX7_setLink 33 = .ok (.i2l, 1) := by decide +kernel
theorem dX7_setLink_34 : decode cX7_setLink 34 = .ok (.lconst 0, 1) := by decide +kernel
theorem dX7_setLink_35 : decode cX7_setLink 35 = .ok (.ldc2_w 211, 3) := by decide +kernel
theorem dX7_setLink_38 : decode cX7_setLink 38 = .ok (.invokestatic 38, 3) := by decide +kernel
theorem dX7_setLink_41 : decode cX7_setLink 41 = .ok (.ifCond .ne 9, 3) := by decide +kernel
theorem dX7_setLink_44 : decode cX7_setLink 44 = .ok (.aload_n 0, 1) := by decide +kernel
theorem dX7_setLink_45 : decode cX7_setLink 45 = .ok (.iconst 2, 1) := by decide +kernel
theorem dX7_setLink_46 : decode cX7_setLink 46 = .ok (.invokevirtual 208, 3) := by decide +kernel
theorem dX7_setLink_49 : decode cX7_setLink 49 = .ok (.ireturn, 1) := by decide +kernel
theorem dX7_setLink_50 : decode cX7_setLink 50 = .ok (.aload_n 0, 1) := by decide +kernel
theorem dX7_setLink_51 : decode cX7_setLink 51 = .ok (.iload_n 1, 1) := by decide +kernel
theorem dX7_setLink_52 : decode cX7_setLink 52 = .ok (.iload_n 2, 1) := by decide +kernel
theorem dX7_setLink_53 : decode cX7_setLink 53 = .ok (.iload_n 3, 1) := by decide +kernel
theorem dX7_setLink_54 : decode cX7_setLink 54 = .ok (.invokevirtual 213, 3) := by decide +kernel
theorem dX7_setLink_57 : decode cX7_setLink 57 = .ok (.ireturn, 1) := by decide +kernel
theorem dX7_link_0 : decode cX7_link 0 = .ok (.aload_n 0, 1) := by decide +kernel
theorem dX7_link_1 : decode cX7_link 1 = .ok (.iconst 0, 1) := by decide +kernel
theorem dX7_link_2 : decode cX7_link 2 = .ok (.putfield 34, 3) := by decide +kernel
theorem dX7_link_5 : decode cX7_link 5 = .ok (.aload_n 0, 1) := by decide +kernel
theorem dX7_link_6 : decode cX7_link 6 = .ok (.iload_n 1, 1) := by decide +kernel
theorem dX7_link_7 : decode cX7_link 7 = .ok (.invokevirtual 204, 3) := by decide +kernel
theorem dX7_link_10 : decode cX7_link 10 = .ok (.ifCond .eq 29, 3) := by decide +kernel
theorem dX7_link_13 : decode cX7_link 13 = .ok (.aload_n 0, 1) := by decide +kernel
theorem dX7_link_14 : decode cX7_link 14 = .ok (.iload_n 2, 1) := by decide +kernel
theorem dX7_link_15 : decode cX7_link 15 = .ok (.invokevirtual 204, 3) := by decide +kernel
theorem dX7_link_18 : decode cX7_link 18 = .ok (.ifCond .eq 21, 3) := by decide +kernel
theorem dX7_link_21 : decode cX7_link 21 = .ok (.aload_n 0, 1) := by decide +kernel
theorem dX7_link_22 : decode cX7_link 22 = .ok (.getfield 8, 3) := by decide +kernel
theorem dX7_link_25 : decode cX7_link 25 = .ok (.bipush 100, 2) := by decide +kernel
theorem dX7_link_27 : decode cX7_link 27 = .ok (.bipush 10, 2) := by decide +kernel
theorem dX7_link_29 : decode cX7_link 29 = .ok (.iload_n 1, 1) := by decide +kernel
theorem dX7_link_30 : decode cX7_link 30 = .ok (.imul, 1) := by decide +kernel
theorem dX7_link_31 : decode cX7_link 31 = .ok (.iadd, 1) := by decide +kernel
theorem dX7_link_32 : decode cX7_link 32 = .ok (.iload_n 2, 1) := by decide +kernel
theorem dX7_link_33 : decode cX7_link 33 = .ok (.iadd, 1) := by decide +kernel
theorem dX7_link_34 : decode cX7_link 34 = .ok (.laload, 1) := by decide +kernel
theorem dX7_link_35 : decode cX7_link 35 = .ok (.l2i, 1) := by decide +kernel
theorem dX7_link_36 : decode cX7_link 36 = .ok (.goto 8, 3) := by decide +kernel
theorem dX7_link_39 : decode cX7_link 39 = .ok (.aload_n 0, 1) := by decide +kernel
theorem dX7_link_40 : decode cX7_link 40 = .ok (.iconst 1, 1) := by decide +kernel
theorem dX7_link_41 : decode cX7_link 41 = .ok (.invokevirtual 208, 3) := by decide +kernel
theorem dX7_link_44 : decode cX7_link 44 = .ok (.ireturn, 1) := by decide +kernel
theorem dX7_leastOf_0 : decode cX7_leastOf 0 = .ok (.iload_n 0, 1) := by decide +kernel
theorem dX7_leastOf_1 : decode cX7_leastOf 1 = .ok (.bipush 7, 2) := by decide +kernel
theorem dX7_leastOf_3 : decode cX7_leastOf 3 = .ok (.if_icmp .ne 7, 3) := by decide +kernel
theorem dX7_leastOf_6 : decode cX7_leastOf 6 = .ok (.iconst 0, 1) := by decide +kernel
theorem dX7_leastOf_7 : decode cX7_leastOf 7 = .ok (.goto 4, 3) := by decide +kernel
theorem dX7_leastOf_10 : decode cX7_leastOf 10 = .ok (.iconst 1, 1) := by decide +kernel
theorem dX7_leastOf_11 : decode cX7_leastOf 11 = .ok (.ireturn, 1) := by decide +kernel
theorem dX7_mostOf_0 : decode cX7_mostOf 0 = .ok (.iload_n 0, 1) := by decide +kernel
theorem dX7_mostOf_1 : decode cX7_mostOf 1 = .ok (.tableswitch 55 0 6 #[43, 55, 55, 55, 47, 50, 52], 43) := by decide +kernel
theorem dX7_mostOf_44 : decode cX7_mostOf 44 = .ok (.sipush 1000, 3) := by decide +kernel
theorem dX7_mostOf_47 : decode cX7_mostOf 47 = .ok (.ireturn, 1) := by decide +kernel
theorem dX7_mostOf_48 : decode cX7_mostOf 48 = .ok (.bipush 15, 2) := by decide +kernel
theorem dX7_mostOf_50 : decode cX7_mostOf 50 = .ok (.ireturn, 1) := by decide +kernel
theorem dX7_mostOf_51 : decode cX7_mostOf 51 = .ok (.iconst 3, 1) := by decide +kernel
theorem dX7_mostOf_52 : decode cX7_mostOf 52 = .ok (.ireturn, 1) := by decide +kernel
theorem dX7_mostOf_53 : decode cX7_mostOf 53 = .ok (.bipush 50, 2) := by decide +kernel
theorem dX7_mostOf_55 : decode cX7_mostOf 55 = .ok (.ireturn, 1) := by decide +kernel
theorem dX7_mostOf_56 : decode cX7_mostOf 56 = .ok (.bipush 10, 2) := by decide +kernel
theorem dX7_mostOf_58 : decode cX7_mostOf 58 = .ok (.ireturn, 1) := by decide +kernel
theorem dX7_setParameter_0 : decode cX7_setParameter 0 = .ok (.aload_n 0, 1) := by decide +kernel
theorem dX7_setParameter_1 : decode cX7_setParameter 1 = .ok (.iconst 0, 1) := by decide +kernel
theorem dX7_setParameter_2 : decode cX7_setParameter 2 = .ok (.putfield 34, 3) := by decide +kernel
theorem dX7_setParameter_5 : decode cX7_setParameter 5 = .ok (.iload_n 1, 1) := by decide +kernel
theorem dX7_setParameter_6 : decode cX7_setParameter 6 = .ok (.i2l, 1) := by decide +kernel
theorem dX7_setParameter_7 : decode cX7_setParameter 7 = .ok (.lconst 0, 1) := by decide +kernel
theorem dX7_setParameter_8 : decode cX7_setParameter 8 = .ok (.ldc2_w 217, 3) := by decide +kernel
theorem dX7_setParameter_11 : decode cX7_setParameter 11 = .ok (.invokestatic 38, 3) := by decide +kernel
theorem dX7_setParameter_14 : decode cX7_setParameter 14 = .ok (.ifCond .ne 9, 3) := by decide +kernel
theorem dX7_setParameter_17 : decode cX7_setParameter 17 = .ok (.aload_n 0, 1) := by decide +kernel
theorem dX7_setParameter_18 : decode cX7_setParameter 18 = .ok (.iconst 1, 1) := by decide +kernel
theorem dX7_setParameter_19 : decode cX7_setParameter 19 = .ok (.invokevirtual 208, 3) := by decide +kernel
theorem dX7_setParameter_22 : decode cX7_setParameter 22 = .ok (.ireturn, 1) := by decide +kernel
theorem dX7_setParameter_23 : decode cX7_setParameter 23 = .ok (.iload_n 2, 1) := by decide +kernel
theorem dX7_setParameter_24 : decode cX7_setParameter 24 = .ok (.i2l, 1) := by decide +kernel
theorem dX7_setParameter_25 : decode cX7_setParameter 25 = .ok (.iload_n 1, 1) := by decide +kernel
theorem dX7_setParameter_26 : decode cX7_setParameter 26 = .ok (.invokestatic 219, 3) := by decide +kernel
theorem dX7_setParameter_29 : decode cX7_setParameter 29 = .ok (.i2l, 1) := by decide +kernel
theorem dX7_setParameter_30 : decode cX7_setParameter 30 = .ok (.iload_n 1, 1) := by decide +kernel
theorem dX7_setParameter_31 : decode cX7_setParameter 31 = .ok (.invokestatic 222, 3) := by decide +kernel
theorem dX7_setParameter_34 : decode cX7_setParameter 34 = .ok (.i2l, 1) := by decide +kernel
theorem dX7_setParameter_35 : decode cX7_setParameter 35 = .ok (.invokestatic 38, 3) := by decide +kernel
theorem dX7_setParameter_38 : decode cX7_setParameter 38 = .ok (.ifCond .ne 9, 3) := by decide +kernel
theorem dX7_setParameter_41 : decode cX7_setParameter 41 = .ok (.aload_n 0, 1) := by decide +kernel
theorem dX7_setParameter_42 : decode cX7_setParameter 42 = .ok (.iconst 2, 1) := by decide +kernel
theorem dX7_setParameter_43 : decode cX7_setParameter 43 = .ok (.invokevirtual 208, 3) := by decide +kernel
theorem dX7_setParameter_46 : decode cX7_setParameter 46 = .ok (.ireturn, 1) := by decide +kernel
theorem dX7_setParameter_47 : decode cX7_setParameter 47 = .ok (.aload_n 0, 1) := by decide +kernel
theorem dX7_setParameter_48 : decode cX7_setParameter 48 = .ok (.getfield 8, 3) := by decide +kernel
theorem dX7_setParameter_51 : decode cX7_setParameter 51 = .ok (.bipush 40, 2) := by decide +kernel
theorem dX7_setParameter_53 : decode cX7_setParameter 53 = .ok (.iload_n 1, 1) := by decide +kernel
theorem dX7_setParameter_54 : decode cX7_setParameter 54 = .ok (.iadd, 1) := by decide +kernel
theorem dX7_setParameter_55 : decode cX7_setParameter 55 = .ok (.laload, 1) := by decide +kernel
theorem dX7_setParameter_56 : decode cX7_setParameter 56 = .ok (.l2i, 1) := by decide +kernel
theorem dX7_setParameter_57 : decode cX7_setParameter 57 = .ok (.istore_n 3, 1) := by decide +kernel
theorem dX7_setParameter_58 : decode cX7_setParameter 58 = .ok (.aload_n 0, 1) := by decide +kernel
theorem dX7_setParameter_59 : decode cX7_setParameter 59 = .ok (.getfield 8, 3) := by decide +kernel
theorem dX7_setParameter_62 : decode cX7_setParameter 62 = .ok (.bipush 40, 2) := by decide +kernel
theorem dX7_setParameter_64 : decode cX7_setParameter 64 = .ok (.iload_n 1, 1) := by decide +kernel
theorem dX7_setParameter_65 : decode cX7_setParameter 65 = .ok (.iadd, 1) := by decide +kernel
theorem dX7_setParameter_66 : decode cX7_setParameter 66 = .ok (.iload_n 2, 1) := by decide +kernel
theorem dX7_setParameter_67 : decode cX7_setParameter 67 = .ok (.i2l, 1) := by decide +kernel
theorem dX7_setParameter_68 : decode cX7_setParameter 68 = .ok (.lastore, 1) := by decide +kernel
theorem dX7_setParameter_69 : decode cX7_setParameter 69 = .ok (.iload_n 3, 1) := by decide +kernel
theorem dX7_setParameter_70 : decode cX7_setParameter 70 = .ok (.ireturn, 1) := by decide +kernel
theorem dX7_begins2_0 : decode cX7_begins2 0 = .ok (.aload_n 0, 1) := by decide +kernel
theorem dX7_begins2_1 : decode cX7_begins2 1 = .ok (.getfield 8, 3) := by decide +kernel
theorem dX7_begins2_4 : decode cX7_begins2 4 = .ok (.bipush 10, 2) := by decide +kernel
theorem dX7_begins2_6 : decode cX7_begins2 6 = .ok (.laload, 1) := by decide +kernel
theorem dX7_begins2_7 : decode cX7_begins2 7 = .ok (.l2i, 1) := by decide +kernel
theorem dX7_begins2_8 : decode cX7_begins2 8 = .ok (.istore_n 3, 1) := by decide +kernel
theorem dX7_begins2_9 : decode cX7_begins2 9 = .ok (.aload_n 0, 1) := by decide +kernel
theorem dX7_begins2_10 : decode cX7_begins2 10 = .ok (.getfield 8, 3) := by decide +kernel
theorem dX7_begins2_13 : decode cX7_begins2 13 = .ok (.bipush 10, 2) := by decide +kernel
theorem dX7_begins2_15 : decode cX7_begins2 15 = .ok (.dup2, 1) := by decide +kernel
theorem dX7_begins2_16 : decode cX7_begins2 16 = .ok (.laload, 1) := by decide +kernel
theorem dX7_begins2_17 : decode cX7_begins2 17 = .ok (.lconst 1, 1) := by decide +kernel
theorem dX7_begins2_18 : decode cX7_begins2 18 = .ok (.ladd, 1) := by decide +kernel
theorem dX7_begins2_19 : decode cX7_begins2 19 = .ok (.lastore, 1) := by decide +kernel
theorem dX7_begins2_20 : decode cX7_begins2 20 = .ok (.aload_n 0, 1) := by decide +kernel
theorem dX7_begins2_21 : decode cX7_begins2 21 = .ok (.getfield 8, 3) := by decide +kernel
theorem dX7_begins2_24 : decode cX7_begins2 24 = .ok (.iload_n 3, 1) := by decide +kernel
theorem dX7_begins2_25 : decode cX7_begins2 25 = .ok (.invokestatic 91, 3) := by decide +kernel
theorem dX7_begins2_28 : decode cX7_begins2 28 = .ok (.iconst 0, 1) := by decide +kernel
theorem dX7_begins2_29 : decode cX7_begins2 29 = .ok (.iadd, 1) := by decide +kernel
theorem dX7_begins2_30 : decode cX7_begins2 30 = .ok (.iload_n 1, 1) := by decide +kernel
theorem dX7_begins2_31 : decode cX7_begins2 31 = .ok (.i2l, 1) := by decide +kernel
theorem dX7_begins2_32 : decode cX7_begins2 32 = .ok (.lastore, 1) := by decide +kernel
theorem dX7_begins2_33 : decode cX7_begins2 33 = .ok (.aload_n 0, 1) := by decide +kernel
theorem dX7_begins2_34 : decode cX7_begins2 34 = .ok (.getfield 8, 3) := by decide +kernel
theorem dX7_begins2_37 : decode cX7_begins2 37 = .ok (.iload_n 3, 1) := by decide +kernel
theorem dX7_begins2_38 : decode cX7_begins2 38 = .ok (.invokestatic 91, 3) := by decide +kernel
theorem dX7_begins2_41 : decode cX7_begins2 41 = .ok (.iconst 1, 1) := by decide +kernel
theorem dX7_begins2_42 : decode cX7_begins2 42 = .ok (.iadd, 1) := by decide +kernel
theorem dX7_begins2_43 : decode cX7_begins2 43 = .ok (.iload_n 2, 1) := by decide +kernel
theorem dX7_begins2_44 : decode cX7_begins2 44 = .ok (.i2l, 1) := by decide +kernel
theorem dX7_begins2_45 : decode cX7_begins2 45 = .ok (.lastore, 1) := by decide +kernel
theorem dX7_begins2_46 : decode cX7_begins2 46 = .ok (.aload_n 0, 1) := by decide +kernel
theorem dX7_begins2_47 : decode cX7_begins2 47 = .ok (.getfield 8, 3) := by decide +kernel
theorem dX7_begins2_50 : decode cX7_begins2 50 = .ok (.iload_n 3, 1) := by decide +kernel
theorem dX7_begins2_51 : decode cX7_begins2 51 = .ok (.invokestatic 91, 3) := by decide +kernel
theorem dX7_begins2_54 : decode cX7_begins2 54 = .ok (.iconst 5, 1) := by decide +kernel
theorem dX7_begins2_55 : decode cX7_begins2 55 = .ok (.iadd, 1) := by decide +kernel
theorem dX7_begins2_56 : decode cX7_begins2 56 = .ok (.ldc2_w 24, 3) := by decide +kernel
theorem dX7_begins2_59 : decode cX7_begins2 59 = .ok (.lastore, 1) := by decide +kernel
theorem dX7_begins2_60 : decode cX7_begins2 60 = .ok (.aload_n 0, 1) := by decide +kernel
theorem dX7_begins2_61 : decode cX7_begins2 61 = .ok (.iload_n 3, 1) := by decide +kernel
theorem dX7_begins2_62 : decode cX7_begins2 62 = .ok (.iload_n 1, 1) := by decide +kernel
theorem dX7_begins2_63 : decode cX7_begins2 63 = .ok (.iconst (-1), 1) := by decide +kernel
theorem dX7_begins2_64 : decode cX7_begins2 64 = .ok (.invokevirtual 124, 3) := by decide +kernel
theorem dX7_begins2_67 : decode cX7_begins2 67 = .ok (.iload_n 3, 1) := by decide +kernel
theorem dX7_begins2_68 : decode cX7_begins2 68 = .ok (.ireturn, 1) := by decide +kernel
theorem dX7_send_0 : decode cX7_send 0 = .ok (.aload_n 0, 1) := by decide +kernel
theorem dX7_send_1 : decode cX7_send 1 = .ok (.iconst 0, 1) := by decide +kernel
theorem dX7_send_2 : decode cX7_send 2 = .ok (.putfield 34, 3) := by decide +kernel
theorem dX7_send_5 : decode cX7_send 5 = .ok (.aload_n 0, 1) := by decide +kernel
theorem dX7_send_6 : decode cX7_send 6 = .ok (.iload_n 1, 1) := by decide +kernel
theorem dX7_send_7 : decode cX7_send 7 = .ok (.invokevirtual 204, 3) := by decide +kernel
theorem dX7_send_10 : decode cX7_send 10 = .ok (.ifCond .eq 11, 3) := by decide +kernel
theorem dX7_send_13 : decode cX7_send 13 = .ok (.aload_n 0, 1) := by decide +kernel
theorem dX7_send_14 : decode cX7_send 14 = .ok (.iload_n 2, 1) := by decide +kernel
theorem dX7_send_15 : decode cX7_send 15 = .ok (.invokevirtual 204, 3) := by decide +kernel
theorem dX7_send_18 : decode cX7_send 18 = .ok (.ifCond .ne 9, 3) := by decide +kernel
theorem dX7_send_21 : decode cX7_send 21 = .ok (.aload_n 0, 1) := by decide +kernel
theorem dX7_send_22 : decode cX7_send 22 = .ok (.iconst 1, 1) := by decide +kernel
theorem dX7_send_23 : decode cX7_send 23 = .ok (.invokevirtual 208, 3) := by decide +kernel
theorem dX7_send_26 : decode cX7_send 26 = .ok (.ireturn, 1) := by decide +kernel
theorem dX7_send_27 : decode cX7_send 27 = .ok (.iload_n 1, 1) := by decide +kernel
theorem dX7_send_28 : decode cX7_send 28 = .ok (.iload_n 2, 1) := by decide +kernel
theorem dX7_send_29 : decode cX7_send 29 = .ok (.if_icmp .ne 9, 3) := by decide +kernel
theorem dX7_send_32 : decode cX7_send 32 = .ok (.aload_n 0, 1) := by decide +kernel
theorem dX7_send_33 : decode cX7_send 33 = .ok (.iconst 2, 1) := by decide +kernel
theorem dX7_send_34 : decode cX7_send 34 = .ok (.invokevirtual 208, 3) := by decide +kernel
theorem dX7_send_37 : decode cX7_send 37 = .ok (.ireturn, 1) := by decide +kernel
theorem dX7_send_38 : decode cX7_send 38 = .ok (.aload_n 0, 1) := by decide +kernel
theorem dX7_send_39 : decode cX7_send 39 = .ok (.getfield 8, 3) := by decide +kernel
theorem dX7_send_42 : decode cX7_send 42 = .ok (.bipush 10, 2) := by decide +kernel
theorem dX7_send_44 : decode cX7_send 44 = .ok (.laload, 1) := by decide +kernel
theorem dX7_send_45 : decode cX7_send 45 = .ok (.ldc2_w 225, 3) := by decide +kernel
theorem dX7_send_48 : decode cX7_send 48 = .ok (.lcmp, 1) := by decide +kernel
theorem dX7_send_49 : decode cX7_send 49 = .ok (.ifCond .ne 11, 3) := by decide +kernel
theorem dX7_send_52 : decode cX7_send 52 = .ok (.aload_n 0, 1) := by decide +kernel
theorem dX7_send_53 : decode cX7_send 53 = .ok (.iconst 3, 1) := by decide +kernel
theorem dX7_send_54 : decode cX7_send 54 = .ok (.invokevirtual 208, 3) := by decide +kernel
theorem dX7_send_57 : decode cX7_send 57 = .ok (.goto 9, 3) := by decide +kernel
theorem dX7_send_60 : decode cX7_send 60 = .ok (.aload_n 0, 1) := by decide +kernel
theorem dX7_send_61 : decode cX7_send 61 = .ok (.iload_n 1, 1) := by decide +kernel
theorem dX7_send_62 : decode cX7_send 62 = .ok (.iload_n 2, 1) := by decide +kernel
theorem dX7_send_63 : decode cX7_send 63 = .ok (.invokevirtual 227, 3) := by decide +kernel
theorem dX7_send_66 : decode cX7_send 66 = .ok (.ireturn, 1) := by decide +kernel
theorem dX7_step_0 : decode cX7_step 0 = .ok (.aload_n 0, 1) := by decide +kernel
theorem dX7_step_1 : decode cX7_step 1 = .ok (.iconst 0, 1) := by decide +kernel
theorem dX7_step_2 : decode cX7_step 2 = .ok (.putfield 34, 3) := by decide +kernel
theorem dX7_step_5 : decode cX7_step 5 = .ok (.aload_n 0, 1) := by decide +kernel
theorem dX7_step_6 : decode cX7_step 6 = .ok (.ldc2_w 230, 3) := by decide +kernel
theorem dX7_step_9 : decode cX7_step 9 = .ok (.invokevirtual 194, 3) := by decide +kernel
theorem dX7_step_12 : decode cX7_step 12 = .ok (.ireturn, 1) := by decide +kernel
theorem dX7_run_0 : decode cX7_run 0 = .ok (.aload_n 0, 1) := by decide +kernel
theorem dX7_run_1 : decode cX7_run 1 = .ok (.iconst 0, 1) := by decide +kernel
theorem dX7_run_2 : decode cX7_run 2 = .ok (.putfield 34, 3) := by decide +kernel
theorem dX7_run_5 : decode cX7_run 5 = .ok (.iload_n 1, 1) := by decide +kernel
theorem dX7_run_6 : decode cX7_run 6 = .ok (.i2l, 1) := by decide +kernel
theorem dX7_run_7 : decode cX7_run 7 = .ok (.lconst 0, 1) := by decide +kernel
theorem dX7_run_8 : decode cX7_run 8 = .ok (.ldc2_w 232, 3) := by decide +kernel
theorem dX7_run_11 : decode cX7_run 11 = .ok (.invokestatic 38, 3) := by decide +kernel
theorem dX7_run_14 : decode cX7_run 14 = .ok (.ifCond .eq 19, 3) := by decide +kernel
theorem dX7_run_17 : decode cX7_run 17 = .ok (.aload_n 0, 1) := by decide +kernel
theorem dX7_run_18 : decode cX7_run 18 = .ok (.aload_n 0, 1) := by decide +kernel
theorem dX7_run_19 : decode cX7_run 19 = .ok (.getfield 8, 3) := by decide +kernel
theorem dX7_run_22 : decode cX7_run 22 = .ok (.iconst 0, 1) := by decide +kernel
theorem dX7_run_23 : decode cX7_run 23 = .ok (.laload, 1) := by decide +kernel
theorem dX7_run_24 : decode cX7_run 24 = .ok (.iload_n 1, 1) := by decide +kernel
theorem dX7_run_25 : decode cX7_run 25 = .ok (.i2l, 1) := by decide +kernel
theorem dX7_run_26 : decode cX7_run 26 = .ok (.ladd, 1) := by decide +kernel
theorem dX7_run_27 : decode cX7_run 27 = .ok (.invokevirtual 234, 3) := by decide +kernel
theorem dX7_run_30 : decode cX7_run 30 = .ok (.goto 8, 3) := by decide +kernel
theorem dX7_run_33 : decode cX7_run 33 = .ok (.aload_n 0, 1) := by decide +kernel
theorem dX7_run_34 : decode cX7_run 34 = .ok (.iconst 1, 1) := by decide +kernel
theorem dX7_run_35 : decode cX7_run 35 = .ok (.invokevirtual 208, 3) := by decide +kernel
theorem dX7_run_38 : decode cX7_run 38 = .ok (.ireturn, 1) := by decide +kernel
theorem dX7_time_0 : decode cX7_time 0 = .ok (.aload_n 0, 1) := by decide +kernel
theorem dX7_time_1 : decode cX7_time 1 = .ok (.iconst 0, 1) := by decide +kernel
theorem dX7_time_2 : decode cX7_time 2 = .ok (.putfield 34, 3) := by decide +kernel
theorem dX7_time_5 : decode cX7_time 5 = .ok (.aload_n 0, 1) := by decide +kernel
theorem dX7_time_6 : decode cX7_time 6 = .ok (.getfield 8, 3) := by decide +kernel
theorem dX7_time_9 : decode cX7_time 9 = .ok (.iconst 0, 1) := by decide +kernel
theorem dX7_time_10 : decode cX7_time 10 = .ok (.laload, 1) := by decide +kernel
theorem dX7_time_11 : decode cX7_time 11 = .ok (.l2i, 1) := by decide +kernel
theorem dX7_time_12 : decode cX7_time 12 = .ok (.ireturn, 1) := by decide +kernel
theorem dX7_nextEvent_0 : decode cX7_nextEvent 0 = .ok (.aload_n 0, 1) := by decide +kernel
theorem dX7_nextEvent_1 : decode cX7_nextEvent 1 = .ok (.iconst 0, 1) := by decide +kernel
theorem dX7_nextEvent_2 : decode cX7_nextEvent 2 = .ok (.putfield 34, 3) := by decide +kernel
theorem dX7_nextEvent_5 : decode cX7_nextEvent 5 = .ok (.aload_n 0, 1) := by decide +kernel
theorem dX7_nextEvent_6 : decode cX7_nextEvent 6 = .ok (.invokevirtual 181, 3) := by decide +kernel
theorem dX7_nextEvent_9 : decode cX7_nextEvent 9 = .ok (.lstore_n 1, 1) := by decide +kernel
theorem dX7_nextEvent_10 : decode cX7_nextEvent 10 = .ok (.aload_n 0, 1) := by decide +kernel
theorem dX7_nextEvent_11 : decode cX7_nextEvent 11 = .ok (.invokevirtual 184, 3) := by decide +kernel
theorem dX7_nextEvent_14 : decode cX7_nextEvent 14 = .ok (.istore_n 3, 1) := by decide +kernel
theorem dX7_nextEvent_15 : decode cX7_nextEvent 15 = .ok (.iload_n 3, 1) := by decide +kernel
theorem dX7_nextEvent_16 : decode cX7_nextEvent 16 = .ok (.ifCond .ge 9, 3) := by decide +kernel
theorem dX7_nextEvent_19 : decode cX7_nextEvent 19 = .ok (.ldc2_w 24, 3) := by decide +kernel
theorem dX7_nextEvent_22 : decode cX7_nextEvent 22 = .ok (.goto 17, 3) := by decide +kernel
theorem dX7_nextEvent_25 : decode cX7_nextEvent 25 = .ok (.aload_n 0, 1) := by decide +kernel
theorem dX7_nextEvent_26 : decode cX7_nextEvent 26 = .ok (.getfield 8, 3) := by decide +kernel
theorem dX7_nextEvent_29 : decode cX7_nextEvent 29 = .ok (.sipush 1000, 3) := by decide +kernel
theorem dX7_nextEvent_32 : decode cX7_nextEvent 32 = .ok (.iconst 4, 1) := by decide +kernel
theorem dX7_nextEvent_33 : decode cX7_nextEvent 33 = .ok (.iload_n 3, 1) := by decide +kernel
theorem dX7_nextEvent_34 : decode cX7_nextEvent 34 = .ok (.imul, 1) := by decide +kernel
theorem dX7_nextEvent_35 : decode cX7_nextEvent 35 = .ok (.iadd, 1) := by decide +kernel
theorem dX7_nextEvent_36 : decode cX7_nextEvent 36 = .ok (.iconst 1, 1) := by decide +kernel
theorem dX7_nextEvent_37 : decode cX7_nextEvent 37 = .ok (.iadd, 1) := by decide +kernel
theorem dX7_nextEvent_38 : decode cX7_nextEvent 38 = .ok (.laload, 1) := by decide +kernel
theorem dX7_nextEvent_39 : decode cX7_nextEvent 39 = .ok (.lstore 4, 2) := by decide +kernel
theorem dX7_nextEvent_41 : decode cX7_nextEvent 41 = .ok (.lload_n 1, 1) := by decide +kernel
theorem dX7_nextEvent_42 : decode cX7_nextEvent 42 = .ok (.lconst 0, 1) := by decide +kernel
theorem dX7_nextEvent_43 : decode cX7_nextEvent 43 = .ok (.lcmp, 1) := by decide +kernel
theorem dX7_nextEvent_44 : decode cX7_nextEvent 44 = .ok (.ifCond .lt 17, 3) := by decide +kernel
theorem dX7_nextEvent_47 : decode cX7_nextEvent 47 = .ok (.lload 4, 2) := by decide +kernel
theorem dX7_nextEvent_49 : decode cX7_nextEvent 49 = .ok (.lconst 0, 1) := by decide +kernel
theorem dX7_nextEvent_50 : decode cX7_nextEvent 50 = .ok (.lcmp, 1) := by decide +kernel
theorem dX7_nextEvent_51 : decode cX7_nextEvent 51 = .ok (.ifCond .lt 15, 3) := by decide +kernel
theorem dX7_nextEvent_54 : decode cX7_nextEvent 54 = .ok (.lload 4, 2) := by decide +kernel
theorem dX7_nextEvent_56 : decode cX7_nextEvent 56 = .ok (.lload_n 1, 1) := by decide +kernel
theorem dX7_nextEvent_57 : decode cX7_nextEvent 57 = .ok (.lcmp, 1) := by decide +kernel
theorem dX7_nextEvent_58 : decode cX7_nextEvent 58 = .ok (.ifCond .ge 8, 3) := by decide +kernel
theorem dX7_nextEvent_61 : decode cX7_nextEvent 61 = .ok (.lload 4, 2) := by decide +kernel
theorem dX7_nextEvent_63 : decode cX7_nextEvent 63 = .ok (.goto 4, 3) := by decide +kernel
theorem dX7_nextEvent_66 : decode cX7_nextEvent 66 = .ok (.lload_n 1, 1) := by decide +kernel
theorem dX7_nextEvent_67 : decode cX7_nextEvent 67 = .ok (.l2i, 1) := by decide +kernel
theorem dX7_nextEvent_68 : decode cX7_nextEvent 68 = .ok (.ireturn, 1) := by decide +kernel
theorem dX7_ofKind_0 : decode cX7_ofKind 0 = .ok (.aload_n 0, 1) := by decide +kernel
theorem dX7_ofKind_1 : decode cX7_ofKind 1 = .ok (.iload_n 1, 1) := by decide +kernel
theorem dX7_ofKind_2 : decode cX7_ofKind 2 = .ok (.i2l, 1) := by decide +kernel
theorem dX7_ofKind_3 : decode cX7_ofKind 3 = .ok (.lconst 0, 1) := by decide +kernel
theorem dX7_ofKind_4 : decode cX7_ofKind 4 = .ok (.ldc2_w 32, 3) := by decide +kernel
theorem dX7_ofKind_7 : decode cX7_ofKind 7 = .ok (.invokestatic 38, 3) := by decide +kernel
theorem dX7_ofKind_10 : decode cX7_ofKind 10 = .ok (.ifCond .eq 7, 3) := by decide +kernel
theorem dX7_ofKind_13 : decode cX7_ofKind 13 = .ok (.iconst 0, 1) := by decide +kernel
theorem dX7_ofKind_14 : decode cX7_ofKind 14 = .ok (.goto 4, 3) := by decide +kernel
theorem dX7_ofKind_17 : decode cX7_ofKind 17 = .ok (.iconst 1, 1) := by decide +kernel
theorem dX7_ofKind_18 : decode cX7_ofKind 18 = .ok (.putfield 34, 3) := by decide +kernel
theorem dX7_ofKind_21 : decode cX7_ofKind 21 = .ok (.iload_n 1, 1) := by decide +kernel
theorem dX7_ofKind_22 : decode cX7_ofKind 22 = .ok (.i2l, 1) := by decide +kernel
theorem dX7_ofKind_23 : decode cX7_ofKind 23 = .ok (.lconst 0, 1) := by decide +kernel
theorem dX7_ofKind_24 : decode cX7_ofKind 24 = .ok (.ldc2_w 32, 3) := by decide +kernel
theorem dX7_ofKind_27 : decode cX7_ofKind 27 = .ok (.invokestatic 38, 3) := by decide +kernel
theorem dX7_ofKind_30 : decode cX7_ofKind 30 = .ok (.ifCond .eq 15, 3) := by decide +kernel
theorem dX7_ofKind_33 : decode cX7_ofKind 33 = .ok (.aload_n 0, 1) := by decide +kernel
theorem dX7_ofKind_34 : decode cX7_ofKind 34 = .ok (.getfield 8, 3) := by decide +kernel
theorem dX7_ofKind_37 : decode cX7_ofKind 37 = .ok (.iload_n 2, 1) := by decide +kernel
theorem dX7_ofKind_38 : decode cX7_ofKind 38 = .ok (.iload_n 1, 1) := by decide +kernel
theorem dX7_ofKind_39 : decode cX7_ofKind 39 = .ok (.iadd, 1) := by decide +kernel
theorem dX7_ofKind_40 : decode cX7_ofKind 40 = .ok (.laload, 1) := by decide +kernel
theorem dX7_ofKind_41 : decode cX7_ofKind 41 = .ok (.l2i, 1) := by decide +kernel
theorem dX7_ofKind_42 : decode cX7_ofKind 42 = .ok (.goto 4, 3) := by decide +kernel
theorem dX7_ofKind_45 : decode cX7_ofKind 45 = .ok (.iconst 0, 1) := by decide +kernel
theorem dX7_ofKind_46 : decode cX7_ofKind 46 = .ok (.ireturn, 1) := by decide +kernel
theorem dX7_inFlight_0 : decode cX7_inFlight 0 = .ok (.aload_n 0, 1) := by decide +kernel
theorem dX7_inFlight_1 : decode cX7_inFlight 1 = .ok (.iload_n 1, 1) := by decide +kernel
theorem dX7_inFlight_2 : decode cX7_inFlight 2 = .ok (.bipush 6, 2) := by decide +kernel
theorem dX7_inFlight_4 : decode cX7_inFlight 4 = .ok (.invokevirtual 237, 3) := by decide +kernel
theorem dX7_inFlight_7 : decode cX7_inFlight 7 = .ok (.ireturn, 1) := by decide +kernel
theorem dX7_sent_0 : decode cX7_sent 0 = .ok (.aload_n 0, 1) := by decide +kernel
theorem dX7_sent_1 : decode cX7_sent 1 = .ok (.iload_n 1, 1) := by decide +kernel
theorem dX7_sent_2 : decode cX7_sent 2 = .ok (.iconst 2, 1) := by decide +kernel
theorem dX7_sent_3 : decode cX7_sent 3 = .ok (.invokevirtual 237, 3) := by decide +kernel
theorem dX7_sent_6 : decode cX7_sent 6 = .ok (.ireturn, 1) := by decide +kernel
theorem dX7_lacks_0 : decode cX7_lacks 0 = .ok (.aload_n 0, 1) := by decide +kernel
theorem dX7_lacks_1 : decode cX7_lacks 1 = .ok (.aload_n 0, 1) := by decide +kernel
theorem dX7_lacks_2 : decode cX7_lacks 2 = .ok (.iload_n 1, 1) := by decide +kernel
theorem dX7_lacks_3 : decode cX7_lacks 3 = .ok (.invokevirtual 204, 3) := by decide +kernel
theorem dX7_lacks_6 : decode cX7_lacks 6 = .ok (.ifCond .eq 15, 3) := by decide +kernel
theorem dX7_lacks_9 : decode cX7_lacks 9 = .ok (.aload_n 0, 1) := by decide +kernel
theorem dX7_lacks_10 : decode cX7_lacks 10 = .ok (.iload_n 2, 1) := by decide +kernel
theorem dX7_lacks_11 : decode cX7_lacks 11 = .ok (.invokevirtual 204, 3) := by decide +kernel
theorem dX7_lacks_14 : decode cX7_lacks 14 = .ok (.ifCond .eq 7, 3) := by decide +kernel
theorem dX7_lacks_17 : decode cX7_lacks 17 = .ok (.iconst 0, 1) := by decide +kernel
theorem dX7_lacks_18 : decode cX7_lacks 18 = .ok (.goto 4, 3) := by decide +kernel
theorem dX7_lacks_21 : decode cX7_lacks 21 = .ok (.iconst 1, 1) := by decide +kernel
theorem dX7_lacks_22 : decode cX7_lacks 22 = .ok (.putfield 34, 3) := by decide +kernel
theorem dX7_lacks_25 : decode cX7_lacks 25 = .ok (.aload_n 0, 1) := by decide +kernel
theorem dX7_lacks_26 : decode cX7_lacks 26 = .ok (.getfield 34, 3) := by decide +kernel
theorem dX7_lacks_29 : decode cX7_lacks 29 = .ok (.iconst 1, 1) := by decide +kernel
theorem dX7_lacks_30 : decode cX7_lacks 30 = .ok (.if_icmp .ne 7, 3) := by decide +kernel
theorem dX7_lacks_33 : decode cX7_lacks 33 = .ok (.iconst 1, 1) := by decide +kernel
theorem dX7_lacks_34 : decode cX7_lacks 34 = .ok (.goto 4, 3) := by decide +kernel
theorem dX7_lacks_37 : decode cX7_lacks 37 = .ok (.iconst 0, 1) := by decide +kernel
theorem dX7_lacks_38 : decode cX7_lacks 38 = .ok (.ireturn, 1) := by decide +kernel
theorem dX7_told_0 : decode cX7_told 0 = .ok (.aload_n 0, 1) := by decide +kernel
theorem dX7_told_1 : decode cX7_told 1 = .ok (.iload_n 1, 1) := by decide +kernel
theorem dX7_told_2 : decode cX7_told 2 = .ok (.iload_n 2, 1) := by decide +kernel
theorem dX7_told_3 : decode cX7_told 3 = .ok (.invokevirtual 240, 3) := by decide +kernel
theorem dX7_told_6 : decode cX7_told 6 = .ok (.ifCond .eq 5, 3) := by decide +kernel
theorem dX7_told_9 : decode cX7_told 9 = .ok (.iconst 0, 1) := by decide +kernel
theorem dX7_told_10 : decode cX7_told 10 = .ok (.ireturn, 1) := by decide +kernel
theorem dX7_told_11 : decode cX7_told 11 = .ok (.aload_n 0, 1) := by decide +kernel
theorem dX7_told_12 : decode cX7_told 12 = .ok (.getfield 8, 3) := by decide +kernel
theorem dX7_told_15 : decode cX7_told 15 = .ok (.iload_n 1, 1) := by decide +kernel
theorem dX7_told_16 : decode cX7_told 16 = .ok (.iload_n 2, 1) := by decide +kernel
theorem dX7_told_17 : decode cX7_told 17 = .ok (.invokestatic 42, 3) := by decide +kernel
theorem dX7_told_20 : decode cX7_told 20 = .ok (.iconst 0, 1) := by decide +kernel
theorem dX7_told_21 : decode cX7_told 21 = .ok (.iadd, 1) := by decide +kernel
theorem dX7_told_22 : decode cX7_told 22 = .ok (.laload, 1) := by decide +kernel
theorem dX7_told_23 : decode cX7_told 23 = .ok (.lconst 1, 1) := by decide +kernel
theorem dX7_told_24 : decode cX7_told 24 = .ok (.lcmp, 1) := by decide +kernel
theorem dX7_told_25 : decode cX7_told 25 = .ok (.ifCond .ne 19, 3) := by decide +kernel
theorem dX7_told_28 : decode cX7_told 28 = .ok (.aload_n 0, 1) := by decide +kernel
theorem dX7_told_29 : decode cX7_told 29 = .ok (.getfield 8, 3) := by decide +kernel
theorem dX7_told_32 : decode cX7_told 32 = .ok (.iload_n 1, 1) := by decide +kernel
theorem dX7_told_33 : decode cX7_told 33 = .ok (.iload_n 2, 1) := by decide +kernel
theorem dX7_told_34 : decode cX7_told 34 = .ok (.invokestatic 42, 3) := by decide +kernel
theorem dX7_told_37 : decode cX7_told 37 = .ok (.iload_n 3, 1) := by decide +kernel
theorem dX7_told_38 : decode cX7_told 38 = .ok (.iadd, 1) := by decide +kernel
theorem dX7_told_39 : decode cX7_told 39 = .ok (.laload, 1) := by decide +kernel
theorem dX7_told_40 : decode cX7_told 40 = .ok (.l2i, 1) := by decide +kernel
theorem dX7_told_41 : decode cX7_told 41 = .ok (.goto 5, 3) := by decide +kernel
theorem dX7_told_44 : decode cX7_told 44 = .ok (.iload 4, 2) := by decide +kernel
theorem dX7_told_46 : decode cX7_told 46 = .ok (.ireturn, 1) := by decide +kernel
theorem dX7_isValid_0 : decode cX7_isValid 0 = .ok (.aload_n 0, 1) := by decide +kernel
theorem dX7_isValid_1 : decode cX7_isValid 1 = .ok (.iload_n 1, 1) := by decide +kernel
theorem dX7_isValid_2 : decode cX7_isValid 2 = .ok (.iload_n 2, 1) := by decide +kernel
theorem dX7_isValid_3 : decode cX7_isValid 3 = .ok (.invokevirtual 240, 3) := by decide +kernel
theorem dX7_isValid_6 : decode cX7_isValid 6 = .ok (.ifCond .ne 16, 3) := by decide +kernel
theorem dX7_isValid_9 : decode cX7_isValid 9 = .ok (.aload_n 0, 1) := by decide +kernel
theorem dX7_isValid_10 : decode cX7_isValid 10 = .ok (.iload_n 1, 1) := by decide +kernel
theorem dX7_isValid_11 : decode cX7_isValid 11 = .ok (.iload_n 2, 1) := by decide +kernel
theorem dX7_isValid_12 : decode cX7_isValid 12 = .ok (.invokevirtual 78, 3) := by decide +kernel
theorem dX7_isValid_15 : decode cX7_isValid 15 = .ok (.ifCond .eq 7, 3) := by decide +kernel
theorem dX7_isValid_18 : decode cX7_isValid 18 = .ok (.iconst 1, 1) := by decide +kernel
theorem dX7_isValid_19 : decode cX7_isValid 19 = .ok (.goto 4, 3) := by decide +kernel
theorem dX7_isValid_22 : decode cX7_isValid 22 = .ok (.iconst 0, 1) := by decide +kernel
theorem dX7_isValid_23 : decode cX7_isValid 23 = .ok (.ireturn, 1) := by decide +kernel
theorem dX7_nextNode_0 : decode cX7_nextNode 0 = .ok (.aload_n 0, 1) := by decide +kernel
theorem dX7_nextNode_1 : decode cX7_nextNode 1 = .ok (.iload_n 1, 1) := by decide +kernel
theorem dX7_nextNode_2 : decode cX7_nextNode 2 = .ok (.iload_n 2, 1) := by decide +kernel
theorem dX7_nextNode_3 : decode cX7_nextNode 3 = .ok (.iconst 3, 1) := by decide +kernel
theorem dX7_nextNode_4 : decode cX7_nextNode 4 = .ok (.iconst (-1), 1) := by decide +kernel
theorem dX7_nextNode_5 : decode cX7_nextNode 5 = .ok (.invokevirtual 243, 3) := by decide +kernel
theorem dX7_nextNode_8 : decode cX7_nextNode 8 = .ok (.ireturn, 1) := by decide +kernel
theorem dX7_hops_0 : decode cX7_hops 0 = .ok (.aload_n 0, 1) := by decide +kernel
theorem dX7_hops_1 : decode cX7_hops 1 = .ok (.iload_n 1, 1) := by decide +kernel
theorem dX7_hops_2 : decode cX7_hops 2 = .ok (.iload_n 2, 1) := by decide +kernel
theorem dX7_hops_3 : decode cX7_hops 3 = .ok (.iconst 2, 1) := by decide +kernel
theorem dX7_hops_4 : decode cX7_hops 4 = .ok (.iconst (-1), 1) := by decide +kernel
theorem dX7_hops_5 : decode cX7_hops 5 = .ok (.invokevirtual 243, 3) := by decide +kernel
theorem dX7_hops_8 : decode cX7_hops 8 = .ok (.ireturn, 1) := by decide +kernel
theorem dX7_sequence_0 : decode cX7_sequence 0 = .ok (.aload_n 0, 1) := by decide +kernel
theorem dX7_sequence_1 : decode cX7_sequence 1 = .ok (.iload_n 1, 1) := by decide +kernel
theorem dX7_sequence_2 : decode cX7_sequence 2 = .ok (.iload_n 2, 1) := by decide +kernel
theorem dX7_sequence_3 : decode cX7_sequence 3 = .ok (.invokevirtual 240, 3) := by decide +kernel
theorem dX7_sequence_6 : decode cX7_sequence 6 = .ok (.ifCond .eq 5, 3) := by decide +kernel
theorem dX7_sequence_9 : decode cX7_sequence 9 = .ok (.iconst 0, 1) := by decide +kernel
theorem dX7_sequence_10 : decode cX7_sequence 10 = .ok (.ireturn, 1) := by decide +kernel
theorem dX7_sequence_11 : decode cX7_sequence 11 = .ok (.iload_n 1, 1) := by decide +kernel
theorem dX7_sequence_12 : decode cX7_sequence 12 = .ok (.iload_n 2, 1) := by decide +kernel
theorem dX7_sequence_13 : decode cX7_sequence 13 = .ok (.if_icmp .ne 16, 3) := by decide +kernel
theorem dX7_sequence_16 : decode cX7_sequence 16 = .ok (.aload_n 0, 1) := by decide +kernel
theorem dX7_sequence_17 : decode cX7_sequence 17 = .ok (.getfield 8, 3) := by decide +kernel
theorem dX7_sequence_20 : decode cX7_sequence 20 = .ok (.bipush 50, 2) := by decide +kernel
theorem dX7_sequence_22 : decode cX7_sequence 22 = .ok (.iload_n 1, 1) := by decide +kernel
theorem dX7_sequence_23 : decode cX7_sequence 23 = .ok (.iadd, 1) := by decide +kernel
theorem dX7_sequence_24 : decode cX7_sequence 24 = .ok (.laload, 1) := by decide +kernel
theorem dX7_sequence_25 : decode cX7_sequence 25 = .ok (.l2i, 1) := by decide +kernel
theorem dX7_sequence_26 : decode cX7_sequence 26 = .ok (.goto 12, 3) := by decide +kernel
theorem dX7_sequence_29 : decode cX7_sequence 29 = .ok (.aload_n 0, 1) := by decide +kernel
theorem dX7_sequence_30 : decode cX7_sequence 30 = .ok (.iload_n 1, 1) := by decide +kernel
theorem dX7_sequence_31 : decode cX7_sequence 31 = .ok (.iload_n 2, 1) := by decide +kernel
theorem dX7_sequence_32 : decode cX7_sequence 32 = .ok (.iconst 1, 1) := by decide +kernel
theorem dX7_sequence_33 : decode cX7_sequence 33 = .ok (.bipush (-2), 2) := by decide +kernel
theorem dX7_sequence_35 : decode cX7_sequence 35 = .ok (.invokevirtual 243, 3) := by decide +kernel
theorem dX7_sequence_38 : decode cX7_sequence 38 = .ok (.ireturn, 1) := by decide +kernel
theorem dX7_expiry_0 : decode cX7_expiry 0 = .ok (.aload_n 0, 1) := by decide +kernel
theorem dX7_expiry_1 : decode cX7_expiry 1 = .ok (.iload_n 1, 1) := by decide +kernel
theorem dX7_expiry_2 : decode cX7_expiry 2 = .ok (.iload_n 2, 1) := by decide +kernel
theorem dX7_expiry_3 : decode cX7_expiry 3 = .ok (.iconst 4, 1) := by decide +kernel
theorem dX7_expiry_4 : decode cX7_expiry 4 = .ok (.iconst (-1), 1) := by decide +kernel
theorem dX7_expiry_5 : decode cX7_expiry 5 = .ok (.invokevirtual 243, 3) := by decide +kernel
theorem dX7_expiry_8 : decode cX7_expiry 8 = .ok (.ireturn, 1) := by decide +kernel
theorem dX7_users_0 : decode cX7_users 0 = .ok (.aload_n 0, 1) := by decide +kernel
theorem dX7_users_1 : decode cX7_users 1 = .ok (.iload_n 1, 1) := by decide +kernel
theorem dX7_users_2 : decode cX7_users 2 = .ok (.iload_n 2, 1) := by decide +kernel
theorem dX7_users_3 : decode cX7_users 3 = .ok (.iconst 5, 1) := by decide +kernel
theorem dX7_users_4 : decode cX7_users 4 = .ok (.iconst 0, 1) := by decide +kernel
theorem dX7_users_5 : decode cX7_users 5 = .ok (.invokevirtual 243, 3) := by decide +kernel
theorem dX7_users_8 : decode cX7_users 8 = .ok (.ireturn, 1) := by decide +kernel
theorem dX7_searching_0 : decode cX7_searching 0 = .ok (.aload_n 0, 1) := by decide +kernel
theorem dX7_searching_1 : decode cX7_searching 1 = .ok (.iload_n 1, 1) := by decide +kernel
theorem dX7_searching_2 : decode cX7_searching 2 = .ok (.iload_n 2, 1) := by decide +kernel
theorem dX7_searching_3 : decode cX7_searching 3 = .ok (.invokevirtual 240, 3) := by decide +kernel
theorem dX7_searching_6 : decode cX7_searching 6 = .ok (.ifCond .eq 7, 3) := by decide +kernel
theorem dX7_searching_9 : decode cX7_searching 9 = .ok (.iconst 0, 1) := by decide +kernel
theorem dX7_searching_10 : decode cX7_searching 10 = .ok (.goto 16, 3) := by decide +kernel
theorem dX7_searching_13 : decode cX7_searching 13 = .ok (.aload_n 0, 1) := by decide +kernel
theorem dX7_searching_14 : decode cX7_searching 14 = .ok (.getfield 8, 3) := by decide +kernel
theorem dX7_searching_17 : decode cX7_searching 17 = .ok (.iload_n 1, 1) := by decide +kernel
theorem dX7_searching_18 : decode cX7_searching 18 = .ok (.iload_n 2, 1) := by decide +kernel
theorem dX7_searching_19 : decode cX7_searching 19 = .ok (.invokestatic 85, 3) := by decide +kernel
theorem dX7_searching_22 : decode cX7_searching 22 = .ok (.iconst 0, 1) := by decide +kernel
theorem dX7_searching_23 : decode cX7_searching 23 = .ok (.iadd, 1) := by decide +kernel
theorem dX7_searching_24 : decode cX7_searching 24 = .ok (.laload, 1) := by decide +kernel
theorem dX7_searching_25 : decode cX7_searching 25 = .ok (.l2i, 1) := by decide +kernel
theorem dX7_searching_26 : decode cX7_searching 26 = .ok (.ireturn, 1) := by decide +kernel
theorem dX7_timeout_0 : decode cX7_timeout 0 = .ok (.aload_n 0, 1) := by decide +kernel
theorem dX7_timeout_1 : decode cX7_timeout 1 = .ok (.iload_n 1, 1) := by decide +kernel
theorem dX7_timeout_2 : decode cX7_timeout 2 = .ok (.iload_n 2, 1) := by decide +kernel
theorem dX7_timeout_3 : decode cX7_timeout 3 = .ok (.invokevirtual 240, 3) := by decide +kernel
theorem dX7_timeout_6 : decode cX7_timeout 6 = .ok (.ifCond .eq 5, 3) := by decide +kernel
theorem dX7_timeout_9 : decode cX7_timeout 9 = .ok (.iconst 0, 1) := by decide +kernel
theorem dX7_timeout_10 : decode cX7_timeout 10 = .ok (.ireturn, 1) := by decide +kernel
theorem dX7_timeout_11 : decode cX7_timeout 11 = .ok (.iload_n 1, 1) := by decide +kernel
theorem dX7_timeout_12 : decode cX7_timeout 12 = .ok (.iload_n 2, 1) := by decide +kernel
theorem dX7_timeout_13 : decode cX7_timeout 13 = .ok (.invokestatic 85, 3) := by decide +kernel
theorem dX7_timeout_16 : decode cX7_timeout 16 = .ok (.istore_n 3, 1) := by decide +kernel
theorem dX7_timeout_17 : decode cX7_timeout 17 = .ok (.aload_n 0, 1) := by decide +kernel
theorem dX7_timeout_18 : decode cX7_timeout 18 = .ok (.getfield 8, 3) := by decide +kernel
theorem dX7_timeout_21 : decode cX7_timeout 21 = .ok (.iload_n 3, 1) := by decide +kernel
theorem dX7_timeout_22 : decode cX7_timeout 22 = .ok (.iconst 0, 1) := by decide +kernel
theorem dX7_timeout_23 : decode cX7_timeout 23 = .ok (.iadd, 1) := by decide +kernel
theorem dX7_timeout_24 : decode cX7_timeout 24 = .ok (.laload, 1) := by decide +kernel
theorem dX7_timeout_25 : decode cX7_timeout 25 = .ok (.lconst 0, 1) := by decide +kernel
theorem dX7_timeout_26 : decode cX7_timeout 26 = .ok (.lcmp, 1) := by decide +kernel
theorem dX7_timeout_27 : decode cX7_timeout 27 = .ok (.ifCond .le 15, 3) := by decide +kernel
theorem dX7_timeout_30 : decode cX7_timeout 30 = .ok (.aload_n 0, 1) := by decide +kernel
theorem dX7_timeout_31 : decode cX7_timeout 31 = .ok (.getfield 8, 3) := by decide +kernel
theorem dX7_timeout_34 : decode cX7_timeout 34 = .ok (.iload_n 3, 1) := by decide +kernel
theorem dX7_timeout_35 : decode cX7_timeout 35 = .ok (.iconst 1, 1) := by decide +kernel
theorem dX7_timeout_36 : decode cX7_timeout 36 = .ok (.iadd, 1) := by decide +kernel
theorem dX7_timeout_37 : decode cX7_timeout 37 = .ok (.laload, 1) := by decide +kernel
theorem dX7_timeout_38 : decode cX7_timeout 38 = .ok (.l2i, 1) := by decide +kernel
theorem dX7_timeout_39 : decode cX7_timeout 39 = .ok (.goto 4, 3) := by decide +kernel
theorem dX7_timeout_42 : decode cX7_timeout 42 = .ok (.iconst (-1), 1) := by decide +kernel
theorem dX7_timeout_43 : decode cX7_timeout 43 = .ok (.ireturn, 1) := by decide +kernel
theorem dX7_buffered_0 : decode cX7_buffered 0 = .ok (.aload_n 0, 1) := by decide +kernel
theorem dX7_buffered_1 : decode cX7_buffered 1 = .ok (.iload_n 1, 1) := by decide +kernel
theorem dX7_buffered_2 : decode cX7_buffered 2 = .ok (.iload_n 2, 1) := by decide +kernel
theorem dX7_buffered_3 : decode cX7_buffered 3 = .ok (.invokevirtual 240, 3) := by decide +kernel
theorem dX7_buffered_6 : decode cX7_buffered 6 = .ok (.ifCond .eq 7, 3) := by decide +kernel
theorem dX7_buffered_9 : decode cX7_buffered 9 = .ok (.iconst 0, 1) := by decide +kernel
theorem dX7_buffered_10 : decode cX7_buffered 10 = .ok (.goto 14, 3) := by decide +kernel
theorem dX7_buffered_13 : decode cX7_buffered 13 = .ok (.aload_n 0, 1) := by decide +kernel
theorem dX7_buffered_14 : decode cX7_buffered 14 = .ok (.getfield 8, 3) := by decide +kernel
theorem dX7_buffered_17 : decode cX7_buffered 17 = .ok (.iload_n 1, 1) := by decide +kernel
theorem dX7_buffered_18 : decode cX7_buffered 18 = .ok (.iload_n 2, 1) := by decide +kernel
theorem dX7_buffered_19 : decode cX7_buffered 19 = .ok (.invokestatic 95, 3) := by decide +kernel
theorem dX7_buffered_22 : decode cX7_buffered 22 = .ok (.laload, 1) := by decide +kernel
theorem dX7_buffered_23 : decode cX7_buffered 23 = .ok (.l2i, 1) := by decide +kernel
theorem dX7_buffered_24 : decode cX7_buffered 24 = .ok (.ireturn, 1) := by decide +kernel
theorem dX7_ofPacket_0 : decode cX7_ofPacket 0 = .ok (.aload_n 0, 1) := by decide +kernel
theorem dX7_ofPacket_1 : decode cX7_ofPacket 1 = .ok (.iload_n 1, 1) := by decide +kernel
theorem dX7_ofPacket_2 : decode cX7_ofPacket 2 = .ok (.i2l, 1) := by decide +kernel
theorem dX7_ofPacket_3 : decode cX7_ofPacket 3 = .ok (.lconst 0, 1) := by decide +kernel
theorem dX7_ofPacket_4 : decode cX7_ofPacket 4 = .ok (.aload_n 0, 1) := by decide +kernel
theorem dX7_ofPacket_5 : decode cX7_ofPacket 5 = .ok (.getfield 8, 3) := by decide +kernel
theorem dX7_ofPacket_8 : decode cX7_ofPacket 8 = .ok (.bipush 10, 2) := by decide +kernel
theorem dX7_ofPacket_10 : decode cX7_ofPacket 10 = .ok (.laload, 1) := by decide +kernel
theorem dX7_ofPacket_11 : decode cX7_ofPacket 11 = .ok (.lconst 1, 1) := by decide +kernel
theorem dX7_ofPacket_12 : decode cX7_ofPacket 12 = .ok (.lsub, 1) := by decide +kernel
theorem dX7_ofPacket_13 : decode cX7_ofPacket 13 = .ok (.invokestatic 38, 3) := by decide +kernel
theorem dX7_ofPacket_16 : decode cX7_ofPacket 16 = .ok (.ifCond .eq 7, 3) := by decide +kernel
theorem dX7_ofPacket_19 : decode cX7_ofPacket 19 = .ok (.iconst 0, 1) := by decide +kernel
theorem dX7_ofPacket_20 : decode cX7_ofPacket 20 = .ok (.goto 4, 3) := by decide +kernel
theorem dX7_ofPacket_23 : decode cX7_ofPacket 23 = .ok (.iconst 1, 1) := by decide +kernel
theorem dX7_ofPacket_24 : decode cX7_ofPacket 24 = .ok (.putfield 34, 3) := by decide +kernel
theorem dX7_ofPacket_27 : decode cX7_ofPacket 27 = .ok (.aload_n 0, 1) := by decide +kernel
theorem dX7_ofPacket_28 : decode cX7_ofPacket 28 = .ok (.getfield 34, 3) := by decide +kernel
theorem dX7_ofPacket_31 : decode cX7_ofPacket 31 = .ok (.ifCond .ne 18, 3) := by decide +kernel
theorem dX7_ofPacket_34 : decode cX7_ofPacket 34 = .ok (.aload_n 0, 1) := by decide +kernel
theorem dX7_ofPacket_35 : decode cX7_ofPacket 35 = .ok (.getfield 8, 3) := by decide +kernel
theorem dX7_ofPacket_38 : decode cX7_ofPacket 38 = .ok (.iload_n 1, 1) := by decide +kernel
theorem dX7_ofPacket_39 : decode cX7_ofPacket 39 = .ok (.invokestatic 91, 3) := by decide +kernel
theorem dX7_ofPacket_42 : decode cX7_ofPacket 42 = .ok (.iload_n 2, 1) := by decide +kernel
theorem dX7_ofPacket_43 : decode cX7_ofPacket 43 = .ok (.iadd, 1) := by decide +kernel
theorem dX7_ofPacket_44 : decode cX7_ofPacket 44 = .ok (.laload, 1) := by decide +kernel
theorem dX7_ofPacket_45 : decode cX7_ofPacket 45 = .ok (.l2i, 1) := by decide +kernel
theorem dX7_ofPacket_46 : decode cX7_ofPacket 46 = .ok (.goto 4, 3) := by decide +kernel
theorem dX7_ofPacket_49 : decode cX7_ofPacket 49 = .ok (.iconst 0, 1) := by decide +kernel
theorem dX7_ofPacket_50 : decode cX7_ofPacket 50 = .ok (.ireturn, 1) := by decide +kernel
theorem dX7_stateOf_0 : decode cX7_stateOf 0 = .ok (.aload_n 0, 1) := by decide +kernel
theorem dX7_stateOf_1 : decode cX7_stateOf 1 = .ok (.iload_n 1, 1) := by decide +kernel
theorem dX7_stateOf_2 : decode cX7_stateOf 2 = .ok (.iconst 2, 1) := by decide +kernel
theorem dX7_stateOf_3 : decode cX7_stateOf 3 = .ok (.invokevirtual 247, 3) := by decide +kernel
theorem dX7_stateOf_6 : decode cX7_stateOf 6 = .ok (.ireturn, 1) := by decide +kernel
