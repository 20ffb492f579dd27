theorem dX7_isAsSeen_0 : decode cX7_isAsSeen 0 = .ok (.iconst 0, 1) := by decide +kernel
theorem dX7_isAsSeen_1 : decode cX7_isAsSeen 1 = .ok (.istore_n 2, 1) := by decide +kernel
theorem dX7_isAsSeen_2 : decode cX7_isAsSeen 2 = .ok (.iload_n 2, 1) := by decide +kernel
theorem dX7_isAsSeen_3 : decode cX7_isAsSeen 3 = .ok (.aload_n 0, 1) := by decide +kernel
theorem dX7_isAsSeen_4 : decode cX7_isAsSeen 4 = .ok (.getfield 86, 3) := by decide +kernel
theorem dX7_isAsSeen_7 : decode cX7_isAsSeen 7 = .ok (.if_icmp .ge 42, 3) := by decide +kernel
theorem dX7_isAsSeen_10 : decode cX7_isAsSeen 10 = .ok (.aload_n 0, 1) := by decide +kernel
theorem dX7_isAsSeen_11 : decode cX7_isAsSeen 11 = .ok (.getfield 19, 3) := by decide +kernel
theorem dX7_isAsSeen_14 : decode cX7_isAsSeen 14 = .ok (.getfield 126, 3) := by decide +kernel
theorem dX7_isAsSeen_17 : decode cX7_isAsSeen 17 = .ok (.aload_n 0, 1) := by decide +kernel
theorem dX7_isAsSeen_18 : decode cX7_isAsSeen 18 = .ok (.getfield 19, 3) := by decide +kernel
theorem dX7_isAsSeen_21 : decode cX7_isAsSeen 21 = .ok (.iload_n 1, 1) := by decide +kernel
theorem dX7_isAsSeen_22 : decode cX7_isAsSeen 22 = .ok (.aload_n 0, 1) := by decide +kernel
theorem dX7_isAsSeen_23 : decode cX7_isAsSeen 23 = .ok (.getfield 76, 3) := by decide +kernel
theorem dX7_isAsSeen_26 : decode cX7_isAsSeen 26 = .ok (.iload_n 2, 1) := by decide +kernel
theorem dX7_isAsSeen_27 : decode cX7_isAsSeen 27 = .ok (.iaload, 1) := by decide +kernel
theorem dX7_isAsSeen_28 : decode cX7_isAsSeen 28 = .ok (.invokevirtual 138, 3) := by decide +kernel
theorem dX7_isAsSeen_31 : decode cX7_isAsSeen 31 = .ok (.iaload, 1) := by decide +kernel
theorem dX7_isAsSeen_32 : decode cX7_isAsSeen 32 = .ok (.aload_n 0, 1) := by decide +kernel
theorem dX7_isAsSeen_33 : decode cX7_isAsSeen 33 = .ok (.getfield 79, 3) := by decide +kernel
theorem dX7_isAsSeen_36 : decode cX7_isAsSeen 36 = .ok (.iload_n 2, 1) := by decide +kernel
theorem dX7_isAsSeen_37 : decode cX7_isAsSeen 37 = .ok (.iaload, 1) := by decide +kernel
theorem dX7_isAsSeen_38 : decode cX7_isAsSeen 38 = .ok (.if_icmp .eq 5, 3) := by decide +kernel
theorem dX7_isAsSeen_41 : decode cX7_isAsSeen 41 = .ok (.iconst 0, 1) := by decide +kernel
theorem dX7_isAsSeen_42 : decode cX7_isAsSeen 42 = .ok (.ireturn, 1) := by decide +kernel
theorem dX7_isAsSeen_43 : decode cX7_isAsSeen 43 = .ok (.iinc 2 1, 3) := by decide +kernel
theorem dX7_isAsSeen_46 : decode cX7_isAsSeen 46 = .ok (.goto (-44), 3) := by decide +kernel
theorem dX7_isAsSeen_49 : decode cX7_isAsSeen 49 = .ok (.iconst 1, 1) := by decide +kernel
theorem dX7_isAsSeen_50 : decode cX7_isAsSeen 50 = .ok (.ireturn, 1) := by decide +kernel
theorem dX7_tellsFromAll_0 : decode cX7_tellsFromAll 0 = .ok (.iconst 0, 1) := by decide +kernel
theorem dX7_tellsFromAll_1 : decode cX7_tellsFromAll 1 = .ok (.istore_n 3, 1) := by decide +kernel
theorem dX7_tellsFromAll_2 : decode cX7_tellsFromAll 2 = .ok (.iload_n 3, 1) := by decide +kernel
theorem dX7_tellsFromAll_3 : decode cX7_tellsFromAll 3 = .ok (.aload_n 0, 1) := by decide +kernel
theorem dX7_tellsFromAll_4 : decode cX7_tellsFromAll 4 = .ok (.getfield 19, 3) := by decide +kernel
theorem dX7_tellsFromAll_7 : decode cX7_tellsFromAll 7 = .ok (.getfield 190, 3) := by decide +kernel
theorem dX7_tellsFromAll_10 : decode cX7_tellsFromAll 10 = .ok (.if_icmp .ge 26, 3) := by decide +kernel
theorem dX7_tellsFromAll_13 : decode cX7_tellsFromAll 13 = .ok (.iload_n 3, 1) := by decide +kernel
theorem dX7_tellsFromAll_14 : decode cX7_tellsFromAll 14 = .ok (.iload_n 1, 1) := by decide +kernel
theorem dX7_tellsFromAll_15 : decode cX7_tellsFromAll 15 = .ok (.if_icmp .eq 15, 3) := by decide +kernel
theorem dX7_tellsFromAll_18 : decode cX7_tellsFromAll 18 = .ok (.aload_n 0, 1) := by decide +kernel
theorem dX7_tellsFromAll_19 : decode cX7_tellsFromAll 19 = .ok (.iload_n 1, 1) := by decide +kernel
theorem dX7_tellsFromAll_20 : decode cX7_tellsFromAll 20 = .ok (.iload_n 3, 1) := by decide +kernel
theorem dX7_tellsFromAll_21 : decode cX7_tellsFromAll 21 = .ok (.iload_n 2, 1) := by decide +kernel
theorem dX7_tellsFromAll_22 : decode cX7_tellsFromAll 22 = .ok (.invokevirtual 288, 3) := by decide +kernel
theorem dX7_tellsFromAll_25 : decode cX7_tellsFromAll 25 = .ok (.ifCond .ne 5, 3) := by decide +kernel
theorem dX7_tellsFromAll_28 : decode cX7_tellsFromAll 28 = .ok (.iconst 0, 1) := by decide +kernel
theorem dX7_tellsFromAll_29 : decode cX7_tellsFromAll 29 = .ok (.ireturn, 1) := by decide +kernel
theorem dX7_tellsFromAll_30 : decode cX7_tellsFromAll 30 = .ok (.iinc 3 1, 3) := by decide +kernel
theorem dX7_tellsFromAll_33 : decode cX7_tellsFromAll 33 = .ok (.goto (-31), 3) := by decide +kernel
theorem dX7_tellsFromAll_36 : decode cX7_tellsFromAll 36 = .ok (.iconst 1, 1) := by decide +kernel
theorem dX7_tellsFromAll_37 : decode cX7_tellsFromAll 37 = .ok (.ireturn, 1) := by decide +kernel
theorem dX7_differIn_0 : decode cX7_differIn 0 = .ok (.iconst 0, 1) := by decide +kernel
theorem dX7_differIn_1 : decode cX7_differIn 1 = .ok (.istore 4, 2) := by decide +kernel
theorem dX7_differIn_3 : decode cX7_differIn 3 = .ok (.iload 4, 2) := by decide +kernel
theorem dX7_differIn_5 : decode cX7_differIn 5 = .ok (.aload_n 0, 1) := by decide +kernel
theorem dX7_differIn_6 : decode cX7_differIn 6 = .ok (.getfield 10, 3) := by decide +kernel
theorem dX7_differIn_9 : decode cX7_differIn 9 = .ok (.getfield 184, 3) := by decide +kernel
theorem dX7_differIn_12 : decode cX7_differIn 12 = .ok (.if_icmp .ge 72, 3) := by decide +kernel
theorem dX7_differIn_15 : decode cX7_differIn 15 = .ok (.iload_n 3, 1) := by decide +kernel
theorem dX7_differIn_16 : decode cX7_differIn 16 = .ok (.iload 4, 2) := by decide +kernel
theorem dX7_differIn_18 : decode cX7_differIn 18 = .ok (.ishr, 1) := by decide +kernel
theorem dX7_differIn_19 : decode cX7_differIn 19 = .ok (.iconst 1, 1) := by decide +kernel
theorem dX7_differIn_20 : decode cX7_differIn 20 = .ok (.iand, 1) := by decide +kernel
theorem dX7_differIn_21 : decode cX7_differIn 21 = .ok (.iconst 1, 1) := by decide +kernel
theorem dX7_differIn_22 : decode cX7_differIn 22 = .ok (.if_icmp .ne 7, 3) := by decide +kernel
theorem dX7_differIn_25 : decode cX7_differIn 25 = .ok (.iconst 1, 1) := by decide +kernel
theorem dX7_differIn_26 : decode cX7_differIn 26 = .ok (.goto 4, 3) := by decide +kernel
theorem dX7_differIn_29 : decode cX7_differIn 29 = .ok (.iconst 0, 1) := by decide +kernel
theorem dX7_differIn_30 : decode cX7_differIn 30 = .ok (.istore 5, 2) := by decide +kernel
theorem dX7_differIn_32 : decode cX7_differIn 32 = .ok (.iload 5, 2) := by decide +kernel
theorem dX7_differIn_34 : decode cX7_differIn 34 = .ok (.ifCond .eq 44, 3) := by decide +kernel
theorem dX7_differIn_37 : decode cX7_differIn 37 = .ok (.aload_n 0, 1) := by decide +kernel
theorem dX7_differIn_38 : decode cX7_differIn 38 = .ok (.getfield 19, 3) := by decide +kernel
theorem dX7_differIn_41 : decode cX7_differIn 41 = .ok (.getfield 126, 3) := by decide +kernel
theorem dX7_differIn_44 : decode cX7_differIn 44 = .ok (.aload_n 0, 1) := by decide +kernel
theorem dX7_differIn_45 : decode cX7_differIn 45 = .ok (.getfield 19, 3) := by decide +kernel
theorem dX7_differIn_48 : decode cX7_differIn 48 = .ok (.iload_n 1, 1) := by decide +kernel
theorem dX7_differIn_49 : decode cX7_differIn 49 = .ok (.iload 4, 2) := by decide +kernel
theorem dX7_differIn_51 : decode cX7_differIn 51 = .ok (.invokevirtual 138, 3) := by decide +kernel
theorem dX7_differIn_54 : decode cX7_differIn 54 = .ok (.iaload, 1) := by decide +kernel
theorem dX7_differIn_55 : decode cX7_differIn 55 = .ok (.aload_n 0, 1) := by decide +kernel
theorem dX7_differIn_56 : decode cX7_differIn 56 = .ok (.getfield 19, 3) := by decide +kernel
theorem dX7_differIn_59 : decode cX7_differIn 59 = .ok (.getfield 126, 3) := by decide +kernel
theorem dX7_differIn_62 : decode cX7_differIn 62 = .ok (.aload_n 0, 1) := by decide +kernel
theorem dX7_differIn_63 : decode cX7_differIn 63 = .ok (.getfield 19, 3) := by decide +kernel
theorem dX7_differIn_66 : decode cX7_differIn 66 = .ok (.iload_n 2, 1) := by decide +kernel
theorem dX7_differIn_67 : decode cX7_differIn 67 = .ok (.iload 4, 2) := by decide +kernel
theorem dX7_differIn_69 : decode cX7_differIn 69 = .ok (.invokevirtual 138, 3) := by decide +kernel
theorem dX7_differIn_72 : decode cX7_differIn 72 = .ok (.iaload, 1) := by decide +kernel
theorem dX7_differIn_73 : decode cX7_differIn 73 = .ok (.if_icmp .eq 5, 3) := by decide +kernel
theorem dX7_differIn_76 : decode cX7_differIn 76 = .ok (.iconst 1, 1) := by decide +kernel
theorem dX7_differIn_77 : decode cX7_differIn 77 = .ok (.ireturn, 1) := by decide +kernel
theorem dX7_differIn_78 : decode cX7_differIn 78 = .ok (.iinc 4 1, 3) := by decide +kernel
theorem dX7_differIn_81 : decode cX7_differIn 81 = .ok (.goto (-78), 3) := by decide +kernel
theorem dX7_differIn_84 : decode cX7_differIn 84 = .ok (.iconst 0, 1) := by decide +kernel
theorem dX7_differIn_85 : decode cX7_differIn 85 = .ok (.ireturn, 1) := by decide +kernel
theorem dX7_inLeastTerms_0 : decode cX7_inLeastTerms 0 = .ok (.lconst 1, 1) := by decide +kernel
theorem dX7_inLeastTerms_1 : decode cX7_inLeastTerms 1 = .ok (.lload_n 0, 1) := by decide +kernel
theorem dX7_inLeastTerms_2 : decode cX7_inLeastTerms 2 = .ok (.lload_n 2, 1) := by decide +kernel
theorem dX7_inLeastTerms_3 : decode cX7_inLeastTerms 3 = .ok (.invokestatic 292, 3) := by decide +kernel
theorem dX7_inLeastTerms_6 : decode cX7_inLeastTerms 6 = .ok (.invokestatic 296, 3) := by decide +kernel
theorem dX7_inLeastTerms_9 : decode cX7_inLeastTerms 9 = .ok (.lstore 5, 2) := by decide +kernel
theorem dX7_inLeastTerms_11 : decode cX7_inLeastTerms 11 = .ok (.iload 4, 2) := by decide +kernel
theorem dX7_inLeastTerms_13 : decode cX7_inLeastTerms 13 = .ok (.ifCond .ne 10, 3) := by decide +kernel
theorem dX7_inLeastTerms_16 : decode cX7_inLeastTerms 16 = .ok (.lload_n 0, 1) := by decide +kernel
theorem dX7_inLeastTerms_17 : decode cX7_inLeastTerms 17 = .ok (.lload 5, 2) := by decide +kernel
theorem dX7_inLeastTerms_19 : decode cX7_inLeastTerms 19 = .ok (.ldiv, 1) := by decide +kernel
theorem dX7_inLeastTerms_20 : decode cX7_inLeastTerms 20 = .ok (.goto 7, 3) := by decide +kernel
theorem dX7_inLeastTerms_23 : decode cX7_inLeastTerms 23 = .ok (.lload_n 2, 1) := by decide +kernel
theorem dX7_inLeastTerms_24 : decode cX7_inLeastTerms 24 = .ok (.lload 5, 2) := by decide +kernel
theorem dX7_inLeastTerms_26 : decode cX7_inLeastTerms 26 = .ok (.ldiv, 1) := by decide +kernel
theorem dX7_inLeastTerms_27 : decode cX7_inLeastTerms 27 = .ok (.lreturn, 1) := by decide +kernel
theorem dX7_commonDivisor_0 : decode cX7_commonDivisor 0 = .ok (.lload_n 0, 1) := by decide +kernel
theorem dX7_commonDivisor_1 : decode cX7_commonDivisor 1 = .ok (.lstore 4, 2) := by decide +kernel
theorem dX7_commonDivisor_3 : decode cX7_commonDivisor 3 = .ok (.lload_n 2, 1) := by decide +kernel
theorem dX7_commonDivisor_4 : decode cX7_commonDivisor 4 = .ok (.lstore 6, 2) := by decide +kernel
theorem dX7_commonDivisor_6 : decode cX7_commonDivisor 6 = .ok (.iconst 0, 1) := by decide +kernel
theorem dX7_commonDivisor_7 : decode cX7_commonDivisor 7 = .ok (.istore 8, 2) := by decide +kernel
theorem dX7_commonDivisor_9 : decode cX7_commonDivisor 9 = .ok (.iload 8, 2) := by decide +kernel
theorem dX7_commonDivisor_11 : decode cX7_commonDivisor 11 = .ok (.bipush 100, 2) := by decide +kernel
theorem dX7_commonDivisor_13 : decode cX7_commonDivisor 13 = .ok (.if_icmp .ge 31, 3) := by decide +kernel
theorem dX7_commonDivisor_16 : decode cX7_commonDivisor 16 = .ok (.lload 6, 2) := by decide +kernel
theorem dX7_commonDivisor_18 : decode cX7_commonDivisor 18 = .ok (.lconst 0, 1) := by decide +kernel
theorem dX7_commonDivisor_19 : decode cX7_commonDivisor 19 = .ok (.lcmp, 1) := by decide +kernel
theorem dX7_commonDivisor_20 : decode cX7_commonDivisor 20 = .ok (.ifCond .eq 24, 3) := by decide +kernel
theorem dX7_commonDivisor_23 : decode cX7_commonDivisor 23 = .ok (.lload 4, 2) := by decide +kernel
theorem dX7_commonDivisor_25 : decode cX7_commonDivisor 25 = .ok (.lload 6, 2) := by decide +kernel
theorem dX7_commonDivisor_27 : decode cX7_commonDivisor 27 = .ok (.lrem, 1) := by decide +kernel
theorem dX7_commonDivisor_28 : decode cX7_commonDivisor 28 = .ok (.lstore 9, 2) := by decide +kernel
theorem dX7_commonDivisor_30 : decode cX7_commonDivisor 30 = .ok (.lload 6, 2) := by decide +kernel
theorem dX7_commonDivisor_32 : decode cX7_commonDivisor 32 = .ok (.lstore 4, 2) := by decide +kernel
theorem dX7_commonDivisor_34 : decode cX7_commonDivisor 34 = .ok (.lload 9, 2) := by decide +kernel
theorem dX7_commonDivisor_36 : decode cX7_commonDivisor 36 = .ok (.lstore 6, 2) := by decide +kernel
theorem dX7_commonDivisor_38 : decode cX7_commonDivisor 38 = .ok (.iinc 8 1, 3) := by decide +kernel
theorem dX7_commonDivisor_41 : decode cX7_commonDivisor 41 = .ok (.goto (-32), 3) := by decide +kernel
theorem dX7_commonDivisor_44 : decode cX7_commonDivisor 44 = .ok (.lload 4, 2) := by decide +kernel
theorem dX7_commonDivisor_46 : decode cX7_commonDivisor 46 = .ok (.lreturn, 1) := by decide +kernel
theorem dX8_init_0 : decode cX8_init 0 = .ok (.aload_n 0, 1) := by decide +kernel
theorem dX8_init_1 : decode cX8_init 1 = .ok (.invokespecial 1, 3) := by decide +kernel
theorem dX8_init_4 : decode cX8_init 4 = .ok (.aload_n 0, 1) := by decide +kernel
theorem dX8_init_5 : decode cX8_init 5 = .ok (.sipush 200, 3) := by decide +kernel
theorem dX8_init_8 : decode cX8_init 8 = .ok (.newarray .int, 2) := by decide +kernel
theorem dX8_init_10 : decode cX8_init 10 = .ok (.putfield 7, 3) := by decide +kernel
theorem dX8_init_13 : decode cX8_init 13 = .ok (.aload_n 0, 1) := by decide +kernel
theorem dX8_init_14 : decode cX8_init 14 = .ok (.bipush 12, 2) := by decide +kernel
theorem dX8_init_16 : decode cX8_init 16 = .ok (.newarray .int, 2) := by decide +kernel
theorem dX8_init_18 : decode cX8_init 18 = .ok (.putfield 13, 3) := by decide +kernel
theorem dX8_init_21 : decode cX8_init 21 = .ok (.aload_n 0, 1) := by decide +kernel
theorem dX8_init_22 : decode cX8_init 22 = .ok (.bipush 12, 2) := by decide +kernel
theorem dX8_init_24 : decode cX8_init 24 = .ok (.newarray .int, 2) := by decide +kernel
theorem dX8_init_26 : decode cX8_init 26 = .ok (.putfield 16, 3) := by decide +kernel
theorem dX8_init_29 : decode cX8_init 29 = .ok (.aload_n 0, 1) := by decide +kernel
theorem dX8_init_30 : decode cX8_init 30 = .ok (.bipush 8, 2) := by decide +kernel
theorem dX8_init_32 : decode cX8_init 32 = .ok (.newarray .int, 2) := by decide +kernel
theorem dX8_init_34 : decode cX8_init 34 = .ok (.putfield 19, 3) := by decide +kernel
theorem dX8_init_37 : decode cX8_init 37 = .ok (.aload_n 0, 1) := by decide +kernel
theorem dX8_init_38 : decode cX8_init 38 = .ok (.bipush 36, 2) := by decide +kernel
theorem dX8_init_40 : decode cX8_init 40 = .ok (.newarray .int, 2) := by decide +kernel
theorem dX8_init_42 : decode cX8_init 42 = .ok (.putfield 22, 3) := by decide +kernel
theorem dX8_init_45 : decode cX8_init 45 = .ok (.aload_n 0, 1) := by decide +kernel
theorem dX8_init_46 : decode cX8_init 46 = .ok (.bipush 48, 2) := by decide +kernel
theorem dX8_init_48 : decode cX8_init 48 = .ok (.newarray .int, 2) := by decide +kernel
theorem dX8_init_50 : decode cX8_init 50 = .ok (.putfield 25, 3) := by decide +kernel
theorem dX8_init_53 : decode cX8_init 53 = .ok (.aload_n 0, 1) := by decide +kernel
theorem dX8_init_54 : decode cX8_init 54 = .ok (.sipush 189, 3) := by decide +kernel
theorem dX8_init_57 : decode cX8_init 57 = .ok (.newarray .int, 2) := by decide +kernel
theorem dX8_init_59 : decode cX8_init 59 = .ok (.putfield 28, 3) := by decide +kernel
theorem dX8_init_62 : decode cX8_init 62 = .ok (.aload_n 0, 1) := by decide +kernel
theorem dX8_init_63 : decode cX8_init 63 = .ok (.sipush 378, 3) := by decide +kernel
theorem dX8_init_66 : decode cX8_init 66 = .ok (.newarray .int, 2) := by decide +kernel
theorem dX8_init_68 : decode cX8_init 68 = .ok (.putfield 31, 3) := by decide +kernel
theorem dX8_init_71 : decode cX8_init 71 = .ok (.aload_n 0, 1) := by decide +kernel
theorem dX8_init_72 : decode cX8_init 72 = .ok (.iconst 2, 1) := by decide +kernel
theorem dX8_init_73 : decode cX8_init 73 = .ok (.newarray .boolean, 2) := by decide +kernel
theorem dX8_init_75 : decode cX8_init 75 = .ok (.putfield 34, 3) := by decide +kernel
theorem dX8_init_78 : decode cX8_init 78 = .ok (.aload_n 0, 1) := by decide +kernel
theorem dX8_init_79 : decode cX8_init 79 = .ok (.sipush 1890, 3) := by decide +kernel
theorem dX8_init_82 : decode cX8_init 82 = .ok (.newarray .int, 2) := by decide +kernel
theorem dX8_init_84 : decode cX8_init 84 = .ok (.putfield 38, 3) := by decide +kernel
theorem dX8_init_87 : decode cX8_init 87 = .ok (.aload_n 0, 1) := by decide +kernel
theorem dX8_init_88 : decode cX8_init 88 = .ok (.bipush 6, 2) := by decide +kernel
theorem dX8_init_90 : decode cX8_init 90 = .ok (.newarray .int, 2) := by decide +kernel
theorem dX8_init_92 : decode cX8_init 92 = .ok (.putfield 41, 3) := by decide +kernel
theorem dX8_init_95 : decode cX8_init 95 = .ok (.aload_n 0, 1) := by decide +kernel
theorem dX8_init_96 : decode cX8_init 96 = .ok (.bipush 6, 2) := by decide +kernel
theorem dX8_init_98 : decode cX8_init 98 = .ok (.newarray .int, 2) := by decide +kernel
theorem dX8_init_100 : decode cX8_init 100 = .ok (.putfield 44, 3) := by decide +kernel
theorem dX8_init_103 : decode cX8_init 103 = .ok (.aload_n 0, 1) := by decide +kernel
theorem dX8_init_104 : decode cX8_init 104 = .ok (.bipush 6, 2) := by decide +kernel
theorem dX8_init_106 : decode cX8_init 106 = .ok (.newarray .int, 2) := by decide +kernel
theorem dX8_init_108 : decode cX8_init 108 = .ok (.putfield 47, 3) := by decide +kernel
theorem dX8_init_111 : decode cX8_init 111 = .ok (.aload_n 0, 1) := by decide +kernel
theorem dX8_init_112 : decode cX8_init 112 = .ok (.bipush 6, 2) := by decide +kernel
theorem dX8_init_114 : decode cX8_init 114 = .ok (.newarray .int, 2) := by decide +kernel
theorem dX8_init_116 : decode cX8_init 116 = .ok (.putfield 50, 3) := by decide +kernel
theorem dX8_init_119 : decode cX8_init 119 = .ok (.aload_n 0, 1) := by decide +kernel
theorem dX8_init_120 : decode cX8_init 120 = .ok (.bipush 6, 2) := by decide +kernel
theorem dX8_init_122 : decode cX8_init 122 = .ok (.newarray .int, 2) := by decide +kernel
theorem dX8_init_124 : decode cX8_init 124 = .ok (.putfield 53, 3) := by decide +kernel
theorem dX8_init_127 : decode cX8_init 127 = .ok (.aload_n 0, 1) := by decide +kernel
theorem dX8_init_128 : decode cX8_init 128 = .ok (.bipush 6, 2) := by decide +kernel
theorem dX8_init_130 : decode cX8_init 130 = .ok (.newarray .int, 2) := by decide +kernel
theorem dX8_init_132 : decode cX8_init 132 = .ok (.putfield 56, 3) := by decide +kernel
theorem dX8_init_135 : decode cX8_init 135 = .ok (.aload_n 0, 1) := by decide +kernel
theorem dX8_init_136 : decode cX8_init 136 = .ok (.iconst 3, 1) := by decide +kernel
theorem dX8_init_137 : decode cX8_init 137 = .ok (.putfield 59, 3) := by decide +kernel
theorem dX8_init_140 : decode cX8_init 140 = .ok (.iconst 0, 1) := by decide +kernel
theorem dX8_init_141 : decode cX8_init 141 = .ok (.istore_n 1, 1) := by decide +kernel
theorem dX8_init_142 : decode cX8_init 142 = .ok (.iload_n 1, 1) := by decide +kernel
theorem dX8_init_143 : decode cX8_init 143 = .ok (.bipush 6, 2) := by decide +kernel
theorem dX8_init_145 : decode cX8_init 145 = .ok (.if_icmp .ge 24, 3) := by decide +kernel
theorem dX8_init_148 : decode cX8_init 148 = .ok (.aload_n 0, 1) := by decide +kernel
theorem dX8_init_149 : decode cX8_init 149 = .ok (.getfield 13, 3) := by decide +kernel
theorem dX8_init_152 : decode cX8_init 152 = .ok (.iload_n 1, 1) := by decide +kernel
theorem dX8_init_153 : decode cX8_init 153 = .ok (.iconst 1, 1) := by decide +kernel
theorem dX8_init_154 : decode cX8_init 154 = .ok (.iastore, 1) := by decide +kernel
theorem dX8_init_155 : decode cX8_init 155 = .ok (.aload_n 0, 1) := by decide +kernel
theorem dX8_init_156 : decode cX8_init 156 = .ok (.getfield 16, 3) := by decide +kernel
theorem dX8_init_159 : decode cX8_init 159 = .ok (.iload_n 1, 1) := by decide +kernel
theorem dX8_init_160 : decode cX8_init 160 = .ok (.bipush 9, 2) := by decide +kernel
theorem dX8_init_162 : decode cX8_init 162 = .ok (.iastore, 1) := by decide +kernel
theorem dX8_init_163 : decode cX8_init 163 = .ok (.iinc 1 1, 3) := by decide +kernel
theorem dX8_init_166 : decode cX8_init 166 = .ok (.goto (-24), 3) := by decide +kernel
theorem dX8_init_169 : decode cX8_init 169 = .ok (.return_, 1) := by decide +kernel
theorem dX8_in_0 : decode cX8_in 0 = .ok (.iload_n 0, 1) := by decide +kernel
theorem dX8_in_1 : decode cX8_in 1 = .ok (.iload_n 1, 1) := by decide +kernel
theorem dX8_in_2 : decode cX8_in 2 = .ok (.if_icmp .lt 12, 3) := by decide +kernel
theorem dX8_in_5 : decode cX8_in 5 = .ok (.iload_n 0, 1) := by decide +kernel
theorem dX8_in_6 : decode cX8_in 6 = .ok (.iload_n 2, 1) := by decide +kernel
theorem dX8_in_7 : decode cX8_in 7 = .ok (.if_icmp .gt 7, 3) := by decide +kernel
theorem dX8_in_10 : decode cX8_in 10 = .ok (.iconst 1, 1) := by decide +kernel
theorem dX8_in_11 : decode cX8_in 11 = .ok (.goto 4, 3) := by decide +kernel
theorem dX8_in_14 : decode cX8_in 14 = .ok (.iconst 0, 1) := by decide +kernel
theorem dX8_in_15 : decode cX8_in 15 = .ok (.ireturn, 1) := by decide +kernel
theorem dX8_ones_0 : decode cX8_ones 0 = .ok (.iconst 0, 1) := by decide +kernel
theorem dX8_ones_1 : decode cX8_ones 1 = .ok (.istore_n 1, 1) := by decide +kernel
theorem dX8_ones_2 : decode cX8_ones 2 = .ok (.iconst 0, 1) := by decide +kernel
theorem dX8_ones_3 : decode cX8_ones 3 = .ok (.istore_n 2, 1) := by decide +kernel
theorem dX8_ones_4 : decode cX8_ones 4 = .ok (.iload_n 2, 1) := by decide +kernel
theorem dX8_ones_5 : decode cX8_ones 5 = .ok (.bipush 6, 2) := by decide +kernel
theorem dX8_ones_7 : decode cX8_ones 7 = .ok (.if_icmp .ge 17, 3) := by decide +kernel
theorem dX8_ones_10 : decode cX8_ones 10 = .ok (.iload_n 1, 1) := by decide +kernel
theorem dX8_ones_11 : decode cX8_ones 11 = .ok (.iload_n 0, 1) := by decide +kernel
theorem dX8_ones_12 : decode cX8_ones 12 = .ok (.iload_n 2, 1) := by decide +kernel
theorem dX8_ones_13 : decode cX8_ones 13 = .ok (.ishr, 1) := by decide +kernel
theorem dX8_ones_14 : decode cX8_ones 14 = .ok (.iconst 1, 1) := by decide +kernel
theorem dX8_ones_15 : decode cX8_ones 15 = .ok (.iand, 1) := by decide +kernel
theorem dX8_ones_16 : decode cX8_ones 16 = .ok (.iadd, 1) := by decide +kernel
theorem dX8_ones_17 : decode cX8_ones 17 = .ok (.istore_n 1, 1) := by decide +kernel
theorem dX8_ones_18 : decode cX8_ones 18 = .ok (.iinc 2 1, 3) := by decide +kernel
theorem dX8_ones_21 : decode cX8_ones 21 = .ok (.goto (-17), 3) := by decide +kernel
theorem dX8_ones_24 : decode cX8_ones 24 = .ok (.iload_n 1, 1) := by decide +kernel
theorem dX8_ones_25 : decode cX8_ones 25 = .ok (.ireturn, 1) := by decide +kernel
theorem dX8_type_0 : decode cX8_type 0 = .ok (.aload_n 0, 1) := by decide +kernel
theorem dX8_type_1 : decode cX8_type 1 = .ok (.iconst 0, 1) := by decide +kernel
theorem dX8_type_2 : decode cX8_type 2 = .ok (.putfield 63, 3) := by decide +kernel
theorem dX8_type_5 : decode cX8_type 5 = .ok (.iload_n 1, 1) := by decide +kernel
theorem dX8_type_6 : decode cX8_type 6 = .ok (.iconst 0, 1) := by decide +kernel
theorem dX8_type_7 : decode cX8_type 7 = .ok (.sipush 255, 3) := by decide +kernel
theorem dX8_type_10 : decode cX8_type 10 = .ok (.invokestatic 66, 3) := by decide +kernel
theorem dX8_type_13 : decode cX8_type 13 = .ok (.ifCond .ne 5, 3) := by decide +kernel
theorem dX8_type_16 : decode cX8_type 16 = .ok (.iconst (-1), 1) := by decide +kernel
theorem dX8_type_17 : decode cX8_type 17 = .ok (.ireturn, 1) := by decide +kernel
theorem dX8_type_18 : decode cX8_type 18 = .ok (.aload_n 0, 1) := by decide +kernel
theorem dX8_type_19 : decode cX8_type 19 = .ok (.getfield 70, 3) := by decide +kernel
theorem dX8_type_22 : decode cX8_type 22 = .ok (.sipush 200, 3) := by decide +kernel
theorem dX8_type_25 : decode cX8_type 25 = .ok (.if_icmp .ne 6, 3) := by decide +kernel
theorem dX8_type_28 : decode cX8_type 28 = .ok (.bipush (-3), 2) := by decide +kernel
theorem dX8_type_30 : decode cX8_type 30 = .ok (.ireturn, 1) := by decide +kernel
theorem dX8_type_31 : decode cX8_type 31 = .ok (.aload_n 0, 1) := by decide +kernel
theorem dX8_type_32 : decode cX8_type 32 = .ok (.getfield 7, 3) := by decide +kernel
theorem dX8_type_35 : decode cX8_type 35 = .ok (.aload_n 0, 1) := by decide +kernel
theorem dX8_type_36 : decode cX8_type 36 = .ok (.getfield 70, 3) := by decide +kernel
theorem dX8_type_39 : decode cX8_type 39 = .ok (.iload_n 1, 1) := by decide +kernel
theorem dX8_type_40 : decode cX8_type 40 = .ok (.iastore, 1) := by decide +kernel
theorem dX8_type_41 : decode cX8_type 41 = .ok (.aload_n 0, 1) := by decide +kernel
theorem dX8_type_42 : decode cX8_type 42 = .ok (.dup, 1) := by decide +kernel
theorem dX8_type_43 : decode cX8_type 43 = .ok (.getfield 70, 3) := by decide +kernel
theorem dX8_type_46 : decode cX8_type 46 = .ok (.iconst 1, 1) := by decide +kernel
theorem dX8_type_47 : decode cX8_type 47 = .ok (.iadd, 1) := by decide +kernel
theorem dX8_type_48 : decode cX8_type 48 = .ok (.putfield 70, 3) := by decide +kernel
theorem dX8_type_51 : decode cX8_type 51 = .ok (.aload_n 0, 1) := by decide +kernel
theorem dX8_type_52 : decode cX8_type 52 = .ok (.getfield 70, 3) := by decide +kernel
theorem dX8_type_55 : decode cX8_type 55 = .ok (.ireturn, 1) := by decide +kernel
theorem dX8_clear_0 : decode cX8_clear 0 = .ok (.aload_n 0, 1) := by decide +kernel
theorem dX8_clear_1 : decode cX8_clear 1 = .ok (.iconst 0, 1) := by decide +kernel
theorem dX8_clear_2 : decode cX8_clear 2 = .ok (.putfield 63, 3) := by decide +kernel
theorem dX8_clear_5 : decode cX8_clear 5 = .ok (.aload_n 0, 1) := by decide +kernel
theorem dX8_clear_6 : decode cX8_clear 6 = .ok (.getfield 70, 3) := by decide +kernel
theorem dX8_clear_9 : decode cX8_clear 9 = .ok (.istore_n 1, 1) := by decide +kernel
theorem dX8_clear_10 : decode cX8_clear 10 = .ok (.aload_n 0, 1) := by decide +kernel
theorem dX8_clear_11 : decode cX8_clear 11 = .ok (.iconst 0, 1) := by decide +kernel
theorem dX8_clear_12 : decode cX8_clear 12 = .ok (.putfield 70, 3) := by decide +kernel
theorem dX8_clear_15 : decode cX8_clear 15 = .ok (.iload_n 1, 1) := by decide +kernel
theorem dX8_clear_16 : decode cX8_clear 16 = .ok (.ireturn, 1) := by decide +kernel
theorem dX8_letterAt_0 : decode cX8_letterAt 0 = .ok (.iload_n 1, 1) := by decide +kernel
theorem dX8_letterAt_1 : decode cX8_letterAt 1 = .ok (.aload_n 0, 1) := by decide +kernel
theorem dX8_letterAt_2 : decode cX8_letterAt 2 = .ok (.getfield 70, 3) := by decide +kernel
theorem dX8_letterAt_5 : decode cX8_letterAt 5 = .ok (.if_icmp .ge 12, 3) := by decide +kernel
theorem dX8_letterAt_8 : decode cX8_letterAt 8 = .ok (.aload_n 0, 1) := by decide +kernel
theorem dX8_letterAt_9 : decode cX8_letterAt 9 = .ok (.getfield 7, 3) := by decide +kernel
theorem dX8_letterAt_12 : decode cX8_letterAt 12 = .ok (.iload_n 1, 1) := by decide +kernel
theorem dX8_letterAt_13 : decode cX8_letterAt 13 = .ok (.iaload, 1) := by decide +kernel
theorem dX8_letterAt_14 : decode cX8_letterAt 14 = .ok (.goto 4, 3) := by decide +kernel
theorem dX8_letterAt_17 : decode cX8_letterAt 17 = .ok (.iconst (-1), 1) := by decide +kernel
theorem dX8_letterAt_18 : decode cX8_letterAt 18 = .ok (.ireturn, 1) := by decide +kernel
theorem dX8_isWord_0 : decode cX8_isWord 0 = .ok (.iload_n 0, 1) := by decide +kernel
theorem dX8_isWord_1 : decode cX8_isWord 1 = .ok (.bipush 110, 2) := by decide +kernel
theorem dX8_isWord_3 : decode cX8_isWord 3 = .ok (.if_icmp .eq 27, 3) := by decide +kernel
theorem dX8_isWord_6 : decode cX8_isWord 6 = .ok (.iload_n 0, 1) := by decide +kernel
theorem dX8_isWord_7 : decode cX8_isWord 7 = .ok (.bipush 119, 2) := by decide +kernel
theorem dX8_isWord_9 : decode cX8_isWord 9 = .ok (.if_icmp .eq 21, 3) := by decide +kernel
theorem dX8_isWord_12 : decode cX8_isWord 12 = .ok (.iload_n 0, 1) := by decide +kernel
theorem dX8_isWord_13 : decode cX8_isWord 13 = .ok (.bipush 108, 2) := by decide +kernel
theorem dX8_isWord_15 : decode cX8_isWord 15 = .ok (.if_icmp .eq 15, 3) := by decide +kernel
theorem dX8_isWord_18 : decode cX8_isWord 18 = .ok (.iload_n 0, 1) := by decide +kernel
theorem dX8_isWord_19 : decode cX8_isWord 19 = .ok (.bipush 115, 2) := by decide +kernel
theorem dX8_isWord_21 : decode cX8_isWord 21 = .ok (.if_icmp .eq 9, 3) := by decide +kernel
theorem dX8_isWord_24 : decode cX8_isWord 24 = .ok (.iload_n 0, 1) := by decide +kernel
theorem dX8_isWord_25 : decode cX8_isWord 25 = .ok (.bipush 121, 2) := by decide +kernel
theorem dX8_isWord_27 : decode cX8_isWord 27 = .ok (.if_icmp .ne 7, 3) := by decide +kernel
theorem dX8_isWord_30 : decode cX8_isWord 30 = .ok (.iconst 1, 1) := by decide +kernel
theorem dX8_isWord_31 : decode cX8_isWord 31 = .ok (.goto 4, 3) := by decide +kernel
theorem dX8_isWord_34 : decode cX8_isWord 34 = .ok (.iconst 0, 1) := by decide +kernel
theorem dX8_isWord_35 : decode cX8_isWord 35 = .ok (.ireturn, 1) := by decide +kernel
theorem dX8_advances_0 : decode cX8_advances 0 = .ok (.aload_n 0, 1) := by decide +kernel
theorem dX8_advances_1 : decode cX8_advances 1 = .ok (.aload_n 0, 1) := by decide +kernel
theorem dX8_advances_2 : decode cX8_advances 2 = .ok (.getfield 73, 3) := by decide +kernel
theorem dX8_advances_5 : decode cX8_advances 5 = .ok (.invokevirtual 76, 3) := by decide +kernel
theorem dX8_advances_8 : decode cX8_advances 8 = .ok (.bipush 32, 2) := by decide +kernel
theorem dX8_advances_10 : decode cX8_advances 10 = .ok (.if_icmp .ne 16, 3) := by decide +kernel
theorem dX8_advances_13 : decode cX8_advances 13 = .ok (.aload_n 0, 1) := by decide +kernel
theorem dX8_advances_14 : decode cX8_advances 14 = .ok (.dup, 1) := by decide +kernel
theorem dX8_advances_15 : decode cX8_advances 15 = .ok (.getfield 73, 3) := by decide +kernel
theorem dX8_advances_18 : decode cX8_advances 18 = .ok (.iconst 1, 1) := by decide +kernel
theorem dX8_advances_19 : decode cX8_advances 19 = .ok (.iadd, 1) := by decide +kernel
theorem dX8_advances_20 : decode cX8_advances 20 = .ok (.putfield 73, 3) := by decide +kernel
theorem dX8_advances_23 : decode cX8_advances 23 = .ok (.goto (-23), 3) := by decide +kernel
theorem dX8_advances_26 : decode cX8_advances 26 = .ok (.aload_n 0, 1) := by decide +kernel
theorem dX8_advances_27 : decode cX8_advances 27 = .ok (.aload_n 0, 1) := by decide +kernel
theorem dX8_advances_28 : decode cX8_advances 28 = .ok (.getfield 73, 3) := by decide +kernel
theorem dX8_advances_31 : decode cX8_advances 31 = .ok (.putfield 80, 3) := by decide +kernel
theorem dX8_advances_34 : decode cX8_advances 34 = .ok (.aload_n 0, 1) := by decide +kernel
theorem dX8_advances_35 : decode cX8_advances 35 = .ok (.aload_n 0, 1) := by decide +kernel
theorem dX8_advances_36 : decode cX8_advances 36 = .ok (.getfield 73, 3) := by decide +kernel
theorem dX8_advances_39 : decode cX8_advances 39 = .ok (.invokevirtual 76, 3) := by decide +kernel
theorem dX8_advances_42 : decode cX8_advances 42 = .ok (.istore_n 1, 1) := by decide +kernel
theorem dX8_advances_43 : decode cX8_advances 43 = .ok (.iload_n 1, 1) := by decide +kernel
theorem dX8_advances_44 : decode cX8_advances 44 = .ok (.ifCond .ge 11, 3) := by decide +kernel
theorem dX8_advances_47 : decode cX8_advances 47 = .ok (.aload_n 0, 1) := by decide +kernel
theorem dX8_advances_48 : decode cX8_advances 48 = .ok (.iconst 0, 1) := by decide +kernel
theorem dX8_advances_49 : decode cX8_advances 49 = .ok (.putfield 83, 3) := by decide +kernel
theorem dX8_advances_52 : decode cX8_advances 52 = .ok (.goto 170, 3) := by decide +kernel
theorem dX8_advances_55 : decode cX8_advances 55 = .ok (.iload_n 1, 1) := by decide +kernel
theorem dX8_advances_56 : decode cX8_advances 56 = .ok (.bipush 48, 2) := by decide +kernel
theorem dX8_advances_58 : decode cX8_advances 58 = .ok (.bipush 57, 2) := by decide +kernel
theorem dX8_advances_60 : decode cX8_advances 60 = .ok (.invokestatic 66, 3) := by decide +kernel
theorem dX8_advances_63 : decode cX8_advances 63 = .ok (.ifCond .eq 118, 3) := by decide +kernel
theorem dX8_advances_66 : decode cX8_advances 66 = .ok (.aload_n 0, 1) := by decide +kernel
theorem dX8_advances_67 : decode cX8_advances 67 = .ok (.iconst 0, 1) := by decide +kernel
theorem dX8_advances_68 : decode cX8_advances 68 = .ok (.putfield 86, 3) := by decide +kernel
theorem dX8_advances_71 : decode cX8_advances 71 = .ok (.aload_n 0, 1) := by decide +kernel
theorem dX8_advances_72 : decode cX8_advances 72 = .ok (.aload_n 0, 1) := by decide +kernel
theorem dX8_advances_73 : decode cX8_advances 73 = .ok (.getfield 73, 3) := by decide +kernel
theorem dX8_advances_76 : decode cX8_advances 76 = .ok (.invokevirtual 76, 3) := by decide +kernel
theorem dX8_advances_79 : decode cX8_advances 79 = .ok (.bipush 48, 2) := by decide +kernel
theorem dX8_advances_81 : decode cX8_advances 81 = .ok (.bipush 57, 2) := by decide +kernel
theorem dX8_advances_83 : decode cX8_advances 83 = .ok (.invokestatic 66, 3) := by decide +kernel
theorem dX8_advances_86 : decode cX8_advances 86 = .ok (.ifCond .eq 55, 3) := by decide +kernel
theorem dX8_advances_89 : decode cX8_advances 89 = .ok (.aload_n 0, 1) := by decide +kernel
theorem dX8_advances_90 : decode cX8_advances 90 = .ok (.aload_n 0, 1) := by decide +kernel
theorem dX8_advances_91 : decode cX8_advances 91 = .ok (.getfield 86, 3) := by decide +kernel
theorem dX8_advances_94 : decode cX8_advances 94 = .ok (.bipush 99, 2) := by decide +kernel
theorem dX8_advances_96 : decode cX8_advances 96 = .ok (.if_icmp .le 10, 3) := by decide +kernel
theorem dX8_advances_99 : decode cX8_advances 99 = .ok (.aload_n 0, 1) := by decide +kernel
theorem dX8_advances_100 : decode cX8_advances 100 = .ok (.getfield 86, 3) := by decide +kernel
theorem dX8_advances_103 : decode cX8_advances 103 = .ok (.goto 22, 3) := by decide +kernel
theorem dX8_advances_106 : decode cX8_advances 106 = .ok (.bipush 10, 2) := by decide +kernel
theorem dX8_advances_108 : decode cX8_advances 108 = .ok (.aload_n 0, 1) := by decide +kernel
theorem dX8_advances_109 : decode cX8_advances 109 = .ok (.getfield 86, 3) := by decide +kernel
theorem dX8_advances_112 : decode cX8_advances 112 = .ok (.imul, 1) := by decide +kernel
theorem dX8_advances_113 : decode cX8_advances 113 = .ok (.aload_n 0, 1) := by decide +kernel
theorem dX8_advances_114 : decode cX8_advances 114 = .ok (.aload_n 0, 1) := by decide +kernel
theorem dX8_advances_115 : decode cX8_advances 115 = .ok (.getfield 73, 3) := by decide +kernel
theorem dX8_advances_118 : decode cX8_advances 118 = .ok (.invokevirtual 76, 3) := by decide +kernel
theorem dX8_advances_121 : decode cX8_advances 121 = .ok (.iadd, 1) := by decide +kernel
theorem dX8_advances_122 : decode cX8_advances 122 = .ok (.bipush 48, 2) := by decide +kernel
theorem dX8_advances_124 : decode cX8_advances 124 = .ok (.isub, 1) := by decide +kernel
theorem dX8_advances_125 : decode cX8_advances 125 = .ok (.putfield 86, 3) := by decide +kernel
theorem dX8_advances_128 : decode cX8_advances 128 = .ok (.aload_n 0, 1) := by decide +kernel
theorem dX8_advances_129 : decode cX8_advances 129 = .ok (.dup, 1) := by decide +kernel
theorem dX8_advances_130 : decode cX8_advances 130 = .ok (.getfield 73, 3) := by decide +kernel
theorem dX8_advances_133 : decode cX8_advances 133 = .ok (.iconst 1, 1) := by decide +kernel
theorem dX8_advances_134 : decode cX8_advances 134 = .ok (.iadd, 1) := by decide +kernel
theorem dX8_advances_135 : decode cX8_advances 135 = .ok (.putfield 73, 3) := by decide +kernel
theorem dX8_advances_138 : decode cX8_advances 138 = .ok (.goto (-67), 3) := by decide +kernel
theorem dX8_advances_141 : decode cX8_advances 141 = .ok (.aload_n 0, 1) := by decide +kernel
theorem dX8_advances_142 : decode cX8_advances 142 = .ok (.aload_n 0, 1) := by decide +kernel
theorem dX8_advances_143 : decode cX8_advances 143 = .ok (.getfield 86, 3) := by decide +kernel
theorem dX8_advances_146 : decode cX8_advances 146 = .ok (.bipush 99, 2) := by decide +kernel
theorem dX8_advances_148 : decode cX8_advances 148 = .ok (.if_icmp .gt 22, 3) := by decide +kernel
theorem dX8_advances_151 : decode cX8_advances 151 = .ok (.iload_n 1, 1) := by decide +kernel
theorem dX8_advances_152 : decode cX8_advances 152 = .ok (.bipush 48, 2) := by decide +kernel
theorem dX8_advances_154 : decode cX8_advances 154 = .ok (.if_icmp .ne 20, 3) := by decide +kernel
theorem dX8_advances_157 : decode cX8_advances 157 = .ok (.aload_n 0, 1) := by decide +kernel
theorem dX8_advances_158 : decode cX8_advances 158 = .ok (.getfield 73, 3) := by decide +kernel
theorem dX8_advances_161 : decode cX8_advances 161 = .ok (.aload_n 0, 1) := by decide +kernel
theorem dX8_advances_162 : decode cX8_advances 162 = .ok (.getfield 80, 3) := by decide +kernel
theorem dX8_advances_165 : decode cX8_advances 165 = .ok (.isub, 1) := by decide +kernel
theorem dX8_advances_166 : decode cX8_advances 166 = .ok (.iconst 1, 1) := by decide +kernel
theorem dX8_advances_167 : decode cX8_advances 167 = .ok (.if_icmp .le 7, 3) := by decide +kernel
theorem dX8_advances_170 : decode cX8_advances 170 = .ok (.iconst 4, 1) := by decide +kernel
theorem dX8_advances_171 : decode cX8_advances 171 = .ok (.goto 4, 3) := by decide +kernel
theorem dX8_advances_174 : decode cX8_advances 174 = .ok (.iconst 2, 1) := by decide +kernel
theorem dX8_advances_175 : decode cX8_advances 175 = .ok (.putfield 83, 3) := by decide +kernel
theorem dX8_advances_178 : decode cX8_advances 178 = .ok (.goto 44, 3) := by decide +kernel
theorem dX8_advances_181 : decode cX8_advances 181 = .ok (.aload_n 0, 1) := by decide +kernel
theorem dX8_advances_182 : decode cX8_advances 182 = .ok (.dup, 1) := by decide +kernel
theorem dX8_advances_183 : decode cX8_advances 183 = .ok (.getfield 73, 3) := by decide +kernel
theorem dX8_advances_186 : decode cX8_advances 186 = .ok (.iconst 1, 1) := by decide +kernel
theorem dX8_advances_187 : decode cX8_advances 187 = .ok (.iadd, 1) := by decide +kernel
theorem dX8_advances_188 : decode cX8_advances 188 = .ok (.putfield 73, 3) := by decide +kernel
theorem dX8_advances_191 : decode cX8_advances 191 = .ok (.aload_n 0, 1) := by decide +kernel
theorem dX8_advances_192 : decode cX8_advances 192 = .ok (.iload_n 1, 1) := by decide +kernel
theorem dX8_advances_193 : decode cX8_advances 193 = .ok (.putfield 86, 3) := by decide +kernel
theorem dX8_advances_196 : decode cX8_advances 196 = .ok (.aload_n 0, 1) := by decide +kernel
theorem dX8_advances_197 : decode cX8_advances 197 = .ok (.iload_n 1, 1) := by decide +kernel
theorem dX8_advances_198 : decode cX8_advances 198 = .ok (.bipush 59, 2) := by decide +kernel
theorem dX8_advances_200 : decode cX8_advances 200 = .ok (.if_icmp .ne 7, 3) := by decide +kernel
theorem dX8_advances_203 : decode cX8_advances 203 = .ok (.iconst 3, 1) := by decide +kernel
theorem dX8_advances_204 : decode cX8_advances 204 = .ok (.goto 15, 3) := by decide +kernel
theorem dX8_advances_207 : decode cX8_advances 207 = .ok (.iload_n 1, 1) := by decide +kernel
theorem dX8_advances_208 : decode cX8_advances 208 = .ok (.invokestatic 89, 3) := by decide +kernel
theorem dX8_advances_211 : decode cX8_advances 211 = .ok (.ifCond .eq 7, 3) := by decide +kernel
theorem dX8_advances_214 : decode cX8_advances 214 = .ok (.iconst 1, 1) := by decide +kernel
theorem dX8_advances_215 : decode cX8_advances 215 = .ok (.goto 4, 3) := by decide +kernel
theorem dX8_advances_218 : decode cX8_advances 218 = .ok (.iconst 4, 1) := by decide +kernel
theorem dX8_advances_219 : decode cX8_advances 219 = .ok (.putfield 83, 3) := by decide +kernel
theorem dX8_advances_222 : decode cX8_advances 222 = .ok (.return_, 1) := by decide +kernel
theorem dX8_isWell_0 : decode cX8_isWell 0 = .ok (.aload_n 0, 1) := by decide +kernel
theorem dX8_isWell_1 : decode cX8_isWell 1 = .ok (.getfield 93, 3) := by decide +kernel
theorem dX8_isWell_4 : decode cX8_isWell 4 = .ok (.ifCond .ge 7, 3) := by decide +kernel
theorem dX8_isWell_7 : decode cX8_isWell 7 = .ok (.iconst 1, 1) := by decide +kernel
theorem dX8_isWell_8 : decode cX8_isWell 8 = .ok (.goto 4, 3) := by decide +kernel
theorem dX8_isWell_11 : decode cX8_isWell 11 = .ok (.iconst 0, 1) := by decide +kernel
theorem dX8_isWell_12 : decode cX8_isWell 12 = .ok (.ireturn, 1) := by decide +kernel
theorem dX8_takes_0 : decode cX8_takes 0 = .ok (.aload_n 0, 1) := by decide +kernel
theorem dX8_takes_1 : decode cX8_takes 1 = .ok (.invokevirtual 96, 3) := by decide +kernel
theorem dX8_takes_4 : decode cX8_takes 4 = .ok (.ifCond .ne 5, 3) := by decide +kernel
theorem dX8_takes_7 : decode cX8_takes 7 = .ok (.iconst 0, 1) := by decide +kernel
theorem dX8_takes_8 : decode cX8_takes 8 = .ok (.ireturn, 1) := by decide +kernel
theorem dX8_takes_9 : decode cX8_takes 9 = .ok (.iload_n 1, 1) := by decide +kernel
theorem dX8_takes_10 : decode cX8_takes 10 = .ok (.ifCond .ne 13, 3) := by decide +kernel
theorem dX8_takes_13 : decode cX8_takes 13 = .ok (.aload_n 0, 1) := by decide +kernel
theorem dX8_takes_14 : decode cX8_takes 14 = .ok (.aload_n 0, 1) := by decide +kernel
theorem dX8_takes_15 : decode cX8_takes 15 = .ok (.getfield 80, 3) := by decide +kernel
theorem dX8_takes_18 : decode cX8_takes 18 = .ok (.putfield 93, 3) := by decide +kernel
theorem dX8_takes_21 : decode cX8_takes 21 = .ok (.iconst 0, 1) := by decide +kernel
theorem dX8_takes_22 : decode cX8_takes 22 = .ok (.ireturn, 1) := by decide +kernel
theorem dX8_takes_23 : decode cX8_takes 23 = .ok (.aload_n 0, 1) := by decide +kernel
theorem dX8_takes_24 : decode cX8_takes 24 = .ok (.getfield 86, 3) := by decide +kernel
theorem dX8_takes_27 : decode cX8_takes 27 = .ok (.istore_n 2, 1) := by decide +kernel
theorem dX8_takes_28 : decode cX8_takes 28 = .ok (.aload_n 0, 1) := by decide +kernel
theorem dX8_takes_29 : decode cX8_takes 29 = .ok (.invokevirtual 100, 3) := by decide +kernel
theorem dX8_takes_32 : decode cX8_takes 32 = .ok (.iload_n 2, 1) := by decide +kernel
theorem dX8_takes_33 : decode cX8_takes 33 = .ok (.ireturn, 1) := by decide +kernel
theorem dX8_number_0 : decode cX8_number 0 = .ok (.aload_n 0, 1) := by decide +kernel
theorem dX8_number_1 : decode cX8_number 1 = .ok (.aload_n 0, 1) := by decide +kernel
theorem dX8_number_2 : decode cX8_number 2 = .ok (.getfield 83, 3) := by decide +kernel
theorem dX8_number_5 : decode cX8_number 5 = .ok (.iconst 2, 1) := by decide +kernel
theorem dX8_number_6 : decode cX8_number 6 = .ok (.if_icmp .ne 19, 3) := by decide +kernel
theorem dX8_number_9 : decode cX8_number 9 = .ok (.aload_n 0, 1) := by decide +kernel
theorem dX8_number_10 : decode cX8_number 10 = .ok (.getfield 86, 3) := by decide +kernel
theorem dX8_number_13 : decode cX8_number 13 = .ok (.iload_n 1, 1) := by decide +kernel
theorem dX8_number_14 : decode cX8_number 14 = .ok (.iload_n 2, 1) := by decide +kernel
theorem dX8_number_15 : decode cX8_number 15 = .ok (.invokestatic 66, 3) := by decide +kernel
theorem dX8_number_18 : decode cX8_number 18 = .ok (.ifCond .eq 7, 3) := by decide +kernel
theorem dX8_number_21 : decode cX8_number 21 = .ok (.iconst 1, 1) := by decide +kernel
theorem dX8_number_22 : decode cX8_number 22 = .ok (.goto 4, 3) := by decide +kernel
theorem dX8_number_25 : decode cX8_number 25 = .ok (.iconst 0, 1) := by decide +kernel
theorem dX8_number_26 : decode cX8_number 26 = .ok (.invokevirtual 103, 3) := by decide +kernel
theorem dX8_number_29 : decode cX8_number 29 = .ok (.ireturn, 1) := by decide +kernel
theorem dX8_isMake_0 : decode cX8_isMake 0 = .ok (.iload_n 0, 1) := by decide +kernel
theorem dX8_isMake_1 : decode cX8_isMake 1 = .ok (.iconst 0, 1) := by decide +kernel
theorem dX8_isMake_2 : decode cX8_isMake 2 = .ok (.iconst 3, 1) := by decide +kernel
theorem dX8_isMake_3 : decode cX8_isMake 3 = .ok (.invokestatic 66, 3) := by decide +kernel
theorem dX8_isMake_6 : decode cX8_isMake 6 = .ok (.ifCond .ne 9, 3) := by decide +kernel
theorem dX8_isMake_9 : decode cX8_isMake 9 = .ok (.iload_n 0, 1) := by decide +kernel
theorem dX8_isMake_10 : decode cX8_isMake 10 = .ok (.bipush 9, 2) := by decide +kernel
theorem dX8_isMake_12 : decode cX8_isMake 12 = .ok (.if_icmp .ne 7, 3) := by decide +kernel
theorem dX8_isMake_15 : decode cX8_isMake 15 = .ok (.iconst 1, 1) := by decide +kernel
theorem dX8_isMake_16 : decode cX8_isMake 16 = .ok (.goto 4, 3) := by decide +kernel
theorem dX8_isMake_19 : decode cX8_isMake 19 = .ok (.iconst 0, 1) := by decide +kernel
theorem dX8_isMake_20 : decode cX8_isMake 20 = .ok (.ireturn, 1) := by decide +kernel
theorem dX8_mayBegin_0 : decode cX8_mayBegin 0 = .ok (.aload_n 0, 1) := by decide +kernel
theorem dX8_mayBegin_1 : decode cX8_mayBegin 1 = .ok (.getfield 86, 3) := by decide +kernel
theorem dX8_mayBegin_4 : decode cX8_mayBegin 4 = .ok (.bipush 110, 2) := by decide +kernel
theorem dX8_mayBegin_6 : decode cX8_mayBegin 6 = .ok (.if_icmp .ne 15, 3) := by decide +kernel
theorem dX8_mayBegin_9 : decode cX8_mayBegin 9 = .ok (.iload_n 1, 1) := by decide +kernel
theorem dX8_mayBegin_10 : decode cX8_mayBegin 10 = .ok (.ifCond .ne 7, 3) := by decide +kernel
theorem dX8_mayBegin_13 : decode cX8_mayBegin 13 = .ok (.iconst 1, 1) := by decide +kernel
theorem dX8_mayBegin_14 : decode cX8_mayBegin 14 = .ok (.goto 55, 3) := by decide +kernel
theorem dX8_mayBegin_17 : decode cX8_mayBegin 17 = .ok (.iconst 0, 1) := by decide +kernel
theorem dX8_mayBegin_18 : decode cX8_mayBegin 18 = .ok (.goto 51, 3) := by decide +kernel
theorem dX8_mayBegin_21 : decode cX8_mayBegin 21 = .ok (.aload_n 0, 1) := by decide +kernel
theorem dX8_mayBegin_22 : decode cX8_mayBegin 22 = .ok (.getfield 86, 3) := by decide +kernel
theorem dX8_mayBegin_25 : decode cX8_mayBegin 25 = .ok (.bipush 115, 2) := by decide +kernel
theorem dX8_mayBegin_27 : decode cX8_mayBegin 27 = .ok (.if_icmp .ne 19, 3) := by decide +kernel
theorem dX8_mayBegin_30 : decode cX8_mayBegin 30 = .ok (.aload_n 0, 1) := by decide +kernel
theorem dX8_mayBegin_31 : decode cX8_mayBegin 31 = .ok (.getfield 107, 3) := by decide +kernel
theorem dX8_mayBegin_34 : decode cX8_mayBegin 34 = .ok (.iconst 4, 1) := by decide +kernel
theorem dX8_mayBegin_35 : decode cX8_mayBegin 35 = .ok (.if_icmp .ge 7, 3) := by decide +kernel
theorem dX8_mayBegin_38 : decode cX8_mayBegin 38 = .ok (.iconst 1, 1) := by decide +kernel
theorem dX8_mayBegin_39 : decode cX8_mayBegin 39 = .ok (.goto 30, 3) := by decide +kernel
theorem dX8_mayBegin_42 : decode cX8_mayBegin 42 = .ok (.iconst 0, 1) := by decide +kernel
theorem dX8_mayBegin_43 : decode cX8_mayBegin 43 = .ok (.goto 26, 3) := by decide +kernel
theorem dX8_mayBegin_46 : decode cX8_mayBegin 46 = .ok (.aload_n 0, 1) := by decide +kernel
theorem dX8_mayBegin_47 : decode cX8_mayBegin 47 = .ok (.getfield 86, 3) := by decide +kernel
theorem dX8_mayBegin_50 : decode cX8_mayBegin 50 = .ok (.bipush 121, 2) := by decide +kernel
theorem dX8_mayBegin_52 : decode cX8_mayBegin 52 = .ok (.if_icmp .ne 12, 3) := by decide +kernel
theorem dX8_mayBegin_55 : decode cX8_mayBegin 55 = .ok (.aload_n 0, 1) := by decide +kernel
theorem dX8_mayBegin_56 : decode cX8_mayBegin 56 = .ok (.getfield 110, 3) := by decide +kernel
theorem dX8_mayBegin_59 : decode cX8_mayBegin 59 = .ok (.bipush 6, 2) := by decide +kernel
theorem dX8_mayBegin_61 : decode cX8_mayBegin 61 = .ok (.if_icmp .ge 7, 3) := by decide +kernel
theorem dX8_mayBegin_64 : decode cX8_mayBegin 64 = .ok (.iconst 1, 1) := by decide +kernel
theorem dX8_mayBegin_65 : decode cX8_mayBegin 65 = .ok (.goto 4, 3) := by decide +kernel
theorem dX8_mayBegin_68 : decode cX8_mayBegin 68 = .ok (.iconst 0, 1) := by decide +kernel
theorem dX8_mayBegin_69 : decode cX8_mayBegin 69 = .ok (.ireturn, 1) := by decide +kernel
theorem dX8_readsItem_0 : decode cX8_readsItem 0 = .ok (.iload_n 1, 1) := by decide +kernel
theorem dX8_readsItem_1 : decode cX8_readsItem 1 = .ok (.bipush 110, 2) := by decide +kernel
theorem dX8_readsItem_3 : decode cX8_readsItem 3 = .ok (.if_icmp .ne 17, 3) := by decide +kernel
theorem dX8_readsItem_6 : decode cX8_readsItem 6 = .ok (.aload_n 0, 1) := by decide +kernel
theorem dX8_readsItem_7 : decode cX8_readsItem 7 = .ok (.aload_n 0, 1) := by decide +kernel
theorem dX8_readsItem_8 : decode cX8_readsItem 8 = .ok (.iconst 2, 1) := by decide +kernel
theorem dX8_readsItem_9 : decode cX8_readsItem 9 = .ok (.bipush 6, 2) := by decide +kernel
theorem dX8_readsItem_11 : decode cX8_readsItem 11 = .ok (.invokevirtual 113, 3) := by decide +kernel
theorem dX8_readsItem_14 : decode cX8_readsItem 14 = .ok (.putfield 117, 3) := by decide +kernel
theorem dX8_readsItem_17 : decode cX8_readsItem 17 = .ok (.goto 202, 3) := by decide +kernel
theorem dX8_readsItem_20 : decode cX8_readsItem 20 = .ok (.iload_n 1, 1) := by decide +kernel
theorem dX8_readsItem_21 : decode cX8_readsItem 21 = .ok (.bipush 119, 2) := by decide +kernel
theorem dX8_readsItem_23 : decode cX8_readsItem 23 = .ok (.if_icmp .eq 9, 3) := by decide +kernel
theorem dX8_readsItem_26 : decode cX8_readsItem 26 = .ok (.iload_n 1, 1) := by decide +kernel
theorem dX8_readsItem_27 : decode cX8_readsItem 27 = .ok (.bipush 108, 2) := by decide +kernel
theorem dX8_readsItem_29 : decode cX8_readsItem 29 = .ok (.if_icmp .ne 66, 3) := by decide +kernel
theorem dX8_readsItem_32 : decode cX8_readsItem 32 = .ok (.aload_n 0, 1) := by decide +kernel
theorem dX8_readsItem_33 : decode cX8_readsItem 33 = .ok (.iconst 0, 1) := by decide +kernel
theorem dX8_readsItem_34 : decode cX8_readsItem 34 = .ok (.aload_n 0, 1) := by decide +kernel
theorem dX8_readsItem_35 : decode cX8_readsItem 35 = .ok (.getfield 117, 3) := by decide +kernel
theorem dX8_readsItem_38 : decode cX8_readsItem 38 = .ok (.iconst 1, 1) := by decide +kernel
theorem dX8_readsItem_39 : decode cX8_readsItem 39 = .ok (.isub, 1) := by decide +kernel
theorem dX8_readsItem_40 : decode cX8_readsItem 40 = .ok (.invokevirtual 113, 3) := by decide +kernel
theorem dX8_readsItem_43 : decode cX8_readsItem 43 = .ok (.istore_n 2, 1) := by decide +kernel
theorem dX8_readsItem_44 : decode cX8_readsItem 44 = .ok (.aload_n 0, 1) := by decide +kernel
theorem dX8_readsItem_45 : decode cX8_readsItem 45 = .ok (.iconst 1, 1) := by decide +kernel
theorem dX8_readsItem_46 : decode cX8_readsItem 46 = .ok (.iload_n 1, 1) := by decide +kernel
theorem dX8_readsItem_47 : decode cX8_readsItem 47 = .ok (.bipush 119, 2) := by decide +kernel
theorem dX8_readsItem_49 : decode cX8_readsItem 49 = .ok (.if_icmp .ne 8, 3) := by decide +kernel
theorem dX8_readsItem_52 : decode cX8_readsItem 52 = .ok (.bipush 9, 2) := by decide +kernel
theorem dX8_readsItem_54 : decode cX8_readsItem 54 = .ok (.goto 5, 3) := by decide +kernel
theorem dX8_readsItem_57 : decode cX8_readsItem 57 = .ok (.bipush 30, 2) := by decide +kernel
theorem dX8_readsItem_59 : decode cX8_readsItem 59 = .ok (.invokevirtual 113, 3) := by decide +kernel
theorem dX8_readsItem_62 : decode cX8_readsItem 62 = .ok (.istore_n 3, 1) := by decide +kernel
theorem dX8_readsItem_63 : decode cX8_readsItem 63 = .ok (.iload_n 1, 1) := by decide +kernel
theorem dX8_readsItem_64 : decode cX8_readsItem 64 = .ok (.bipush 119, 2) := by decide +kernel
theorem dX8_readsItem_66 : decode cX8_readsItem 66 = .ok (.if_icmp .ne 16, 3) := by decide +kernel
theorem dX8_readsItem_69 : decode cX8_readsItem 69 = .ok (.aload_n 0, 1) := by decide +kernel
theorem dX8_readsItem_70 : decode cX8_readsItem 70 = .ok (.getfield 13, 3) := by decide +kernel
theorem dX8_readsItem_73 : decode cX8_readsItem 73 = .ok (.bipush 6, 2) := by decide +kernel
theorem dX8_readsItem_75 : decode cX8_readsItem 75 = .ok (.iload_n 2, 1) := by decide +kernel
theorem dX8_readsItem_76 : decode cX8_readsItem 76 = .ok (.iadd, 1) := by decide +kernel
theorem dX8_readsItem_77 : decode cX8_readsItem 77 = .ok (.iload_n 3, 1) := by decide +kernel
theorem dX8_readsItem_78 : decode cX8_readsItem 78 = .ok (.iastore, 1) := by decide +kernel
theorem dX8_readsItem_79 : decode cX8_readsItem 79 = .ok (.goto 13, 3) := by decide +kernel
theorem dX8_readsItem_82 : decode cX8_readsItem 82 = .ok (.aload_n 0, 1) := by decide +kernel
theorem dX8_readsItem_83 : decode cX8_readsItem 83 = .ok (.getfield 16, 3) := by decide +kernel
theorem dX8_readsItem_86 : decode cX8_readsItem 86 = .ok (.bipush 6, 2) := by decide +kernel
theorem dX8_readsItem_88 : decode cX8_readsItem 88 = .ok (.iload_n 2, 1) := by decide +kernel
theorem dX8_readsItem_89 : decode cX8_readsItem 89 = .ok (.iadd, 1) := by decide +kernel
theorem dX8_readsItem_90 : decode cX8_readsItem 90 = .ok (.iload_n 3, 1) := by decide +kernel
theorem dX8_readsItem_91 : decode cX8_readsItem 91 = .ok (.iastore, 1) := by decide +kernel
theorem dX8_readsItem_92 : decode cX8_readsItem 92 = .ok (.goto 127, 3) := by decide +kernel
theorem dX8_readsItem_95 : decode cX8_readsItem 95 = .ok (.iload_n 1, 1) := by decide +kernel
theorem dX8_readsItem_96 : decode cX8_readsItem 96 = .ok (.bipush 115, 2) := by decide +kernel
theorem dX8_readsItem_98 : decode cX8_readsItem 98 = .ok (.if_icmp .ne 34, 3) := by decide +kernel
theorem dX8_readsItem_101 : decode cX8_readsItem 101 = .ok (.aload_n 0, 1) := by decide +kernel
theorem dX8_readsItem_102 : decode cX8_readsItem 102 = .ok (.getfield 19, 3) := by decide +kernel
theorem dX8_readsItem_105 : decode cX8_readsItem 105 = .ok (.iconst 4, 1) := by decide +kernel
theorem dX8_readsItem_106 : decode cX8_readsItem 106 = .ok (.aload_n 0, 1) := by decide +kernel
theorem dX8_readsItem_107 : decode cX8_readsItem 107 = .ok (.getfield 107, 3) := by decide +kernel
theorem dX8_readsItem_110 : decode cX8_readsItem 110 = .ok (.iadd, 1) := by decide +kernel
theorem dX8_readsItem_111 : decode cX8_readsItem 111 = .ok (.aload_n 0, 1) := by decide +kernel
theorem dX8_readsItem_112 : decode cX8_readsItem 112 = .ok (.iconst 0, 1) := by decide +kernel
theorem dX8_readsItem_113 : decode cX8_readsItem 113 = .ok (.bipush 9, 2) := by decide +kernel
theorem dX8_readsItem_115 : decode cX8_readsItem 115 = .ok (.invokevirtual 113, 3) := by decide +kernel
theorem dX8_readsItem_118 : decode cX8_readsItem 118 = .ok (.iastore, 1) := by decide +kernel
theorem dX8_readsItem_119 : decode cX8_readsItem 119 = .ok (.aload_n 0, 1) := by decide +kernel
theorem dX8_readsItem_120 : decode cX8_readsItem 120 = .ok (.dup, 1) := by decide +kernel
theorem dX8_readsItem_121 : decode cX8_readsItem 121 = .ok (.getfield 107, 3) := by decide +kernel
theorem dX8_readsItem_124 : decode cX8_readsItem 124 = .ok (.iconst 1, 1) := by decide +kernel
theorem dX8_readsItem_125 : decode cX8_readsItem 125 = .ok (.iadd, 1) := by decide +kernel
theorem dX8_readsItem_126 : decode cX8_readsItem 126 = .ok (.putfield 107, 3) := by decide +kernel
theorem dX8_readsItem_129 : decode cX8_readsItem 129 = .ok (.goto 90, 3) := by decide +kernel
theorem dX8_readsItem_132 : decode cX8_readsItem 132 = .ok (.bipush 18, 2) := by decide +kernel
theorem dX8_readsItem_134 : decode cX8_readsItem 134 = .ok (.iconst 3, 1) := by decide +kernel
theorem dX8_readsItem_135 : decode cX8_readsItem 135 = .ok (.aload_n 0, 1) := by decide +kernel
theorem dX8_readsItem_136 : decode cX8_readsItem 136 = .ok (.getfield 110, 3) := by decide +kernel
theorem dX8_readsItem_139 : decode cX8_readsItem 139 = .ok (.imul, 1) := by decide +kernel
theorem dX8_readsItem_140 : decode cX8_readsItem 140 = .ok (.iadd, 1) := by decide +kernel
theorem dX8_readsItem_141 : decode cX8_readsItem 141 = .ok (.istore_n 2, 1) := by decide +kernel
theorem dX8_readsItem_142 : decode cX8_readsItem 142 = .ok (.aload_n 0, 1) := by decide +kernel
theorem dX8_readsItem_143 : decode cX8_readsItem 143 = .ok (.getfield 22, 3) := by decide +kernel
theorem dX8_readsItem_146 : decode cX8_readsItem 146 = .ok (.iload_n 2, 1) := by decide +kernel
theorem dX8_readsItem_147 : decode cX8_readsItem 147 = .ok (.aload_n 0, 1) := by decide +kernel
theorem dX8_readsItem_148 : decode cX8_readsItem 148 = .ok (.iconst 0, 1) := by decide +kernel
theorem dX8_readsItem_149 : decode cX8_readsItem 149 = .ok (.aload_n 0, 1) := by decide +kernel
theorem dX8_readsItem_150 : decode cX8_readsItem 150 = .ok (.getfield 117, 3) := by decide +kernel
theorem dX8_readsItem_153 : decode cX8_readsItem 153 = .ok (.iconst 1, 1) := by decide +kernel
theorem dX8_readsItem_154 : decode cX8_readsItem 154 = .ok (.isub, 1) := by decide +kernel
theorem dX8_readsItem_155 : decode cX8_readsItem 155 = .ok (.invokevirtual 113, 3) := by decide +kernel
theorem dX8_readsItem_158 : decode cX8_readsItem 158 = .ok (.iastore, 1) := by decide +kernel
theorem dX8_readsItem_159 : decode cX8_readsItem 159 = .ok (.aload_n 0, 1) := by decide +kernel
theorem dX8_readsItem_160 : decode cX8_readsItem 160 = .ok (.getfield 22, 3) := by decide +kernel
theorem dX8_readsItem_163 : decode cX8_readsItem 163 = .ok (.iload_n 2, 1) := by decide +kernel
theorem dX8_readsItem_164 : decode cX8_readsItem 164 = .ok (.iconst 1, 1) := by decide +kernel
theorem dX8_readsItem_165 : decode cX8_readsItem 165 = .ok (.iadd, 1) := by decide +kernel
theorem dX8_readsItem_166 : decode cX8_readsItem 166 = .ok (.aload_n 0, 1) := by decide +kernel
theorem dX8_readsItem_167 : decode cX8_readsItem 167 = .ok (.aload_n 0, 1) := by decide +kernel
theorem dX8_readsItem_168 : decode cX8_readsItem 168 = .ok (.getfield 83, 3) := by decide +kernel
theorem dX8_readsItem_171 : decode cX8_readsItem 171 = .ok (.iconst 2, 1) := by decide +kernel
theorem dX8_readsItem_172 : decode cX8_readsItem 172 = .ok (.if_icmp .ne 17, 3) := by decide +kernel
theorem dX8_readsItem_175 : decode cX8_readsItem 175 = .ok (.aload_n 0, 1) := by decide +kernel
theorem dX8_readsItem_176 : decode cX8_readsItem 176 = .ok (.getfield 86, 3) := by decide +kernel
theorem dX8_readsItem_179 : decode cX8_readsItem 179 = .ok (.invokestatic 120, 3) := by decide +kernel
theorem dX8_readsItem_182 : decode cX8_readsItem 182 = .ok (.ifCond .eq 7, 3) := by decide +kernel
theorem dX8_readsItem_185 : decode cX8_readsItem 185 = .ok (.iconst 1, 1) := by decide +kernel
theorem dX8_readsItem_186 : decode cX8_readsItem 186 = .ok (.goto 4, 3) := by decide +kernel
theorem dX8_readsItem_189 : decode cX8_readsItem 189 = .ok (.iconst 0, 1) := by decide +kernel
theorem dX8_readsItem_190 : decode cX8_readsItem 190 = .ok (.invokevirtual 103, 3) := by decide +kernel
theorem dX8_readsItem_193 : decode cX8_readsItem 193 = .ok (.iastore, 1) := by decide +kernel
theorem dX8_readsItem_194 : decode cX8_readsItem 194 = .ok (.aload_n 0, 1) := by decide +kernel
theorem dX8_readsItem_195 : decode cX8_readsItem 195 = .ok (.getfield 22, 3) := by decide +kernel
theorem dX8_readsItem_198 : decode cX8_readsItem 198 = .ok (.iload_n 2, 1) := by decide +kernel
theorem dX8_readsItem_199 : decode cX8_readsItem 199 = .ok (.iconst 2, 1) := by decide +kernel
theorem dX8_readsItem_200 : decode cX8_readsItem 200 = .ok (.iadd, 1) := by decide +kernel
theorem dX8_readsItem_201 : decode cX8_readsItem 201 = .ok (.aload_n 0, 1) := by decide +kernel
theorem dX8_readsItem_202 : decode cX8_readsItem 202 = .ok (.iconst 0, 1) := by decide +kernel
theorem dX8_readsItem_203 : decode cX8_readsItem 203 = .ok (.bipush 30, 2) := by decide +kernel
theorem dX8_readsItem_205 : decode cX8_readsItem 205 = .ok (.invokevirtual 113, 3) := by decide +kernel
theorem dX8_readsItem_208 : decode cX8_readsItem 208 = .ok (.iastore, 1) := by decide +kernel
theorem dX8_readsItem_209 : decode cX8_readsItem 209 = .ok (.aload_n 0, 1) := by decide +kernel
theorem dX8_readsItem_210 : decode cX8_readsItem 210 = .ok (.dup, 1) := by decide +kernel
theorem dX8_readsItem_211 : decode cX8_readsItem 211 = .ok (.getfield 110, 3) := by decide +kernel
theorem dX8_readsItem_214 : decode cX8_readsItem 214 = .ok (.iconst 1, 1) := by decide +kernel
theorem dX8_readsItem_215 : decode cX8_readsItem 215 = .ok (.iadd, 1) := by decide +kernel
theorem dX8_readsItem_216 : decode cX8_readsItem 216 = .ok (.putfield 110, 3) := by decide +kernel
theorem dX8_readsItem_219 : decode cX8_readsItem 219 = .ok (.return_, 1) := by decide +kernel
theorem dX8_port_0 : decode cX8_port 0 = .ok (.aload_n 0, 1) := by decide +kernel
theorem dX8_port_1 : decode cX8_port 1 = .ok (.iconst 0, 1) := by decide +kernel
theorem dX8_port_2 : decode cX8_port 2 = .ok (.putfield 63, 3) := by decide +kernel
theorem dX8_port_5 : decode cX8_port 5 = .ok (.aload_n 0, 1) := by decide +kernel
theorem dX8_port_6 : decode cX8_port 6 = .ok (.iconst (-1), 1) := by decide +kernel
theorem dX8_port_7 : decode cX8_port 7 = .ok (.putfield 93, 3) := by decide +kernel
theorem dX8_port_10 : decode cX8_port 10 = .ok (.aload_n 0, 1) := by decide +kernel
theorem dX8_port_11 : decode cX8_port 11 = .ok (.iconst 0, 1) := by decide +kernel
theorem dX8_port_12 : decode cX8_port 12 = .ok (.putfield 73, 3) := by decide +kernel
theorem dX8_port_15 : decode cX8_port 15 = .ok (.iconst 0, 1) := by decide +kernel
theorem dX8_port_16 : decode cX8_port 16 = .ok (.istore_n 1, 1) := by decide +kernel
theorem dX8_port_17 : decode cX8_port 17 = .ok (.aload_n 0, 1) := by decide +kernel
theorem dX8_port_18 : decode cX8_port 18 = .ok (.iconst 3, 1) := by decide +kernel
theorem dX8_port_19 : decode cX8_port 19 = .ok (.putfield 117, 3) := by decide +kernel
theorem dX8_port_22 : decode cX8_port 22 = .ok (.aload_n 0, 1) := by decide +kernel
theorem dX8_port_23 : decode cX8_port 23 = .ok (.iconst 0, 1) := by decide +kernel
theorem dX8_port_24 : decode cX8_port 24 = .ok (.putfield 107, 3) := by decide +kernel
theorem dX8_port_27 : decode cX8_port 27 = .ok (.aload_n 0, 1) := by decide +kernel
theorem dX8_port_28 : decode cX8_port 28 = .ok (.iconst 0, 1) := by decide +kernel
theorem dX8_port_29 : decode cX8_port 29 = .ok (.putfield 110, 3) := by decide +kernel
theorem dX8_port_32 : decode cX8_port 32 = .ok (.bipush 6, 2) := by decide +kernel
theorem dX8_port_34 : decode cX8_port 34 = .ok (.istore_n 2, 1) := by decide +kernel
theorem dX8_port_35 : decode cX8_port 35 = .ok (.iload_n 2, 1) := by decide +kernel
theorem dX8_port_36 : decode cX8_port 36 = .ok (.bipush 12, 2) := by decide +kernel
theorem dX8_port_38 : decode cX8_port 38 = .ok (.if_icmp .ge 24, 3) := by decide +kernel
theorem dX8_port_41 : decode cX8_port 41 = .ok (.aload_n 0, 1) := by decide +kernel
theorem dX8_port_42 : decode cX8_port 42 = .ok (.getfield 13, 3) := by decide +kernel
theorem dX8_port_45 : decode cX8_port 45 = .ok (.iload_n 2, 1) := by decide +kernel
theorem dX8_port_46 : decode cX8_port 46 = .ok (.iconst 1, 1) := by decide +kernel
theorem dX8_port_47 : decode cX8_port 47 = .ok (.iastore, 1) := by decide +kernel
theorem dX8_port_48 : decode cX8_port 48 = .ok (.aload_n 0, 1) := by decide +kernel
theorem dX8_port_49 : decode cX8_port 49 = .ok (.getfield 16, 3) := by decide +kernel
theorem dX8_port_52 : decode cX8_port 52 = .ok (.iload_n 2, 1) := by decide +kernel
theorem dX8_port_53 : decode cX8_port 53 = .ok (.bipush 9, 2) := by decide +kernel
theorem dX8_port_55 : decode cX8_port 55 = .ok (.iastore, 1) := by decide +kernel
theorem dX8_port_56 : decode cX8_port 56 = .ok (.iinc 2 1, 3) := by decide +kernel
theorem dX8_port_59 : decode cX8_port 59 = .ok (.goto (-24), 3) := by decide +kernel
theorem dX8_port_62 : decode cX8_port 62 = .ok (.aload_n 0, 1) := by decide +kernel
theorem dX8_port_63 : decode cX8_port 63 = .ok (.invokevirtual 100, 3) := by decide +kernel
theorem dX8_port_66 : decode cX8_port 66 = .ok (.aload_n 0, 1) := by decide +kernel
theorem dX8_port_67 : decode cX8_port 67 = .ok (.invokevirtual 96, 3) := by decide +kernel
theorem dX8_port_70 : decode cX8_port 70 = .ok (.ifCond .eq 72, 3) := by decide +kernel
theorem dX8_port_73 : decode cX8_port 73 = .ok (.aload_n 0, 1) := by decide +kernel
theorem dX8_port_74 : decode cX8_port 74 = .ok (.getfield 83, 3) := by decide +kernel
theorem dX8_port_77 : decode cX8_port 77 = .ok (.ifCond .eq 65, 3) := by decide +kernel
theorem dX8_port_80 : decode cX8_port 80 = .ok (.aload_n 0, 1) := by decide +kernel
theorem dX8_port_81 : decode cX8_port 81 = .ok (.aload_n 0, 1) := by decide +kernel
theorem dX8_port_82 : decode cX8_port 82 = .ok (.getfield 83, 3) := by decide +kernel
theorem dX8_port_85 : decode cX8_port 85 = .ok (.iconst 1, 1) := by decide +kernel
theorem dX8_port_86 : decode cX8_port 86 = .ok (.if_icmp .ne 15, 3) := by decide +kernel
theorem dX8_port_89 : decode cX8_port 89 = .ok (.aload_n 0, 1) := by decide +kernel
theorem dX8_port_90 : decode cX8_port 90 = .ok (.iload_n 1, 1) := by decide +kernel
theorem dX8_port_91 : decode cX8_port 91 = .ok (.invokevirtual 123, 3) := by decide +kernel
theorem dX8_port_94 : decode cX8_port 94 = .ok (.ifCond .eq 7, 3) := by decide +kernel
theorem dX8_port_97 : decode cX8_port 97 = .ok (.iconst 1, 1) := by decide +kernel
theorem dX8_port_98 : decode cX8_port 98 = .ok (.goto 4, 3) := by decide +kernel
theorem dX8_port_101 : decode cX8_port 101 = .ok (.iconst 0, 1) := by decide +kernel
theorem dX8_port_102 : decode cX8_port 102 = .ok (.invokevirtual 103, 3) := by decide +kernel
theorem dX8_port_105 : decode cX8_port 105 = .ok (.istore_n 2, 1) := by decide +kernel
theorem dX8_port_106 : decode cX8_port 106 = .ok (.aload_n 0, 1) := by decide +kernel
theorem dX8_port_107 : decode cX8_port 107 = .ok (.invokevirtual 96, 3) := by decide +kernel
theorem dX8_port_110 : decode cX8_port 110 = .ok (.ifCond .eq 8, 3) := by decide +kernel
theorem dX8_port_113 : decode cX8_port 113 = .ok (.aload_n 0, 1) := by decide +kernel
theorem dX8_port_114 : decode cX8_port 114 = .ok (.iload_n 2, 1) := by decide +kernel
theorem dX8_port_115 : decode cX8_port 115 = .ok (.invokevirtual 126, 3) := by decide +kernel
theorem dX8_port_118 : decode cX8_port 118 = .ok (.aload_n 0, 1) := by decide +kernel
theorem dX8_port_119 : decode cX8_port 119 = .ok (.aload_n 0, 1) := by decide +kernel
theorem dX8_port_120 : decode cX8_port 120 = .ok (.getfield 83, 3) := by decide +kernel
theorem dX8_port_123 : decode cX8_port 123 = .ok (.iconst 3, 1) := by decide +kernel
theorem dX8_port_124 : decode cX8_port 124 = .ok (.if_icmp .ne 7, 3) := by decide +kernel
theorem dX8_port_127 : decode cX8_port 127 = .ok (.iconst 1, 1) := by decide +kernel
theorem dX8_port_128 : decode cX8_port 128 = .ok (.goto 4, 3) := by decide +kernel
theorem dX8_port_131 : decode cX8_port 131 = .ok (.iconst 0, 1) := by decide +kernel
theorem dX8_port_132 : decode cX8_port 132 = .ok (.invokevirtual 103, 3) := by decide +kernel
theorem dX8_port_135 : decode cX8_port 135 = .ok (.pop, 1) := by decide +kernel
theorem dX8_port_136 : decode cX8_port 136 = .ok (.iinc 1 1, 3) := by decide +kernel
theorem dX8_port_139 : decode cX8_port 139 = .ok (.goto (-73), 3) := by decide +kernel
theorem dX8_port_142 : decode cX8_port 142 = .ok (.aload_n 0, 1) := by decide +kernel
theorem dX8_port_143 : decode cX8_port 143 = .ok (.invokevirtual 96, 3) := by decide +kernel
theorem dX8_port_146 : decode cX8_port 146 = .ok (.ifCond .ne 11, 3) := by decide +kernel
theorem dX8_port_149 : decode cX8_port 149 = .ok (.bipush (-10), 2) := by decide +kernel
theorem dX8_port_151 : decode cX8_port 151 = .ok (.aload_n 0, 1) := by decide +kernel
theorem dX8_port_152 : decode cX8_port 152 = .ok (.getfield 93, 3) := by decide +kernel
theorem dX8_port_155 : decode cX8_port 155 = .ok (.isub, 1) := by decide +kernel
theorem dX8_port_156 : decode cX8_port 156 = .ok (.ireturn, 1) := by decide +kernel
theorem dX8_port_157 : decode cX8_port 157 = .ok (.aload_n 0, 1) := by decide +kernel
theorem dX8_port_158 : decode cX8_port 158 = .ok (.invokevirtual 130, 3) := by decide +kernel
theorem dX8_port_161 : decode cX8_port 161 = .ok (.iload_n 1, 1) := by decide +kernel
theorem dX8_port_162 : decode cX8_port 162 = .ok (.ireturn, 1) := by decide +kernel
theorem dX8_comes_0 : decode cX8_comes 0 = .ok (.aload_n 0, 1) := by decide +kernel
theorem dX8_comes_1 : decode cX8_comes 1 = .ok (.getfield 28, 3) := by decide +kernel
theorem dX8_comes_4 : decode cX8_comes 4 = .ok (.iconst 1, 1) := by decide +kernel
theorem dX8_comes_5 : decode cX8_comes 5 = .ok (.iaload, 1) := by decide +kernel
theorem dX8_comes_6 : decode cX8_comes 6 = .ok (.istore 5, 2) := by decide +kernel
theorem dX8_comes_8 : decode cX8_comes 8 = .ok (.aload_n 0, 1) := by decide +kernel
theorem dX8_comes_9 : decode cX8_comes 9 = .ok (.getfield 28, 3) := by decide +kernel
theorem dX8_comes_12 : decode cX8_comes 12 = .ok (.sipush 141, 3) := by decide +kernel
theorem dX8_comes_15 : decode cX8_comes 15 = .ok (.iload 5, 2) := by decide +kernel
theorem dX8_comes_17 : decode cX8_comes 17 = .ok (.iadd, 1) := by decide +kernel
theorem dX8_comes_18 : decode cX8_comes 18 = .ok (.iload_n 1, 1) := by decide +kernel
theorem dX8_comes_19 : decode cX8_comes 19 = .ok (.iastore, 1) := by decide +kernel
theorem dX8_comes_20 : decode cX8_comes 20 = .ok (.aload_n 0, 1) := by decide +kernel
theorem dX8_comes_21 : decode cX8_comes 21 = .ok (.getfield 25, 3) := by decide +kernel
theorem dX8_comes_24 : decode cX8_comes 24 = .ok (.iload 5, 2) := by decide +kernel
theorem dX8_comes_26 : decode cX8_comes 26 = .ok (.iload_n 2, 1) := by decide +kernel
theorem dX8_comes_27 : decode cX8_comes 27 = .ok (.iastore, 1) := by decide +kernel
theorem dX8_comes_28 : decode cX8_comes 28 = .ok (.aload_n 0, 1) := by decide +kernel
theorem dX8_comes_29 : decode cX8_comes 29 = .ok (.getfield 28, 3) := by decide +kernel
theorem dX8_comes_32 : decode cX8_comes 32 = .ok (.bipush 51, 2) := by decide +kernel
theorem dX8_comes_34 : decode cX8_comes 34 = .ok (.iload 5, 2) := by decide +kernel
theorem dX8_comes_36 : decode cX8_comes 36 = .ok (.iadd, 1) := by decide +kernel
theorem dX8_comes_37 : decode cX8_comes 37 = .ok (.iload_n 3, 1) := by decide +kernel
theorem dX8_comes_38 : decode cX8_comes 38 = .ok (.iastore, 1) := by decide +kernel
theorem dX8_comes_39 : decode cX8_comes 39 = .ok (.aload_n 0, 1) := by decide +kernel
theorem dX8_comes_40 : decode cX8_comes 40 = .ok (.getfield 28, 3) := by decide +kernel
theorem dX8_comes_43 : decode cX8_comes 43 = .ok (.iconst 3, 1) := by decide +kernel
theorem dX8_comes_44 : decode cX8_comes 44 = .ok (.iload 5, 2) := by decide +kernel
theorem dX8_comes_46 : decode cX8_comes 46 = .ok (.iadd, 1) := by decide +kernel
theorem dX8_comes_47 : decode cX8_comes 47 = .ok (.iload 4, 2) := by decide +kernel
theorem dX8_comes_49 : decode cX8_comes 49 = .ok (.iastore, 1) := by decide +kernel
theorem dX8_comes_50 : decode cX8_comes 50 = .ok (.aload_n 0, 1) := by decide +kernel
theorem dX8_comes_51 : decode cX8_comes 51 = .ok (.getfield 28, 3) := by decide +kernel
theorem dX8_comes_54 : decode cX8_comes 54 = .ok (.iconst 1, 1) := by decide +kernel
theorem dX8_comes_55 : decode cX8_comes 55 = .ok (.dup2, 1) := by decide +kernel
theorem dX8_comes_56 : decode cX8_comes 56 = .ok (.iaload, 1) := by decide +kernel
theorem dX8_comes_57 : decode cX8_comes 57 = .ok (.iconst 1, 1) := by decide +kernel
theorem dX8_comes_58 : decode cX8_comes 58 = .ok (.iadd, 1) := by decide +kernel
theorem dX8_comes_59 : decode cX8_comes 59 = .ok (.iastore, 1) := by decide +kernel
theorem dX8_comes_60 : decode cX8_comes 60 = .ok (.iload 5, 2) := by decide +kernel
theorem dX8_comes_62 : decode cX8_comes 62 = .ok (.ireturn, 1) := by decide +kernel
theorem dX8_settles_0 : decode cX8_settles 0 = .ok (.aload_n 0, 1) := by decide +kernel
theorem dX8_settles_1 : decode cX8_settles 1 = .ok (.aload_n 0, 1) := by decide +kernel
theorem dX8_settles_2 : decode cX8_settles 2 = .ok (.getfield 117, 3) := by decide +kernel
theorem dX8_settles_5 : decode cX8_settles 5 = .ok (.putfield 59, 3) := by decide +kernel
theorem dX8_settles_8 : decode cX8_settles 8 = .ok (.iconst 0, 1) := by decide +kernel
theorem dX8_settles_9 : decode cX8_settles 9 = .ok (.istore_n 1, 1) := by decide +kernel
theorem dX8_settles_10 : decode cX8_settles 10 = .ok (.iload_n 1, 1) := by decide +kernel
theorem dX8_settles_11 : decode cX8_settles 11 = .ok (.bipush 6, 2) := by decide +kernel
theorem dX8_settles_13 : decode cX8_settles 13 = .ok (.if_icmp .ge 39, 3) := by decide +kernel
theorem dX8_settles_16 : decode cX8_settles 16 = .ok (.aload_n 0, 1) := by decide +kernel
theorem dX8_settles_17 : decode cX8_settles 17 = .ok (.getfield 13, 3) := by decide +kernel
theorem dX8_settles_20 : decode cX8_settles 20 = .ok (.iload_n 1, 1) := by decide +kernel
theorem dX8_settles_21 : decode cX8_settles 21 = .ok (.aload_n 0, 1) := by decide +kernel
theorem dX8_settles_22 : decode cX8_settles 22 = .ok (.getfield 13, 3) := by decide +kernel
theorem dX8_settles_25 : decode cX8_settles 25 = .ok (.bipush 6, 2) := by decide +kernel
theorem dX8_settles_27 : decode cX8_settles 27 = .ok (.iload_n 1, 1) := by decide +kernel
theorem dX8_settles_28 : decode cX8_settles 28 = .ok (.iadd, 1) := by decide +kernel
theorem dX8_settles_29 : decode cX8_settles 29 = .ok (.iaload, 1) := by decide +kernel
theorem dX8_settles_30 : decode cX8_settles 30 = .ok (.iastore, 1) := by decide +kernel
theorem dX8_settles_31 : decode cX8_settles 31 = .ok (.aload_n 0, 1) := by decide +kernel
theorem dX8_settles_32 : decode cX8_settles 32 = .ok (.getfield 16, 3) := by decide +kernel
theorem dX8_settles_35 : decode cX8_settles 35 = .ok (.iload_n 1, 1) := by decide +kernel
theorem dX8_settles_36 : decode cX8_settles 36 = .ok (.aload_n 0, 1) := by decide +kernel
theorem dX8_settles_37 : decode cX8_settles 37 = .ok (.getfield 16, 3) := by decide +kernel
theorem dX8_settles_40 : decode cX8_settles 40 = .ok (.bipush 6, 2) := by decide +kernel
theorem dX8_settles_42 : decode cX8_settles 42 = .ok (.iload_n 1, 1) := by decide +kernel
theorem dX8_settles_43 : decode cX8_settles 43 = .ok (.iadd, 1) := by decide +kernel
theorem dX8_settles_44 : decode cX8_settles 44 = .ok (.iaload, 1) := by decide +kernel
theorem dX8_settles_45 : decode cX8_settles 45 = .ok (.iastore, 1) := by decide +kernel
theorem dX8_settles_46 : decode cX8_settles 46 = .ok (.iinc 1 1, 3) := by decide +kernel
theorem dX8_settles_49 : decode cX8_settles 49 = .ok (.goto (-39), 3) := by decide +kernel
theorem dX8_settles_52 : decode cX8_settles 52 = .ok (.aload_n 0, 1) := by decide +kernel
theorem dX8_settles_53 : decode cX8_settles 53 = .ok (.getfield 28, 3) := by decide +kernel
theorem dX8_settles_56 : decode cX8_settles 56 = .ok (.iconst 0, 1) := by decide +kernel
theorem dX8_settles_57 : decode cX8_settles 57 = .ok (.iconst 0, 1) := by decide +kernel
theorem dX8_settles_58 : decode cX8_settles 58 = .ok (.iastore, 1) := by decide +kernel
theorem dX8_settles_59 : decode cX8_settles 59 = .ok (.aload_n 0, 1) := by decide +kernel
theorem dX8_settles_60 : decode cX8_settles 60 = .ok (.getfield 28, 3) := by decide +kernel
theorem dX8_settles_63 : decode cX8_settles 63 = .ok (.iconst 1, 1) := by decide +kernel
theorem dX8_settles_64 : decode cX8_settles 64 = .ok (.iconst 0, 1) := by decide +kernel
theorem dX8_settles_65 : decode cX8_settles 65 = .ok (.iastore, 1) := by decide +kernel
theorem dX8_settles_66 : decode cX8_settles 66 = .ok (.aload_n 0, 1) := by decide +kernel
theorem dX8_settles_67 : decode cX8_settles 67 = .ok (.getfield 28, 3) := by decide +kernel
theorem dX8_settles_70 : decode cX8_settles 70 = .ok (.iconst 2, 1) := by decide +kernel
theorem dX8_settles_71 : decode cX8_settles 71 = .ok (.aload_n 0, 1) := by decide +kernel
theorem dX8_settles_72 : decode cX8_settles 72 = .ok (.getfield 107, 3) := by decide +kernel
theorem dX8_settles_75 : decode cX8_settles 75 = .ok (.iastore, 1) := by decide +kernel
theorem dX8_settles_76 : decode cX8_settles 76 = .ok (.iconst 0, 1) := by decide +kernel
theorem dX8_settles_77 : decode cX8_settles 77 = .ok (.istore_n 1, 1) := by decide +kernel
theorem dX8_settles_78 : decode cX8_settles 78 = .ok (.iload_n 1, 1) := by decide +kernel
theorem dX8_settles_79 : decode cX8_settles 79 = .ok (.aload_n 0, 1) := by decide +kernel
theorem dX8_settles_80 : decode cX8_settles 80 = .ok (.getfield 107, 3) := by decide +kernel
theorem dX8_settles_83 : decode cX8_settles 83 = .ok (.if_icmp .ge 65, 3) := by decide +kernel
theorem dX8_settles_86 : decode cX8_settles 86 = .ok (.aload_n 0, 1) := by decide +kernel
theorem dX8_settles_87 : decode cX8_settles 87 = .ok (.getfield 28, 3) := by decide +kernel
theorem dX8_settles_90 : decode cX8_settles 90 = .ok (.sipush 135, 3) := by decide +kernel
theorem dX8_settles_93 : decode cX8_settles 93 = .ok (.iload_n 1, 1) := by decide +kernel
theorem dX8_settles_94 : decode cX8_settles 94 = .ok (.iadd, 1) := by decide +kernel
theorem dX8_settles_95 : decode cX8_settles 95 = .ok (.aload_n 0, 1) := by decide +kernel
theorem dX8_settles_96 : decode cX8_settles 96 = .ok (.getfield 19, 3) := by decide +kernel
theorem dX8_settles_99 : decode cX8_settles 99 = .ok (.iconst 4, 1) := by decide +kernel
theorem dX8_settles_100 : decode cX8_settles 100 = .ok (.iload_n 1, 1) := by decide +kernel
theorem dX8_settles_101 : decode cX8_settles 101 = .ok (.iadd, 1) := by decide +kernel
theorem dX8_settles_102 : decode cX8_settles 102 = .ok (.iaload, 1) := by decide +kernel
theorem dX8_settles_103 : decode cX8_settles 103 = .ok (.iastore, 1) := by decide +kernel
theorem dX8_settles_104 : decode cX8_settles 104 = .ok (.iconst 0, 1) := by decide +kernel
theorem dX8_settles_105 : decode cX8_settles 105 = .ok (.istore_n 2, 1) := by decide +kernel
theorem dX8_settles_106 : decode cX8_settles 106 = .ok (.iload_n 2, 1) := by decide +kernel
theorem dX8_settles_107 : decode cX8_settles 107 = .ok (.aload_n 0, 1) := by decide +kernel
theorem dX8_settles_108 : decode cX8_settles 108 = .ok (.getfield 59, 3) := by decide +kernel
theorem dX8_settles_111 : decode cX8_settles 111 = .ok (.if_icmp .ge 31, 3) := by decide +kernel
theorem dX8_settles_114 : decode cX8_settles 114 = .ok (.aload_n 0, 1) := by decide +kernel
theorem dX8_settles_115 : decode cX8_settles 115 = .ok (.getfield 28, 3) := by decide +kernel
theorem dX8_settles_118 : decode cX8_settles 118 = .ok (.bipush 99, 2) := by decide +kernel
theorem dX8_settles_120 : decode cX8_settles 120 = .ok (.bipush 6, 2) := by decide +kernel
theorem dX8_settles_122 : decode cX8_settles 122 = .ok (.iload_n 1, 1) := by decide +kernel
theorem dX8_settles_123 : decode cX8_settles 123 = .ok (.imul, 1) := by decide +kernel
theorem dX8_settles_124 : decode cX8_settles 124 = .ok (.iadd, 1) := by decide +kernel
theorem dX8_settles_125 : decode cX8_settles 125 = .ok (.iload_n 2, 1) := by decide +kernel
theorem dX8_settles_126 : decode cX8_settles 126 = .ok (.iadd, 1) := by decide +kernel
theorem dX8_settles_127 : decode cX8_settles 127 = .ok (.aload_n 0, 1) := by decide +kernel
theorem dX8_settles_128 : decode cX8_settles 128 = .ok (.iload_n 2, 1) := by decide +kernel
theorem dX8_settles_129 : decode cX8_settles 129 = .ok (.iload_n 1, 1) := by decide +kernel
theorem dX8_settles_130 : decode cX8_settles 130 = .ok (.iconst 0, 1) := by decide +kernel
theorem dX8_settles_131 : decode cX8_settles 131 = .ok (.iload_n 1, 1) := by decide +kernel
theorem dX8_settles_132 : decode cX8_settles 132 = .ok (.invokevirtual 133, 3) := by decide +kernel
theorem dX8_settles_135 : decode cX8_settles 135 = .ok (.iastore, 1) := by decide +kernel
theorem dX8_settles_136 : decode cX8_settles 136 = .ok (.iinc 2 1, 3) := by decide +kernel
theorem dX8_settles_139 : decode cX8_settles 139 = .ok (.goto (-33), 3) := by decide +kernel
theorem dX8_settles_142 : decode cX8_settles 142 = .ok (.iinc 1 1, 3) := by decide +kernel
theorem dX8_settles_145 : decode cX8_settles 145 = .ok (.goto (-67), 3) := by decide +kernel
theorem dX8_settles_148 : decode cX8_settles 148 = .ok (.iconst 0, 1) := by decide +kernel
theorem dX8_settles_149 : decode cX8_settles 149 = .ok (.istore_n 1, 1) := by decide +kernel
theorem dX8_settles_150 : decode cX8_settles 150 = .ok (.iload_n 1, 1) := by decide +kernel
theorem dX8_settles_151 : decode cX8_settles 151 = .ok (.aload_n 0, 1) := by decide +kernel
theorem dX8_settles_152 : decode cX8_settles 152 = .ok (.getfield 110, 3) := by decide +kernel
theorem dX8_settles_155 : decode cX8_settles 155 = .ok (.if_icmp .ge 45, 3) := by decide +kernel
theorem dX8_settles_158 : decode cX8_settles 158 = .ok (.bipush 18, 2) := by decide +kernel
theorem dX8_settles_160 : decode cX8_settles 160 = .ok (.iconst 3, 1) := by decide +kernel
theorem dX8_settles_161 : decode cX8_settles 161 = .ok (.iload_n 1, 1) := by decide +kernel
theorem dX8_settles_162 : decode cX8_settles 162 = .ok (.imul, 1) := by decide +kernel
theorem dX8_settles_163 : decode cX8_settles 163 = .ok (.iadd, 1) := by decide +kernel
theorem dX8_settles_164 : decode cX8_settles 164 = .ok (.istore_n 2, 1) := by decide +kernel
theorem dX8_settles_165 : decode cX8_settles 165 = .ok (.aload_n 0, 1) := by decide +kernel
theorem dX8_settles_166 : decode cX8_settles 166 = .ok (.aload_n 0, 1) := by decide +kernel
theorem dX8_settles_167 : decode cX8_settles 167 = .ok (.getfield 22, 3) := by decide +kernel
theorem dX8_settles_170 : decode cX8_settles 170 = .ok (.iload_n 2, 1) := by decide +kernel
theorem dX8_settles_171 : decode cX8_settles 171 = .ok (.iaload, 1) := by decide +kernel
theorem dX8_settles_172 : decode cX8_settles 172 = .ok (.aload_n 0, 1) := by decide +kernel
theorem dX8_settles_173 : decode cX8_settles 173 = .ok (.getfield 22, 3) := by decide +kernel
theorem dX8_settles_176 : decode cX8_settles 176 = .ok (.iload_n 2, 1) := by decide +kernel
theorem dX8_settles_177 : decode cX8_settles 177 = .ok (.iconst 1, 1) := by decide +kernel
theorem dX8_settles_178 : decode cX8_settles 178 = .ok (.iadd, 1) := by decide +kernel
theorem dX8_settles_179 : decode cX8_settles 179 = .ok (.iaload, 1) := by decide +kernel
theorem dX8_settles_180 : decode cX8_settles 180 = .ok (.aload_n 0, 1) := by decide +kernel
theorem dX8_settles_181 : decode cX8_settles 181 = .ok (.getfield 22, 3) := by decide +kernel
theorem dX8_settles_184 : decode cX8_settles 184 = .ok (.iload_n 2, 1) := by decide +kernel
theorem dX8_settles_185 : decode cX8_settles 185 = .ok (.iconst 2, 1) := by decide +kernel
theorem dX8_settles_186 : decode cX8_settles 186 = .ok (.iadd, 1) := by decide +kernel
theorem dX8_settles_187 : decode cX8_settles 187 = .ok (.iaload, 1) := by decide +kernel
theorem dX8_settles_188 : decode cX8_settles 188 = .ok (.bipush 8, 2) := by decide +kernel
theorem dX8_settles_190 : decode cX8_settles 190 = .ok (.invokevirtual 133, 3) := by decide +kernel
theorem dX8_settles_193 : decode cX8_settles 193 = .ok (.pop, 1) := by decide +kernel
theorem dX8_settles_194 : decode cX8_settles 194 = .ok (.iinc 1 1, 3) := by decide +kernel
theorem dX8_settles_197 : decode cX8_settles 197 = .ok (.goto (-47), 3) := by decide +kernel
theorem dX8_settles_200 : decode cX8_settles 200 = .ok (.aload_n 0, 1) := by decide +kernel
theorem dX8_settles_201 : decode cX8_settles 201 = .ok (.iconst 0, 1) := by decide +kernel
theorem dX8_settles_202 : decode cX8_settles 202 = .ok (.putfield 70, 3) := by decide +kernel
theorem dX8_settles_205 : decode cX8_settles 205 = .ok (.aload_n 0, 1) := by decide +kernel
theorem dX8_settles_206 : decode cX8_settles 206 = .ok (.iconst 0, 1) := by decide +kernel
theorem dX8_settles_207 : decode cX8_settles 207 = .ok (.putfield 137, 3) := by decide +kernel
theorem dX8_settles_210 : decode cX8_settles 210 = .ok (.aload_n 0, 1) := by decide +kernel
theorem dX8_settles_211 : decode cX8_settles 211 = .ok (.iconst 0, 1) := by decide +kernel
theorem dX8_settles_212 : decode cX8_settles 212 = .ok (.putfield 140, 3) := by decide +kernel
theorem dX8_settles_215 : decode cX8_settles 215 = .ok (.aload_n 0, 1) := by decide +kernel
theorem dX8_settles_216 : decode cX8_settles 216 = .ok (.getfield 34, 3) := by decide +kernel
theorem dX8_settles_219 : decode cX8_settles 219 = .ok (.iconst 0, 1) := by decide +kernel
theorem dX8_settles_220 : decode cX8_settles 220 = .ok (.iconst 0, 1) := by decide +kernel
theorem dX8_settles_221 : decode cX8_settles 221 = .ok (.bastore, 1) := by decide +kernel
theorem dX8_settles_222 : decode cX8_settles 222 = .ok (.aload_n 0, 1) := by decide +kernel
theorem dX8_settles_223 : decode cX8_settles 223 = .ok (.getfield 34, 3) := by decide +kernel
theorem dX8_settles_226 : decode cX8_settles 226 = .ok (.iconst 1, 1) := by decide +kernel
theorem dX8_settles_227 : decode cX8_settles 227 = .ok (.iconst 0, 1) := by decide +kernel
theorem dX8_settles_228 : decode cX8_settles 228 = .ok (.bastore, 1) := by decide +kernel
theorem dX8_settles_229 : decode cX8_settles 229 = .ok (.return_, 1) := by decide +kernel
theorem dX8_isPlace_0 : decode cX8_isPlace 0 = .ok (.iload_n 1, 1) := by decide +kernel
theorem dX8_isPlace_1 : decode cX8_isPlace 1 = .ok (.iconst 0, 1) := by decide +kernel
theorem dX8_isPlace_2 : decode cX8_isPlace 2 = .ok (.aload_n 0, 1) := by decide +kernel
theorem dX8_isPlace_3 : decode cX8_isPlace 3 = .ok (.getfield 59, 3) := by decide +kernel
theorem dX8_isPlace_6 : decode cX8_isPlace 6 = .ok (.iconst 1, 1) := by decide +kernel
theorem dX8_isPlace_7 : decode cX8_isPlace 7 = .ok (.isub, 1) := by decide +kernel
theorem dX8_isPlace_8 : decode cX8_isPlace 8 = .ok (.invokestatic 66, 3) := by decide +kernel
theorem dX8_isPlace_11 : decode cX8_isPlace 11 = .ok (.ireturn, 1) := by decide +kernel
theorem dX8_isShip_0 : decode cX8_isShip 0 = .ok (.iload_n 1, 1) := by decide +kernel
theorem dX8_isShip_1 : decode cX8_isShip 1 = .ok (.iconst 0, 1) := by decide +kernel
theorem dX8_isShip_2 : decode cX8_isShip 2 = .ok (.aload_n 0, 1) := by decide +kernel
theorem dX8_isShip_3 : decode cX8_isShip 3 = .ok (.getfield 28, 3) := by decide +kernel
theorem dX8_isShip_6 : decode cX8_isShip 6 = .ok (.iconst 2, 1) := by decide +kernel
theorem dX8_isShip_7 : decode cX8_isShip 7 = .ok (.iaload, 1) := by decide +kernel
theorem dX8_isShip_8 : decode cX8_isShip 8 = .ok (.iconst 1, 1) := by decide +kernel
theorem dX8_isShip_9 : decode cX8_isShip 9 = .ok (.isub, 1) := by decide +kernel
theorem dX8_isShip_10 : decode cX8_isShip 10 = .ok (.invokestatic 66, 3) := by decide +kernel
theorem dX8_isShip_13 : decode cX8_isShip 13 = .ok (.ireturn, 1) := by decide +kernel
theorem dX8_isPart_0 : decode cX8_isPart 0 = .ok (.iload_n 1, 1) := by decide +kernel
theorem dX8_isPart_1 : decode cX8_isPart 1 = .ok (.iconst 0, 1) := by decide +kernel
theorem dX8_isPart_2 : decode cX8_isPart 2 = .ok (.aload_n 0, 1) := by decide +kernel
theorem dX8_isPart_3 : decode cX8_isPart 3 = .ok (.getfield 28, 3) := by decide +kernel
theorem dX8_isPart_6 : decode cX8_isPart 6 = .ok (.iconst 1, 1) := by decide +kernel
theorem dX8_isPart_7 : decode cX8_isPart 7 = .ok (.iaload, 1) := by decide +kernel
theorem dX8_isPart_8 : decode cX8_isPart 8 = .ok (.iconst 1, 1) := by decide +kernel
theorem dX8_isPart_9 : decode cX8_isPart 9 = .ok (.isub, 1) := by decide +kernel
theorem dX8_isPart_10 : decode cX8_isPart 10 = .ok (.invokestatic 66, 3) := by decide +kernel
theorem dX8_isPart_13 : decode cX8_isPart 13 = .ok (.ireturn, 1) := by decide +kernel
theorem dX8_isLaw_0 : decode cX8_isLaw 0 = .ok (.iload_n 0, 1) := by decide +kernel
theorem dX8_isLaw_1 : decode cX8_isLaw 1 = .ok (.iconst 0, 1) := by decide +kernel
theorem dX8_isLaw_2 : decode cX8_isLaw 2 = .ok (.iconst 4, 1) := by decide +kernel
theorem dX8_isLaw_3 : decode cX8_isLaw 3 = .ok (.invokestatic 66, 3) := by decide +kernel
theorem dX8_isLaw_6 : decode cX8_isLaw 6 = .ok (.ireturn, 1) := by decide +kernel
theorem dX8_liesOf_0 : decode cX8_liesOf 0 = .ok (.aload_n 0, 1) := by decide +kernel
theorem dX8_liesOf_1 : decode cX8_liesOf 1 = .ok (.getfield 28, 3) := by decide +kernel
theorem dX8_liesOf_4 : decode cX8_liesOf 4 = .ok (.iconst 3, 1) := by decide +kernel
theorem dX8_liesOf_5 : decode cX8_liesOf 5 = .ok (.iload_n 1, 1) := by decide +kernel
theorem dX8_liesOf_6 : decode cX8_liesOf 6 = .ok (.iadd, 1) := by decide +kernel
theorem dX8_liesOf_7 : decode cX8_liesOf 7 = .ok (.iaload, 1) := by decide +kernel
theorem dX8_liesOf_8 : decode cX8_liesOf 8 = .ok (.bipush 8, 2) := by decide +kernel
theorem dX8_liesOf_10 : decode cX8_liesOf 10 = .ok (.if_icmp .ne 21, 3) := by decide +kernel
theorem dX8_liesOf_13 : decode cX8_liesOf 13 = .ok (.aload_n 0, 1) := by decide +kernel
theorem dX8_liesOf_14 : decode cX8_liesOf 14 = .ok (.getfield 28, 3) := by decide +kernel
theorem dX8_liesOf_17 : decode cX8_liesOf 17 = .ok (.sipush 141, 3) := by decide +kernel
theorem dX8_liesOf_20 : decode cX8_liesOf 20 = .ok (.iload_n 1, 1) := by decide +kernel
theorem dX8_liesOf_21 : decode cX8_liesOf 21 = .ok (.iadd, 1) := by decide +kernel
theorem dX8_liesOf_22 : decode cX8_liesOf 22 = .ok (.iaload, 1) := by decide +kernel
theorem dX8_liesOf_23 : decode cX8_liesOf 23 = .ok (.iload_n 2, 1) := by decide +kernel
theorem dX8_liesOf_24 : decode cX8_liesOf 24 = .ok (.if_icmp .ne 7, 3) := by decide +kernel
theorem dX8_liesOf_27 : decode cX8_liesOf 27 = .ok (.iconst 1, 1) := by decide +kernel
theorem dX8_liesOf_28 : decode cX8_liesOf 28 = .ok (.goto 4, 3) := by decide +kernel
theorem dX8_liesOf_31 : decode cX8_liesOf 31 = .ok (.iconst 0, 1) := by decide +kernel
theorem dX8_liesOf_32 : decode cX8_liesOf 32 = .ok (.ireturn, 1) := by decide +kernel
theorem dX8_lying_0 : decode cX8_lying 0 = .ok (.iconst 0, 1) := by decide +kernel
theorem dX8_lying_1 : decode cX8_lying 1 = .ok (.istore_n 2, 1) := by decide +kernel
theorem dX8_lying_2 : decode cX8_lying 2 = .ok (.iconst 0, 1) := by decide +kernel
theorem dX8_lying_3 : decode cX8_lying 3 = .ok (.istore_n 3, 1) := by decide +kernel
theorem dX8_lying_4 : decode cX8_lying 4 = .ok (.iload_n 3, 1) := by decide +kernel
theorem dX8_lying_5 : decode cX8_lying 5 = .ok (.aload_n 0, 1) := by decide +kernel
theorem dX8_lying_6 : decode cX8_lying 6 = .ok (.getfield 28, 3) := by decide +kernel
theorem dX8_lying_9 : decode cX8_lying 9 = .ok (.iconst 1, 1) := by decide +kernel
theorem dX8_lying_10 : decode cX8_lying 10 = .ok (.iaload, 1) := by decide +kernel
theorem dX8_lying_11 : decode cX8_lying 11 = .ok (.if_icmp .ge 26, 3) := by decide +kernel
theorem dX8_lying_14 : decode cX8_lying 14 = .ok (.iload_n 2, 1) := by decide +kernel
theorem dX8_lying_15 : decode cX8_lying 15 = .ok (.aload_n 0, 1) := by decide +kernel
theorem dX8_lying_16 : decode cX8_lying 16 = .ok (.iload_n 3, 1) := by decide +kernel
theorem dX8_lying_17 : decode cX8_lying 17 = .ok (.iload_n 1, 1) := by decide +kernel
theorem dX8_lying_18 : decode cX8_lying 18 = .ok (.invokevirtual 143, 3) := by decide +kernel
theorem dX8_lying_21 : decode cX8_lying 21 = .ok (.ifCond .eq 7, 3) := by decide +kernel
theorem dX8_lying_24 : decode cX8_lying 24 = .ok (.iconst 1, 1) := by decide +kernel
theorem dX8_lying_25 : decode cX8_lying 25 = .ok (.goto 4, 3) := by decide +kernel
theorem dX8_lying_28 : decode cX8_lying 28 = .ok (.iconst 0, 1) := by decide +kernel
theorem dX8_lying_29 : decode cX8_lying 29 = .ok (.iadd, 1) := by decide +kernel
theorem dX8_lying_30 : decode cX8_lying 30 = .ok (.istore_n 2, 1) := by decide +kernel
theorem dX8_lying_31 : decode cX8_lying 31 = .ok (.iinc 3 1, 3) := by decide +kernel
theorem dX8_lying_34 : decode cX8_lying 34 = .ok (.goto (-30), 3) := by decide +kernel
theorem dX8_lying_37 : decode cX8_lying 37 = .ok (.iload_n 2, 1) := by decide +kernel
theorem dX8_lying_38 : decode cX8_lying 38 = .ok (.ireturn, 1) := by decide +kernel
theorem dX8_inYard_0 : decode cX8_inYard 0 = .ok (.iconst 0, 1) := by decide +kernel
theorem dX8_inYard_1 : decode cX8_inYard 1 = .ok (.istore_n 1, 1) := by decide +kernel
theorem dX8_inYard_2 : decode cX8_inYard 2 = .ok (.iconst 0, 1) := by decide +kernel
theorem dX8_inYard_3 : decode cX8_inYard 3 = .ok (.istore_n 2, 1) := by decide +kernel
theorem dX8_inYard_4 : decode cX8_inYard 4 = .ok (.iload_n 2, 1) := by decide +kernel
theorem dX8_inYard_5 : decode cX8_inYard 5 = .ok (.aload_n 0, 1) := by decide +kernel
theorem dX8_inYard_6 : decode cX8_inYard 6 = .ok (.getfield 59, 3) := by decide +kernel
theorem dX8_inYard_9 : decode cX8_inYard 9 = .ok (.if_icmp .ge 17, 3) := by decide +kernel
theorem dX8_inYard_12 : decode cX8_inYard 12 = .ok (.iload_n 1, 1) := by decide +kernel
theorem dX8_inYard_13 : decode cX8_inYard 13 = .ok (.aload_n 0, 1) := by decide +kernel
theorem dX8_inYard_14 : decode cX8_inYard 14 = .ok (.iload_n 2, 1) := by decide +kernel
theorem dX8_inYard_15 : decode cX8_inYard 15 = .ok (.invokevirtual 147, 3) := by decide +kernel
theorem dX8_inYard_18 : decode cX8_inYard 18 = .ok (.iadd, 1) := by decide +kernel
theorem dX8_inYard_19 : decode cX8_inYard 19 = .ok (.istore_n 1, 1) := by decide +kernel
theorem dX8_inYard_20 : decode cX8_inYard 20 = .ok (.iinc 2 1, 3) := by decide +kernel
theorem dX8_inYard_23 : decode cX8_inYard 23 = .ok (.goto (-19), 3) := by decide +kernel
theorem dX8_inYard_26 : decode cX8_inYard 26 = .ok (.iload_n 1, 1) := by decide +kernel
theorem dX8_inYard_27 : decode cX8_inYard 27 = .ok (.ireturn, 1) := by decide +kernel
theorem dX8_place_0 : decode cX8_place 0 = .ok (.aload_n 0, 1) := by decide +kernel
theorem dX8_place_1 : decode cX8_place 1 = .ok (.iconst 0, 1) := by decide +kernel
theorem dX8_place_2 : decode cX8_place 2 = .ok (.putfield 63, 3) := by decide +kernel
theorem dX8_place_5 : decode cX8_place 5 = .ok (.aload_n 0, 1) := by decide +kernel
theorem dX8_place_6 : decode cX8_place 6 = .ok (.iload_n 1, 1) := by decide +kernel
theorem dX8_place_7 : decode cX8_place 7 = .ok (.invokevirtual 150, 3) := by decide +kernel
theorem dX8_place_10 : decode cX8_place 10 = .ok (.ifCond .eq 12, 3) := by decide +kernel
theorem dX8_place_13 : decode cX8_place 13 = .ok (.iload_n 2, 1) := by decide +kernel
theorem dX8_place_14 : decode cX8_place 14 = .ok (.iconst 0, 1) := by decide +kernel
theorem dX8_place_15 : decode cX8_place 15 = .ok (.iconst 2, 1) := by decide +kernel
theorem dX8_place_16 : decode cX8_place 16 = .ok (.invokestatic 66, 3) := by decide +kernel
theorem dX8_place_19 : decode cX8_place 19 = .ok (.ifCond .ne 5, 3) := by decide +kernel
theorem dX8_place_22 : decode cX8_place 22 = .ok (.iconst (-1), 1) := by decide +kernel
theorem dX8_place_23 : decode cX8_place 23 = .ok (.ireturn, 1) := by decide +kernel
theorem dX8_place_24 : decode cX8_place 24 = .ok (.iload_n 2, 1) := by decide +kernel
theorem dX8_place_25 : decode cX8_place 25 = .ok (.ifCond .ne 12, 3) := by decide +kernel
theorem dX8_place_28 : decode cX8_place 28 = .ok (.aload_n 0, 1) := by decide +kernel
theorem dX8_place_29 : decode cX8_place 29 = .ok (.getfield 13, 3) := by decide +kernel
theorem dX8_place_32 : decode cX8_place 32 = .ok (.iload_n 1, 1) := by decide +kernel
theorem dX8_place_33 : decode cX8_place 33 = .ok (.iaload, 1) := by decide +kernel
theorem dX8_place_34 : decode cX8_place 34 = .ok (.goto 22, 3) := by decide +kernel
theorem dX8_place_37 : decode cX8_place 37 = .ok (.iload_n 2, 1) := by decide +kernel
theorem dX8_place_38 : decode cX8_place 38 = .ok (.iconst 1, 1) := by decide +kernel
theorem dX8_place_39 : decode cX8_place 39 = .ok (.if_icmp .ne 12, 3) := by decide +kernel
theorem dX8_place_42 : decode cX8_place 42 = .ok (.aload_n 0, 1) := by decide +kernel
theorem dX8_place_43 : decode cX8_place 43 = .ok (.getfield 16, 3) := by decide +kernel
theorem dX8_place_46 : decode cX8_place 46 = .ok (.iload_n 1, 1) := by decide +kernel
theorem dX8_place_47 : decode cX8_place 47 = .ok (.iaload, 1) := by decide +kernel
theorem dX8_place_48 : decode cX8_place 48 = .ok (.goto 8, 3) := by decide +kernel
theorem dX8_place_51 : decode cX8_place 51 = .ok (.aload_n 0, 1) := by decide +kernel
theorem dX8_place_52 : decode cX8_place 52 = .ok (.iload_n 1, 1) := by decide +kernel
theorem dX8_place_53 : decode cX8_place 53 = .ok (.invokevirtual 147, 3) := by decide +kernel
theorem dX8_place_56 : decode cX8_place 56 = .ok (.ireturn, 1) := by decide +kernel
theorem dX8_part_0 : decode cX8_part 0 = .ok (.aload_n 0, 1) := by decide +kernel
theorem dX8_part_1 : decode cX8_part 1 = .ok (.iconst 0, 1) := by decide +kernel
theorem dX8_part_2 : decode cX8_part 2 = .ok (.putfield 63, 3) := by decide +kernel
theorem dX8_part_5 : decode cX8_part 5 = .ok (.aload_n 0, 1) := by decide +kernel
theorem dX8_part_6 : decode cX8_part 6 = .ok (.iload_n 1, 1) := by decide +kernel
theorem dX8_part_7 : decode cX8_part 7 = .ok (.invokevirtual 153, 3) := by decide +kernel
theorem dX8_part_10 : decode cX8_part 10 = .ok (.ifCond .eq 12, 3) := by decide +kernel
theorem dX8_part_13 : decode cX8_part 13 = .ok (.iload_n 2, 1) := by decide +kernel
theorem dX8_part_14 : decode cX8_part 14 = .ok (.iconst 0, 1) := by decide +kernel
theorem dX8_part_15 : decode cX8_part 15 = .ok (.iconst 3, 1) := by decide +kernel
theorem dX8_part_16 : decode cX8_part 16 = .ok (.invokestatic 66, 3) := by decide +kernel
theorem dX8_part_19 : decode cX8_part 19 = .ok (.ifCond .ne 5, 3) := by decide +kernel
theorem dX8_part_22 : decode cX8_part 22 = .ok (.iconst (-1), 1) := by decide +kernel
theorem dX8_part_23 : decode cX8_part 23 = .ok (.ireturn, 1) := by decide +kernel
theorem dX8_part_24 : decode cX8_part 24 = .ok (.iload_n 2, 1) := by decide +kernel
theorem dX8_part_25 : decode cX8_part 25 = .ok (.ifCond .ne 16, 3) := by decide +kernel
theorem dX8_part_28 : decode cX8_part 28 = .ok (.aload_n 0, 1) := by decide +kernel
theorem dX8_part_29 : decode cX8_part 29 = .ok (.getfield 28, 3) := by decide +kernel
theorem dX8_part_32 : decode cX8_part 32 = .ok (.sipush 141, 3) := by decide +kernel
theorem dX8_part_35 : decode cX8_part 35 = .ok (.iload_n 1, 1) := by decide +kernel
theorem dX8_part_36 : decode cX8_part 36 = .ok (.iadd, 1) := by decide +kernel
theorem dX8_part_37 : decode cX8_part 37 = .ok (.iaload, 1) := by decide +kernel
theorem dX8_part_38 : decode cX8_part 38 = .ok (.goto 42, 3) := by decide +kernel
theorem dX8_part_41 : decode cX8_part 41 = .ok (.iload_n 2, 1) := by decide +kernel
theorem dX8_part_42 : decode cX8_part 42 = .ok (.iconst 1, 1) := by decide +kernel
theorem dX8_part_43 : decode cX8_part 43 = .ok (.if_icmp .ne 12, 3) := by decide +kernel
theorem dX8_part_46 : decode cX8_part 46 = .ok (.aload_n 0, 1) := by decide +kernel
theorem dX8_part_47 : decode cX8_part 47 = .ok (.getfield 25, 3) := by decide +kernel
theorem dX8_part_50 : decode cX8_part 50 = .ok (.iload_n 1, 1) := by decide +kernel
theorem dX8_part_51 : decode cX8_part 51 = .ok (.iaload, 1) := by decide +kernel
theorem dX8_part_52 : decode cX8_part 52 = .ok (.goto 28, 3) := by decide +kernel
theorem dX8_part_55 : decode cX8_part 55 = .ok (.iload_n 2, 1) := by decide +kernel
theorem dX8_part_56 : decode cX8_part 56 = .ok (.iconst 2, 1) := by decide +kernel
theorem dX8_part_57 : decode cX8_part 57 = .ok (.if_icmp .ne 15, 3) := by decide +kernel
theorem dX8_part_60 : decode cX8_part 60 = .ok (.aload_n 0, 1) := by decide +kernel
theorem dX8_part_61 : decode cX8_part 61 = .ok (.getfield 28, 3) := by decide +kernel
theorem dX8_part_64 : decode cX8_part 64 = .ok (.bipush 51, 2) := by decide +kernel
theorem dX8_part_66 : decode cX8_part 66 = .ok (.iload_n 1, 1) := by decide +kernel
theorem dX8_part_67 : decode cX8_part 67 = .ok (.iadd, 1) := by decide +kernel
theorem dX8_part_68 : decode cX8_part 68 = .ok (.iaload, 1) := by decide +kernel
theorem dX8_part_69 : decode cX8_part 69 = .ok (.goto 11, 3) := by decide +kernel
theorem dX8_part_72 : decode cX8_part 72 = .ok (.aload_n 0, 1) := by decide +kernel
theorem dX8_part_73 : decode cX8_part 73 = .ok (.getfield 28, 3) := by decide +kernel
theorem dX8_part_76 : decode cX8_part 76 = .ok (.iconst 3, 1) := by decide +kernel
theorem dX8_part_77 : decode cX8_part 77 = .ok (.iload_n 1, 1) := by decide +kernel
theorem dX8_part_78 : decode cX8_part 78 = .ok (.iadd, 1) := by decide +kernel
theorem dX8_part_79 : decode cX8_part 79 = .ok (.iaload, 1) := by decide +kernel
theorem dX8_part_80 : decode cX8_part 80 = .ok (.ireturn, 1) := by decide +kernel
theorem dX8_inPlace_0 : decode cX8_inPlace 0 = .ok (.aload_n 0, 1) := by decide +kernel
theorem dX8_inPlace_1 : decode cX8_inPlace 1 = .ok (.iconst 0, 1) := by decide +kernel
theorem dX8_inPlace_2 : decode cX8_inPlace 2 = .ok (.putfield 63, 3) := by decide +kernel
theorem dX8_inPlace_5 : decode cX8_inPlace 5 = .ok (.aload_n 0, 1) := by decide +kernel
theorem dX8_inPlace_6 : decode cX8_inPlace 6 = .ok (.iload_n 1, 1) := by decide +kernel
theorem dX8_inPlace_7 : decode cX8_inPlace 7 = .ok (.invokevirtual 156, 3) := by decide +kernel
theorem dX8_inPlace_10 : decode cX8_inPlace 10 = .ok (.ifCond .eq 28, 3) := by decide +kernel
theorem dX8_inPlace_13 : decode cX8_inPlace 13 = .ok (.aload_n 0, 1) := by decide +kernel
theorem dX8_inPlace_14 : decode cX8_inPlace 14 = .ok (.iload_n 2, 1) := by decide +kernel
theorem dX8_inPlace_15 : decode cX8_inPlace 15 = .ok (.invokevirtual 150, 3) := by decide +kernel
theorem dX8_inPlace_18 : decode cX8_inPlace 18 = .ok (.ifCond .eq 20, 3) := by decide +kernel
theorem dX8_inPlace_21 : decode cX8_inPlace 21 = .ok (.aload_n 0, 1) := by decide +kernel
theorem dX8_inPlace_22 : decode cX8_inPlace 22 = .ok (.getfield 28, 3) := by decide +kernel
theorem dX8_inPlace_25 : decode cX8_inPlace 25 = .ok (.bipush 99, 2) := by decide +kernel
theorem dX8_inPlace_27 : decode cX8_inPlace 27 = .ok (.bipush 6, 2) := by decide +kernel
theorem dX8_inPlace_29 : decode cX8_inPlace 29 = .ok (.iload_n 1, 1) := by decide +kernel
theorem dX8_inPlace_30 : decode cX8_inPlace 30 = .ok (.imul, 1) := by decide +kernel
theorem dX8_inPlace_31 : decode cX8_inPlace 31 = .ok (.iadd, 1) := by decide +kernel
theorem dX8_inPlace_32 : decode cX8_inPlace 32 = .ok (.iload_n 2, 1) := by decide +kernel
theorem dX8_inPlace_33 : decode cX8_inPlace 33 = .ok (.iadd, 1) := by decide +kernel
theorem dX8_inPlace_34 : decode cX8_inPlace 34 = .ok (.iaload, 1) := by decide +kernel
theorem dX8_inPlace_35 : decode cX8_inPlace 35 = .ok (.goto 4, 3) := by decide +kernel
theorem dX8_inPlace_38 : decode cX8_inPlace 38 = .ok (.iconst (-1), 1) := by decide +kernel
theorem dX8_inPlace_39 : decode cX8_inPlace 39 = .ok (.ireturn, 1) := by decide +kernel
theorem dX8_rotten_0 : decode cX8_rotten 0 = .ok (.iconst 0, 1) := by decide +kernel
theorem dX8_rotten_1 : decode cX8_rotten 1 = .ok (.istore_n 2, 1) := by decide +kernel
theorem dX8_rotten_2 : decode cX8_rotten 2 = .ok (.iconst 0, 1) := by decide +kernel
theorem dX8_rotten_3 : decode cX8_rotten 3 = .ok (.istore_n 3, 1) := by decide +kernel
theorem dX8_rotten_4 : decode cX8_rotten 4 = .ok (.iload_n 3, 1) := by decide +kernel
theorem dX8_rotten_5 : decode cX8_rotten 5 = .ok (.aload_n 0, 1) := by decide +kernel
theorem dX8_rotten_6 : decode cX8_rotten 6 = .ok (.getfield 59, 3) := by decide +kernel
theorem dX8_rotten_9 : decode cX8_rotten 9 = .ok (.if_icmp .ge 50, 3) := by decide +kernel
theorem dX8_rotten_12 : decode cX8_rotten 12 = .ok (.iload_n 2, 1) := by decide +kernel
theorem dX8_rotten_13 : decode cX8_rotten 13 = .ok (.aload_n 0, 1) := by decide +kernel
theorem dX8_rotten_14 : decode cX8_rotten 14 = .ok (.getfield 28, 3) := by decide +kernel
theorem dX8_rotten_17 : decode cX8_rotten 17 = .ok (.bipush 51, 2) := by decide +kernel
theorem dX8_rotten_19 : decode cX8_rotten 19 = .ok (.aload_n 0, 1) := by decide +kernel
theorem dX8_rotten_20 : decode cX8_rotten 20 = .ok (.getfield 28, 3) := by decide +kernel
theorem dX8_rotten_23 : decode cX8_rotten 23 = .ok (.bipush 99, 2) := by decide +kernel
theorem dX8_rotten_25 : decode cX8_rotten 25 = .ok (.bipush 6, 2) := by decide +kernel
theorem dX8_rotten_27 : decode cX8_rotten 27 = .ok (.iload_n 1, 1) := by decide +kernel
theorem dX8_rotten_28 : decode cX8_rotten 28 = .ok (.imul, 1) := by decide +kernel
theorem dX8_rotten_29 : decode cX8_rotten 29 = .ok (.iadd, 1) := by decide +kernel
theorem dX8_rotten_30 : decode cX8_rotten 30 = .ok (.iload_n 3, 1) := by decide +kernel
theorem dX8_rotten_31 : decode cX8_rotten 31 = .ok (.iadd, 1) := by decide +kernel
theorem dX8_rotten_32 : decode cX8_rotten 32 = .ok (.iaload, 1) := by decide +kernel
theorem dX8_rotten_33 : decode cX8_rotten 33 = .ok (.iadd, 1) := by decide +kernel
theorem dX8_rotten_34 : decode cX8_rotten 34 = .ok (.iaload, 1) := by decide +kernel
theorem dX8_rotten_35 : decode cX8_rotten 35 = .ok (.aload_n 0, 1) := by decide +kernel
theorem dX8_rotten_36 : decode cX8_rotten 36 = .ok (.getfield 16, 3) := by decide +kernel
theorem dX8_rotten_39 : decode cX8_rotten 39 = .ok (.iload_n 3, 1) := by decide +kernel
theorem dX8_rotten_40 : decode cX8_rotten 40 = .ok (.iaload, 1) := by decide +kernel
theorem dX8_rotten_41 : decode cX8_rotten 41 = .ok (.if_icmp .lt 9, 3) := by decide +kernel
theorem dX8_rotten_44 : decode cX8_rotten 44 = .ok (.iconst 1, 1) := by decide +kernel
theorem dX8_rotten_45 : decode cX8_rotten 45 = .ok (.iload_n 3, 1) := by decide +kernel
theorem dX8_rotten_46 : decode cX8_rotten 46 = .ok (.ishl, 1) := by decide +kernel
theorem dX8_rotten_47 : decode cX8_rotten 47 = .ok (.goto 4, 3) := by decide +kernel
theorem dX8_rotten_50 : decode cX8_rotten 50 = .ok (.iconst 0, 1) := by decide +kernel
theorem dX8_rotten_51 : decode cX8_rotten 51 = .ok (.ior, 1) := by decide +kernel
theorem dX8_rotten_52 : decode cX8_rotten 52 = .ok (.istore_n 2, 1) := by decide +kernel
theorem dX8_rotten_53 : decode cX8_rotten 53 = .ok (.iinc 3 1, 3) := by decide +kernel
theorem dX8_rotten_56 : decode cX8_rotten 56 = .ok (.goto (-52), 3) := by decide +kernel
theorem dX8_rotten_59 : decode cX8_rotten 59 = .ok (.iload_n 2, 1) := by decide +kernel
theorem dX8_rotten_60 : decode cX8_rotten 60 = .ok (.ireturn, 1) := by decide +kernel
theorem dX8_ship_0 : decode cX8_ship 0 = .ok (.aload_n 0, 1) := by decide +kernel
theorem dX8_ship_1 : decode cX8_ship 1 = .ok (.iconst 0, 1) := by decide +kernel
theorem dX8_ship_2 : decode cX8_ship 2 = .ok (.putfield 63, 3) := by decide +kernel
theorem dX8_ship_5 : decode cX8_ship 5 = .ok (.aload_n 0, 1) := by decide +kernel
theorem dX8_ship_6 : decode cX8_ship 6 = .ok (.iload_n 1, 1) := by decide +kernel
theorem dX8_ship_7 : decode cX8_ship 7 = .ok (.invokevirtual 156, 3) := by decide +kernel
theorem dX8_ship_10 : decode cX8_ship 10 = .ok (.ifCond .eq 12, 3) := by decide +kernel
theorem dX8_ship_13 : decode cX8_ship 13 = .ok (.iload_n 2, 1) := by decide +kernel
theorem dX8_ship_14 : decode cX8_ship 14 = .ok (.iconst 0, 1) := by decide +kernel
theorem dX8_ship_15 : decode cX8_ship 15 = .ok (.iconst 1, 1) := by decide +kernel
theorem dX8_ship_16 : decode cX8_ship 16 = .ok (.invokestatic 66, 3) := by decide +kernel
theorem dX8_ship_19 : decode cX8_ship 19 = .ok (.ifCond .ne 5, 3) := by decide +kernel
theorem dX8_ship_22 : decode cX8_ship 22 = .ok (.iconst (-1), 1) := by decide +kernel
theorem dX8_ship_23 : decode cX8_ship 23 = .ok (.ireturn, 1) := by decide +kernel
theorem dX8_ship_24 : decode cX8_ship 24 = .ok (.iload_n 2, 1) := by decide +kernel
theorem dX8_ship_25 : decode cX8_ship 25 = .ok (.ifCond .ne 16, 3) := by decide +kernel
theorem dX8_ship_28 : decode cX8_ship 28 = .ok (.aload_n 0, 1) := by decide +kernel
theorem dX8_ship_29 : decode cX8_ship 29 = .ok (.getfield 28, 3) := by decide +kernel
theorem dX8_ship_32 : decode cX8_ship 32 = .ok (.sipush 135, 3) := by decide +kernel
theorem dX8_ship_35 : decode cX8_ship 35 = .ok (.iload_n 1, 1) := by decide +kernel
theorem dX8_ship_36 : decode cX8_ship 36 = .ok (.iadd, 1) := by decide +kernel
theorem dX8_ship_37 : decode cX8_ship 37 = .ok (.iaload, 1) := by decide +kernel
theorem dX8_ship_38 : decode cX8_ship 38 = .ok (.goto 8, 3) := by decide +kernel
theorem dX8_ship_41 : decode cX8_ship 41 = .ok (.aload_n 0, 1) := by decide +kernel
theorem dX8_ship_42 : decode cX8_ship 42 = .ok (.iload_n 1, 1) := by decide +kernel
theorem dX8_ship_43 : decode cX8_ship 43 = .ok (.invokevirtual 159, 3) := by decide +kernel
theorem dX8_ship_46 : decode cX8_ship 46 = .ok (.ireturn, 1) := by decide +kernel
theorem dX8_asIs_0 : decode cX8_asIs 0 = .ok (.iconst 0, 1) := by decide +kernel
theorem dX8_asIs_1 : decode cX8_asIs 1 = .ok (.istore_n 2, 1) := by decide +kernel
theorem dX8_asIs_2 : decode cX8_asIs 2 = .ok (.iload_n 2, 1) := by decide +kernel
theorem dX8_asIs_3 : decode cX8_asIs 3 = .ok (.aload_n 0, 1) := by decide +kernel
theorem dX8_asIs_4 : decode cX8_asIs 4 = .ok (.getfield 59, 3) := by decide +kernel
theorem dX8_asIs_7 : decode cX8_asIs 7 = .ok (.if_icmp .ge 51, 3) := by decide +kernel
theorem dX8_asIs_10 : decode cX8_asIs 10 = .ok (.aload_n 0, 1) := by decide +kernel
theorem dX8_asIs_11 : decode cX8_asIs 11 = .ok (.getfield 28, 3) := by decide +kernel
theorem dX8_asIs_14 : decode cX8_asIs 14 = .ok (.bipush 99, 2) := by decide +kernel
theorem dX8_asIs_16 : decode cX8_asIs 16 = .ok (.bipush 6, 2) := by decide +kernel
theorem dX8_asIs_18 : decode cX8_asIs 18 = .ok (.iload_n 1, 1) := by decide +kernel
theorem dX8_asIs_19 : decode cX8_asIs 19 = .ok (.imul, 1) := by decide +kernel
theorem dX8_asIs_20 : decode cX8_asIs 20 = .ok (.iadd, 1) := by decide +kernel
theorem dX8_asIs_21 : decode cX8_asIs 21 = .ok (.iload_n 2, 1) := by decide +kernel
theorem dX8_asIs_22 : decode cX8_asIs 22 = .ok (.iadd, 1) := by decide +kernel
theorem dX8_asIs_23 : decode cX8_asIs 23 = .ok (.iaload, 1) := by decide +kernel
theorem dX8_asIs_24 : decode cX8_asIs 24 = .ok (.istore_n 3, 1) := by decide +kernel
theorem dX8_asIs_25 : decode cX8_asIs 25 = .ok (.aload_n 0, 1) := by decide +kernel
theorem dX8_asIs_26 : decode cX8_asIs 26 = .ok (.getfield 47, 3) := by decide +kernel
theorem dX8_asIs_29 : decode cX8_asIs 29 = .ok (.iload_n 2, 1) := by decide +kernel
theorem dX8_asIs_30 : decode cX8_asIs 30 = .ok (.aload_n 0, 1) := by decide +kernel
theorem dX8_asIs_31 : decode cX8_asIs 31 = .ok (.getfield 25, 3) := by decide +kernel
theorem dX8_asIs_34 : decode cX8_asIs 34 = .ok (.iload_n 3, 1) := by decide +kernel
theorem dX8_asIs_35 : decode cX8_asIs 35 = .ok (.iaload, 1) := by decide +kernel
theorem dX8_asIs_36 : decode cX8_asIs 36 = .ok (.iastore, 1) := by decide +kernel
theorem dX8_asIs_37 : decode cX8_asIs 37 = .ok (.aload_n 0, 1) := by decide +kernel
theorem dX8_asIs_38 : decode cX8_asIs 38 = .ok (.getfield 50, 3) := by decide +kernel
theorem dX8_asIs_41 : decode cX8_asIs 41 = .ok (.iload_n 2, 1) := by decide +kernel
theorem dX8_asIs_42 : decode cX8_asIs 42 = .ok (.aload_n 0, 1) := by decide +kernel
theorem dX8_asIs_43 : decode cX8_asIs 43 = .ok (.getfield 28, 3) := by decide +kernel
theorem dX8_asIs_46 : decode cX8_asIs 46 = .ok (.bipush 51, 2) := by decide +kernel
theorem dX8_asIs_48 : decode cX8_asIs 48 = .ok (.iload_n 3, 1) := by decide +kernel
theorem dX8_asIs_49 : decode cX8_asIs 49 = .ok (.iadd, 1) := by decide +kernel
theorem dX8_asIs_50 : decode cX8_asIs 50 = .ok (.iaload, 1) := by decide +kernel
theorem dX8_asIs_51 : decode cX8_asIs 51 = .ok (.iastore, 1) := by decide +kernel
theorem dX8_asIs_52 : decode cX8_asIs 52 = .ok (.iinc 2 1, 3) := by decide +kernel
theorem dX8_asIs_55 : decode cX8_asIs 55 = .ok (.goto (-53), 3) := by decide +kernel
theorem dX8_asIs_58 : decode cX8_asIs 58 = .ok (.return_, 1) := by decide +kernel
theorem dX8_weightOf_0 : decode cX8_weightOf 0 = .ok (.iconst 0, 1) := by decide +kernel
theorem dX8_weightOf_1 : decode cX8_weightOf 1 = .ok (.istore_n 2, 1) := by decide +kernel
theorem dX8_weightOf_2 : decode cX8_weightOf 2 = .ok (.iconst 0, 1) := by decide +kernel
theorem dX8_weightOf_3 : decode cX8_weightOf 3 = .ok (.istore_n 3, 1) := by decide +kernel
theorem dX8_weightOf_4 : decode cX8_weightOf 4 = .ok (.iload_n 3, 1) := by decide +kernel
theorem dX8_weightOf_5 : decode cX8_weightOf 5 = .ok (.aload_n 0, 1) := by decide +kernel
theorem dX8_weightOf_6 : decode cX8_weightOf 6 = .ok (.getfield 59, 3) := by decide +kernel
theorem dX8_weightOf_9 : decode cX8_weightOf 9 = .ok (.if_icmp .ge 32, 3) := by decide +kernel
theorem dX8_weightOf_12 : decode cX8_weightOf 12 = .ok (.iload_n 2, 1) := by decide +kernel
theorem dX8_weightOf_13 : decode cX8_weightOf 13 = .ok (.aload_n 0, 1) := by decide +kernel
theorem dX8_weightOf_14 : decode cX8_weightOf 14 = .ok (.getfield 47, 3) := by decide +kernel
theorem dX8_weightOf_17 : decode cX8_weightOf 17 = .ok (.iload_n 3, 1) := by decide +kernel
theorem dX8_weightOf_18 : decode cX8_weightOf 18 = .ok (.iaload, 1) := by decide +kernel
theorem dX8_weightOf_19 : decode cX8_weightOf 19 = .ok (.iload_n 1, 1) := by decide +kernel
theorem dX8_weightOf_20 : decode cX8_weightOf 20 = .ok (.if_icmp .ne 12, 3) := by decide +kernel
theorem dX8_weightOf_23 : decode cX8_weightOf 23 = .ok (.aload_n 0, 1) := by decide +kernel
theorem dX8_weightOf_24 : decode cX8_weightOf 24 = .ok (.getfield 13, 3) := by decide +kernel
theorem dX8_weightOf_27 : decode cX8_weightOf 27 = .ok (.iload_n 3, 1) := by decide +kernel
theorem dX8_weightOf_28 : decode cX8_weightOf 28 = .ok (.iaload, 1) := by decide +kernel
theorem dX8_weightOf_29 : decode cX8_weightOf 29 = .ok (.goto 4, 3) := by decide +kernel
theorem dX8_weightOf_32 : decode cX8_weightOf 32 = .ok (.iconst 0, 1) := by decide +kernel
theorem dX8_weightOf_33 : decode cX8_weightOf 33 = .ok (.iadd, 1) := by decide +kernel
theorem dX8_weightOf_34 : decode cX8_weightOf 34 = .ok (.istore_n 2, 1) := by decide +kernel
theorem dX8_weightOf_35 : decode cX8_weightOf 35 = .ok (.iinc 3 1, 3) := by decide +kernel
theorem dX8_weightOf_38 : decode cX8_weightOf 38 = .ok (.goto (-34), 3) := by decide +kernel
theorem dX8_weightOf_41 : decode cX8_weightOf 41 = .ok (.iload_n 2, 1) := by decide +kernel
theorem dX8_weightOf_42 : decode cX8_weightOf 42 = .ok (.ireturn, 1) := by decide +kernel
theorem dX8_allWeights_0 : decode cX8_allWeights 0 = .ok (.iconst 0, 1) := by decide +kernel
theorem dX8_allWeights_1 : decode cX8_allWeights 1 = .ok (.istore_n 1, 1) := by decide +kernel
theorem dX8_allWeights_2 : decode cX8_allWeights 2 = .ok (.iconst 0, 1) := by decide +kernel
theorem dX8_allWeights_3 : decode cX8_allWeights 3 = .ok (.istore_n 2, 1) := by decide +kernel
theorem dX8_allWeights_4 : decode cX8_allWeights 4 = .ok (.iload_n 2, 1) := by decide +kernel
theorem dX8_allWeights_5 : decode cX8_allWeights 5 = .ok (.aload_n 0, 1) := by decide +kernel
theorem dX8_allWeights_6 : decode cX8_allWeights 6 = .ok (.getfield 59, 3) := by decide +kernel
theorem dX8_allWeights_9 : decode cX8_allWeights 9 = .ok (.if_icmp .ge 18, 3) := by decide +kernel
theorem dX8_allWeights_12 : decode cX8_allWeights 12 = .ok (.iload_n 1, 1) := by decide +kernel
theorem dX8_allWeights_13 : decode cX8_allWeights 13 = .ok (.aload_n 0, 1) := by decide +kernel
theorem dX8_allWeights_14 : decode cX8_allWeights 14 = .ok (.getfield 13, 3) := by decide +kernel
theorem dX8_allWeights_17 : decode cX8_allWeights 17 = .ok (.iload_n 2, 1) := by decide +kernel
theorem dX8_allWeights_18 : decode cX8_allWeights 18 = .ok (.iaload, 1) := by decide +kernel
theorem dX8_allWeights_19 : decode cX8_allWeights 19 = .ok (.iadd, 1) := by decide +kernel
theorem dX8_allWeights_20 : decode cX8_allWeights 20 = .ok (.istore_n 1, 1) := by decide +kernel
theorem dX8_allWeights_21 : decode cX8_allWeights 21 = .ok (.iinc 2 1, 3) := by decide +kernel
theorem dX8_allWeights_24 : decode cX8_allWeights 24 = .ok (.goto (-20), 3) := by decide +kernel
theorem dX8_allWeights_27 : decode cX8_allWeights 27 = .ok (.iload_n 1, 1) := by decide +kernel
theorem dX8_allWeights_28 : decode cX8_allWeights 28 = .ok (.ireturn, 1) := by decide +kernel
theorem dX8_countOf_0 : decode cX8_countOf 0 = .ok (.iconst 0, 1) := by decide +kernel
theorem dX8_countOf_1 : decode cX8_countOf 1 = .ok (.istore_n 2, 1) := by decide +kernel
theorem dX8_countOf_2 : decode cX8_countOf 2 = .ok (.iconst 0, 1) := by decide +kernel
theorem dX8_countOf_3 : decode cX8_countOf 3 = .ok (.istore_n 3, 1) := by decide +kernel
theorem dX8_countOf_4 : decode cX8_countOf 4 = .ok (.iload_n 3, 1) := by decide +kernel
theorem dX8_countOf_5 : decode cX8_countOf 5 = .ok (.aload_n 0, 1) := by decide +kernel
theorem dX8_countOf_6 : decode cX8_countOf 6 = .ok (.getfield 59, 3) := by decide +kernel
theorem dX8_countOf_9 : decode cX8_countOf 9 = .ok (.if_icmp .ge 27, 3) := by decide +kernel
theorem dX8_countOf_12 : decode cX8_countOf 12 = .ok (.iload_n 2, 1) := by decide +kernel
theorem dX8_countOf_13 : decode cX8_countOf 13 = .ok (.aload_n 0, 1) := by decide +kernel
theorem dX8_countOf_14 : decode cX8_countOf 14 = .ok (.getfield 47, 3) := by decide +kernel
theorem dX8_countOf_17 : decode cX8_countOf 17 = .ok (.iload_n 3, 1) := by decide +kernel
theorem dX8_countOf_18 : decode cX8_countOf 18 = .ok (.iaload, 1) := by decide +kernel
theorem dX8_countOf_19 : decode cX8_countOf 19 = .ok (.iload_n 1, 1) := by decide +kernel
theorem dX8_countOf_20 : decode cX8_countOf 20 = .ok (.if_icmp .ne 7, 3) := by decide +kernel
theorem dX8_countOf_23 : decode cX8_countOf 23 = .ok (.iconst 1, 1) := by decide +kernel
theorem dX8_countOf_24 : decode cX8_countOf 24 = .ok (.goto 4, 3) := by decide +kernel
theorem dX8_countOf_27 : decode cX8_countOf 27 = .ok (.iconst 0, 1) := by decide +kernel
theorem dX8_countOf_28 : decode cX8_countOf 28 = .ok (.iadd, 1) := by decide +kernel
theorem dX8_countOf_29 : decode cX8_countOf 29 = .ok (.istore_n 2, 1) := by decide +kernel
theorem dX8_countOf_30 : decode cX8_countOf 30 = .ok (.iinc 3 1, 3) := by decide +kernel
theorem dX8_countOf_33 : decode cX8_countOf 33 = .ok (.goto (-29), 3) := by decide +kernel
theorem dX8_countOf_36 : decode cX8_countOf 36 = .ok (.iload_n 2, 1) := by decide +kernel
theorem dX8_countOf_37 : decode cX8_countOf 37 = .ok (.ireturn, 1) := by decide +kernel
theorem dX8_oldest_0 : decode cX8_oldest 0 = .ok (.iconst 0, 1) := by decide +kernel
theorem dX8_oldest_1 : decode cX8_oldest 1 = .ok (.istore_n 1, 1) := by decide +kernel
theorem dX8_oldest_2 : decode cX8_oldest 2 = .ok (.iconst 1, 1) := by decide +kernel
theorem dX8_oldest_3 : decode cX8_oldest 3 = .ok (.istore_n 2, 1) := by decide +kernel
theorem dX8_oldest_4 : decode cX8_oldest 4 = .ok (.iload_n 2, 1) := by decide +kernel
theorem dX8_oldest_5 : decode cX8_oldest 5 = .ok (.aload_n 0, 1) := by decide +kernel
theorem dX8_oldest_6 : decode cX8_oldest 6 = .ok (.getfield 59, 3) := by decide +kernel
theorem dX8_oldest_9 : decode cX8_oldest 9 = .ok (.if_icmp .ge 30, 3) := by decide +kernel
theorem dX8_oldest_12 : decode cX8_oldest 12 = .ok (.aload_n 0, 1) := by decide +kernel
theorem dX8_oldest_13 : decode cX8_oldest 13 = .ok (.getfield 50, 3) := by decide +kernel
theorem dX8_oldest_16 : decode cX8_oldest 16 = .ok (.iload_n 2, 1) := by decide +kernel
theorem dX8_oldest_17 : decode cX8_oldest 17 = .ok (.iaload, 1) := by decide +kernel
theorem dX8_oldest_18 : decode cX8_oldest 18 = .ok (.aload_n 0, 1) := by decide +kernel
theorem dX8_oldest_19 : decode cX8_oldest 19 = .ok (.getfield 50, 3) := by decide +kernel
theorem dX8_oldest_22 : decode cX8_oldest 22 = .ok (.iload_n 1, 1) := by decide +kernel
theorem dX8_oldest_23 : decode cX8_oldest 23 = .ok (.iaload, 1) := by decide +kernel
theorem dX8_oldest_24 : decode cX8_oldest 24 = .ok (.if_icmp .le 7, 3) := by decide +kernel
theorem dX8_oldest_27 : decode cX8_oldest 27 = .ok (.iload_n 2, 1) := by decide +kernel
theorem dX8_oldest_28 : decode cX8_oldest 28 = .ok (.goto 4, 3) := by decide +kernel
theorem dX8_oldest_31 : decode cX8_oldest 31 = .ok (.iload_n 1, 1) := by decide +kernel
theorem dX8_oldest_32 : decode cX8_oldest 32 = .ok (.istore_n 1, 1) := by decide +kernel
theorem dX8_oldest_33 : decode cX8_oldest 33 = .ok (.iinc 2 1, 3) := by decide +kernel
theorem dX8_oldest_36 : decode cX8_oldest 36 = .ok (.goto (-32), 3) := by decide +kernel
theorem dX8_oldest_39 : decode cX8_oldest 39 = .ok (.aload_n 0, 1) := by decide +kernel
theorem dX8_oldest_40 : decode cX8_oldest 40 = .ok (.getfield 47, 3) := by decide +kernel
theorem dX8_oldest_43 : decode cX8_oldest 43 = .ok (.iload_n 1, 1) := by decide +kernel
theorem dX8_oldest_44 : decode cX8_oldest 44 = .ok (.iaload, 1) := by decide +kernel
theorem dX8_oldest_45 : decode cX8_oldest 45 = .ok (.ireturn, 1) := by decide +kernel
theorem dX8_isMore_0 : decode cX8_isMore 0 = .ok (.iconst 1, 1) := by decide +kernel
theorem dX8_isMore_1 : decode cX8_isMore 1 = .ok (.istore_n 2, 1) := by decide +kernel
theorem dX8_isMore_2 : decode cX8_isMore 2 = .ok (.iconst 0, 1) := by decide +kernel
theorem dX8_isMore_3 : decode cX8_isMore 3 = .ok (.istore_n 3, 1) := by decide +kernel
theorem dX8_isMore_4 : decode cX8_isMore 4 = .ok (.iload_n 3, 1) := by decide +kernel
theorem dX8_isMore_5 : decode cX8_isMore 5 = .ok (.bipush 10, 2) := by decide +kernel
theorem dX8_isMore_7 : decode cX8_isMore 7 = .ok (.if_icmp .ge 37, 3) := by decide +kernel
theorem dX8_isMore_10 : decode cX8_isMore 10 = .ok (.iload_n 2, 1) := by decide +kernel
theorem dX8_isMore_11 : decode cX8_isMore 11 = .ok (.ifCond .eq 25, 3) := by decide +kernel
theorem dX8_isMore_14 : decode cX8_isMore 14 = .ok (.iload_n 3, 1) := by decide +kernel
theorem dX8_isMore_15 : decode cX8_isMore 15 = .ok (.iload_n 1, 1) := by decide +kernel
theorem dX8_isMore_16 : decode cX8_isMore 16 = .ok (.if_icmp .eq 16, 3) := by decide +kernel
theorem dX8_isMore_19 : decode cX8_isMore 19 = .ok (.aload_n 0, 1) := by decide +kernel
theorem dX8_isMore_20 : decode cX8_isMore 20 = .ok (.iload_n 3, 1) := by decide +kernel
theorem dX8_isMore_21 : decode cX8_isMore 21 = .ok (.invokevirtual 162, 3) := by decide +kernel
theorem dX8_isMore_24 : decode cX8_isMore 24 = .ok (.aload_n 0, 1) := by decide +kernel
theorem dX8_isMore_25 : decode cX8_isMore 25 = .ok (.iload_n 1, 1) := by decide +kernel
theorem dX8_isMore_26 : decode cX8_isMore 26 = .ok (.invokevirtual 162, 3) := by decide +kernel
theorem dX8_isMore_29 : decode cX8_isMore 29 = .ok (.if_icmp .ge 7, 3) := by decide +kernel
theorem dX8_isMore_32 : decode cX8_isMore 32 = .ok (.iconst 1, 1) := by decide +kernel
theorem dX8_isMore_33 : decode cX8_isMore 33 = .ok (.goto 4, 3) := by decide +kernel
theorem dX8_isMore_36 : decode cX8_isMore 36 = .ok (.iconst 0, 1) := by decide +kernel
theorem dX8_isMore_37 : decode cX8_isMore 37 = .ok (.istore_n 2, 1) := by decide +kernel
theorem dX8_isMore_38 : decode cX8_isMore 38 = .ok (.iinc 3 1, 3) := by decide +kernel
theorem dX8_isMore_41 : decode cX8_isMore 41 = .ok (.goto (-37), 3) := by decide +kernel
theorem dX8_isMore_44 : decode cX8_isMore 44 = .ok (.iload_n 2, 1) := by decide +kernel
theorem dX8_isMore_45 : decode cX8_isMore 45 = .ok (.ireturn, 1) := by decide +kernel
theorem dX8_isBy_0 : decode cX8_isBy 0 = .ok (.iload_n 1, 1) := by decide +kernel
theorem dX8_isBy_1 : decode cX8_isBy 1 = .ok (.ifCond .eq 8, 3) := by decide +kernel
theorem dX8_isBy_4 : decode cX8_isBy 4 = .ok (.iload_n 1, 1) := by decide +kernel
theorem dX8_isBy_5 : decode cX8_isBy 5 = .ok (.iconst 3, 1) := by decide +kernel
theorem dX8_isBy_6 : decode cX8_isBy 6 = .ok (.if_icmp .ne 34, 3) := by decide +kernel
theorem dX8_isBy_9 : decode cX8_isBy 9 = .ok (.iload_n 1, 1) := by decide +kernel
theorem dX8_isBy_10 : decode cX8_isBy 10 = .ok (.ifCond .ne 12, 3) := by decide +kernel
theorem dX8_isBy_13 : decode cX8_isBy 13 = .ok (.aload_n 0, 1) := by decide +kernel
theorem dX8_isBy_14 : decode cX8_isBy 14 = .ok (.getfield 47, 3) := by decide +kernel
theorem dX8_isBy_17 : decode cX8_isBy 17 = .ok (.iconst 0, 1) := by decide +kernel
theorem dX8_isBy_18 : decode cX8_isBy 18 = .ok (.iaload, 1) := by decide +kernel
theorem dX8_isBy_19 : decode cX8_isBy 19 = .ok (.goto 7, 3) := by decide +kernel
theorem dX8_isBy_22 : decode cX8_isBy 22 = .ok (.aload_n 0, 1) := by decide +kernel
theorem dX8_isBy_23 : decode cX8_isBy 23 = .ok (.invokevirtual 165, 3) := by decide +kernel
theorem dX8_isBy_26 : decode cX8_isBy 26 = .ok (.istore_n 2, 1) := by decide +kernel
theorem dX8_isBy_27 : decode cX8_isBy 27 = .ok (.iload_n 2, 1) := by decide +kernel
theorem dX8_isBy_28 : decode cX8_isBy 28 = .ok (.bipush 9, 2) := by decide +kernel
theorem dX8_isBy_30 : decode cX8_isBy 30 = .ok (.if_icmp .ne 8, 3) := by decide +kernel
theorem dX8_isBy_33 : decode cX8_isBy 33 = .ok (.bipush (-9), 2) := by decide +kernel
theorem dX8_isBy_35 : decode cX8_isBy 35 = .ok (.goto 4, 3) := by decide +kernel
theorem dX8_isBy_38 : decode cX8_isBy 38 = .ok (.iload_n 2, 1) := by decide +kernel
theorem dX8_isBy_39 : decode cX8_isBy 39 = .ok (.ireturn, 1) := by decide +kernel
theorem dX8_isBy_40 : decode cX8_isBy 40 = .ok (.iconst 0, 1) := by decide +kernel
theorem dX8_isBy_41 : decode cX8_isBy 41 = .ok (.istore_n 2, 1) := by decide +kernel
theorem dX8_isBy_42 : decode cX8_isBy 42 = .ok (.iload_n 2, 1) := by decide +kernel
theorem dX8_isBy_43 : decode cX8_isBy 43 = .ok (.iconst 4, 1) := by decide +kernel
theorem dX8_isBy_44 : decode cX8_isBy 44 = .ok (.if_icmp .ge 75, 3) := by decide +kernel
theorem dX8_isBy_47 : decode cX8_isBy 47 = .ok (.iload_n 1, 1) := by decide +kernel
theorem dX8_isBy_48 : decode cX8_isBy 48 = .ok (.iconst 1, 1) := by decide +kernel
theorem dX8_isBy_49 : decode cX8_isBy 49 = .ok (.if_icmp .ne 25, 3) := by decide +kernel
theorem dX8_isBy_52 : decode cX8_isBy 52 = .ok (.iconst 2, 1) := by decide +kernel
theorem dX8_isBy_53 : decode cX8_isBy 53 = .ok (.aload_n 0, 1) := by decide +kernel
theorem dX8_isBy_54 : decode cX8_isBy 54 = .ok (.iload_n 2, 1) := by decide +kernel
theorem dX8_isBy_55 : decode cX8_isBy 55 = .ok (.invokevirtual 162, 3) := by decide +kernel
theorem dX8_isBy_58 : decode cX8_isBy 58 = .ok (.imul, 1) := by decide +kernel
theorem dX8_isBy_59 : decode cX8_isBy 59 = .ok (.aload_n 0, 1) := by decide +kernel
theorem dX8_isBy_60 : decode cX8_isBy 60 = .ok (.invokevirtual 169, 3) := by decide +kernel
theorem dX8_isBy_63 : decode cX8_isBy 63 = .ok (.if_icmp .le 7, 3) := by decide +kernel
theorem dX8_isBy_66 : decode cX8_isBy 66 = .ok (.iconst 1, 1) := by decide +kernel
theorem dX8_isBy_67 : decode cX8_isBy 67 = .ok (.goto 39, 3) := by decide +kernel
theorem dX8_isBy_70 : decode cX8_isBy 70 = .ok (.iconst 0, 1) := by decide +kernel
theorem dX8_isBy_71 : decode cX8_isBy 71 = .ok (.goto 35, 3) := by decide +kernel
theorem dX8_isBy_74 : decode cX8_isBy 74 = .ok (.iload_n 1, 1) := by decide +kernel
theorem dX8_isBy_75 : decode cX8_isBy 75 = .ok (.iconst 2, 1) := by decide +kernel
theorem dX8_isBy_76 : decode cX8_isBy 76 = .ok (.if_icmp .ne 11, 3) := by decide +kernel
theorem dX8_isBy_79 : decode cX8_isBy 79 = .ok (.aload_n 0, 1) := by decide +kernel
theorem dX8_isBy_80 : decode cX8_isBy 80 = .ok (.iload_n 2, 1) := by decide +kernel
theorem dX8_isBy_81 : decode cX8_isBy 81 = .ok (.invokevirtual 172, 3) := by decide +kernel
theorem dX8_isBy_84 : decode cX8_isBy 84 = .ok (.goto 22, 3) := by decide +kernel
theorem dX8_isBy_87 : decode cX8_isBy 87 = .ok (.iconst 2, 1) := by decide +kernel
theorem dX8_isBy_88 : decode cX8_isBy 88 = .ok (.aload_n 0, 1) := by decide +kernel
theorem dX8_isBy_89 : decode cX8_isBy 89 = .ok (.iload_n 2, 1) := by decide +kernel
theorem dX8_isBy_90 : decode cX8_isBy 90 = .ok (.invokevirtual 175, 3) := by decide +kernel
theorem dX8_isBy_93 : decode cX8_isBy 93 = .ok (.imul, 1) := by decide +kernel
theorem dX8_isBy_94 : decode cX8_isBy 94 = .ok (.aload_n 0, 1) := by decide +kernel
theorem dX8_isBy_95 : decode cX8_isBy 95 = .ok (.getfield 59, 3) := by decide +kernel
theorem dX8_isBy_98 : decode cX8_isBy 98 = .ok (.if_icmp .lt 7, 3) := by decide +kernel
theorem dX8_isBy_101 : decode cX8_isBy 101 = .ok (.iconst 1, 1) := by decide +kernel
theorem dX8_isBy_102 : decode cX8_isBy 102 = .ok (.goto 4, 3) := by decide +kernel
theorem dX8_isBy_105 : decode cX8_isBy 105 = .ok (.iconst 0, 1) := by decide +kernel
theorem dX8_isBy_106 : decode cX8_isBy 106 = .ok (.istore_n 3, 1) := by decide +kernel
theorem dX8_isBy_107 : decode cX8_isBy 107 = .ok (.iload_n 3, 1) := by decide +kernel
theorem dX8_isBy_108 : decode cX8_isBy 108 = .ok (.ifCond .eq 5, 3) := by decide +kernel
theorem dX8_isBy_111 : decode cX8_isBy 111 = .ok (.iload_n 2, 1) := by decide +kernel
theorem dX8_isBy_112 : decode cX8_isBy 112 = .ok (.ireturn, 1) := by decide +kernel
theorem dX8_isBy_113 : decode cX8_isBy 113 = .ok (.iinc 2 1, 3) := by decide +kernel
theorem dX8_isBy_116 : decode cX8_isBy 116 = .ok (.goto (-74), 3) := by decide +kernel
theorem dX8_isBy_119 : decode cX8_isBy 119 = .ok (.bipush (-9), 2) := by decide +kernel
theorem dX8_isBy_121 : decode cX8_isBy 121 = .ok (.ireturn, 1) := by decide +kernel
theorem dX8_isOf_0 : decode cX8_isOf 0 = .ok (.aload_n 0, 1) := by decide +kernel
theorem dX8_isOf_1 : decode cX8_isOf 1 = .ok (.iload_n 1, 1) := by decide +kernel
theorem dX8_isOf_2 : decode cX8_isOf 2 = .ok (.invokevirtual 178, 3) := by decide +kernel
theorem dX8_isOf_5 : decode cX8_isOf 5 = .ok (.aload_n 0, 1) := by decide +kernel
theorem dX8_isOf_6 : decode cX8_isOf 6 = .ok (.iload_n 2, 1) := by decide +kernel
theorem dX8_isOf_7 : decode cX8_isOf 7 = .ok (.invokevirtual 181, 3) := by decide +kernel
theorem dX8_isOf_10 : decode cX8_isOf 10 = .ok (.ireturn, 1) := by decide +kernel
theorem dX8_is_0 : decode cX8_is 0 = .ok (.aload_n 0, 1) := by decide +kernel
theorem dX8_is_1 : decode cX8_is 1 = .ok (.iconst 0, 1) := by decide +kernel
theorem dX8_is_2 : decode cX8_is 2 = .ok (.putfield 63, 3) := by decide +kernel
theorem dX8_is_5 : decode cX8_is 5 = .ok (.aload_n 0, 1) := by decide +kernel
theorem dX8_is_6 : decode cX8_is 6 = .ok (.iload_n 1, 1) := by decide +kernel
theorem dX8_is_7 : decode cX8_is 7 = .ok (.invokevirtual 156, 3) := by decide +kernel
theorem dX8_is_10 : decode cX8_is 10 = .ok (.ifCond .eq 19, 3) := by decide +kernel
theorem dX8_is_13 : decode cX8_is 13 = .ok (.iload_n 2, 1) := by decide +kernel
theorem dX8_is_14 : decode cX8_is 14 = .ok (.invokestatic 184, 3) := by decide +kernel
theorem dX8_is_17 : decode cX8_is 17 = .ok (.ifCond .eq 12, 3) := by decide +kernel
theorem dX8_is_20 : decode cX8_is 20 = .ok (.aload_n 0, 1) := by decide +kernel
theorem dX8_is_21 : decode cX8_is 21 = .ok (.iload_n 1, 1) := by decide +kernel
theorem dX8_is_22 : decode cX8_is 22 = .ok (.iload_n 2, 1) := by decide +kernel
theorem dX8_is_23 : decode cX8_is 23 = .ok (.invokevirtual 187, 3) := by decide +kernel
theorem dX8_is_26 : decode cX8_is 26 = .ok (.goto 4, 3) := by decide +kernel
theorem dX8_is_29 : decode cX8_is 29 = .ok (.iconst (-1), 1) := by decide +kernel
theorem dX8_is_30 : decode cX8_is 30 = .ok (.ireturn, 1) := by decide +kernel
theorem dX8_twinsBy_0 : decode cX8_twinsBy 0 = .ok (.iconst 0, 1) := by decide +kernel
theorem dX8_twinsBy_1 : decode cX8_twinsBy 1 = .ok (.istore_n 2, 1) := by decide +kernel
theorem dX8_twinsBy_2 : decode cX8_twinsBy 2 = .ok (.iload_n 2, 1) := by decide +kernel
theorem dX8_twinsBy_3 : decode cX8_twinsBy 3 = .ok (.aload_n 0, 1) := by decide +kernel
theorem dX8_twinsBy_4 : decode cX8_twinsBy 4 = .ok (.getfield 28, 3) := by decide +kernel
theorem dX8_twinsBy_7 : decode cX8_twinsBy 7 = .ok (.iconst 2, 1) := by decide +kernel
theorem dX8_twinsBy_8 : decode cX8_twinsBy 8 = .ok (.iaload, 1) := by decide +kernel
theorem dX8_twinsBy_9 : decode cX8_twinsBy 9 = .ok (.if_icmp .ge 63, 3) := by decide +kernel
theorem dX8_twinsBy_12 : decode cX8_twinsBy 12 = .ok (.aload_n 0, 1) := by decide +kernel
theorem dX8_twinsBy_13 : decode cX8_twinsBy 13 = .ok (.iload_n 2, 1) := by decide +kernel
theorem dX8_twinsBy_14 : decode cX8_twinsBy 14 = .ok (.iload_n 1, 1) := by decide +kernel
theorem dX8_twinsBy_15 : decode cX8_twinsBy 15 = .ok (.invokevirtual 187, 3) := by decide +kernel
theorem dX8_twinsBy_18 : decode cX8_twinsBy 18 = .ok (.istore_n 3, 1) := by decide +kernel
theorem dX8_twinsBy_19 : decode cX8_twinsBy 19 = .ok (.iload_n 2, 1) := by decide +kernel
theorem dX8_twinsBy_20 : decode cX8_twinsBy 20 = .ok (.iconst 1, 1) := by decide +kernel
theorem dX8_twinsBy_21 : decode cX8_twinsBy 21 = .ok (.iadd, 1) := by decide +kernel
theorem dX8_twinsBy_22 : decode cX8_twinsBy 22 = .ok (.istore 4, 2) := by decide +kernel
theorem dX8_twinsBy_24 : decode cX8_twinsBy 24 = .ok (.iload 4, 2) := by decide +kernel
theorem dX8_twinsBy_26 : decode cX8_twinsBy 26 = .ok (.aload_n 0, 1) := by decide +kernel
theorem dX8_twinsBy_27 : decode cX8_twinsBy 27 = .ok (.getfield 28, 3) := by decide +kernel
theorem dX8_twinsBy_30 : decode cX8_twinsBy 30 = .ok (.iconst 2, 1) := by decide +kernel
theorem dX8_twinsBy_31 : decode cX8_twinsBy 31 = .ok (.iaload, 1) := by decide +kernel
theorem dX8_twinsBy_32 : decode cX8_twinsBy 32 = .ok (.if_icmp .ge 34, 3) := by decide +kernel
theorem dX8_twinsBy_35 : decode cX8_twinsBy 35 = .ok (.iload_n 3, 1) := by decide +kernel
theorem dX8_twinsBy_36 : decode cX8_twinsBy 36 = .ok (.bipush (-9), 2) := by decide +kernel
theorem dX8_twinsBy_38 : decode cX8_twinsBy 38 = .ok (.if_icmp .eq 28, 3) := by decide +kernel
theorem dX8_twinsBy_41 : decode cX8_twinsBy 41 = .ok (.aload_n 0, 1) := by decide +kernel
theorem dX8_twinsBy_42 : decode cX8_twinsBy 42 = .ok (.iload 4, 2) := by decide +kernel
theorem dX8_twinsBy_44 : decode cX8_twinsBy 44 = .ok (.iload_n 1, 1) := by decide +kernel
theorem dX8_twinsBy_45 : decode cX8_twinsBy 45 = .ok (.invokevirtual 187, 3) := by decide +kernel
theorem dX8_twinsBy_48 : decode cX8_twinsBy 48 = .ok (.iload_n 3, 1) := by decide +kernel
theorem dX8_twinsBy_49 : decode cX8_twinsBy 49 = .ok (.if_icmp .ne 11, 3) := by decide +kernel
theorem dX8_twinsBy_52 : decode cX8_twinsBy 52 = .ok (.bipush 10, 2) := by decide +kernel
theorem dX8_twinsBy_54 : decode cX8_twinsBy 54 = .ok (.iload_n 2, 1) := by decide +kernel
theorem dX8_twinsBy_55 : decode cX8_twinsBy 55 = .ok (.imul, 1) := by decide +kernel
theorem dX8_twinsBy_56 : decode cX8_twinsBy 56 = .ok (.iload 4, 2) := by decide +kernel
theorem dX8_twinsBy_58 : decode cX8_twinsBy 58 = .ok (.iadd, 1) := by decide +kernel
theorem dX8_twinsBy_59 : decode cX8_twinsBy 59 = .ok (.ireturn, 1) := by decide +kernel
theorem dX8_twinsBy_60 : decode cX8_twinsBy 60 = .ok (.iinc 4 1, 3) := by decide +kernel
theorem dX8_twinsBy_63 : decode cX8_twinsBy 63 = .ok (.goto (-39), 3) := by decide +kernel
theorem dX8_twinsBy_66 : decode cX8_twinsBy 66 = .ok (.iinc 2 1, 3) := by decide +kernel
theorem dX8_twinsBy_69 : decode cX8_twinsBy 69 = .ok (.goto (-67), 3) := by decide +kernel
theorem dX8_twinsBy_72 : decode cX8_twinsBy 72 = .ok (.bipush (-9), 2) := by decide +kernel
theorem dX8_twinsBy_74 : decode cX8_twinsBy 74 = .ok (.ireturn, 1) := by decide +kernel
theorem dX8_fair_0 : decode cX8_fair 0 = .ok (.iconst 0, 1) := by decide +kernel
theorem dX8_fair_1 : decode cX8_fair 1 = .ok (.istore_n 1, 1) := by decide +kernel
theorem dX8_fair_2 : decode cX8_fair 2 = .ok (.iconst 0, 1) := by decide +kernel
theorem dX8_fair_3 : decode cX8_fair 3 = .ok (.istore_n 2, 1) := by decide +kernel
theorem dX8_fair_4 : decode cX8_fair 4 = .ok (.iload_n 2, 1) := by decide +kernel
theorem dX8_fair_5 : decode cX8_fair 5 = .ok (.iconst 5, 1) := by decide +kernel
theorem dX8_fair_6 : decode cX8_fair 6 = .ok (.if_icmp .ge 29, 3) := by decide +kernel
theorem dX8_fair_9 : decode cX8_fair 9 = .ok (.iload_n 1, 1) := by decide +kernel
theorem dX8_fair_10 : decode cX8_fair 10 = .ok (.aload_n 0, 1) := by decide +kernel
theorem dX8_fair_11 : decode cX8_fair 11 = .ok (.iload_n 2, 1) := by decide +kernel
theorem dX8_fair_12 : decode cX8_fair 12 = .ok (.invokevirtual 190, 3) := by decide +kernel
theorem dX8_fair_15 : decode cX8_fair 15 = .ok (.bipush (-9), 2) := by decide +kernel
theorem dX8_fair_17 : decode cX8_fair 17 = .ok (.if_icmp .ne 9, 3) := by decide +kernel
theorem dX8_fair_20 : decode cX8_fair 20 = .ok (.iconst 1, 1) := by decide +kernel
theorem dX8_fair_21 : decode cX8_fair 21 = .ok (.iload_n 2, 1) := by decide +kernel
theorem dX8_fair_22 : decode cX8_fair 22 = .ok (.ishl, 1) := by decide +kernel
theorem dX8_fair_23 : decode cX8_fair 23 = .ok (.goto 4, 3) := by decide +kernel
theorem dX8_fair_26 : decode cX8_fair 26 = .ok (.iconst 0, 1) := by decide +kernel
theorem dX8_fair_27 : decode cX8_fair 27 = .ok (.ior, 1) := by decide +kernel
theorem dX8_fair_28 : decode cX8_fair 28 = .ok (.istore_n 1, 1) := by decide +kernel
theorem dX8_fair_29 : decode cX8_fair 29 = .ok (.iinc 2 1, 3) := by decide +kernel
theorem dX8_fair_32 : decode cX8_fair 32 = .ok (.goto (-28), 3) := by decide +kernel
theorem dX8_fair_35 : decode cX8_fair 35 = .ok (.iload_n 1, 1) := by decide +kernel
theorem dX8_fair_36 : decode cX8_fair 36 = .ok (.ireturn, 1) := by decide +kernel
