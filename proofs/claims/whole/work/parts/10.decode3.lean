theorem dX8_rottenShips_0 : decode cX8_rottenShips 0 = .ok (.iconst 0, 1) := by decide +kernel
theorem dX8_rottenShips_1 : decode cX8_rottenShips 1 = .ok (.istore_n 1, 1) := by decide +kernel
theorem dX8_rottenShips_2 : decode cX8_rottenShips 2 = .ok (.iconst 0, 1) := by decide +kernel
theorem dX8_rottenShips_3 : decode cX8_rottenShips 3 = .ok (.istore_n 2, 1) := by decide +kernel
theorem dX8_rottenShips_4 : decode cX8_rottenShips 4 = .ok (.iload_n 2, 1) := by decide +kernel
theorem dX8_rottenShips_5 : decode cX8_rottenShips 5 = .ok (.aload_n 0, 1) := by decide +kernel
theorem dX8_rottenShips_6 : decode cX8_rottenShips 6 = .ok (.getfield 28, 3) := by decide +kernel
theorem dX8_rottenShips_9 : decode cX8_rottenShips 9 = .ok (.iconst 2, 1) := by decide +kernel
theorem dX8_rottenShips_10 : decode cX8_rottenShips 10 = .ok (.iaload, 1) := by decide +kernel
theorem dX8_rottenShips_11 : decode cX8_rottenShips 11 = .ok (.if_icmp .ge 27, 3) := by decide +kernel
theorem dX8_rottenShips_14 : decode cX8_rottenShips 14 = .ok (.iload_n 1, 1) := by decide +kernel
theorem dX8_rottenShips_15 : decode cX8_rottenShips 15 = .ok (.aload_n 0, 1) := by decide +kernel
theorem dX8_rottenShips_16 : decode cX8_rottenShips 16 = .ok (.iload_n 2, 1) := by decide +kernel
theorem dX8_rottenShips_17 : decode cX8_rottenShips 17 = .ok (.invokevirtual 159, 3) := by decide +kernel
theorem dX8_rottenShips_20 : decode cX8_rottenShips 20 = .ok (.ifCond .eq 9, 3) := by decide +kernel
theorem dX8_rottenShips_23 : decode cX8_rottenShips 23 = .ok (.iconst 1, 1) := by decide +kernel
theorem dX8_rottenShips_24 : decode cX8_rottenShips 24 = .ok (.iload_n 2, 1) := by decide +kernel
theorem dX8_rottenShips_25 : decode cX8_rottenShips 25 = .ok (.ishl, 1) := by decide +kernel
theorem dX8_rottenShips_26 : decode cX8_rottenShips 26 = .ok (.goto 4, 3) := by decide +kernel
theorem dX8_rottenShips_29 : decode cX8_rottenShips 29 = .ok (.iconst 0, 1) := by decide +kernel
theorem dX8_rottenShips_30 : decode cX8_rottenShips 30 = .ok (.ior, 1) := by decide +kernel
theorem dX8_rottenShips_31 : decode cX8_rottenShips 31 = .ok (.istore_n 1, 1) := by decide +kernel
theorem dX8_rottenShips_32 : decode cX8_rottenShips 32 = .ok (.iinc 2 1, 3) := by decide +kernel
theorem dX8_rottenShips_35 : decode cX8_rottenShips 35 = .ok (.goto (-31), 3) := by decide +kernel
theorem dX8_rottenShips_38 : decode cX8_rottenShips 38 = .ok (.iload_n 1, 1) := by decide +kernel
theorem dX8_rottenShips_39 : decode cX8_rottenShips 39 = .ok (.ireturn, 1) := by decide +kernel
theorem dX8_now_0 : decode cX8_now 0 = .ok (.aload_n 0, 1) := by decide +kernel
theorem dX8_now_1 : decode cX8_now 1 = .ok (.iconst 0, 1) := by decide +kernel
theorem dX8_now_2 : decode cX8_now 2 = .ok (.putfield 63, 3) := by decide +kernel
theorem dX8_now_5 : decode cX8_now 5 = .ok (.iload_n 1, 1) := by decide +kernel
theorem dX8_now_6 : decode cX8_now 6 = .ok (.iconst 0, 1) := by decide +kernel
theorem dX8_now_7 : decode cX8_now 7 = .ok (.iconst 4, 1) := by decide +kernel
theorem dX8_now_8 : decode cX8_now 8 = .ok (.invokestatic 66, 3) := by decide +kernel
theorem dX8_now_11 : decode cX8_now 11 = .ok (.ifCond .ne 5, 3) := by decide +kernel
theorem dX8_now_14 : decode cX8_now 14 = .ok (.iconst (-1), 1) := by decide +kernel
theorem dX8_now_15 : decode cX8_now 15 = .ok (.ireturn, 1) := by decide +kernel
theorem dX8_now_16 : decode cX8_now 16 = .ok (.iload_n 1, 1) := by decide +kernel
theorem dX8_now_17 : decode cX8_now 17 = .ok (.iconst 2, 1) := by decide +kernel
theorem dX8_now_18 : decode cX8_now 18 = .ok (.if_icmp .ge 21, 3) := by decide +kernel
theorem dX8_now_21 : decode cX8_now 21 = .ok (.iload_n 1, 1) := by decide +kernel
theorem dX8_now_22 : decode cX8_now 22 = .ok (.ifCond .ne 12, 3) := by decide +kernel
theorem dX8_now_25 : decode cX8_now 25 = .ok (.aload_n 0, 1) := by decide +kernel
theorem dX8_now_26 : decode cX8_now 26 = .ok (.getfield 28, 3) := by decide +kernel
theorem dX8_now_29 : decode cX8_now 29 = .ok (.iconst 0, 1) := by decide +kernel
theorem dX8_now_30 : decode cX8_now 30 = .ok (.iaload, 1) := by decide +kernel
theorem dX8_now_31 : decode cX8_now 31 = .ok (.goto 7, 3) := by decide +kernel
theorem dX8_now_34 : decode cX8_now 34 = .ok (.aload_n 0, 1) := by decide +kernel
theorem dX8_now_35 : decode cX8_now 35 = .ok (.invokevirtual 193, 3) := by decide +kernel
theorem dX8_now_38 : decode cX8_now 38 = .ok (.ireturn, 1) := by decide +kernel
theorem dX8_now_39 : decode cX8_now 39 = .ok (.iload_n 1, 1) := by decide +kernel
theorem dX8_now_40 : decode cX8_now 40 = .ok (.iconst 2, 1) := by decide +kernel
theorem dX8_now_41 : decode cX8_now 41 = .ok (.if_icmp .ne 10, 3) := by decide +kernel
theorem dX8_now_44 : decode cX8_now 44 = .ok (.aload_n 0, 1) := by decide +kernel
theorem dX8_now_45 : decode cX8_now 45 = .ok (.invokevirtual 196, 3) := by decide +kernel
theorem dX8_now_48 : decode cX8_now 48 = .ok (.goto 19, 3) := by decide +kernel
theorem dX8_now_51 : decode cX8_now 51 = .ok (.iload_n 1, 1) := by decide +kernel
theorem dX8_now_52 : decode cX8_now 52 = .ok (.iconst 3, 1) := by decide +kernel
theorem dX8_now_53 : decode cX8_now 53 = .ok (.if_icmp .ne 10, 3) := by decide +kernel
theorem dX8_now_56 : decode cX8_now 56 = .ok (.aload_n 0, 1) := by decide +kernel
theorem dX8_now_57 : decode cX8_now 57 = .ok (.invokevirtual 199, 3) := by decide +kernel
theorem dX8_now_60 : decode cX8_now 60 = .ok (.goto 7, 3) := by decide +kernel
theorem dX8_now_63 : decode cX8_now 63 = .ok (.aload_n 0, 1) := by decide +kernel
theorem dX8_now_64 : decode cX8_now 64 = .ok (.getfield 137, 3) := by decide +kernel
theorem dX8_now_67 : decode cX8_now 67 = .ok (.ireturn, 1) := by decide +kernel
theorem dX8_notes_0 : decode cX8_notes 0 = .ok (.aload_n 0, 1) := by decide +kernel
theorem dX8_notes_1 : decode cX8_notes 1 = .ok (.getfield 137, 3) := by decide +kernel
theorem dX8_notes_4 : decode cX8_notes 4 = .ok (.bipush 10, 2) := by decide +kernel
theorem dX8_notes_6 : decode cX8_notes 6 = .ok (.if_icmp .ne 40, 3) := by decide +kernel
theorem dX8_notes_9 : decode cX8_notes 9 = .ok (.iconst 0, 1) := by decide +kernel
theorem dX8_notes_10 : decode cX8_notes 10 = .ok (.istore_n 1, 1) := by decide +kernel
theorem dX8_notes_11 : decode cX8_notes 11 = .ok (.iload_n 1, 1) := by decide +kernel
theorem dX8_notes_12 : decode cX8_notes 12 = .ok (.sipush 1701, 3) := by decide +kernel
theorem dX8_notes_15 : decode cX8_notes 15 = .ok (.if_icmp .ge 25, 3) := by decide +kernel
theorem dX8_notes_18 : decode cX8_notes 18 = .ok (.aload_n 0, 1) := by decide +kernel
theorem dX8_notes_19 : decode cX8_notes 19 = .ok (.getfield 38, 3) := by decide +kernel
theorem dX8_notes_22 : decode cX8_notes 22 = .ok (.iload_n 1, 1) := by decide +kernel
theorem dX8_notes_23 : decode cX8_notes 23 = .ok (.aload_n 0, 1) := by decide +kernel
theorem dX8_notes_24 : decode cX8_notes 24 = .ok (.getfield 38, 3) := by decide +kernel
theorem dX8_notes_27 : decode cX8_notes 27 = .ok (.iload_n 1, 1) := by decide +kernel
theorem dX8_notes_28 : decode cX8_notes 28 = .ok (.sipush 189, 3) := by decide +kernel
theorem dX8_notes_31 : decode cX8_notes 31 = .ok (.iadd, 1) := by decide +kernel
theorem dX8_notes_32 : decode cX8_notes 32 = .ok (.iaload, 1) := by decide +kernel
theorem dX8_notes_33 : decode cX8_notes 33 = .ok (.iastore, 1) := by decide +kernel
theorem dX8_notes_34 : decode cX8_notes 34 = .ok (.iinc 1 1, 3) := by decide +kernel
theorem dX8_notes_37 : decode cX8_notes 37 = .ok (.goto (-26), 3) := by decide +kernel
theorem dX8_notes_40 : decode cX8_notes 40 = .ok (.aload_n 0, 1) := by decide +kernel
theorem dX8_notes_41 : decode cX8_notes 41 = .ok (.bipush 9, 2) := by decide +kernel
theorem dX8_notes_43 : decode cX8_notes 43 = .ok (.putfield 137, 3) := by decide +kernel
theorem dX8_notes_46 : decode cX8_notes 46 = .ok (.iconst 0, 1) := by decide +kernel
theorem dX8_notes_47 : decode cX8_notes 47 = .ok (.istore_n 1, 1) := by decide +kernel
theorem dX8_notes_48 : decode cX8_notes 48 = .ok (.iload_n 1, 1) := by decide +kernel
theorem dX8_notes_49 : decode cX8_notes 49 = .ok (.sipush 189, 3) := by decide +kernel
theorem dX8_notes_52 : decode cX8_notes 52 = .ok (.if_icmp .ge 30, 3) := by decide +kernel
theorem dX8_notes_55 : decode cX8_notes 55 = .ok (.aload_n 0, 1) := by decide +kernel
theorem dX8_notes_56 : decode cX8_notes 56 = .ok (.getfield 38, 3) := by decide +kernel
theorem dX8_notes_59 : decode cX8_notes 59 = .ok (.sipush 189, 3) := by decide +kernel
theorem dX8_notes_62 : decode cX8_notes 62 = .ok (.aload_n 0, 1) := by decide +kernel
theorem dX8_notes_63 : decode cX8_notes 63 = .ok (.getfield 137, 3) := by decide +kernel
theorem dX8_notes_66 : decode cX8_notes 66 = .ok (.imul, 1) := by decide +kernel
theorem dX8_notes_67 : decode cX8_notes 67 = .ok (.iload_n 1, 1) := by decide +kernel
theorem dX8_notes_68 : decode cX8_notes 68 = .ok (.iadd, 1) := by decide +kernel
theorem dX8_notes_69 : decode cX8_notes 69 = .ok (.aload_n 0, 1) := by decide +kernel
theorem dX8_notes_70 : decode cX8_notes 70 = .ok (.getfield 28, 3) := by decide +kernel
theorem dX8_notes_73 : decode cX8_notes 73 = .ok (.iload_n 1, 1) := by decide +kernel
theorem dX8_notes_74 : decode cX8_notes 74 = .ok (.iaload, 1) := by decide +kernel
theorem dX8_notes_75 : decode cX8_notes 75 = .ok (.iastore, 1) := by decide +kernel
theorem dX8_notes_76 : decode cX8_notes 76 = .ok (.iinc 1 1, 3) := by decide +kernel
theorem dX8_notes_79 : decode cX8_notes 79 = .ok (.goto (-31), 3) := by decide +kernel
theorem dX8_notes_82 : decode cX8_notes 82 = .ok (.aload_n 0, 1) := by decide +kernel
theorem dX8_notes_83 : decode cX8_notes 83 = .ok (.dup, 1) := by decide +kernel
theorem dX8_notes_84 : decode cX8_notes 84 = .ok (.getfield 137, 3) := by decide +kernel
theorem dX8_notes_87 : decode cX8_notes 87 = .ok (.iconst 1, 1) := by decide +kernel
theorem dX8_notes_88 : decode cX8_notes 88 = .ok (.iadd, 1) := by decide +kernel
theorem dX8_notes_89 : decode cX8_notes 89 = .ok (.putfield 137, 3) := by decide +kernel
theorem dX8_notes_92 : decode cX8_notes 92 = .ok (.return_, 1) := by decide +kernel
theorem dX8_replace_0 : decode cX8_replace 0 = .ok (.aload_n 0, 1) := by decide +kernel
theorem dX8_replace_1 : decode cX8_replace 1 = .ok (.iconst 0, 1) := by decide +kernel
theorem dX8_replace_2 : decode cX8_replace 2 = .ok (.putfield 63, 3) := by decide +kernel
theorem dX8_replace_5 : decode cX8_replace 5 = .ok (.aload_n 0, 1) := by decide +kernel
theorem dX8_replace_6 : decode cX8_replace 6 = .ok (.iload_n 1, 1) := by decide +kernel
theorem dX8_replace_7 : decode cX8_replace 7 = .ok (.invokevirtual 156, 3) := by decide +kernel
theorem dX8_replace_10 : decode cX8_replace 10 = .ok (.ifCond .eq 11, 3) := by decide +kernel
theorem dX8_replace_13 : decode cX8_replace 13 = .ok (.aload_n 0, 1) := by decide +kernel
theorem dX8_replace_14 : decode cX8_replace 14 = .ok (.iload_n 2, 1) := by decide +kernel
theorem dX8_replace_15 : decode cX8_replace 15 = .ok (.invokevirtual 153, 3) := by decide +kernel
theorem dX8_replace_18 : decode cX8_replace 18 = .ok (.ifCond .ne 5, 3) := by decide +kernel
theorem dX8_replace_21 : decode cX8_replace 21 = .ok (.iconst (-1), 1) := by decide +kernel
theorem dX8_replace_22 : decode cX8_replace 22 = .ok (.ireturn, 1) := by decide +kernel
theorem dX8_replace_23 : decode cX8_replace 23 = .ok (.aload_n 0, 1) := by decide +kernel
theorem dX8_replace_24 : decode cX8_replace 24 = .ok (.getfield 28, 3) := by decide +kernel
theorem dX8_replace_27 : decode cX8_replace 27 = .ok (.iconst 3, 1) := by decide +kernel
theorem dX8_replace_28 : decode cX8_replace 28 = .ok (.iload_n 2, 1) := by decide +kernel
theorem dX8_replace_29 : decode cX8_replace 29 = .ok (.iadd, 1) := by decide +kernel
theorem dX8_replace_30 : decode cX8_replace 30 = .ok (.iaload, 1) := by decide +kernel
theorem dX8_replace_31 : decode cX8_replace 31 = .ok (.bipush 8, 2) := by decide +kernel
theorem dX8_replace_33 : decode cX8_replace 33 = .ok (.if_icmp .eq 6, 3) := by decide +kernel
theorem dX8_replace_36 : decode cX8_replace 36 = .ok (.bipush (-2), 2) := by decide +kernel
theorem dX8_replace_38 : decode cX8_replace 38 = .ok (.ireturn, 1) := by decide +kernel
theorem dX8_replace_39 : decode cX8_replace 39 = .ok (.aload_n 0, 1) := by decide +kernel
theorem dX8_replace_40 : decode cX8_replace 40 = .ok (.invokevirtual 202, 3) := by decide +kernel
theorem dX8_replace_43 : decode cX8_replace 43 = .ok (.bipush 99, 2) := by decide +kernel
theorem dX8_replace_45 : decode cX8_replace 45 = .ok (.bipush 6, 2) := by decide +kernel
theorem dX8_replace_47 : decode cX8_replace 47 = .ok (.iload_n 1, 1) := by decide +kernel
theorem dX8_replace_48 : decode cX8_replace 48 = .ok (.imul, 1) := by decide +kernel
theorem dX8_replace_49 : decode cX8_replace 49 = .ok (.iadd, 1) := by decide +kernel
theorem dX8_replace_50 : decode cX8_replace 50 = .ok (.aload_n 0, 1) := by decide +kernel
theorem dX8_replace_51 : decode cX8_replace 51 = .ok (.getfield 28, 3) := by decide +kernel
theorem dX8_replace_54 : decode cX8_replace 54 = .ok (.sipush 141, 3) := by decide +kernel
theorem dX8_replace_57 : decode cX8_replace 57 = .ok (.iload_n 2, 1) := by decide +kernel
theorem dX8_replace_58 : decode cX8_replace 58 = .ok (.iadd, 1) := by decide +kernel
theorem dX8_replace_59 : decode cX8_replace 59 = .ok (.iaload, 1) := by decide +kernel
theorem dX8_replace_60 : decode cX8_replace 60 = .ok (.iadd, 1) := by decide +kernel
theorem dX8_replace_61 : decode cX8_replace 61 = .ok (.istore_n 3, 1) := by decide +kernel
theorem dX8_replace_62 : decode cX8_replace 62 = .ok (.aload_n 0, 1) := by decide +kernel
theorem dX8_replace_63 : decode cX8_replace 63 = .ok (.getfield 28, 3) := by decide +kernel
theorem dX8_replace_66 : decode cX8_replace 66 = .ok (.iload_n 3, 1) := by decide +kernel
theorem dX8_replace_67 : decode cX8_replace 67 = .ok (.iaload, 1) := by decide +kernel
theorem dX8_replace_68 : decode cX8_replace 68 = .ok (.istore 4, 2) := by decide +kernel
theorem dX8_replace_70 : decode cX8_replace 70 = .ok (.aload_n 0, 1) := by decide +kernel
theorem dX8_replace_71 : decode cX8_replace 71 = .ok (.getfield 28, 3) := by decide +kernel
theorem dX8_replace_74 : decode cX8_replace 74 = .ok (.iload_n 3, 1) := by decide +kernel
theorem dX8_replace_75 : decode cX8_replace 75 = .ok (.iload_n 2, 1) := by decide +kernel
theorem dX8_replace_76 : decode cX8_replace 76 = .ok (.iastore, 1) := by decide +kernel
theorem dX8_replace_77 : decode cX8_replace 77 = .ok (.aload_n 0, 1) := by decide +kernel
theorem dX8_replace_78 : decode cX8_replace 78 = .ok (.getfield 28, 3) := by decide +kernel
theorem dX8_replace_81 : decode cX8_replace 81 = .ok (.iconst 3, 1) := by decide +kernel
theorem dX8_replace_82 : decode cX8_replace 82 = .ok (.iload_n 2, 1) := by decide +kernel
theorem dX8_replace_83 : decode cX8_replace 83 = .ok (.iadd, 1) := by decide +kernel
theorem dX8_replace_84 : decode cX8_replace 84 = .ok (.iload_n 1, 1) := by decide +kernel
theorem dX8_replace_85 : decode cX8_replace 85 = .ok (.iastore, 1) := by decide +kernel
theorem dX8_replace_86 : decode cX8_replace 86 = .ok (.aload_n 0, 1) := by decide +kernel
theorem dX8_replace_87 : decode cX8_replace 87 = .ok (.getfield 28, 3) := by decide +kernel
theorem dX8_replace_90 : decode cX8_replace 90 = .ok (.iconst 3, 1) := by decide +kernel
theorem dX8_replace_91 : decode cX8_replace 91 = .ok (.iload 4, 2) := by decide +kernel
theorem dX8_replace_93 : decode cX8_replace 93 = .ok (.iadd, 1) := by decide +kernel
theorem dX8_replace_94 : decode cX8_replace 94 = .ok (.bipush 8, 2) := by decide +kernel
theorem dX8_replace_96 : decode cX8_replace 96 = .ok (.iastore, 1) := by decide +kernel
theorem dX8_replace_97 : decode cX8_replace 97 = .ok (.iload 4, 2) := by decide +kernel
theorem dX8_replace_99 : decode cX8_replace 99 = .ok (.ireturn, 1) := by decide +kernel
theorem dX8_fresh_0 : decode cX8_fresh 0 = .ok (.aload_n 0, 1) := by decide +kernel
theorem dX8_fresh_1 : decode cX8_fresh 1 = .ok (.iconst 0, 1) := by decide +kernel
theorem dX8_fresh_2 : decode cX8_fresh 2 = .ok (.putfield 63, 3) := by decide +kernel
theorem dX8_fresh_5 : decode cX8_fresh 5 = .ok (.aload_n 0, 1) := by decide +kernel
theorem dX8_fresh_6 : decode cX8_fresh 6 = .ok (.iload_n 1, 1) := by decide +kernel
theorem dX8_fresh_7 : decode cX8_fresh 7 = .ok (.invokevirtual 150, 3) := by decide +kernel
theorem dX8_fresh_10 : decode cX8_fresh 10 = .ok (.ifCond .ne 5, 3) := by decide +kernel
theorem dX8_fresh_13 : decode cX8_fresh 13 = .ok (.iconst (-1), 1) := by decide +kernel
theorem dX8_fresh_14 : decode cX8_fresh 14 = .ok (.ireturn, 1) := by decide +kernel
theorem dX8_fresh_15 : decode cX8_fresh 15 = .ok (.aload_n 0, 1) := by decide +kernel
theorem dX8_fresh_16 : decode cX8_fresh 16 = .ok (.getfield 28, 3) := by decide +kernel
theorem dX8_fresh_19 : decode cX8_fresh 19 = .ok (.iconst 1, 1) := by decide +kernel
theorem dX8_fresh_20 : decode cX8_fresh 20 = .ok (.iaload, 1) := by decide +kernel
theorem dX8_fresh_21 : decode cX8_fresh 21 = .ok (.bipush 48, 2) := by decide +kernel
theorem dX8_fresh_23 : decode cX8_fresh 23 = .ok (.if_icmp .ne 6, 3) := by decide +kernel
theorem dX8_fresh_26 : decode cX8_fresh 26 = .ok (.bipush (-3), 2) := by decide +kernel
theorem dX8_fresh_28 : decode cX8_fresh 28 = .ok (.ireturn, 1) := by decide +kernel
theorem dX8_fresh_29 : decode cX8_fresh 29 = .ok (.aload_n 0, 1) := by decide +kernel
theorem dX8_fresh_30 : decode cX8_fresh 30 = .ok (.invokevirtual 202, 3) := by decide +kernel
theorem dX8_fresh_33 : decode cX8_fresh 33 = .ok (.aload_n 0, 1) := by decide +kernel
theorem dX8_fresh_34 : decode cX8_fresh 34 = .ok (.iload_n 1, 1) := by decide +kernel
theorem dX8_fresh_35 : decode cX8_fresh 35 = .ok (.bipush 9, 2) := by decide +kernel
theorem dX8_fresh_37 : decode cX8_fresh 37 = .ok (.iconst 0, 1) := by decide +kernel
theorem dX8_fresh_38 : decode cX8_fresh 38 = .ok (.bipush 8, 2) := by decide +kernel
theorem dX8_fresh_40 : decode cX8_fresh 40 = .ok (.invokevirtual 133, 3) := by decide +kernel
theorem dX8_fresh_43 : decode cX8_fresh 43 = .ok (.ireturn, 1) := by decide +kernel
theorem dX8_firstOf_0 : decode cX8_firstOf 0 = .ok (.iconst 0, 1) := by decide +kernel
theorem dX8_firstOf_1 : decode cX8_firstOf 1 = .ok (.istore_n 2, 1) := by decide +kernel
theorem dX8_firstOf_2 : decode cX8_firstOf 2 = .ok (.iload_n 2, 1) := by decide +kernel
theorem dX8_firstOf_3 : decode cX8_firstOf 3 = .ok (.aload_n 0, 1) := by decide +kernel
theorem dX8_firstOf_4 : decode cX8_firstOf 4 = .ok (.getfield 28, 3) := by decide +kernel
theorem dX8_firstOf_7 : decode cX8_firstOf 7 = .ok (.iconst 1, 1) := by decide +kernel
theorem dX8_firstOf_8 : decode cX8_firstOf 8 = .ok (.iaload, 1) := by decide +kernel
theorem dX8_firstOf_9 : decode cX8_firstOf 9 = .ok (.if_icmp .ge 20, 3) := by decide +kernel
theorem dX8_firstOf_12 : decode cX8_firstOf 12 = .ok (.aload_n 0, 1) := by decide +kernel
theorem dX8_firstOf_13 : decode cX8_firstOf 13 = .ok (.iload_n 2, 1) := by decide +kernel
theorem dX8_firstOf_14 : decode cX8_firstOf 14 = .ok (.iload_n 1, 1) := by decide +kernel
theorem dX8_firstOf_15 : decode cX8_firstOf 15 = .ok (.invokevirtual 143, 3) := by decide +kernel
theorem dX8_firstOf_18 : decode cX8_firstOf 18 = .ok (.ifCond .eq 5, 3) := by decide +kernel
theorem dX8_firstOf_21 : decode cX8_firstOf 21 = .ok (.iload_n 2, 1) := by decide +kernel
theorem dX8_firstOf_22 : decode cX8_firstOf 22 = .ok (.ireturn, 1) := by decide +kernel
theorem dX8_firstOf_23 : decode cX8_firstOf 23 = .ok (.iinc 2 1, 3) := by decide +kernel
theorem dX8_firstOf_26 : decode cX8_firstOf 26 = .ok (.goto (-24), 3) := by decide +kernel
theorem dX8_firstOf_29 : decode cX8_firstOf 29 = .ok (.bipush (-9), 2) := by decide +kernel
theorem dX8_firstOf_31 : decode cX8_firstOf 31 = .ok (.ireturn, 1) := by decide +kernel
theorem dX8_build_0 : decode cX8_build 0 = .ok (.aload_n 0, 1) := by decide +kernel
theorem dX8_build_1 : decode cX8_build 1 = .ok (.iconst 0, 1) := by decide +kernel
theorem dX8_build_2 : decode cX8_build 2 = .ok (.putfield 63, 3) := by decide +kernel
theorem dX8_build_5 : decode cX8_build 5 = .ok (.iconst 1, 1) := by decide +kernel
theorem dX8_build_6 : decode cX8_build 6 = .ok (.istore_n 1, 1) := by decide +kernel
theorem dX8_build_7 : decode cX8_build 7 = .ok (.iconst 0, 1) := by decide +kernel
theorem dX8_build_8 : decode cX8_build 8 = .ok (.istore_n 2, 1) := by decide +kernel
theorem dX8_build_9 : decode cX8_build 9 = .ok (.iload_n 2, 1) := by decide +kernel
theorem dX8_build_10 : decode cX8_build 10 = .ok (.aload_n 0, 1) := by decide +kernel
theorem dX8_build_11 : decode cX8_build 11 = .ok (.getfield 59, 3) := by decide +kernel
theorem dX8_build_14 : decode cX8_build 14 = .ok (.if_icmp .ge 29, 3) := by decide +kernel
theorem dX8_build_17 : decode cX8_build 17 = .ok (.iload_n 1, 1) := by decide +kernel
theorem dX8_build_18 : decode cX8_build 18 = .ok (.ifCond .eq 17, 3) := by decide +kernel
theorem dX8_build_21 : decode cX8_build 21 = .ok (.aload_n 0, 1) := by decide +kernel
theorem dX8_build_22 : decode cX8_build 22 = .ok (.iload_n 2, 1) := by decide +kernel
theorem dX8_build_23 : decode cX8_build 23 = .ok (.invokevirtual 205, 3) := by decide +kernel
theorem dX8_build_26 : decode cX8_build 26 = .ok (.bipush (-9), 2) := by decide +kernel
theorem dX8_build_28 : decode cX8_build 28 = .ok (.if_icmp .eq 7, 3) := by decide +kernel
theorem dX8_build_31 : decode cX8_build 31 = .ok (.iconst 1, 1) := by decide +kernel
theorem dX8_build_32 : decode cX8_build 32 = .ok (.goto 4, 3) := by decide +kernel
theorem dX8_build_35 : decode cX8_build 35 = .ok (.iconst 0, 1) := by decide +kernel
theorem dX8_build_36 : decode cX8_build 36 = .ok (.istore_n 1, 1) := by decide +kernel
theorem dX8_build_37 : decode cX8_build 37 = .ok (.iinc 2 1, 3) := by decide +kernel
theorem dX8_build_40 : decode cX8_build 40 = .ok (.goto (-31), 3) := by decide +kernel
theorem dX8_build_43 : decode cX8_build 43 = .ok (.iload_n 1, 1) := by decide +kernel
theorem dX8_build_44 : decode cX8_build 44 = .ok (.ifCond .ne 6, 3) := by decide +kernel
theorem dX8_build_47 : decode cX8_build 47 = .ok (.bipush (-2), 2) := by decide +kernel
theorem dX8_build_49 : decode cX8_build 49 = .ok (.ireturn, 1) := by decide +kernel
theorem dX8_build_50 : decode cX8_build 50 = .ok (.aload_n 0, 1) := by decide +kernel
theorem dX8_build_51 : decode cX8_build 51 = .ok (.getfield 28, 3) := by decide +kernel
theorem dX8_build_54 : decode cX8_build 54 = .ok (.iconst 2, 1) := by decide +kernel
theorem dX8_build_55 : decode cX8_build 55 = .ok (.iaload, 1) := by decide +kernel
theorem dX8_build_56 : decode cX8_build 56 = .ok (.bipush 6, 2) := by decide +kernel
theorem dX8_build_58 : decode cX8_build 58 = .ok (.if_icmp .ne 6, 3) := by decide +kernel
theorem dX8_build_61 : decode cX8_build 61 = .ok (.bipush (-3), 2) := by decide +kernel
theorem dX8_build_63 : decode cX8_build 63 = .ok (.ireturn, 1) := by decide +kernel
theorem dX8_build_64 : decode cX8_build 64 = .ok (.aload_n 0, 1) := by decide +kernel
theorem dX8_build_65 : decode cX8_build 65 = .ok (.invokevirtual 202, 3) := by decide +kernel
theorem dX8_build_68 : decode cX8_build 68 = .ok (.aload_n 0, 1) := by decide +kernel
theorem dX8_build_69 : decode cX8_build 69 = .ok (.getfield 28, 3) := by decide +kernel
theorem dX8_build_72 : decode cX8_build 72 = .ok (.iconst 2, 1) := by decide +kernel
theorem dX8_build_73 : decode cX8_build 73 = .ok (.iaload, 1) := by decide +kernel
theorem dX8_build_74 : decode cX8_build 74 = .ok (.istore_n 2, 1) := by decide +kernel
theorem dX8_build_75 : decode cX8_build 75 = .ok (.iconst 0, 1) := by decide +kernel
theorem dX8_build_76 : decode cX8_build 76 = .ok (.istore_n 3, 1) := by decide +kernel
theorem dX8_build_77 : decode cX8_build 77 = .ok (.iload_n 3, 1) := by decide +kernel
theorem dX8_build_78 : decode cX8_build 78 = .ok (.aload_n 0, 1) := by decide +kernel
theorem dX8_build_79 : decode cX8_build 79 = .ok (.getfield 59, 3) := by decide +kernel
theorem dX8_build_82 : decode cX8_build 82 = .ok (.if_icmp .ge 42, 3) := by decide +kernel
theorem dX8_build_85 : decode cX8_build 85 = .ok (.aload_n 0, 1) := by decide +kernel
theorem dX8_build_86 : decode cX8_build 86 = .ok (.iload_n 3, 1) := by decide +kernel
theorem dX8_build_87 : decode cX8_build 87 = .ok (.invokevirtual 205, 3) := by decide +kernel
theorem dX8_build_90 : decode cX8_build 90 = .ok (.istore 4, 2) := by decide +kernel
theorem dX8_build_92 : decode cX8_build 92 = .ok (.aload_n 0, 1) := by decide +kernel
theorem dX8_build_93 : decode cX8_build 93 = .ok (.getfield 28, 3) := by decide +kernel
theorem dX8_build_96 : decode cX8_build 96 = .ok (.bipush 99, 2) := by decide +kernel
theorem dX8_build_98 : decode cX8_build 98 = .ok (.bipush 6, 2) := by decide +kernel
theorem dX8_build_100 : decode cX8_build 100 = .ok (.iload_n 2, 1) := by decide +kernel
theorem dX8_build_101 : decode cX8_build 101 = .ok (.imul, 1) := by decide +kernel
theorem dX8_build_102 : decode cX8_build 102 = .ok (.iadd, 1) := by decide +kernel
theorem dX8_build_103 : decode cX8_build 103 = .ok (.iload_n 3, 1) := by decide +kernel
theorem dX8_build_104 : decode cX8_build 104 = .ok (.iadd, 1) := by decide +kernel
theorem dX8_build_105 : decode cX8_build 105 = .ok (.iload 4, 2) := by decide +kernel
theorem dX8_build_107 : decode cX8_build 107 = .ok (.iastore, 1) := by decide +kernel
theorem dX8_build_108 : decode cX8_build 108 = .ok (.aload_n 0, 1) := by decide +kernel
theorem dX8_build_109 : decode cX8_build 109 = .ok (.getfield 28, 3) := by decide +kernel
theorem dX8_build_112 : decode cX8_build 112 = .ok (.iconst 3, 1) := by decide +kernel
theorem dX8_build_113 : decode cX8_build 113 = .ok (.iload 4, 2) := by decide +kernel
theorem dX8_build_115 : decode cX8_build 115 = .ok (.iadd, 1) := by decide +kernel
theorem dX8_build_116 : decode cX8_build 116 = .ok (.iload_n 2, 1) := by decide +kernel
theorem dX8_build_117 : decode cX8_build 117 = .ok (.iastore, 1) := by decide +kernel
theorem dX8_build_118 : decode cX8_build 118 = .ok (.iinc 3 1, 3) := by decide +kernel
theorem dX8_build_121 : decode cX8_build 121 = .ok (.goto (-44), 3) := by decide +kernel
theorem dX8_build_124 : decode cX8_build 124 = .ok (.aload_n 0, 1) := by decide +kernel
theorem dX8_build_125 : decode cX8_build 125 = .ok (.getfield 28, 3) := by decide +kernel
theorem dX8_build_128 : decode cX8_build 128 = .ok (.sipush 135, 3) := by decide +kernel
theorem dX8_build_131 : decode cX8_build 131 = .ok (.iload_n 2, 1) := by decide +kernel
theorem dX8_build_132 : decode cX8_build 132 = .ok (.iadd, 1) := by decide +kernel
theorem dX8_build_133 : decode cX8_build 133 = .ok (.bipush 9, 2) := by decide +kernel
theorem dX8_build_135 : decode cX8_build 135 = .ok (.iastore, 1) := by decide +kernel
theorem dX8_build_136 : decode cX8_build 136 = .ok (.aload_n 0, 1) := by decide +kernel
theorem dX8_build_137 : decode cX8_build 137 = .ok (.getfield 28, 3) := by decide +kernel
theorem dX8_build_140 : decode cX8_build 140 = .ok (.iconst 2, 1) := by decide +kernel
theorem dX8_build_141 : decode cX8_build 141 = .ok (.dup2, 1) := by decide +kernel
theorem dX8_build_142 : decode cX8_build 142 = .ok (.iaload, 1) := by decide +kernel
theorem dX8_build_143 : decode cX8_build 143 = .ok (.iconst 1, 1) := by decide +kernel
theorem dX8_build_144 : decode cX8_build 144 = .ok (.iadd, 1) := by decide +kernel
theorem dX8_build_145 : decode cX8_build 145 = .ok (.iastore, 1) := by decide +kernel
theorem dX8_build_146 : decode cX8_build 146 = .ok (.iload_n 2, 1) := by decide +kernel
theorem dX8_build_147 : decode cX8_build 147 = .ok (.ireturn, 1) := by decide +kernel
theorem dX8_year_0 : decode cX8_year 0 = .ok (.aload_n 0, 1) := by decide +kernel
theorem dX8_year_1 : decode cX8_year 1 = .ok (.iconst 0, 1) := by decide +kernel
theorem dX8_year_2 : decode cX8_year 2 = .ok (.putfield 63, 3) := by decide +kernel
theorem dX8_year_5 : decode cX8_year 5 = .ok (.aload_n 0, 1) := by decide +kernel
theorem dX8_year_6 : decode cX8_year 6 = .ok (.getfield 28, 3) := by decide +kernel
theorem dX8_year_9 : decode cX8_year 9 = .ok (.iconst 0, 1) := by decide +kernel
theorem dX8_year_10 : decode cX8_year 10 = .ok (.iaload, 1) := by decide +kernel
theorem dX8_year_11 : decode cX8_year 11 = .ok (.bipush 99, 2) := by decide +kernel
theorem dX8_year_13 : decode cX8_year 13 = .ok (.if_icmp .ne 6, 3) := by decide +kernel
theorem dX8_year_16 : decode cX8_year 16 = .ok (.bipush (-2), 2) := by decide +kernel
theorem dX8_year_18 : decode cX8_year 18 = .ok (.ireturn, 1) := by decide +kernel
theorem dX8_year_19 : decode cX8_year 19 = .ok (.aload_n 0, 1) := by decide +kernel
theorem dX8_year_20 : decode cX8_year 20 = .ok (.invokevirtual 202, 3) := by decide +kernel
theorem dX8_year_23 : decode cX8_year 23 = .ok (.iconst 0, 1) := by decide +kernel
theorem dX8_year_24 : decode cX8_year 24 = .ok (.istore_n 1, 1) := by decide +kernel
theorem dX8_year_25 : decode cX8_year 25 = .ok (.iconst 0, 1) := by decide +kernel
theorem dX8_year_26 : decode cX8_year 26 = .ok (.istore_n 2, 1) := by decide +kernel
theorem dX8_year_27 : decode cX8_year 27 = .ok (.iload_n 2, 1) := by decide +kernel
theorem dX8_year_28 : decode cX8_year 28 = .ok (.aload_n 0, 1) := by decide +kernel
theorem dX8_year_29 : decode cX8_year 29 = .ok (.getfield 28, 3) := by decide +kernel
theorem dX8_year_32 : decode cX8_year 32 = .ok (.iconst 1, 1) := by decide +kernel
theorem dX8_year_33 : decode cX8_year 33 = .ok (.iaload, 1) := by decide +kernel
theorem dX8_year_34 : decode cX8_year 34 = .ok (.if_icmp .ge 75, 3) := by decide +kernel
theorem dX8_year_37 : decode cX8_year 37 = .ok (.aload_n 0, 1) := by decide +kernel
theorem dX8_year_38 : decode cX8_year 38 = .ok (.getfield 28, 3) := by decide +kernel
theorem dX8_year_41 : decode cX8_year 41 = .ok (.bipush 51, 2) := by decide +kernel
theorem dX8_year_43 : decode cX8_year 43 = .ok (.iload_n 2, 1) := by decide +kernel
theorem dX8_year_44 : decode cX8_year 44 = .ok (.iadd, 1) := by decide +kernel
theorem dX8_year_45 : decode cX8_year 45 = .ok (.dup2, 1) := by decide +kernel
theorem dX8_year_46 : decode cX8_year 46 = .ok (.iaload, 1) := by decide +kernel
theorem dX8_year_47 : decode cX8_year 47 = .ok (.iconst 1, 1) := by decide +kernel
theorem dX8_year_48 : decode cX8_year 48 = .ok (.iadd, 1) := by decide +kernel
theorem dX8_year_49 : decode cX8_year 49 = .ok (.iastore, 1) := by decide +kernel
theorem dX8_year_50 : decode cX8_year 50 = .ok (.aload_n 0, 1) := by decide +kernel
theorem dX8_year_51 : decode cX8_year 51 = .ok (.getfield 28, 3) := by decide +kernel
theorem dX8_year_54 : decode cX8_year 54 = .ok (.iconst 3, 1) := by decide +kernel
theorem dX8_year_55 : decode cX8_year 55 = .ok (.iload_n 2, 1) := by decide +kernel
theorem dX8_year_56 : decode cX8_year 56 = .ok (.iadd, 1) := by decide +kernel
theorem dX8_year_57 : decode cX8_year 57 = .ok (.iaload, 1) := by decide +kernel
theorem dX8_year_58 : decode cX8_year 58 = .ok (.bipush 8, 2) := by decide +kernel
theorem dX8_year_60 : decode cX8_year 60 = .ok (.if_icmp .ne 43, 3) := by decide +kernel
theorem dX8_year_63 : decode cX8_year 63 = .ok (.aload_n 0, 1) := by decide +kernel
theorem dX8_year_64 : decode cX8_year 64 = .ok (.getfield 28, 3) := by decide +kernel
theorem dX8_year_67 : decode cX8_year 67 = .ok (.bipush 51, 2) := by decide +kernel
theorem dX8_year_69 : decode cX8_year 69 = .ok (.iload_n 2, 1) := by decide +kernel
theorem dX8_year_70 : decode cX8_year 70 = .ok (.iadd, 1) := by decide +kernel
theorem dX8_year_71 : decode cX8_year 71 = .ok (.iaload, 1) := by decide +kernel
theorem dX8_year_72 : decode cX8_year 72 = .ok (.aload_n 0, 1) := by decide +kernel
theorem dX8_year_73 : decode cX8_year 73 = .ok (.getfield 16, 3) := by decide +kernel
theorem dX8_year_76 : decode cX8_year 76 = .ok (.aload_n 0, 1) := by decide +kernel
theorem dX8_year_77 : decode cX8_year 77 = .ok (.getfield 28, 3) := by decide +kernel
theorem dX8_year_80 : decode cX8_year 80 = .ok (.sipush 141, 3) := by decide +kernel
theorem dX8_year_83 : decode cX8_year 83 = .ok (.iload_n 2, 1) := by decide +kernel
theorem dX8_year_84 : decode cX8_year 84 = .ok (.iadd, 1) := by decide +kernel
theorem dX8_year_85 : decode cX8_year 85 = .ok (.iaload, 1) := by decide +kernel
theorem dX8_year_86 : decode cX8_year 86 = .ok (.iaload, 1) := by decide +kernel
theorem dX8_year_87 : decode cX8_year 87 = .ok (.if_icmp .lt 16, 3) := by decide +kernel
theorem dX8_year_90 : decode cX8_year 90 = .ok (.aload_n 0, 1) := by decide +kernel
theorem dX8_year_91 : decode cX8_year 91 = .ok (.getfield 28, 3) := by decide +kernel
theorem dX8_year_94 : decode cX8_year 94 = .ok (.iconst 3, 1) := by decide +kernel
theorem dX8_year_95 : decode cX8_year 95 = .ok (.iload_n 2, 1) := by decide +kernel
theorem dX8_year_96 : decode cX8_year 96 = .ok (.iadd, 1) := by decide +kernel
theorem dX8_year_97 : decode cX8_year 97 = .ok (.bipush 9, 2) := by decide +kernel
theorem dX8_year_99 : decode cX8_year 99 = .ok (.iastore, 1) := by decide +kernel
theorem dX8_year_100 : decode cX8_year 100 = .ok (.iinc 1 1, 3) := by decide +kernel
theorem dX8_year_103 : decode cX8_year 103 = .ok (.iinc 2 1, 3) := by decide +kernel
theorem dX8_year_106 : decode cX8_year 106 = .ok (.goto (-79), 3) := by decide +kernel
theorem dX8_year_109 : decode cX8_year 109 = .ok (.aload_n 0, 1) := by decide +kernel
theorem dX8_year_110 : decode cX8_year 110 = .ok (.getfield 28, 3) := by decide +kernel
theorem dX8_year_113 : decode cX8_year 113 = .ok (.iconst 0, 1) := by decide +kernel
theorem dX8_year_114 : decode cX8_year 114 = .ok (.dup2, 1) := by decide +kernel
theorem dX8_year_115 : decode cX8_year 115 = .ok (.iaload, 1) := by decide +kernel
theorem dX8_year_116 : decode cX8_year 116 = .ok (.iconst 1, 1) := by decide +kernel
theorem dX8_year_117 : decode cX8_year 117 = .ok (.iadd, 1) := by decide +kernel
theorem dX8_year_118 : decode cX8_year 118 = .ok (.iastore, 1) := by decide +kernel
theorem dX8_year_119 : decode cX8_year 119 = .ok (.iload_n 1, 1) := by decide +kernel
theorem dX8_year_120 : decode cX8_year 120 = .ok (.ireturn, 1) := by decide +kernel
theorem dX8_undo_0 : decode cX8_undo 0 = .ok (.aload_n 0, 1) := by decide +kernel
theorem dX8_undo_1 : decode cX8_undo 1 = .ok (.iconst 0, 1) := by decide +kernel
theorem dX8_undo_2 : decode cX8_undo 2 = .ok (.putfield 63, 3) := by decide +kernel
theorem dX8_undo_5 : decode cX8_undo 5 = .ok (.aload_n 0, 1) := by decide +kernel
theorem dX8_undo_6 : decode cX8_undo 6 = .ok (.getfield 137, 3) := by decide +kernel
theorem dX8_undo_9 : decode cX8_undo 9 = .ok (.ifCond .ne 6, 3) := by decide +kernel
theorem dX8_undo_12 : decode cX8_undo 12 = .ok (.bipush (-2), 2) := by decide +kernel
theorem dX8_undo_14 : decode cX8_undo 14 = .ok (.ireturn, 1) := by decide +kernel
theorem dX8_undo_15 : decode cX8_undo 15 = .ok (.aload_n 0, 1) := by decide +kernel
theorem dX8_undo_16 : decode cX8_undo 16 = .ok (.dup, 1) := by decide +kernel
theorem dX8_undo_17 : decode cX8_undo 17 = .ok (.getfield 137, 3) := by decide +kernel
theorem dX8_undo_20 : decode cX8_undo 20 = .ok (.iconst 1, 1) := by decide +kernel
theorem dX8_undo_21 : decode cX8_undo 21 = .ok (.isub, 1) := by decide +kernel
theorem dX8_undo_22 : decode cX8_undo 22 = .ok (.putfield 137, 3) := by decide +kernel
theorem dX8_undo_25 : decode cX8_undo 25 = .ok (.iconst 0, 1) := by decide +kernel
theorem dX8_undo_26 : decode cX8_undo 26 = .ok (.istore_n 1, 1) := by decide +kernel
theorem dX8_undo_27 : decode cX8_undo 27 = .ok (.iload_n 1, 1) := by decide +kernel
theorem dX8_undo_28 : decode cX8_undo 28 = .ok (.sipush 189, 3) := by decide +kernel
theorem dX8_undo_31 : decode cX8_undo 31 = .ok (.if_icmp .ge 30, 3) := by decide +kernel
theorem dX8_undo_34 : decode cX8_undo 34 = .ok (.aload_n 0, 1) := by decide +kernel
theorem dX8_undo_35 : decode cX8_undo 35 = .ok (.getfield 28, 3) := by decide +kernel
theorem dX8_undo_38 : decode cX8_undo 38 = .ok (.iload_n 1, 1) := by decide +kernel
theorem dX8_undo_39 : decode cX8_undo 39 = .ok (.aload_n 0, 1) := by decide +kernel
theorem dX8_undo_40 : decode cX8_undo 40 = .ok (.getfield 38, 3) := by decide +kernel
theorem dX8_undo_43 : decode cX8_undo 43 = .ok (.sipush 189, 3) := by decide +kernel
theorem dX8_undo_46 : decode cX8_undo 46 = .ok (.aload_n 0, 1) := by decide +kernel
theorem dX8_undo_47 : decode cX8_undo 47 = .ok (.getfield 137, 3) := by decide +kernel
theorem dX8_undo_50 : decode cX8_undo 50 = .ok (.imul, 1) := by decide +kernel
theorem dX8_undo_51 : decode cX8_undo 51 = .ok (.iload_n 1, 1) := by decide +kernel
theorem dX8_undo_52 : decode cX8_undo 52 = .ok (.iadd, 1) := by decide +kernel
theorem dX8_undo_53 : decode cX8_undo 53 = .ok (.iaload, 1) := by decide +kernel
theorem dX8_undo_54 : decode cX8_undo 54 = .ok (.iastore, 1) := by decide +kernel
theorem dX8_undo_55 : decode cX8_undo 55 = .ok (.iinc 1 1, 3) := by decide +kernel
theorem dX8_undo_58 : decode cX8_undo 58 = .ok (.goto (-31), 3) := by decide +kernel
theorem dX8_undo_61 : decode cX8_undo 61 = .ok (.aload_n 0, 1) := by decide +kernel
theorem dX8_undo_62 : decode cX8_undo 62 = .ok (.getfield 137, 3) := by decide +kernel
theorem dX8_undo_65 : decode cX8_undo 65 = .ok (.ireturn, 1) := by decide +kernel
theorem dX8_twins_0 : decode cX8_twins 0 = .ok (.aload_n 0, 1) := by decide +kernel
theorem dX8_twins_1 : decode cX8_twins 1 = .ok (.iconst 0, 1) := by decide +kernel
theorem dX8_twins_2 : decode cX8_twins 2 = .ok (.putfield 63, 3) := by decide +kernel
theorem dX8_twins_5 : decode cX8_twins 5 = .ok (.iload_n 1, 1) := by decide +kernel
theorem dX8_twins_6 : decode cX8_twins 6 = .ok (.invokestatic 184, 3) := by decide +kernel
theorem dX8_twins_9 : decode cX8_twins 9 = .ok (.ifCond .eq 11, 3) := by decide +kernel
theorem dX8_twins_12 : decode cX8_twins 12 = .ok (.aload_n 0, 1) := by decide +kernel
theorem dX8_twins_13 : decode cX8_twins 13 = .ok (.iload_n 1, 1) := by decide +kernel
theorem dX8_twins_14 : decode cX8_twins 14 = .ok (.invokevirtual 190, 3) := by decide +kernel
theorem dX8_twins_17 : decode cX8_twins 17 = .ok (.goto 4, 3) := by decide +kernel
theorem dX8_twins_20 : decode cX8_twins 20 = .ok (.iconst (-1), 1) := by decide +kernel
theorem dX8_twins_21 : decode cX8_twins 21 = .ok (.ireturn, 1) := by decide +kernel
theorem dX8_nextOf_0 : decode cX8_nextOf 0 = .ok (.iload_n 2, 1) := by decide +kernel
theorem dX8_nextOf_1 : decode cX8_nextOf 1 = .ok (.iconst 1, 1) := by decide +kernel
theorem dX8_nextOf_2 : decode cX8_nextOf 2 = .ok (.iadd, 1) := by decide +kernel
theorem dX8_nextOf_3 : decode cX8_nextOf 3 = .ok (.istore_n 3, 1) := by decide +kernel
theorem dX8_nextOf_4 : decode cX8_nextOf 4 = .ok (.iload_n 3, 1) := by decide +kernel
theorem dX8_nextOf_5 : decode cX8_nextOf 5 = .ok (.aload_n 0, 1) := by decide +kernel
theorem dX8_nextOf_6 : decode cX8_nextOf 6 = .ok (.getfield 28, 3) := by decide +kernel
theorem dX8_nextOf_9 : decode cX8_nextOf 9 = .ok (.iconst 1, 1) := by decide +kernel
theorem dX8_nextOf_10 : decode cX8_nextOf 10 = .ok (.iaload, 1) := by decide +kernel
theorem dX8_nextOf_11 : decode cX8_nextOf 11 = .ok (.if_icmp .ge 20, 3) := by decide +kernel
theorem dX8_nextOf_14 : decode cX8_nextOf 14 = .ok (.aload_n 0, 1) := by decide +kernel
theorem dX8_nextOf_15 : decode cX8_nextOf 15 = .ok (.iload_n 3, 1) := by decide +kernel
theorem dX8_nextOf_16 : decode cX8_nextOf 16 = .ok (.iload_n 1, 1) := by decide +kernel
theorem dX8_nextOf_17 : decode cX8_nextOf 17 = .ok (.invokevirtual 143, 3) := by decide +kernel
theorem dX8_nextOf_20 : decode cX8_nextOf 20 = .ok (.ifCond .eq 5, 3) := by decide +kernel
theorem dX8_nextOf_23 : decode cX8_nextOf 23 = .ok (.iload_n 3, 1) := by decide +kernel
theorem dX8_nextOf_24 : decode cX8_nextOf 24 = .ok (.ireturn, 1) := by decide +kernel
theorem dX8_nextOf_25 : decode cX8_nextOf 25 = .ok (.iinc 3 1, 3) := by decide +kernel
theorem dX8_nextOf_28 : decode cX8_nextOf 28 = .ok (.goto (-24), 3) := by decide +kernel
theorem dX8_nextOf_31 : decode cX8_nextOf 31 = .ok (.bipush (-9), 2) := by decide +kernel
theorem dX8_nextOf_33 : decode cX8_nextOf 33 = .ok (.ireturn, 1) := by decide +kernel
theorem dX8_steps_0 : decode cX8_steps 0 = .ok (.aload_n 0, 1) := by decide +kernel
theorem dX8_steps_1 : decode cX8_steps 1 = .ok (.getfield 59, 3) := by decide +kernel
theorem dX8_steps_4 : decode cX8_steps 4 = .ok (.iconst 1, 1) := by decide +kernel
theorem dX8_steps_5 : decode cX8_steps 5 = .ok (.isub, 1) := by decide +kernel
theorem dX8_steps_6 : decode cX8_steps 6 = .ok (.istore_n 1, 1) := by decide +kernel
theorem dX8_steps_7 : decode cX8_steps 7 = .ok (.iload_n 1, 1) := by decide +kernel
theorem dX8_steps_8 : decode cX8_steps 8 = .ok (.ifCond .lt 43, 3) := by decide +kernel
theorem dX8_steps_11 : decode cX8_steps 11 = .ok (.aload_n 0, 1) := by decide +kernel
theorem dX8_steps_12 : decode cX8_steps 12 = .ok (.iload_n 1, 1) := by decide +kernel
theorem dX8_steps_13 : decode cX8_steps 13 = .ok (.aload_n 0, 1) := by decide +kernel
theorem dX8_steps_14 : decode cX8_steps 14 = .ok (.getfield 53, 3) := by decide +kernel
theorem dX8_steps_17 : decode cX8_steps 17 = .ok (.iload_n 1, 1) := by decide +kernel
theorem dX8_steps_18 : decode cX8_steps 18 = .ok (.iaload, 1) := by decide +kernel
theorem dX8_steps_19 : decode cX8_steps 19 = .ok (.invokevirtual 208, 3) := by decide +kernel
theorem dX8_steps_22 : decode cX8_steps 22 = .ok (.istore_n 2, 1) := by decide +kernel
theorem dX8_steps_23 : decode cX8_steps 23 = .ok (.iload_n 2, 1) := by decide +kernel
theorem dX8_steps_24 : decode cX8_steps 24 = .ok (.bipush (-9), 2) := by decide +kernel
theorem dX8_steps_26 : decode cX8_steps 26 = .ok (.if_icmp .eq 12, 3) := by decide +kernel
theorem dX8_steps_29 : decode cX8_steps 29 = .ok (.aload_n 0, 1) := by decide +kernel
theorem dX8_steps_30 : decode cX8_steps 30 = .ok (.getfield 53, 3) := by decide +kernel
theorem dX8_steps_33 : decode cX8_steps 33 = .ok (.iload_n 1, 1) := by decide +kernel
theorem dX8_steps_34 : decode cX8_steps 34 = .ok (.iload_n 2, 1) := by decide +kernel
theorem dX8_steps_35 : decode cX8_steps 35 = .ok (.iastore, 1) := by decide +kernel
theorem dX8_steps_36 : decode cX8_steps 36 = .ok (.iconst 1, 1) := by decide +kernel
theorem dX8_steps_37 : decode cX8_steps 37 = .ok (.ireturn, 1) := by decide +kernel
theorem dX8_steps_38 : decode cX8_steps 38 = .ok (.aload_n 0, 1) := by decide +kernel
theorem dX8_steps_39 : decode cX8_steps 39 = .ok (.getfield 53, 3) := by decide +kernel
theorem dX8_steps_42 : decode cX8_steps 42 = .ok (.iload_n 1, 1) := by decide +kernel
theorem dX8_steps_43 : decode cX8_steps 43 = .ok (.iconst (-1), 1) := by decide +kernel
theorem dX8_steps_44 : decode cX8_steps 44 = .ok (.iastore, 1) := by decide +kernel
theorem dX8_steps_45 : decode cX8_steps 45 = .ok (.iinc 1 (-1), 3) := by decide +kernel
theorem dX8_steps_48 : decode cX8_steps 48 = .ok (.goto (-41), 3) := by decide +kernel
theorem dX8_steps_51 : decode cX8_steps 51 = .ok (.iconst 0, 1) := by decide +kernel
theorem dX8_steps_52 : decode cX8_steps 52 = .ok (.ireturn, 1) := by decide +kernel
theorem dX8_putsRow_0 : decode cX8_putsRow 0 = .ok (.aload_n 0, 1) := by decide +kernel
theorem dX8_putsRow_1 : decode cX8_putsRow 1 = .ok (.iload_n 1, 1) := by decide +kernel
theorem dX8_putsRow_2 : decode cX8_putsRow 2 = .ok (.invokevirtual 178, 3) := by decide +kernel
theorem dX8_putsRow_5 : decode cX8_putsRow 5 = .ok (.iconst 0, 1) := by decide +kernel
theorem dX8_putsRow_6 : decode cX8_putsRow 6 = .ok (.istore_n 2, 1) := by decide +kernel
theorem dX8_putsRow_7 : decode cX8_putsRow 7 = .ok (.iconst 0, 1) := by decide +kernel
theorem dX8_putsRow_8 : decode cX8_putsRow 8 = .ok (.istore_n 3, 1) := by decide +kernel
theorem dX8_putsRow_9 : decode cX8_putsRow 9 = .ok (.iload_n 3, 1) := by decide +kernel
theorem dX8_putsRow_10 : decode cX8_putsRow 10 = .ok (.aload_n 0, 1) := by decide +kernel
theorem dX8_putsRow_11 : decode cX8_putsRow 11 = .ok (.getfield 59, 3) := by decide +kernel
theorem dX8_putsRow_14 : decode cX8_putsRow 14 = .ok (.if_icmp .ge 58, 3) := by decide +kernel
theorem dX8_putsRow_17 : decode cX8_putsRow 17 = .ok (.aload_n 0, 1) := by decide +kernel
theorem dX8_putsRow_18 : decode cX8_putsRow 18 = .ok (.getfield 53, 3) := by decide +kernel
theorem dX8_putsRow_21 : decode cX8_putsRow 21 = .ok (.iload_n 3, 1) := by decide +kernel
theorem dX8_putsRow_22 : decode cX8_putsRow 22 = .ok (.iaload, 1) := by decide +kernel
theorem dX8_putsRow_23 : decode cX8_putsRow 23 = .ok (.ifCond .lt 43, 3) := by decide +kernel
theorem dX8_putsRow_26 : decode cX8_putsRow 26 = .ok (.aload_n 0, 1) := by decide +kernel
theorem dX8_putsRow_27 : decode cX8_putsRow 27 = .ok (.getfield 47, 3) := by decide +kernel
theorem dX8_putsRow_30 : decode cX8_putsRow 30 = .ok (.iload_n 3, 1) := by decide +kernel
theorem dX8_putsRow_31 : decode cX8_putsRow 31 = .ok (.aload_n 0, 1) := by decide +kernel
theorem dX8_putsRow_32 : decode cX8_putsRow 32 = .ok (.getfield 25, 3) := by decide +kernel
theorem dX8_putsRow_35 : decode cX8_putsRow 35 = .ok (.aload_n 0, 1) := by decide +kernel
theorem dX8_putsRow_36 : decode cX8_putsRow 36 = .ok (.getfield 53, 3) := by decide +kernel
theorem dX8_putsRow_39 : decode cX8_putsRow 39 = .ok (.iload_n 3, 1) := by decide +kernel
theorem dX8_putsRow_40 : decode cX8_putsRow 40 = .ok (.iaload, 1) := by decide +kernel
theorem dX8_putsRow_41 : decode cX8_putsRow 41 = .ok (.iaload, 1) := by decide +kernel
theorem dX8_putsRow_42 : decode cX8_putsRow 42 = .ok (.iastore, 1) := by decide +kernel
theorem dX8_putsRow_43 : decode cX8_putsRow 43 = .ok (.aload_n 0, 1) := by decide +kernel
theorem dX8_putsRow_44 : decode cX8_putsRow 44 = .ok (.getfield 50, 3) := by decide +kernel
theorem dX8_putsRow_47 : decode cX8_putsRow 47 = .ok (.iload_n 3, 1) := by decide +kernel
theorem dX8_putsRow_48 : decode cX8_putsRow 48 = .ok (.aload_n 0, 1) := by decide +kernel
theorem dX8_putsRow_49 : decode cX8_putsRow 49 = .ok (.getfield 28, 3) := by decide +kernel
theorem dX8_putsRow_52 : decode cX8_putsRow 52 = .ok (.bipush 51, 2) := by decide +kernel
theorem dX8_putsRow_54 : decode cX8_putsRow 54 = .ok (.aload_n 0, 1) := by decide +kernel
theorem dX8_putsRow_55 : decode cX8_putsRow 55 = .ok (.getfield 53, 3) := by decide +kernel
theorem dX8_putsRow_58 : decode cX8_putsRow 58 = .ok (.iload_n 3, 1) := by decide +kernel
theorem dX8_putsRow_59 : decode cX8_putsRow 59 = .ok (.iaload, 1) := by decide +kernel
theorem dX8_putsRow_60 : decode cX8_putsRow 60 = .ok (.iadd, 1) := by decide +kernel
theorem dX8_putsRow_61 : decode cX8_putsRow 61 = .ok (.iaload, 1) := by decide +kernel
theorem dX8_putsRow_62 : decode cX8_putsRow 62 = .ok (.iastore, 1) := by decide +kernel
theorem dX8_putsRow_63 : decode cX8_putsRow 63 = .ok (.iinc 2 1, 3) := by decide +kernel
theorem dX8_putsRow_66 : decode cX8_putsRow 66 = .ok (.iinc 3 1, 3) := by decide +kernel
theorem dX8_putsRow_69 : decode cX8_putsRow 69 = .ok (.goto (-60), 3) := by decide +kernel
theorem dX8_putsRow_72 : decode cX8_putsRow 72 = .ok (.iload_n 2, 1) := by decide +kernel
theorem dX8_putsRow_73 : decode cX8_putsRow 73 = .ok (.ireturn, 1) := by decide +kernel
theorem dX8_becomes_0 : decode cX8_becomes 0 = .ok (.aload_n 0, 1) := by decide +kernel
theorem dX8_becomes_1 : decode cX8_becomes 1 = .ok (.iconst 0, 1) := by decide +kernel
theorem dX8_becomes_2 : decode cX8_becomes 2 = .ok (.putfield 63, 3) := by decide +kernel
theorem dX8_becomes_5 : decode cX8_becomes 5 = .ok (.aload_n 0, 1) := by decide +kernel
theorem dX8_becomes_6 : decode cX8_becomes 6 = .ok (.iload_n 1, 1) := by decide +kernel
theorem dX8_becomes_7 : decode cX8_becomes 7 = .ok (.invokevirtual 156, 3) := by decide +kernel
theorem dX8_becomes_10 : decode cX8_becomes 10 = .ok (.ifCond .eq 34, 3) := by decide +kernel
theorem dX8_becomes_13 : decode cX8_becomes 13 = .ok (.iload_n 2, 1) := by decide +kernel
theorem dX8_becomes_14 : decode cX8_becomes 14 = .ok (.invokestatic 184, 3) := by decide +kernel
theorem dX8_becomes_17 : decode cX8_becomes 17 = .ok (.ifCond .eq 27, 3) := by decide +kernel
theorem dX8_becomes_20 : decode cX8_becomes 20 = .ok (.iload_n 3, 1) := by decide +kernel
theorem dX8_becomes_21 : decode cX8_becomes 21 = .ok (.iconst 0, 1) := by decide +kernel
theorem dX8_becomes_22 : decode cX8_becomes 22 = .ok (.iconst 3, 1) := by decide +kernel
theorem dX8_becomes_23 : decode cX8_becomes 23 = .ok (.invokestatic 66, 3) := by decide +kernel
theorem dX8_becomes_26 : decode cX8_becomes 26 = .ok (.ifCond .eq 18, 3) := by decide +kernel
theorem dX8_becomes_29 : decode cX8_becomes 29 = .ok (.iload 4, 2) := by decide +kernel
theorem dX8_becomes_31 : decode cX8_becomes 31 = .ok (.iconst (-1), 1) := by decide +kernel
theorem dX8_becomes_32 : decode cX8_becomes 32 = .ok (.if_icmp .eq 14, 3) := by decide +kernel
theorem dX8_becomes_35 : decode cX8_becomes 35 = .ok (.aload_n 0, 1) := by decide +kernel
theorem dX8_becomes_36 : decode cX8_becomes 36 = .ok (.iload 4, 2) := by decide +kernel
theorem dX8_becomes_38 : decode cX8_becomes 38 = .ok (.invokevirtual 150, 3) := by decide +kernel
theorem dX8_becomes_41 : decode cX8_becomes 41 = .ok (.ifCond .ne 5, 3) := by decide +kernel
theorem dX8_becomes_44 : decode cX8_becomes 44 = .ok (.iconst (-1), 1) := by decide +kernel
theorem dX8_becomes_45 : decode cX8_becomes 45 = .ok (.ireturn, 1) := by decide +kernel
theorem dX8_becomes_46 : decode cX8_becomes 46 = .ok (.iconst 0, 1) := by decide +kernel
theorem dX8_becomes_47 : decode cX8_becomes 47 = .ok (.istore 5, 2) := by decide +kernel
theorem dX8_becomes_49 : decode cX8_becomes 49 = .ok (.iload 5, 2) := by decide +kernel
theorem dX8_becomes_51 : decode cX8_becomes 51 = .ok (.bipush 6, 2) := by decide +kernel
theorem dX8_becomes_53 : decode cX8_becomes 53 = .ok (.if_icmp .ge 17, 3) := by decide +kernel
theorem dX8_becomes_56 : decode cX8_becomes 56 = .ok (.aload_n 0, 1) := by decide +kernel
theorem dX8_becomes_57 : decode cX8_becomes 57 = .ok (.getfield 53, 3) := by decide +kernel
theorem dX8_becomes_60 : decode cX8_becomes 60 = .ok (.iload 5, 2) := by decide +kernel
theorem dX8_becomes_62 : decode cX8_becomes 62 = .ok (.iconst (-1), 1) := by decide +kernel
theorem dX8_becomes_63 : decode cX8_becomes 63 = .ok (.iastore, 1) := by decide +kernel
theorem dX8_becomes_64 : decode cX8_becomes 64 = .ok (.iinc 5 1, 3) := by decide +kernel
theorem dX8_becomes_67 : decode cX8_becomes 67 = .ok (.goto (-18), 3) := by decide +kernel
theorem dX8_becomes_70 : decode cX8_becomes 70 = .ok (.bipush (-9), 2) := by decide +kernel
theorem dX8_becomes_72 : decode cX8_becomes 72 = .ok (.istore 5, 2) := by decide +kernel
theorem dX8_becomes_74 : decode cX8_becomes 74 = .ok (.iconst 1, 1) := by decide +kernel
theorem dX8_becomes_75 : decode cX8_becomes 75 = .ok (.istore 6, 2) := by decide +kernel
theorem dX8_becomes_77 : decode cX8_becomes 77 = .ok (.iload 6, 2) := by decide +kernel
theorem dX8_becomes_79 : decode cX8_becomes 79 = .ok (.ifCond .eq 76, 3) := by decide +kernel
theorem dX8_becomes_82 : decode cX8_becomes 82 = .ok (.aload_n 0, 1) := by decide +kernel
theorem dX8_becomes_83 : decode cX8_becomes 83 = .ok (.iload_n 1, 1) := by decide +kernel
theorem dX8_becomes_84 : decode cX8_becomes 84 = .ok (.invokevirtual 211, 3) := by decide +kernel
theorem dX8_becomes_87 : decode cX8_becomes 87 = .ok (.istore 7, 2) := by decide +kernel
theorem dX8_becomes_89 : decode cX8_becomes 89 = .ok (.iload 5, 2) := by decide +kernel
theorem dX8_becomes_91 : decode cX8_becomes 91 = .ok (.bipush (-9), 2) := by decide +kernel
theorem dX8_becomes_93 : decode cX8_becomes 93 = .ok (.if_icmp .eq 10, 3) := by decide +kernel
theorem dX8_becomes_96 : decode cX8_becomes 96 = .ok (.iload 7, 2) := by decide +kernel
theorem dX8_becomes_98 : decode cX8_becomes 98 = .ok (.iload 5, 2) := by decide +kernel
theorem dX8_becomes_100 : decode cX8_becomes 100 = .ok (.if_icmp .ge 46, 3) := by decide +kernel
theorem dX8_becomes_103 : decode cX8_becomes 103 = .ok (.aload_n 0, 1) := by decide +kernel
theorem dX8_becomes_104 : decode cX8_becomes 104 = .ok (.iload_n 2, 1) := by decide +kernel
theorem dX8_becomes_105 : decode cX8_becomes 105 = .ok (.invokevirtual 181, 3) := by decide +kernel
theorem dX8_becomes_108 : decode cX8_becomes 108 = .ok (.iload_n 3, 1) := by decide +kernel
theorem dX8_becomes_109 : decode cX8_becomes 109 = .ok (.if_icmp .ne 37, 3) := by decide +kernel
theorem dX8_becomes_112 : decode cX8_becomes 112 = .ok (.iload 7, 2) := by decide +kernel
theorem dX8_becomes_114 : decode cX8_becomes 114 = .ok (.istore 5, 2) := by decide +kernel
theorem dX8_becomes_116 : decode cX8_becomes 116 = .ok (.iconst 0, 1) := by decide +kernel
theorem dX8_becomes_117 : decode cX8_becomes 117 = .ok (.istore 8, 2) := by decide +kernel
theorem dX8_becomes_119 : decode cX8_becomes 119 = .ok (.iload 8, 2) := by decide +kernel
theorem dX8_becomes_121 : decode cX8_becomes 121 = .ok (.bipush 6, 2) := by decide +kernel
theorem dX8_becomes_123 : decode cX8_becomes 123 = .ok (.if_icmp .ge 23, 3) := by decide +kernel
theorem dX8_becomes_126 : decode cX8_becomes 126 = .ok (.aload_n 0, 1) := by decide +kernel
theorem dX8_becomes_127 : decode cX8_becomes 127 = .ok (.getfield 56, 3) := by decide +kernel
theorem dX8_becomes_130 : decode cX8_becomes 130 = .ok (.iload 8, 2) := by decide +kernel
theorem dX8_becomes_132 : decode cX8_becomes 132 = .ok (.aload_n 0, 1) := by decide +kernel
theorem dX8_becomes_133 : decode cX8_becomes 133 = .ok (.getfield 53, 3) := by decide +kernel
theorem dX8_becomes_136 : decode cX8_becomes 136 = .ok (.iload 8, 2) := by decide +kernel
theorem dX8_becomes_138 : decode cX8_becomes 138 = .ok (.iaload, 1) := by decide +kernel
theorem dX8_becomes_139 : decode cX8_becomes 139 = .ok (.iastore, 1) := by decide +kernel
theorem dX8_becomes_140 : decode cX8_becomes 140 = .ok (.iinc 8 1, 3) := by decide +kernel
theorem dX8_becomes_143 : decode cX8_becomes 143 = .ok (.goto (-24), 3) := by decide +kernel
theorem dX8_becomes_146 : decode cX8_becomes 146 = .ok (.aload_n 0, 1) := by decide +kernel
theorem dX8_becomes_147 : decode cX8_becomes 147 = .ok (.invokevirtual 214, 3) := by decide +kernel
theorem dX8_becomes_150 : decode cX8_becomes 150 = .ok (.istore 6, 2) := by decide +kernel
theorem dX8_becomes_152 : decode cX8_becomes 152 = .ok (.goto (-75), 3) := by decide +kernel
theorem dX8_becomes_155 : decode cX8_becomes 155 = .ok (.iload 5, 2) := by decide +kernel
theorem dX8_becomes_157 : decode cX8_becomes 157 = .ok (.bipush (-9), 2) := by decide +kernel
theorem dX8_becomes_159 : decode cX8_becomes 159 = .ok (.if_icmp .eq 9, 3) := by decide +kernel
theorem dX8_becomes_162 : decode cX8_becomes 162 = .ok (.iload 4, 2) := by decide +kernel
theorem dX8_becomes_164 : decode cX8_becomes 164 = .ok (.iconst (-1), 1) := by decide +kernel
theorem dX8_becomes_165 : decode cX8_becomes 165 = .ok (.if_icmp .ne 8, 3) := by decide +kernel
theorem dX8_becomes_168 : decode cX8_becomes 168 = .ok (.iload 5, 2) := by decide +kernel
theorem dX8_becomes_170 : decode cX8_becomes 170 = .ok (.goto 25, 3) := by decide +kernel
theorem dX8_becomes_173 : decode cX8_becomes 173 = .ok (.aload_n 0, 1) := by decide +kernel
theorem dX8_becomes_174 : decode cX8_becomes 174 = .ok (.getfield 56, 3) := by decide +kernel
theorem dX8_becomes_177 : decode cX8_becomes 177 = .ok (.iload 4, 2) := by decide +kernel
theorem dX8_becomes_179 : decode cX8_becomes 179 = .ok (.iaload, 1) := by decide +kernel
theorem dX8_becomes_180 : decode cX8_becomes 180 = .ok (.ifCond .ge 8, 3) := by decide +kernel
theorem dX8_becomes_183 : decode cX8_becomes 183 = .ok (.bipush (-5), 2) := by decide +kernel
theorem dX8_becomes_185 : decode cX8_becomes 185 = .ok (.goto 10, 3) := by decide +kernel
theorem dX8_becomes_188 : decode cX8_becomes 188 = .ok (.aload_n 0, 1) := by decide +kernel
theorem dX8_becomes_189 : decode cX8_becomes 189 = .ok (.getfield 56, 3) := by decide +kernel
theorem dX8_becomes_192 : decode cX8_becomes 192 = .ok (.iload 4, 2) := by decide +kernel
theorem dX8_becomes_194 : decode cX8_becomes 194 = .ok (.iaload, 1) := by decide +kernel
theorem dX8_becomes_195 : decode cX8_becomes 195 = .ok (.ireturn, 1) := by decide +kernel
theorem dX8_ages_0 : decode cX8_ages 0 = .ok (.iconst 0, 1) := by decide +kernel
theorem dX8_ages_1 : decode cX8_ages 1 = .ok (.istore_n 1, 1) := by decide +kernel
theorem dX8_ages_2 : decode cX8_ages 2 = .ok (.iconst 0, 1) := by decide +kernel
theorem dX8_ages_3 : decode cX8_ages 3 = .ok (.istore_n 2, 1) := by decide +kernel
theorem dX8_ages_4 : decode cX8_ages 4 = .ok (.iload_n 2, 1) := by decide +kernel
theorem dX8_ages_5 : decode cX8_ages 5 = .ok (.aload_n 0, 1) := by decide +kernel
theorem dX8_ages_6 : decode cX8_ages 6 = .ok (.getfield 59, 3) := by decide +kernel
theorem dX8_ages_9 : decode cX8_ages 9 = .ok (.if_icmp .ge 52, 3) := by decide +kernel
theorem dX8_ages_12 : decode cX8_ages 12 = .ok (.aload_n 0, 1) := by decide +kernel
theorem dX8_ages_13 : decode cX8_ages 13 = .ok (.getfield 50, 3) := by decide +kernel
theorem dX8_ages_16 : decode cX8_ages 16 = .ok (.iload_n 2, 1) := by decide +kernel
theorem dX8_ages_17 : decode cX8_ages 17 = .ok (.dup2, 1) := by decide +kernel
theorem dX8_ages_18 : decode cX8_ages 18 = .ok (.iaload, 1) := by decide +kernel
theorem dX8_ages_19 : decode cX8_ages 19 = .ok (.iconst 1, 1) := by decide +kernel
theorem dX8_ages_20 : decode cX8_ages 20 = .ok (.iadd, 1) := by decide +kernel
theorem dX8_ages_21 : decode cX8_ages 21 = .ok (.iastore, 1) := by decide +kernel
theorem dX8_ages_22 : decode cX8_ages 22 = .ok (.aload_n 0, 1) := by decide +kernel
theorem dX8_ages_23 : decode cX8_ages 23 = .ok (.getfield 50, 3) := by decide +kernel
theorem dX8_ages_26 : decode cX8_ages 26 = .ok (.iload_n 2, 1) := by decide +kernel
theorem dX8_ages_27 : decode cX8_ages 27 = .ok (.iaload, 1) := by decide +kernel
theorem dX8_ages_28 : decode cX8_ages 28 = .ok (.aload_n 0, 1) := by decide +kernel
theorem dX8_ages_29 : decode cX8_ages 29 = .ok (.getfield 16, 3) := by decide +kernel
theorem dX8_ages_32 : decode cX8_ages 32 = .ok (.iload_n 2, 1) := by decide +kernel
theorem dX8_ages_33 : decode cX8_ages 33 = .ok (.iaload, 1) := by decide +kernel
theorem dX8_ages_34 : decode cX8_ages 34 = .ok (.if_icmp .lt 21, 3) := by decide +kernel
theorem dX8_ages_37 : decode cX8_ages 37 = .ok (.aload_n 0, 1) := by decide +kernel
theorem dX8_ages_38 : decode cX8_ages 38 = .ok (.getfield 50, 3) := by decide +kernel
theorem dX8_ages_41 : decode cX8_ages 41 = .ok (.iload_n 2, 1) := by decide +kernel
theorem dX8_ages_42 : decode cX8_ages 42 = .ok (.iconst 0, 1) := by decide +kernel
theorem dX8_ages_43 : decode cX8_ages 43 = .ok (.iastore, 1) := by decide +kernel
theorem dX8_ages_44 : decode cX8_ages 44 = .ok (.aload_n 0, 1) := by decide +kernel
theorem dX8_ages_45 : decode cX8_ages 45 = .ok (.getfield 47, 3) := by decide +kernel
theorem dX8_ages_48 : decode cX8_ages 48 = .ok (.iload_n 2, 1) := by decide +kernel
theorem dX8_ages_49 : decode cX8_ages 49 = .ok (.bipush 9, 2) := by decide +kernel
theorem dX8_ages_51 : decode cX8_ages 51 = .ok (.iastore, 1) := by decide +kernel
theorem dX8_ages_52 : decode cX8_ages 52 = .ok (.iinc 1 1, 3) := by decide +kernel
theorem dX8_ages_55 : decode cX8_ages 55 = .ok (.iinc 2 1, 3) := by decide +kernel
theorem dX8_ages_58 : decode cX8_ages 58 = .ok (.goto (-54), 3) := by decide +kernel
theorem dX8_ages_61 : decode cX8_ages 61 = .ok (.iload_n 1, 1) := by decide +kernel
theorem dX8_ages_62 : decode cX8_ages 62 = .ok (.ireturn, 1) := by decide +kernel
theorem dX8_stays_0 : decode cX8_stays 0 = .ok (.aload_n 0, 1) := by decide +kernel
theorem dX8_stays_1 : decode cX8_stays 1 = .ok (.iconst 0, 1) := by decide +kernel
theorem dX8_stays_2 : decode cX8_stays 2 = .ok (.putfield 63, 3) := by decide +kernel
theorem dX8_stays_5 : decode cX8_stays 5 = .ok (.aload_n 0, 1) := by decide +kernel
theorem dX8_stays_6 : decode cX8_stays 6 = .ok (.iload_n 1, 1) := by decide +kernel
theorem dX8_stays_7 : decode cX8_stays 7 = .ok (.invokevirtual 156, 3) := by decide +kernel
theorem dX8_stays_10 : decode cX8_stays 10 = .ok (.ifCond .eq 10, 3) := by decide +kernel
theorem dX8_stays_13 : decode cX8_stays 13 = .ok (.iload_n 2, 1) := by decide +kernel
theorem dX8_stays_14 : decode cX8_stays 14 = .ok (.invokestatic 184, 3) := by decide +kernel
theorem dX8_stays_17 : decode cX8_stays 17 = .ok (.ifCond .ne 5, 3) := by decide +kernel
theorem dX8_stays_20 : decode cX8_stays 20 = .ok (.iconst (-1), 1) := by decide +kernel
theorem dX8_stays_21 : decode cX8_stays 21 = .ok (.ireturn, 1) := by decide +kernel
theorem dX8_stays_22 : decode cX8_stays 22 = .ok (.aload_n 0, 1) := by decide +kernel
theorem dX8_stays_23 : decode cX8_stays 23 = .ok (.iload_n 1, 1) := by decide +kernel
theorem dX8_stays_24 : decode cX8_stays 24 = .ok (.iload_n 2, 1) := by decide +kernel
theorem dX8_stays_25 : decode cX8_stays 25 = .ok (.invokevirtual 187, 3) := by decide +kernel
theorem dX8_stays_28 : decode cX8_stays 28 = .ok (.istore_n 3, 1) := by decide +kernel
theorem dX8_stays_29 : decode cX8_stays 29 = .ok (.iconst 1, 1) := by decide +kernel
theorem dX8_stays_30 : decode cX8_stays 30 = .ok (.istore 4, 2) := by decide +kernel
theorem dX8_stays_32 : decode cX8_stays 32 = .ok (.iload 4, 2) := by decide +kernel
theorem dX8_stays_34 : decode cX8_stays 34 = .ok (.bipush 41, 2) := by decide +kernel
theorem dX8_stays_36 : decode cX8_stays 36 = .ok (.if_icmp .ge 32, 3) := by decide +kernel
theorem dX8_stays_39 : decode cX8_stays 39 = .ok (.iload_n 3, 1) := by decide +kernel
theorem dX8_stays_40 : decode cX8_stays 40 = .ok (.bipush (-9), 2) := by decide +kernel
theorem dX8_stays_42 : decode cX8_stays 42 = .ok (.if_icmp .eq 26, 3) := by decide +kernel
theorem dX8_stays_45 : decode cX8_stays 45 = .ok (.aload_n 0, 1) := by decide +kernel
theorem dX8_stays_46 : decode cX8_stays 46 = .ok (.invokevirtual 217, 3) := by decide +kernel
theorem dX8_stays_49 : decode cX8_stays 49 = .ok (.pop, 1) := by decide +kernel
theorem dX8_stays_50 : decode cX8_stays 50 = .ok (.aload_n 0, 1) := by decide +kernel
theorem dX8_stays_51 : decode cX8_stays 51 = .ok (.iload_n 2, 1) := by decide +kernel
theorem dX8_stays_52 : decode cX8_stays 52 = .ok (.invokevirtual 181, 3) := by decide +kernel
theorem dX8_stays_55 : decode cX8_stays 55 = .ok (.iload_n 3, 1) := by decide +kernel
theorem dX8_stays_56 : decode cX8_stays 56 = .ok (.if_icmp .eq 6, 3) := by decide +kernel
theorem dX8_stays_59 : decode cX8_stays 59 = .ok (.iload 4, 2) := by decide +kernel
theorem dX8_stays_61 : decode cX8_stays 61 = .ok (.ireturn, 1) := by decide +kernel
theorem dX8_stays_62 : decode cX8_stays 62 = .ok (.iinc 4 1, 3) := by decide +kernel
theorem dX8_stays_65 : decode cX8_stays 65 = .ok (.goto (-33), 3) := by decide +kernel
theorem dX8_stays_68 : decode cX8_stays 68 = .ok (.bipush (-9), 2) := by decide +kernel
theorem dX8_stays_70 : decode cX8_stays 70 = .ok (.ireturn, 1) := by decide +kernel
theorem dX8_gcd_0 : decode cX8_gcd 0 = .ok (.lload_n 0, 1) := by decide +kernel
theorem dX8_gcd_1 : decode cX8_gcd 1 = .ok (.lstore 4, 2) := by decide +kernel
theorem dX8_gcd_3 : decode cX8_gcd 3 = .ok (.lload_n 2, 1) := by decide +kernel
theorem dX8_gcd_4 : decode cX8_gcd 4 = .ok (.lstore 6, 2) := by decide +kernel
theorem dX8_gcd_6 : decode cX8_gcd 6 = .ok (.lload 6, 2) := by decide +kernel
theorem dX8_gcd_8 : decode cX8_gcd 8 = .ok (.lconst 0, 1) := by decide +kernel
theorem dX8_gcd_9 : decode cX8_gcd 9 = .ok (.lcmp, 1) := by decide +kernel
theorem dX8_gcd_10 : decode cX8_gcd 10 = .ok (.ifCond .eq 21, 3) := by decide +kernel
theorem dX8_gcd_13 : decode cX8_gcd 13 = .ok (.lload 4, 2) := by decide +kernel
theorem dX8_gcd_15 : decode cX8_gcd 15 = .ok (.lload 6, 2) := by decide +kernel
theorem dX8_gcd_17 : decode cX8_gcd 17 = .ok (.lrem, 1) := by decide +kernel
theorem dX8_gcd_18 : decode cX8_gcd 18 = .ok (.lstore 8, 2) := by decide +kernel
theorem dX8_gcd_20 : decode cX8_gcd 20 = .ok (.lload 6, 2) := by decide +kernel
theorem dX8_gcd_22 : decode cX8_gcd 22 = .ok (.lstore 4, 2) := by decide +kernel
theorem dX8_gcd_24 : decode cX8_gcd 24 = .ok (.lload 8, 2) := by decide +kernel
theorem dX8_gcd_26 : decode cX8_gcd 26 = .ok (.lstore 6, 2) := by decide +kernel
theorem dX8_gcd_28 : decode cX8_gcd 28 = .ok (.goto (-22), 3) := by decide +kernel
theorem dX8_gcd_31 : decode cX8_gcd 31 = .ok (.lload 4, 2) := by decide +kernel
theorem dX8_gcd_33 : decode cX8_gcd 33 = .ok (.lreturn, 1) := by decide +kernel
theorem dX8_share_0 : decode cX8_share 0 = .ok (.aload_n 0, 1) := by decide +kernel
theorem dX8_share_1 : decode cX8_share 1 = .ok (.iconst 0, 1) := by decide +kernel
theorem dX8_share_2 : decode cX8_share 2 = .ok (.putfield 63, 3) := by decide +kernel
theorem dX8_share_5 : decode cX8_share 5 = .ok (.aload_n 0, 1) := by decide +kernel
theorem dX8_share_6 : decode cX8_share 6 = .ok (.iload_n 1, 1) := by decide +kernel
theorem dX8_share_7 : decode cX8_share 7 = .ok (.invokevirtual 156, 3) := by decide +kernel
theorem dX8_share_10 : decode cX8_share 10 = .ok (.ifCond .eq 19, 3) := by decide +kernel
theorem dX8_share_13 : decode cX8_share 13 = .ok (.iload_n 2, 1) := by decide +kernel
theorem dX8_share_14 : decode cX8_share 14 = .ok (.invokestatic 120, 3) := by decide +kernel
theorem dX8_share_17 : decode cX8_share 17 = .ok (.ifCond .eq 12, 3) := by decide +kernel
theorem dX8_share_20 : decode cX8_share 20 = .ok (.iload_n 3, 1) := by decide +kernel
theorem dX8_share_21 : decode cX8_share 21 = .ok (.iconst 0, 1) := by decide +kernel
theorem dX8_share_22 : decode cX8_share 22 = .ok (.iconst 1, 1) := by decide +kernel
theorem dX8_share_23 : decode cX8_share 23 = .ok (.invokestatic 66, 3) := by decide +kernel
theorem dX8_share_26 : decode cX8_share 26 = .ok (.ifCond .ne 5, 3) := by decide +kernel
theorem dX8_share_29 : decode cX8_share 29 = .ok (.iconst (-1), 1) := by decide +kernel
theorem dX8_share_30 : decode cX8_share 30 = .ok (.ireturn, 1) := by decide +kernel
theorem dX8_share_31 : decode cX8_share 31 = .ok (.aload_n 0, 1) := by decide +kernel
theorem dX8_share_32 : decode cX8_share 32 = .ok (.iload_n 1, 1) := by decide +kernel
theorem dX8_share_33 : decode cX8_share 33 = .ok (.invokevirtual 178, 3) := by decide +kernel
theorem dX8_share_36 : decode cX8_share 36 = .ok (.aload_n 0, 1) := by decide +kernel
theorem dX8_share_37 : decode cX8_share 37 = .ok (.iload_n 2, 1) := by decide +kernel
theorem dX8_share_38 : decode cX8_share 38 = .ok (.invokevirtual 162, 3) := by decide +kernel
theorem dX8_share_41 : decode cX8_share 41 = .ok (.istore 4, 2) := by decide +kernel
theorem dX8_share_43 : decode cX8_share 43 = .ok (.aload_n 0, 1) := by decide +kernel
theorem dX8_share_44 : decode cX8_share 44 = .ok (.invokevirtual 169, 3) := by decide +kernel
theorem dX8_share_47 : decode cX8_share 47 = .ok (.istore 5, 2) := by decide +kernel
theorem dX8_share_49 : decode cX8_share 49 = .ok (.iload 4, 2) := by decide +kernel
theorem dX8_share_51 : decode cX8_share 51 = .ok (.i2l, 1) := by decide +kernel
theorem dX8_share_52 : decode cX8_share 52 = .ok (.iload 5, 2) := by decide +kernel
theorem dX8_share_54 : decode cX8_share 54 = .ok (.i2l, 1) := by decide +kernel
theorem dX8_share_55 : decode cX8_share 55 = .ok (.invokestatic 220, 3) := by decide +kernel
theorem dX8_share_58 : decode cX8_share 58 = .ok (.l2i, 1) := by decide +kernel
theorem dX8_share_59 : decode cX8_share 59 = .ok (.istore 6, 2) := by decide +kernel
theorem dX8_share_61 : decode cX8_share 61 = .ok (.iload_n 3, 1) := by decide +kernel
theorem dX8_share_62 : decode cX8_share 62 = .ok (.ifCond .ne 11, 3) := by decide +kernel
theorem dX8_share_65 : decode cX8_share 65 = .ok (.iload 4, 2) := by decide +kernel
theorem dX8_share_67 : decode cX8_share 67 = .ok (.iload 6, 2) := by decide +kernel
theorem dX8_share_69 : decode cX8_share 69 = .ok (.idiv, 1) := by decide +kernel
theorem dX8_share_70 : decode cX8_share 70 = .ok (.goto 8, 3) := by decide +kernel
theorem dX8_share_73 : decode cX8_share 73 = .ok (.iload 5, 2) := by decide +kernel
theorem dX8_share_75 : decode cX8_share 75 = .ok (.iload 6, 2) := by decide +kernel
theorem dX8_share_77 : decode cX8_share 77 = .ok (.idiv, 1) := by decide +kernel
theorem dX8_share_78 : decode cX8_share 78 = .ok (.ireturn, 1) := by decide +kernel
theorem dX8_decides_0 : decode cX8_decides 0 = .ok (.aload_n 0, 1) := by decide +kernel
theorem dX8_decides_1 : decode cX8_decides 1 = .ok (.iconst 0, 1) := by decide +kernel
theorem dX8_decides_2 : decode cX8_decides 2 = .ok (.putfield 63, 3) := by decide +kernel
theorem dX8_decides_5 : decode cX8_decides 5 = .ok (.aload_n 0, 1) := by decide +kernel
theorem dX8_decides_6 : decode cX8_decides 6 = .ok (.iload_n 1, 1) := by decide +kernel
theorem dX8_decides_7 : decode cX8_decides 7 = .ok (.invokevirtual 156, 3) := by decide +kernel
theorem dX8_decides_10 : decode cX8_decides 10 = .ok (.ifCond .eq 10, 3) := by decide +kernel
theorem dX8_decides_13 : decode cX8_decides 13 = .ok (.iload_n 2, 1) := by decide +kernel
theorem dX8_decides_14 : decode cX8_decides 14 = .ok (.invokestatic 184, 3) := by decide +kernel
theorem dX8_decides_17 : decode cX8_decides 17 = .ok (.ifCond .ne 5, 3) := by decide +kernel
theorem dX8_decides_20 : decode cX8_decides 20 = .ok (.iconst (-1), 1) := by decide +kernel
theorem dX8_decides_21 : decode cX8_decides 21 = .ok (.ireturn, 1) := by decide +kernel
theorem dX8_decides_22 : decode cX8_decides 22 = .ok (.aload_n 0, 1) := by decide +kernel
theorem dX8_decides_23 : decode cX8_decides 23 = .ok (.iload_n 1, 1) := by decide +kernel
theorem dX8_decides_24 : decode cX8_decides 24 = .ok (.iload_n 2, 1) := by decide +kernel
theorem dX8_decides_25 : decode cX8_decides 25 = .ok (.invokevirtual 187, 3) := by decide +kernel
theorem dX8_decides_28 : decode cX8_decides 28 = .ok (.istore_n 3, 1) := by decide +kernel
theorem dX8_decides_29 : decode cX8_decides 29 = .ok (.iconst 0, 1) := by decide +kernel
theorem dX8_decides_30 : decode cX8_decides 30 = .ok (.istore 4, 2) := by decide +kernel
theorem dX8_decides_32 : decode cX8_decides 32 = .ok (.iconst 0, 1) := by decide +kernel
theorem dX8_decides_33 : decode cX8_decides 33 = .ok (.istore 5, 2) := by decide +kernel
theorem dX8_decides_35 : decode cX8_decides 35 = .ok (.iload 5, 2) := by decide +kernel
theorem dX8_decides_37 : decode cX8_decides 37 = .ok (.aload_n 0, 1) := by decide +kernel
theorem dX8_decides_38 : decode cX8_decides 38 = .ok (.getfield 59, 3) := by decide +kernel
theorem dX8_decides_41 : decode cX8_decides 41 = .ok (.if_icmp .ge 53, 3) := by decide +kernel
theorem dX8_decides_44 : decode cX8_decides 44 = .ok (.aload_n 0, 1) := by decide +kernel
theorem dX8_decides_45 : decode cX8_decides 45 = .ok (.iload_n 1, 1) := by decide +kernel
theorem dX8_decides_46 : decode cX8_decides 46 = .ok (.invokevirtual 178, 3) := by decide +kernel
theorem dX8_decides_49 : decode cX8_decides 49 = .ok (.aload_n 0, 1) := by decide +kernel
theorem dX8_decides_50 : decode cX8_decides 50 = .ok (.getfield 47, 3) := by decide +kernel
theorem dX8_decides_53 : decode cX8_decides 53 = .ok (.iload 5, 2) := by decide +kernel
theorem dX8_decides_55 : decode cX8_decides 55 = .ok (.bipush 9, 2) := by decide +kernel
theorem dX8_decides_57 : decode cX8_decides 57 = .ok (.iastore, 1) := by decide +kernel
theorem dX8_decides_58 : decode cX8_decides 58 = .ok (.aload_n 0, 1) := by decide +kernel
theorem dX8_decides_59 : decode cX8_decides 59 = .ok (.getfield 50, 3) := by decide +kernel
theorem dX8_decides_62 : decode cX8_decides 62 = .ok (.iload 5, 2) := by decide +kernel
theorem dX8_decides_64 : decode cX8_decides 64 = .ok (.iconst 0, 1) := by decide +kernel
theorem dX8_decides_65 : decode cX8_decides 65 = .ok (.iastore, 1) := by decide +kernel
theorem dX8_decides_66 : decode cX8_decides 66 = .ok (.iload 4, 2) := by decide +kernel
theorem dX8_decides_68 : decode cX8_decides 68 = .ok (.aload_n 0, 1) := by decide +kernel
theorem dX8_decides_69 : decode cX8_decides 69 = .ok (.iload_n 2, 1) := by decide +kernel
theorem dX8_decides_70 : decode cX8_decides 70 = .ok (.invokevirtual 181, 3) := by decide +kernel
theorem dX8_decides_73 : decode cX8_decides 73 = .ok (.iload_n 3, 1) := by decide +kernel
theorem dX8_decides_74 : decode cX8_decides 74 = .ok (.if_icmp .eq 10, 3) := by decide +kernel
theorem dX8_decides_77 : decode cX8_decides 77 = .ok (.iconst 1, 1) := by decide +kernel
theorem dX8_decides_78 : decode cX8_decides 78 = .ok (.iload 5, 2) := by decide +kernel
theorem dX8_decides_80 : decode cX8_decides 80 = .ok (.ishl, 1) := by decide +kernel
theorem dX8_decides_81 : decode cX8_decides 81 = .ok (.goto 4, 3) := by decide +kernel
theorem dX8_decides_84 : decode cX8_decides 84 = .ok (.iconst 0, 1) := by decide +kernel
theorem dX8_decides_85 : decode cX8_decides 85 = .ok (.ior, 1) := by decide +kernel
theorem dX8_decides_86 : decode cX8_decides 86 = .ok (.istore 4, 2) := by decide +kernel
theorem dX8_decides_88 : decode cX8_decides 88 = .ok (.iinc 5 1, 3) := by decide +kernel
theorem dX8_decides_91 : decode cX8_decides 91 = .ok (.goto (-56), 3) := by decide +kernel
theorem dX8_decides_94 : decode cX8_decides 94 = .ok (.iload 4, 2) := by decide +kernel
theorem dX8_decides_96 : decode cX8_decides 96 = .ok (.ireturn, 1) := by decide +kernel
theorem dX8_thief_0 : decode cX8_thief 0 = .ok (.aload_n 0, 1) := by decide +kernel
theorem dX8_thief_1 : decode cX8_thief 1 = .ok (.iconst 0, 1) := by decide +kernel
theorem dX8_thief_2 : decode cX8_thief 2 = .ok (.putfield 63, 3) := by decide +kernel
theorem dX8_thief_5 : decode cX8_thief 5 = .ok (.aload_n 0, 1) := by decide +kernel
theorem dX8_thief_6 : decode cX8_thief 6 = .ok (.iload_n 1, 1) := by decide +kernel
theorem dX8_thief_7 : decode cX8_thief 7 = .ok (.invokevirtual 156, 3) := by decide +kernel
theorem dX8_thief_10 : decode cX8_thief 10 = .ok (.ifCond .eq 19, 3) := by decide +kernel
theorem dX8_thief_13 : decode cX8_thief 13 = .ok (.iload_n 2, 1) := by decide +kernel
theorem dX8_thief_14 : decode cX8_thief 14 = .ok (.invokestatic 184, 3) := by decide +kernel
theorem dX8_thief_17 : decode cX8_thief 17 = .ok (.ifCond .eq 12, 3) := by decide +kernel
theorem dX8_thief_20 : decode cX8_thief 20 = .ok (.iload_n 3, 1) := by decide +kernel
theorem dX8_thief_21 : decode cX8_thief 21 = .ok (.iconst 0, 1) := by decide +kernel
theorem dX8_thief_22 : decode cX8_thief 22 = .ok (.iconst 1, 1) := by decide +kernel
theorem dX8_thief_23 : decode cX8_thief 23 = .ok (.invokestatic 66, 3) := by decide +kernel
theorem dX8_thief_26 : decode cX8_thief 26 = .ok (.ifCond .ne 7, 3) := by decide +kernel
theorem dX8_thief_29 : decode cX8_thief 29 = .ok (.ldc2_w 224, 3) := by decide +kernel
theorem dX8_thief_32 : decode cX8_thief 32 = .ok (.lreturn, 1) := by decide +kernel
theorem dX8_thief_33 : decode cX8_thief 33 = .ok (.aload_n 0, 1) := by decide +kernel
theorem dX8_thief_34 : decode cX8_thief 34 = .ok (.iload_n 1, 1) := by decide +kernel
theorem dX8_thief_35 : decode cX8_thief 35 = .ok (.iload_n 2, 1) := by decide +kernel
theorem dX8_thief_36 : decode cX8_thief 36 = .ok (.invokevirtual 187, 3) := by decide +kernel
theorem dX8_thief_39 : decode cX8_thief 39 = .ok (.istore 4, 2) := by decide +kernel
theorem dX8_thief_41 : decode cX8_thief 41 = .ok (.lconst 0, 1) := by decide +kernel
theorem dX8_thief_42 : decode cX8_thief 42 = .ok (.lstore 5, 2) := by decide +kernel
theorem dX8_thief_44 : decode cX8_thief 44 = .ok (.lconst 1, 1) := by decide +kernel
theorem dX8_thief_45 : decode cX8_thief 45 = .ok (.lstore 7, 2) := by decide +kernel
theorem dX8_thief_47 : decode cX8_thief 47 = .ok (.iconst 0, 1) := by decide +kernel
theorem dX8_thief_48 : decode cX8_thief 48 = .ok (.istore 9, 2) := by decide +kernel
theorem dX8_thief_50 : decode cX8_thief 50 = .ok (.iload 9, 2) := by decide +kernel
theorem dX8_thief_52 : decode cX8_thief 52 = .ok (.aload_n 0, 1) := by decide +kernel
theorem dX8_thief_53 : decode cX8_thief 53 = .ok (.getfield 59, 3) := by decide +kernel
theorem dX8_thief_56 : decode cX8_thief 56 = .ok (.if_icmp .ge 172, 3) := by decide +kernel
theorem dX8_thief_59 : decode cX8_thief 59 = .ok (.aload_n 0, 1) := by decide +kernel
theorem dX8_thief_60 : decode cX8_thief 60 = .ok (.iload 9, 2) := by decide +kernel
theorem dX8_thief_62 : decode cX8_thief 62 = .ok (.invokevirtual 147, 3) := by decide +kernel
theorem dX8_thief_65 : decode cX8_thief 65 = .ok (.istore 10, 2) := by decide +kernel
theorem dX8_thief_67 : decode cX8_thief 67 = .ok (.iload 10, 2) := by decide +kernel
theorem dX8_thief_69 : decode cX8_thief 69 = .ok (.ifCond .ne 7, 3) := by decide +kernel
theorem dX8_thief_72 : decode cX8_thief 72 = .ok (.iconst 1, 1) := by decide +kernel
theorem dX8_thief_73 : decode cX8_thief 73 = .ok (.goto 4, 3) := by decide +kernel
theorem dX8_thief_76 : decode cX8_thief 76 = .ok (.iconst 0, 1) := by decide +kernel
theorem dX8_thief_77 : decode cX8_thief 77 = .ok (.istore 11, 2) := by decide +kernel
theorem dX8_thief_79 : decode cX8_thief 79 = .ok (.aload_n 0, 1) := by decide +kernel
theorem dX8_thief_80 : decode cX8_thief 80 = .ok (.iload 9, 2) := by decide +kernel
theorem dX8_thief_82 : decode cX8_thief 82 = .ok (.iconst (-1), 1) := by decide +kernel
theorem dX8_thief_83 : decode cX8_thief 83 = .ok (.invokevirtual 208, 3) := by decide +kernel
theorem dX8_thief_86 : decode cX8_thief 86 = .ok (.istore 12, 2) := by decide +kernel
theorem dX8_thief_88 : decode cX8_thief 88 = .ok (.iload 12, 2) := by decide +kernel
theorem dX8_thief_90 : decode cX8_thief 90 = .ok (.bipush (-9), 2) := by decide +kernel
theorem dX8_thief_92 : decode cX8_thief 92 = .ok (.if_icmp .eq 72, 3) := by decide +kernel
theorem dX8_thief_95 : decode cX8_thief 95 = .ok (.aload_n 0, 1) := by decide +kernel
theorem dX8_thief_96 : decode cX8_thief 96 = .ok (.iload_n 1, 1) := by decide +kernel
theorem dX8_thief_97 : decode cX8_thief 97 = .ok (.invokevirtual 178, 3) := by decide +kernel
theorem dX8_thief_100 : decode cX8_thief 100 = .ok (.aload_n 0, 1) := by decide +kernel
theorem dX8_thief_101 : decode cX8_thief 101 = .ok (.getfield 47, 3) := by decide +kernel
theorem dX8_thief_104 : decode cX8_thief 104 = .ok (.iload 9, 2) := by decide +kernel
theorem dX8_thief_106 : decode cX8_thief 106 = .ok (.aload_n 0, 1) := by decide +kernel
theorem dX8_thief_107 : decode cX8_thief 107 = .ok (.getfield 25, 3) := by decide +kernel
theorem dX8_thief_110 : decode cX8_thief 110 = .ok (.iload 12, 2) := by decide +kernel
theorem dX8_thief_112 : decode cX8_thief 112 = .ok (.iaload, 1) := by decide +kernel
theorem dX8_thief_113 : decode cX8_thief 113 = .ok (.iastore, 1) := by decide +kernel
theorem dX8_thief_114 : decode cX8_thief 114 = .ok (.aload_n 0, 1) := by decide +kernel
theorem dX8_thief_115 : decode cX8_thief 115 = .ok (.getfield 50, 3) := by decide +kernel
theorem dX8_thief_118 : decode cX8_thief 118 = .ok (.iload 9, 2) := by decide +kernel
theorem dX8_thief_120 : decode cX8_thief 120 = .ok (.aload_n 0, 1) := by decide +kernel
theorem dX8_thief_121 : decode cX8_thief 121 = .ok (.getfield 28, 3) := by decide +kernel
theorem dX8_thief_124 : decode cX8_thief 124 = .ok (.bipush 51, 2) := by decide +kernel
theorem dX8_thief_126 : decode cX8_thief 126 = .ok (.iload 12, 2) := by decide +kernel
theorem dX8_thief_128 : decode cX8_thief 128 = .ok (.iadd, 1) := by decide +kernel
theorem dX8_thief_129 : decode cX8_thief 129 = .ok (.iaload, 1) := by decide +kernel
theorem dX8_thief_130 : decode cX8_thief 130 = .ok (.iastore, 1) := by decide +kernel
theorem dX8_thief_131 : decode cX8_thief 131 = .ok (.iload 11, 2) := by decide +kernel
theorem dX8_thief_133 : decode cX8_thief 133 = .ok (.aload_n 0, 1) := by decide +kernel
theorem dX8_thief_134 : decode cX8_thief 134 = .ok (.iload_n 2, 1) := by decide +kernel
theorem dX8_thief_135 : decode cX8_thief 135 = .ok (.invokevirtual 181, 3) := by decide +kernel
theorem dX8_thief_138 : decode cX8_thief 138 = .ok (.iload 4, 2) := by decide +kernel
theorem dX8_thief_140 : decode cX8_thief 140 = .ok (.if_icmp .ne 7, 3) := by decide +kernel
theorem dX8_thief_143 : decode cX8_thief 143 = .ok (.iconst 1, 1) := by decide +kernel
theorem dX8_thief_144 : decode cX8_thief 144 = .ok (.goto 4, 3) := by decide +kernel
theorem dX8_thief_147 : decode cX8_thief 147 = .ok (.iconst 0, 1) := by decide +kernel
theorem dX8_thief_148 : decode cX8_thief 148 = .ok (.iadd, 1) := by decide +kernel
theorem dX8_thief_149 : decode cX8_thief 149 = .ok (.istore 11, 2) := by decide +kernel
theorem dX8_thief_151 : decode cX8_thief 151 = .ok (.aload_n 0, 1) := by decide +kernel
theorem dX8_thief_152 : decode cX8_thief 152 = .ok (.iload 9, 2) := by decide +kernel
theorem dX8_thief_154 : decode cX8_thief 154 = .ok (.iload 12, 2) := by decide +kernel
theorem dX8_thief_156 : decode cX8_thief 156 = .ok (.invokevirtual 208, 3) := by decide +kernel
theorem dX8_thief_159 : decode cX8_thief 159 = .ok (.istore 12, 2) := by decide +kernel
theorem dX8_thief_161 : decode cX8_thief 161 = .ok (.goto (-73), 3) := by decide +kernel
theorem dX8_thief_164 : decode cX8_thief 164 = .ok (.iload 10, 2) := by decide +kernel
theorem dX8_thief_166 : decode cX8_thief 166 = .ok (.ifCond .ne 7, 3) := by decide +kernel
theorem dX8_thief_169 : decode cX8_thief 169 = .ok (.lconst 1, 1) := by decide +kernel
theorem dX8_thief_170 : decode cX8_thief 170 = .ok (.goto 6, 3) := by decide +kernel
theorem dX8_thief_173 : decode cX8_thief 173 = .ok (.iload 10, 2) := by decide +kernel
theorem dX8_thief_175 : decode cX8_thief 175 = .ok (.i2l, 1) := by decide +kernel
theorem dX8_thief_176 : decode cX8_thief 176 = .ok (.lstore 12, 2) := by decide +kernel
theorem dX8_thief_178 : decode cX8_thief 178 = .ok (.lload 5, 2) := by decide +kernel
theorem dX8_thief_180 : decode cX8_thief 180 = .ok (.lload 12, 2) := by decide +kernel
theorem dX8_thief_182 : decode cX8_thief 182 = .ok (.lmul, 1) := by decide +kernel
theorem dX8_thief_183 : decode cX8_thief 183 = .ok (.iload 11, 2) := by decide +kernel
theorem dX8_thief_185 : decode cX8_thief 185 = .ok (.i2l, 1) := by decide +kernel
theorem dX8_thief_186 : decode cX8_thief 186 = .ok (.lload 7, 2) := by decide +kernel
theorem dX8_thief_188 : decode cX8_thief 188 = .ok (.lmul, 1) := by decide +kernel
theorem dX8_thief_189 : decode cX8_thief 189 = .ok (.ladd, 1) := by decide +kernel
theorem dX8_thief_190 : decode cX8_thief 190 = .ok (.lstore 5, 2) := by decide +kernel
theorem dX8_thief_192 : decode cX8_thief 192 = .ok (.lload 7, 2) := by decide +kernel
theorem dX8_thief_194 : decode cX8_thief 194 = .ok (.lload 12, 2) := by decide +kernel
theorem dX8_thief_196 : decode cX8_thief 196 = .ok (.lmul, 1) := by decide +kernel
theorem dX8_thief_197 : decode cX8_thief 197 = .ok (.lstore 7, 2) := by decide +kernel
theorem dX8_thief_199 : decode cX8_thief 199 = .ok (.lload 5, 2) := by decide +kernel
theorem dX8_thief_201 : decode cX8_thief 201 = .ok (.lload 7, 2) := by decide +kernel
theorem dX8_thief_203 : decode cX8_thief 203 = .ok (.invokestatic 220, 3) := by decide +kernel
theorem dX8_thief_206 : decode cX8_thief 206 = .ok (.lstore 14, 2) := by decide +kernel
theorem dX8_thief_208 : decode cX8_thief 208 = .ok (.lload 5, 2) := by decide +kernel
theorem dX8_thief_210 : decode cX8_thief 210 = .ok (.lload 14, 2) := by decide +kernel
theorem dX8_thief_212 : decode cX8_thief 212 = .ok (.ldiv, 1) := by decide +kernel
theorem dX8_thief_213 : decode cX8_thief 213 = .ok (.lstore 5, 2) := by decide +kernel
theorem dX8_thief_215 : decode cX8_thief 215 = .ok (.lload 7, 2) := by decide +kernel
theorem dX8_thief_217 : decode cX8_thief 217 = .ok (.lload 14, 2) := by decide +kernel
theorem dX8_thief_219 : decode cX8_thief 219 = .ok (.ldiv, 1) := by decide +kernel
theorem dX8_thief_220 : decode cX8_thief 220 = .ok (.lstore 7, 2) := by decide +kernel
theorem dX8_thief_222 : decode cX8_thief 222 = .ok (.iinc 9 1, 3) := by decide +kernel
theorem dX8_thief_225 : decode cX8_thief 225 = .ok (.goto (-175), 3) := by decide +kernel
theorem dX8_thief_228 : decode cX8_thief 228 = .ok (.lload 7, 2) := by decide +kernel
theorem dX8_thief_230 : decode cX8_thief 230 = .ok (.aload_n 0, 1) := by decide +kernel
theorem dX8_thief_231 : decode cX8_thief 231 = .ok (.getfield 59, 3) := by decide +kernel
theorem dX8_thief_234 : decode cX8_thief 234 = .ok (.i2l, 1) := by decide +kernel
theorem dX8_thief_235 : decode cX8_thief 235 = .ok (.lmul, 1) := by decide +kernel
theorem dX8_thief_236 : decode cX8_thief 236 = .ok (.lstore 7, 2) := by decide +kernel
theorem dX8_thief_238 : decode cX8_thief 238 = .ok (.lload 5, 2) := by decide +kernel
theorem dX8_thief_240 : decode cX8_thief 240 = .ok (.lload 7, 2) := by decide +kernel
theorem dX8_thief_242 : decode cX8_thief 242 = .ok (.invokestatic 220, 3) := by decide +kernel
theorem dX8_thief_245 : decode cX8_thief 245 = .ok (.lstore 9, 2) := by decide +kernel
theorem dX8_thief_247 : decode cX8_thief 247 = .ok (.iload_n 3, 1) := by decide +kernel
theorem dX8_thief_248 : decode cX8_thief 248 = .ok (.ifCond .ne 11, 3) := by decide +kernel
theorem dX8_thief_251 : decode cX8_thief 251 = .ok (.lload 5, 2) := by decide +kernel
theorem dX8_thief_253 : decode cX8_thief 253 = .ok (.lload 9, 2) := by decide +kernel
theorem dX8_thief_255 : decode cX8_thief 255 = .ok (.ldiv, 1) := by decide +kernel
theorem dX8_thief_256 : decode cX8_thief 256 = .ok (.goto 8, 3) := by decide +kernel
theorem dX8_thief_259 : decode cX8_thief 259 = .ok (.lload 7, 2) := by decide +kernel
theorem dX8_thief_261 : decode cX8_thief 261 = .ok (.lload 9, 2) := by decide +kernel
theorem dX8_thief_263 : decode cX8_thief 263 = .ok (.ldiv, 1) := by decide +kernel
theorem dX8_thief_264 : decode cX8_thief 264 = .ok (.lreturn, 1) := by decide +kernel
theorem dX8_saw_0 : decode cX8_saw 0 = .ok (.aload_n 0, 1) := by decide +kernel
theorem dX8_saw_1 : decode cX8_saw 1 = .ok (.iconst 0, 1) := by decide +kernel
theorem dX8_saw_2 : decode cX8_saw 2 = .ok (.putfield 63, 3) := by decide +kernel
theorem dX8_saw_5 : decode cX8_saw 5 = .ok (.aload_n 0, 1) := by decide +kernel
theorem dX8_saw_6 : decode cX8_saw 6 = .ok (.iload_n 1, 1) := by decide +kernel
theorem dX8_saw_7 : decode cX8_saw 7 = .ok (.invokevirtual 150, 3) := by decide +kernel
theorem dX8_saw_10 : decode cX8_saw 10 = .ok (.ifCond .eq 10, 3) := by decide +kernel
theorem dX8_saw_13 : decode cX8_saw 13 = .ok (.iload_n 2, 1) := by decide +kernel
theorem dX8_saw_14 : decode cX8_saw 14 = .ok (.invokestatic 120, 3) := by decide +kernel
theorem dX8_saw_17 : decode cX8_saw 17 = .ok (.ifCond .ne 5, 3) := by decide +kernel
theorem dX8_saw_20 : decode cX8_saw 20 = .ok (.iconst (-1), 1) := by decide +kernel
theorem dX8_saw_21 : decode cX8_saw 21 = .ok (.ireturn, 1) := by decide +kernel
theorem dX8_saw_22 : decode cX8_saw 22 = .ok (.aload_n 0, 1) := by decide +kernel
theorem dX8_saw_23 : decode cX8_saw 23 = .ok (.getfield 140, 3) := by decide +kernel
theorem dX8_saw_26 : decode cX8_saw 26 = .ok (.bipush 6, 2) := by decide +kernel
theorem dX8_saw_28 : decode cX8_saw 28 = .ok (.if_icmp .ne 6, 3) := by decide +kernel
theorem dX8_saw_31 : decode cX8_saw 31 = .ok (.bipush (-3), 2) := by decide +kernel
theorem dX8_saw_33 : decode cX8_saw 33 = .ok (.ireturn, 1) := by decide +kernel
theorem dX8_saw_34 : decode cX8_saw 34 = .ok (.aload_n 0, 1) := by decide +kernel
theorem dX8_saw_35 : decode cX8_saw 35 = .ok (.getfield 41, 3) := by decide +kernel
theorem dX8_saw_38 : decode cX8_saw 38 = .ok (.aload_n 0, 1) := by decide +kernel
theorem dX8_saw_39 : decode cX8_saw 39 = .ok (.getfield 140, 3) := by decide +kernel
theorem dX8_saw_42 : decode cX8_saw 42 = .ok (.iload_n 1, 1) := by decide +kernel
theorem dX8_saw_43 : decode cX8_saw 43 = .ok (.iastore, 1) := by decide +kernel
theorem dX8_saw_44 : decode cX8_saw 44 = .ok (.aload_n 0, 1) := by decide +kernel
theorem dX8_saw_45 : decode cX8_saw 45 = .ok (.getfield 44, 3) := by decide +kernel
theorem dX8_saw_48 : decode cX8_saw 48 = .ok (.aload_n 0, 1) := by decide +kernel
theorem dX8_saw_49 : decode cX8_saw 49 = .ok (.getfield 140, 3) := by decide +kernel
theorem dX8_saw_52 : decode cX8_saw 52 = .ok (.iload_n 2, 1) := by decide +kernel
theorem dX8_saw_53 : decode cX8_saw 53 = .ok (.iastore, 1) := by decide +kernel
theorem dX8_saw_54 : decode cX8_saw 54 = .ok (.aload_n 0, 1) := by decide +kernel
theorem dX8_saw_55 : decode cX8_saw 55 = .ok (.dup, 1) := by decide +kernel
theorem dX8_saw_56 : decode cX8_saw 56 = .ok (.getfield 140, 3) := by decide +kernel
theorem dX8_saw_59 : decode cX8_saw 59 = .ok (.iconst 1, 1) := by decide +kernel
theorem dX8_saw_60 : decode cX8_saw 60 = .ok (.iadd, 1) := by decide +kernel
theorem dX8_saw_61 : decode cX8_saw 61 = .ok (.putfield 140, 3) := by decide +kernel
theorem dX8_saw_64 : decode cX8_saw 64 = .ok (.aload_n 0, 1) := by decide +kernel
theorem dX8_saw_65 : decode cX8_saw 65 = .ok (.getfield 140, 3) := by decide +kernel
theorem dX8_saw_68 : decode cX8_saw 68 = .ok (.ireturn, 1) := by decide +kernel
theorem dX8_forget_0 : decode cX8_forget 0 = .ok (.aload_n 0, 1) := by decide +kernel
theorem dX8_forget_1 : decode cX8_forget 1 = .ok (.iconst 0, 1) := by decide +kernel
theorem dX8_forget_2 : decode cX8_forget 2 = .ok (.putfield 63, 3) := by decide +kernel
theorem dX8_forget_5 : decode cX8_forget 5 = .ok (.aload_n 0, 1) := by decide +kernel
theorem dX8_forget_6 : decode cX8_forget 6 = .ok (.getfield 140, 3) := by decide +kernel
theorem dX8_forget_9 : decode cX8_forget 9 = .ok (.istore_n 1, 1) := by decide +kernel
theorem dX8_forget_10 : decode cX8_forget 10 = .ok (.aload_n 0, 1) := by decide +kernel
theorem dX8_forget_11 : decode cX8_forget 11 = .ok (.iconst 0, 1) := by decide +kernel
theorem dX8_forget_12 : decode cX8_forget 12 = .ok (.putfield 140, 3) := by decide +kernel
theorem dX8_forget_15 : decode cX8_forget 15 = .ok (.iload_n 1, 1) := by decide +kernel
theorem dX8_forget_16 : decode cX8_forget 16 = .ok (.ireturn, 1) := by decide +kernel
theorem dX8_makeIn_0 : decode cX8_makeIn 0 = .ok (.aload_n 0, 1) := by decide +kernel
theorem dX8_makeIn_1 : decode cX8_makeIn 1 = .ok (.getfield 25, 3) := by decide +kernel
theorem dX8_makeIn_4 : decode cX8_makeIn 4 = .ok (.aload_n 0, 1) := by decide +kernel
theorem dX8_makeIn_5 : decode cX8_makeIn 5 = .ok (.getfield 28, 3) := by decide +kernel
theorem dX8_makeIn_8 : decode cX8_makeIn 8 = .ok (.bipush 99, 2) := by decide +kernel
theorem dX8_makeIn_10 : decode cX8_makeIn 10 = .ok (.bipush 6, 2) := by decide +kernel
theorem dX8_makeIn_12 : decode cX8_makeIn 12 = .ok (.iload_n 1, 1) := by decide +kernel
theorem dX8_makeIn_13 : decode cX8_makeIn 13 = .ok (.imul, 1) := by decide +kernel
theorem dX8_makeIn_14 : decode cX8_makeIn 14 = .ok (.iadd, 1) := by decide +kernel
theorem dX8_makeIn_15 : decode cX8_makeIn 15 = .ok (.iload_n 2, 1) := by decide +kernel
theorem dX8_makeIn_16 : decode cX8_makeIn 16 = .ok (.iadd, 1) := by decide +kernel
theorem dX8_makeIn_17 : decode cX8_makeIn 17 = .ok (.iaload, 1) := by decide +kernel
theorem dX8_makeIn_18 : decode cX8_makeIn 18 = .ok (.iaload, 1) := by decide +kernel
theorem dX8_makeIn_19 : decode cX8_makeIn 19 = .ok (.ireturn, 1) := by decide +kernel
theorem dX8_mayBe_0 : decode cX8_mayBe 0 = .ok (.aload_n 0, 1) := by decide +kernel
theorem dX8_mayBe_1 : decode cX8_mayBe 1 = .ok (.iconst 0, 1) := by decide +kernel
theorem dX8_mayBe_2 : decode cX8_mayBe 2 = .ok (.putfield 63, 3) := by decide +kernel
theorem dX8_mayBe_5 : decode cX8_mayBe 5 = .ok (.iconst 0, 1) := by decide +kernel
theorem dX8_mayBe_6 : decode cX8_mayBe 6 = .ok (.istore_n 1, 1) := by decide +kernel
theorem dX8_mayBe_7 : decode cX8_mayBe 7 = .ok (.iconst 0, 1) := by decide +kernel
theorem dX8_mayBe_8 : decode cX8_mayBe 8 = .ok (.istore_n 2, 1) := by decide +kernel
theorem dX8_mayBe_9 : decode cX8_mayBe 9 = .ok (.iload_n 2, 1) := by decide +kernel
theorem dX8_mayBe_10 : decode cX8_mayBe 10 = .ok (.aload_n 0, 1) := by decide +kernel
theorem dX8_mayBe_11 : decode cX8_mayBe 11 = .ok (.getfield 28, 3) := by decide +kernel
theorem dX8_mayBe_14 : decode cX8_mayBe 14 = .ok (.iconst 2, 1) := by decide +kernel
theorem dX8_mayBe_15 : decode cX8_mayBe 15 = .ok (.iaload, 1) := by decide +kernel
theorem dX8_mayBe_16 : decode cX8_mayBe 16 = .ok (.if_icmp .ge 75, 3) := by decide +kernel
theorem dX8_mayBe_19 : decode cX8_mayBe 19 = .ok (.iconst 1, 1) := by decide +kernel
theorem dX8_mayBe_20 : decode cX8_mayBe 20 = .ok (.istore_n 3, 1) := by decide +kernel
theorem dX8_mayBe_21 : decode cX8_mayBe 21 = .ok (.iconst 0, 1) := by decide +kernel
theorem dX8_mayBe_22 : decode cX8_mayBe 22 = .ok (.istore 4, 2) := by decide +kernel
theorem dX8_mayBe_24 : decode cX8_mayBe 24 = .ok (.iload 4, 2) := by decide +kernel
theorem dX8_mayBe_26 : decode cX8_mayBe 26 = .ok (.aload_n 0, 1) := by decide +kernel
theorem dX8_mayBe_27 : decode cX8_mayBe 27 = .ok (.getfield 140, 3) := by decide +kernel
theorem dX8_mayBe_30 : decode cX8_mayBe 30 = .ok (.if_icmp .ge 41, 3) := by decide +kernel
theorem dX8_mayBe_33 : decode cX8_mayBe 33 = .ok (.iload_n 3, 1) := by decide +kernel
theorem dX8_mayBe_34 : decode cX8_mayBe 34 = .ok (.ifCond .eq 29, 3) := by decide +kernel
theorem dX8_mayBe_37 : decode cX8_mayBe 37 = .ok (.aload_n 0, 1) := by decide +kernel
theorem dX8_mayBe_38 : decode cX8_mayBe 38 = .ok (.iload_n 2, 1) := by decide +kernel
theorem dX8_mayBe_39 : decode cX8_mayBe 39 = .ok (.aload_n 0, 1) := by decide +kernel
theorem dX8_mayBe_40 : decode cX8_mayBe 40 = .ok (.getfield 41, 3) := by decide +kernel
theorem dX8_mayBe_43 : decode cX8_mayBe 43 = .ok (.iload 4, 2) := by decide +kernel
theorem dX8_mayBe_45 : decode cX8_mayBe 45 = .ok (.iaload, 1) := by decide +kernel
theorem dX8_mayBe_46 : decode cX8_mayBe 46 = .ok (.invokevirtual 226, 3) := by decide +kernel
theorem dX8_mayBe_49 : decode cX8_mayBe 49 = .ok (.aload_n 0, 1) := by decide +kernel
theorem dX8_mayBe_50 : decode cX8_mayBe 50 = .ok (.getfield 44, 3) := by decide +kernel
theorem dX8_mayBe_53 : decode cX8_mayBe 53 = .ok (.iload 4, 2) := by decide +kernel
theorem dX8_mayBe_55 : decode cX8_mayBe 55 = .ok (.iaload, 1) := by decide +kernel
theorem dX8_mayBe_56 : decode cX8_mayBe 56 = .ok (.if_icmp .ne 7, 3) := by decide +kernel
theorem dX8_mayBe_59 : decode cX8_mayBe 59 = .ok (.iconst 1, 1) := by decide +kernel
theorem dX8_mayBe_60 : decode cX8_mayBe 60 = .ok (.goto 4, 3) := by decide +kernel
theorem dX8_mayBe_63 : decode cX8_mayBe 63 = .ok (.iconst 0, 1) := by decide +kernel
theorem dX8_mayBe_64 : decode cX8_mayBe 64 = .ok (.istore_n 3, 1) := by decide +kernel
theorem dX8_mayBe_65 : decode cX8_mayBe 65 = .ok (.iinc 4 1, 3) := by decide +kernel
theorem dX8_mayBe_68 : decode cX8_mayBe 68 = .ok (.goto (-44), 3) := by decide +kernel
theorem dX8_mayBe_71 : decode cX8_mayBe 71 = .ok (.iload_n 1, 1) := by decide +kernel
theorem dX8_mayBe_72 : decode cX8_mayBe 72 = .ok (.iload_n 3, 1) := by decide +kernel
theorem dX8_mayBe_73 : decode cX8_mayBe 73 = .ok (.ifCond .eq 9, 3) := by decide +kernel
theorem dX8_mayBe_76 : decode cX8_mayBe 76 = .ok (.iconst 1, 1) := by decide +kernel
theorem dX8_mayBe_77 : decode cX8_mayBe 77 = .ok (.iload_n 2, 1) := by decide +kernel
theorem dX8_mayBe_78 : decode cX8_mayBe 78 = .ok (.ishl, 1) := by decide +kernel
theorem dX8_mayBe_79 : decode cX8_mayBe 79 = .ok (.goto 4, 3) := by decide +kernel
theorem dX8_mayBe_82 : decode cX8_mayBe 82 = .ok (.iconst 0, 1) := by decide +kernel
theorem dX8_mayBe_83 : decode cX8_mayBe 83 = .ok (.ior, 1) := by decide +kernel
theorem dX8_mayBe_84 : decode cX8_mayBe 84 = .ok (.istore_n 1, 1) := by decide +kernel
theorem dX8_mayBe_85 : decode cX8_mayBe 85 = .ok (.iinc 2 1, 3) := by decide +kernel
theorem dX8_mayBe_88 : decode cX8_mayBe 88 = .ok (.goto (-79), 3) := by decide +kernel
theorem dX8_mayBe_91 : decode cX8_mayBe 91 = .ok (.iload_n 1, 1) := by decide +kernel
theorem dX8_mayBe_92 : decode cX8_mayBe 92 = .ok (.ireturn, 1) := by decide +kernel
theorem dX8_tells_0 : decode cX8_tells 0 = .ok (.iconst 1, 1) := by decide +kernel
theorem dX8_tells_1 : decode cX8_tells 1 = .ok (.istore_n 3, 1) := by decide +kernel
theorem dX8_tells_2 : decode cX8_tells 2 = .ok (.iconst 0, 1) := by decide +kernel
theorem dX8_tells_3 : decode cX8_tells 3 = .ok (.istore 4, 2) := by decide +kernel
theorem dX8_tells_5 : decode cX8_tells 5 = .ok (.iload 4, 2) := by decide +kernel
theorem dX8_tells_7 : decode cX8_tells 7 = .ok (.aload_n 0, 1) := by decide +kernel
theorem dX8_tells_8 : decode cX8_tells 8 = .ok (.getfield 28, 3) := by decide +kernel
theorem dX8_tells_11 : decode cX8_tells 11 = .ok (.iconst 2, 1) := by decide +kernel
theorem dX8_tells_12 : decode cX8_tells 12 = .ok (.iaload, 1) := by decide +kernel
theorem dX8_tells_13 : decode cX8_tells 13 = .ok (.if_icmp .ge 95, 3) := by decide +kernel
theorem dX8_tells_16 : decode cX8_tells 16 = .ok (.iload 4, 2) := by decide +kernel
theorem dX8_tells_18 : decode cX8_tells 18 = .ok (.iload_n 1, 1) := by decide +kernel
theorem dX8_tells_19 : decode cX8_tells 19 = .ok (.if_icmp .ne 7, 3) := by decide +kernel
theorem dX8_tells_22 : decode cX8_tells 22 = .ok (.iconst 1, 1) := by decide +kernel
theorem dX8_tells_23 : decode cX8_tells 23 = .ok (.goto 4, 3) := by decide +kernel
theorem dX8_tells_26 : decode cX8_tells 26 = .ok (.iconst 0, 1) := by decide +kernel
theorem dX8_tells_27 : decode cX8_tells 27 = .ok (.istore 5, 2) := by decide +kernel
theorem dX8_tells_29 : decode cX8_tells 29 = .ok (.iconst 0, 1) := by decide +kernel
theorem dX8_tells_30 : decode cX8_tells 30 = .ok (.istore 6, 2) := by decide +kernel
theorem dX8_tells_32 : decode cX8_tells 32 = .ok (.iload 6, 2) := by decide +kernel
theorem dX8_tells_34 : decode cX8_tells 34 = .ok (.aload_n 0, 1) := by decide +kernel
theorem dX8_tells_35 : decode cX8_tells 35 = .ok (.getfield 59, 3) := by decide +kernel
theorem dX8_tells_38 : decode cX8_tells 38 = .ok (.if_icmp .ge 49, 3) := by decide +kernel
theorem dX8_tells_41 : decode cX8_tells 41 = .ok (.iload 5, 2) := by decide +kernel
theorem dX8_tells_43 : decode cX8_tells 43 = .ok (.ifCond .ne 31, 3) := by decide +kernel
theorem dX8_tells_46 : decode cX8_tells 46 = .ok (.iload_n 2, 1) := by decide +kernel
theorem dX8_tells_47 : decode cX8_tells 47 = .ok (.iload 6, 2) := by decide +kernel
theorem dX8_tells_49 : decode cX8_tells 49 = .ok (.ishr, 1) := by decide +kernel
theorem dX8_tells_50 : decode cX8_tells 50 = .ok (.iconst 1, 1) := by decide +kernel
theorem dX8_tells_51 : decode cX8_tells 51 = .ok (.iand, 1) := by decide +kernel
theorem dX8_tells_52 : decode cX8_tells 52 = .ok (.iconst 1, 1) := by decide +kernel
theorem dX8_tells_53 : decode cX8_tells 53 = .ok (.if_icmp .ne 25, 3) := by decide +kernel
theorem dX8_tells_56 : decode cX8_tells 56 = .ok (.aload_n 0, 1) := by decide +kernel
theorem dX8_tells_57 : decode cX8_tells 57 = .ok (.iload 4, 2) := by decide +kernel
theorem dX8_tells_59 : decode cX8_tells 59 = .ok (.iload 6, 2) := by decide +kernel
theorem dX8_tells_61 : decode cX8_tells 61 = .ok (.invokevirtual 226, 3) := by decide +kernel
theorem dX8_tells_64 : decode cX8_tells 64 = .ok (.aload_n 0, 1) := by decide +kernel
theorem dX8_tells_65 : decode cX8_tells 65 = .ok (.iload_n 1, 1) := by decide +kernel
theorem dX8_tells_66 : decode cX8_tells 66 = .ok (.iload 6, 2) := by decide +kernel
theorem dX8_tells_68 : decode cX8_tells 68 = .ok (.invokevirtual 226, 3) := by decide +kernel
theorem dX8_tells_71 : decode cX8_tells 71 = .ok (.if_icmp .eq 7, 3) := by decide +kernel
theorem dX8_tells_74 : decode cX8_tells 74 = .ok (.iconst 1, 1) := by decide +kernel
theorem dX8_tells_75 : decode cX8_tells 75 = .ok (.goto 4, 3) := by decide +kernel
theorem dX8_tells_78 : decode cX8_tells 78 = .ok (.iconst 0, 1) := by decide +kernel
theorem dX8_tells_79 : decode cX8_tells 79 = .ok (.istore 5, 2) := by decide +kernel
theorem dX8_tells_81 : decode cX8_tells 81 = .ok (.iinc 6 1, 3) := by decide +kernel
theorem dX8_tells_84 : decode cX8_tells 84 = .ok (.goto (-52), 3) := by decide +kernel
theorem dX8_tells_87 : decode cX8_tells 87 = .ok (.iload_n 3, 1) := by decide +kernel
theorem dX8_tells_88 : decode cX8_tells 88 = .ok (.ifCond .eq 12, 3) := by decide +kernel
theorem dX8_tells_91 : decode cX8_tells 91 = .ok (.iload 5, 2) := by decide +kernel
theorem dX8_tells_93 : decode cX8_tells 93 = .ok (.ifCond .eq 7, 3) := by decide +kernel
theorem dX8_tells_96 : decode cX8_tells 96 = .ok (.iconst 1, 1) := by decide +kernel
theorem dX8_tells_97 : decode cX8_tells 97 = .ok (.goto 4, 3) := by decide +kernel
theorem dX8_tells_100 : decode cX8_tells 100 = .ok (.iconst 0, 1) := by decide +kernel
theorem dX8_tells_101 : decode cX8_tells 101 = .ok (.istore_n 3, 1) := by decide +kernel
theorem dX8_tells_102 : decode cX8_tells 102 = .ok (.iinc 4 1, 3) := by decide +kernel
theorem dX8_tells_105 : decode cX8_tells 105 = .ok (.goto (-100), 3) := by decide +kernel
theorem dX8_tells_108 : decode cX8_tells 108 = .ok (.iload_n 3, 1) := by decide +kernel
theorem dX8_tells_109 : decode cX8_tells 109 = .ok (.ireturn, 1) := by decide +kernel
theorem dX8_leastSeen_0 : decode cX8_leastSeen 0 = .ok (.aload_n 0, 1) := by decide +kernel
theorem dX8_leastSeen_1 : decode cX8_leastSeen 1 = .ok (.iconst 0, 1) := by decide +kernel
theorem dX8_leastSeen_2 : decode cX8_leastSeen 2 = .ok (.putfield 63, 3) := by decide +kernel
theorem dX8_leastSeen_5 : decode cX8_leastSeen 5 = .ok (.aload_n 0, 1) := by decide +kernel
theorem dX8_leastSeen_6 : decode cX8_leastSeen 6 = .ok (.iload_n 1, 1) := by decide +kernel
theorem dX8_leastSeen_7 : decode cX8_leastSeen 7 = .ok (.invokevirtual 156, 3) := by decide +kernel
theorem dX8_leastSeen_10 : decode cX8_leastSeen 10 = .ok (.ifCond .ne 5, 3) := by decide +kernel
theorem dX8_leastSeen_13 : decode cX8_leastSeen 13 = .ok (.iconst (-1), 1) := by decide +kernel
theorem dX8_leastSeen_14 : decode cX8_leastSeen 14 = .ok (.ireturn, 1) := by decide +kernel
theorem dX8_leastSeen_15 : decode cX8_leastSeen 15 = .ok (.bipush (-9), 2) := by decide +kernel
theorem dX8_leastSeen_17 : decode cX8_leastSeen 17 = .ok (.istore_n 2, 1) := by decide +kernel
theorem dX8_leastSeen_18 : decode cX8_leastSeen 18 = .ok (.iconst 0, 1) := by decide +kernel
theorem dX8_leastSeen_19 : decode cX8_leastSeen 19 = .ok (.istore_n 3, 1) := by decide +kernel
theorem dX8_leastSeen_20 : decode cX8_leastSeen 20 = .ok (.iload_n 3, 1) := by decide +kernel
theorem dX8_leastSeen_21 : decode cX8_leastSeen 21 = .ok (.iconst 1, 1) := by decide +kernel
theorem dX8_leastSeen_22 : decode cX8_leastSeen 22 = .ok (.aload_n 0, 1) := by decide +kernel
theorem dX8_leastSeen_23 : decode cX8_leastSeen 23 = .ok (.getfield 59, 3) := by decide +kernel
theorem dX8_leastSeen_26 : decode cX8_leastSeen 26 = .ok (.ishl, 1) := by decide +kernel
theorem dX8_leastSeen_27 : decode cX8_leastSeen 27 = .ok (.if_icmp .ge 41, 3) := by decide +kernel
theorem dX8_leastSeen_30 : decode cX8_leastSeen 30 = .ok (.iload_n 2, 1) := by decide +kernel
theorem dX8_leastSeen_31 : decode cX8_leastSeen 31 = .ok (.bipush (-9), 2) := by decide +kernel
theorem dX8_leastSeen_33 : decode cX8_leastSeen 33 = .ok (.if_icmp .eq 14, 3) := by decide +kernel
theorem dX8_leastSeen_36 : decode cX8_leastSeen 36 = .ok (.iload_n 3, 1) := by decide +kernel
theorem dX8_leastSeen_37 : decode cX8_leastSeen 37 = .ok (.invokestatic 229, 3) := by decide +kernel
theorem dX8_leastSeen_40 : decode cX8_leastSeen 40 = .ok (.iload_n 2, 1) := by decide +kernel
theorem dX8_leastSeen_41 : decode cX8_leastSeen 41 = .ok (.invokestatic 229, 3) := by decide +kernel
theorem dX8_leastSeen_44 : decode cX8_leastSeen 44 = .ok (.if_icmp .ge 16, 3) := by decide +kernel
theorem dX8_leastSeen_47 : decode cX8_leastSeen 47 = .ok (.aload_n 0, 1) := by decide +kernel
theorem dX8_leastSeen_48 : decode cX8_leastSeen 48 = .ok (.iload_n 1, 1) := by decide +kernel
theorem dX8_leastSeen_49 : decode cX8_leastSeen 49 = .ok (.iload_n 3, 1) := by decide +kernel
theorem dX8_leastSeen_50 : decode cX8_leastSeen 50 = .ok (.invokevirtual 232, 3) := by decide +kernel
theorem dX8_leastSeen_53 : decode cX8_leastSeen 53 = .ok (.ifCond .eq 7, 3) := by decide +kernel
theorem dX8_leastSeen_56 : decode cX8_leastSeen 56 = .ok (.iload_n 3, 1) := by decide +kernel
theorem dX8_leastSeen_57 : decode cX8_leastSeen 57 = .ok (.goto 4, 3) := by decide +kernel
theorem dX8_leastSeen_60 : decode cX8_leastSeen 60 = .ok (.iload_n 2, 1) := by decide +kernel
theorem dX8_leastSeen_61 : decode cX8_leastSeen 61 = .ok (.istore_n 2, 1) := by decide +kernel
theorem dX8_leastSeen_62 : decode cX8_leastSeen 62 = .ok (.iinc 3 1, 3) := by decide +kernel
theorem dX8_leastSeen_65 : decode cX8_leastSeen 65 = .ok (.goto (-45), 3) := by decide +kernel
theorem dX8_leastSeen_68 : decode cX8_leastSeen 68 = .ok (.iload_n 2, 1) := by decide +kernel
theorem dX8_leastSeen_69 : decode cX8_leastSeen 69 = .ok (.ireturn, 1) := by decide +kernel
theorem dX8_repairs_0 : decode cX8_repairs 0 = .ok (.aload_n 0, 1) := by decide +kernel
theorem dX8_repairs_1 : decode cX8_repairs 1 = .ok (.iconst 0, 1) := by decide +kernel
theorem dX8_repairs_2 : decode cX8_repairs 2 = .ok (.putfield 63, 3) := by decide +kernel
theorem dX8_repairs_5 : decode cX8_repairs 5 = .ok (.aload_n 0, 1) := by decide +kernel
theorem dX8_repairs_6 : decode cX8_repairs 6 = .ok (.iload_n 1, 1) := by decide +kernel
theorem dX8_repairs_7 : decode cX8_repairs 7 = .ok (.invokevirtual 156, 3) := by decide +kernel
theorem dX8_repairs_10 : decode cX8_repairs 10 = .ok (.ifCond .eq 22, 3) := by decide +kernel
theorem dX8_repairs_13 : decode cX8_repairs 13 = .ok (.iload_n 2, 1) := by decide +kernel
theorem dX8_repairs_14 : decode cX8_repairs 14 = .ok (.iconst 0, 1) := by decide +kernel
theorem dX8_repairs_15 : decode cX8_repairs 15 = .ok (.bipush 40, 2) := by decide +kernel
theorem dX8_repairs_17 : decode cX8_repairs 17 = .ok (.invokestatic 66, 3) := by decide +kernel
theorem dX8_repairs_20 : decode cX8_repairs 20 = .ok (.ifCond .eq 12, 3) := by decide +kernel
theorem dX8_repairs_23 : decode cX8_repairs 23 = .ok (.iload_n 3, 1) := by decide +kernel
theorem dX8_repairs_24 : decode cX8_repairs 24 = .ok (.iconst 0, 1) := by decide +kernel
theorem dX8_repairs_25 : decode cX8_repairs 25 = .ok (.iconst 1, 1) := by decide +kernel
theorem dX8_repairs_26 : decode cX8_repairs 26 = .ok (.invokestatic 66, 3) := by decide +kernel
theorem dX8_repairs_29 : decode cX8_repairs 29 = .ok (.ifCond .ne 5, 3) := by decide +kernel
theorem dX8_repairs_32 : decode cX8_repairs 32 = .ok (.iconst (-1), 1) := by decide +kernel
theorem dX8_repairs_33 : decode cX8_repairs 33 = .ok (.ireturn, 1) := by decide +kernel
theorem dX8_repairs_34 : decode cX8_repairs 34 = .ok (.aload_n 0, 1) := by decide +kernel
theorem dX8_repairs_35 : decode cX8_repairs 35 = .ok (.iload_n 1, 1) := by decide +kernel
theorem dX8_repairs_36 : decode cX8_repairs 36 = .ok (.invokevirtual 178, 3) := by decide +kernel
theorem dX8_repairs_39 : decode cX8_repairs 39 = .ok (.iconst 0, 1) := by decide +kernel
theorem dX8_repairs_40 : decode cX8_repairs 40 = .ok (.istore 4, 2) := by decide +kernel
theorem dX8_repairs_42 : decode cX8_repairs 42 = .ok (.iconst 0, 1) := by decide +kernel
theorem dX8_repairs_43 : decode cX8_repairs 43 = .ok (.istore 5, 2) := by decide +kernel
theorem dX8_repairs_45 : decode cX8_repairs 45 = .ok (.bipush (-9), 2) := by decide +kernel
theorem dX8_repairs_47 : decode cX8_repairs 47 = .ok (.istore 6, 2) := by decide +kernel
theorem dX8_repairs_49 : decode cX8_repairs 49 = .ok (.iconst 1, 1) := by decide +kernel
theorem dX8_repairs_50 : decode cX8_repairs 50 = .ok (.istore 7, 2) := by decide +kernel
theorem dX8_repairs_52 : decode cX8_repairs 52 = .ok (.iload 7, 2) := by decide +kernel
theorem dX8_repairs_54 : decode cX8_repairs 54 = .ok (.iload_n 2, 1) := by decide +kernel
theorem dX8_repairs_55 : decode cX8_repairs 55 = .ok (.if_icmp .gt 54, 3) := by decide +kernel
theorem dX8_repairs_58 : decode cX8_repairs 58 = .ok (.aload_n 0, 1) := by decide +kernel
theorem dX8_repairs_59 : decode cX8_repairs 59 = .ok (.invokevirtual 217, 3) := by decide +kernel
theorem dX8_repairs_62 : decode cX8_repairs 62 = .ok (.istore 8, 2) := by decide +kernel
theorem dX8_repairs_64 : decode cX8_repairs 64 = .ok (.iload 4, 2) := by decide +kernel
theorem dX8_repairs_66 : decode cX8_repairs 66 = .ok (.iload 8, 2) := by decide +kernel
theorem dX8_repairs_68 : decode cX8_repairs 68 = .ok (.iadd, 1) := by decide +kernel
theorem dX8_repairs_69 : decode cX8_repairs 69 = .ok (.istore 4, 2) := by decide +kernel
theorem dX8_repairs_71 : decode cX8_repairs 71 = .ok (.iload 8, 2) := by decide +kernel
theorem dX8_repairs_73 : decode cX8_repairs 73 = .ok (.iload 5, 2) := by decide +kernel
theorem dX8_repairs_75 : decode cX8_repairs 75 = .ok (.if_icmp .le 8, 3) := by decide +kernel
theorem dX8_repairs_78 : decode cX8_repairs 78 = .ok (.iload 7, 2) := by decide +kernel
theorem dX8_repairs_80 : decode cX8_repairs 80 = .ok (.goto 5, 3) := by decide +kernel
theorem dX8_repairs_83 : decode cX8_repairs 83 = .ok (.iload 6, 2) := by decide +kernel
theorem dX8_repairs_85 : decode cX8_repairs 85 = .ok (.istore 6, 2) := by decide +kernel
theorem dX8_repairs_87 : decode cX8_repairs 87 = .ok (.iload 8, 2) := by decide +kernel
theorem dX8_repairs_89 : decode cX8_repairs 89 = .ok (.iload 5, 2) := by decide +kernel
theorem dX8_repairs_91 : decode cX8_repairs 91 = .ok (.if_icmp .le 8, 3) := by decide +kernel
theorem dX8_repairs_94 : decode cX8_repairs 94 = .ok (.iload 8, 2) := by decide +kernel
theorem dX8_repairs_96 : decode cX8_repairs 96 = .ok (.goto 5, 3) := by decide +kernel
theorem dX8_repairs_99 : decode cX8_repairs 99 = .ok (.iload 5, 2) := by decide +kernel
theorem dX8_repairs_101 : decode cX8_repairs 101 = .ok (.istore 5, 2) := by decide +kernel
theorem dX8_repairs_103 : decode cX8_repairs 103 = .ok (.iinc 7 1, 3) := by decide +kernel
theorem dX8_repairs_106 : decode cX8_repairs 106 = .ok (.goto (-54), 3) := by decide +kernel
theorem dX8_repairs_109 : decode cX8_repairs 109 = .ok (.iload_n 3, 1) := by decide +kernel
theorem dX8_repairs_110 : decode cX8_repairs 110 = .ok (.ifCond .ne 8, 3) := by decide +kernel
theorem dX8_repairs_113 : decode cX8_repairs 113 = .ok (.iload 4, 2) := by decide +kernel
theorem dX8_repairs_115 : decode cX8_repairs 115 = .ok (.goto 5, 3) := by decide +kernel
theorem dX8_repairs_118 : decode cX8_repairs 118 = .ok (.iload 6, 2) := by decide +kernel
theorem dX8_repairs_120 : decode cX8_repairs 120 = .ok (.ireturn, 1) := by decide +kernel
theorem dX8_rate_0 : decode cX8_rate 0 = .ok (.aload_n 0, 1) := by decide +kernel
theorem dX8_rate_1 : decode cX8_rate 1 = .ok (.iconst 0, 1) := by decide +kernel
theorem dX8_rate_2 : decode cX8_rate 2 = .ok (.putfield 63, 3) := by decide +kernel
theorem dX8_rate_5 : decode cX8_rate 5 = .ok (.iload_n 1, 1) := by decide +kernel
theorem dX8_rate_6 : decode cX8_rate 6 = .ok (.iconst 0, 1) := by decide +kernel
theorem dX8_rate_7 : decode cX8_rate 7 = .ok (.iconst 5, 1) := by decide +kernel
theorem dX8_rate_8 : decode cX8_rate 8 = .ok (.invokestatic 66, 3) := by decide +kernel
theorem dX8_rate_11 : decode cX8_rate 11 = .ok (.ifCond .eq 24, 3) := by decide +kernel
theorem dX8_rate_14 : decode cX8_rate 14 = .ok (.aload_n 0, 1) := by decide +kernel
theorem dX8_rate_15 : decode cX8_rate 15 = .ok (.iload_n 2, 1) := by decide +kernel
theorem dX8_rate_16 : decode cX8_rate 16 = .ok (.invokevirtual 153, 3) := by decide +kernel
theorem dX8_rate_19 : decode cX8_rate 19 = .ok (.ifCond .eq 16, 3) := by decide +kernel
theorem dX8_rate_22 : decode cX8_rate 22 = .ok (.aload_n 0, 1) := by decide +kernel
theorem dX8_rate_23 : decode cX8_rate 23 = .ok (.getfield 28, 3) := by decide +kernel
theorem dX8_rate_26 : decode cX8_rate 26 = .ok (.iconst 3, 1) := by decide +kernel
theorem dX8_rate_27 : decode cX8_rate 27 = .ok (.iload_n 2, 1) := by decide +kernel
theorem dX8_rate_28 : decode cX8_rate 28 = .ok (.iadd, 1) := by decide +kernel
theorem dX8_rate_29 : decode cX8_rate 29 = .ok (.iaload, 1) := by decide +kernel
theorem dX8_rate_30 : decode cX8_rate 30 = .ok (.bipush 9, 2) := by decide +kernel
theorem dX8_rate_32 : decode cX8_rate 32 = .ok (.if_icmp .ne 6, 3) := by decide +kernel
theorem dX8_rate_35 : decode cX8_rate 35 = .ok (.ldc 235, 2) := by decide +kernel
theorem dX8_rate_37 : decode cX8_rate 37 = .ok (.ireturn, 1) := by decide +kernel
theorem dX8_rate_38 : decode cX8_rate 38 = .ok (.aload_n 0, 1) := by decide +kernel
theorem dX8_rate_39 : decode cX8_rate 39 = .ok (.getfield 28, 3) := by decide +kernel
theorem dX8_rate_42 : decode cX8_rate 42 = .ok (.bipush 51, 2) := by decide +kernel
theorem dX8_rate_44 : decode cX8_rate 44 = .ok (.iload_n 2, 1) := by decide +kernel
theorem dX8_rate_45 : decode cX8_rate 45 = .ok (.iadd, 1) := by decide +kernel
theorem dX8_rate_46 : decode cX8_rate 46 = .ok (.iaload, 1) := by decide +kernel
theorem dX8_rate_47 : decode cX8_rate 47 = .ok (.istore_n 3, 1) := by decide +kernel
theorem dX8_rate_48 : decode cX8_rate 48 = .ok (.iload_n 3, 1) := by decide +kernel
theorem dX8_rate_49 : decode cX8_rate 49 = .ok (.aload_n 0, 1) := by decide +kernel
theorem dX8_rate_50 : decode cX8_rate 50 = .ok (.getfield 13, 3) := by decide +kernel
theorem dX8_rate_53 : decode cX8_rate 53 = .ok (.aload_n 0, 1) := by decide +kernel
theorem dX8_rate_54 : decode cX8_rate 54 = .ok (.getfield 28, 3) := by decide +kernel
theorem dX8_rate_57 : decode cX8_rate 57 = .ok (.sipush 141, 3) := by decide +kernel
theorem dX8_rate_60 : decode cX8_rate 60 = .ok (.iload_n 2, 1) := by decide +kernel
theorem dX8_rate_61 : decode cX8_rate 61 = .ok (.iadd, 1) := by decide +kernel
theorem dX8_rate_62 : decode cX8_rate 62 = .ok (.iaload, 1) := by decide +kernel
theorem dX8_rate_63 : decode cX8_rate 63 = .ok (.iaload, 1) := by decide +kernel
theorem dX8_rate_64 : decode cX8_rate 64 = .ok (.iadd, 1) := by decide +kernel
theorem dX8_rate_65 : decode cX8_rate 65 = .ok (.istore 4, 2) := by decide +kernel
theorem dX8_rate_67 : decode cX8_rate 67 = .ok (.iload_n 3, 1) := by decide +kernel
theorem dX8_rate_68 : decode cX8_rate 68 = .ok (.aload_n 0, 1) := by decide +kernel
theorem dX8_rate_69 : decode cX8_rate 69 = .ok (.getfield 16, 3) := by decide +kernel
theorem dX8_rate_72 : decode cX8_rate 72 = .ok (.aload_n 0, 1) := by decide +kernel
theorem dX8_rate_73 : decode cX8_rate 73 = .ok (.getfield 28, 3) := by decide +kernel
theorem dX8_rate_76 : decode cX8_rate 76 = .ok (.sipush 141, 3) := by decide +kernel
theorem dX8_rate_79 : decode cX8_rate 79 = .ok (.iload_n 2, 1) := by decide +kernel
theorem dX8_rate_80 : decode cX8_rate 80 = .ok (.iadd, 1) := by decide +kernel
theorem dX8_rate_81 : decode cX8_rate 81 = .ok (.iaload, 1) := by decide +kernel
theorem dX8_rate_82 : decode cX8_rate 82 = .ok (.iaload, 1) := by decide +kernel
theorem dX8_rate_83 : decode cX8_rate 83 = .ok (.isub, 1) := by decide +kernel
theorem dX8_rate_84 : decode cX8_rate 84 = .ok (.istore 5, 2) := by decide +kernel
theorem dX8_rate_86 : decode cX8_rate 86 = .ok (.aload_n 0, 1) := by decide +kernel
theorem dX8_rate_87 : decode cX8_rate 87 = .ok (.dup, 1) := by decide +kernel
theorem dX8_rate_88 : decode cX8_rate 88 = .ok (.getfield 236, 3) := by decide +kernel
theorem dX8_rate_91 : decode cX8_rate 91 = .ok (.iload_n 1, 1) := by decide +kernel
theorem dX8_rate_92 : decode cX8_rate 92 = .ok (.ifCond .ne 7, 3) := by decide +kernel
theorem dX8_rate_95 : decode cX8_rate 95 = .ok (.lconst 1, 1) := by decide +kernel
theorem dX8_rate_96 : decode cX8_rate 96 = .ok (.goto 50, 3) := by decide +kernel
theorem dX8_rate_99 : decode cX8_rate 99 = .ok (.iload_n 1, 1) := by decide +kernel
theorem dX8_rate_100 : decode cX8_rate 100 = .ok (.iconst 1, 1) := by decide +kernel
theorem dX8_rate_101 : decode cX8_rate 101 = .ok (.if_icmp .ne 9, 3) := by decide +kernel
theorem dX8_rate_104 : decode cX8_rate 104 = .ok (.ldc2_w 240, 3) := by decide +kernel
theorem dX8_rate_107 : decode cX8_rate 107 = .ok (.goto 39, 3) := by decide +kernel
theorem dX8_rate_110 : decode cX8_rate 110 = .ok (.iload_n 1, 1) := by decide +kernel
theorem dX8_rate_111 : decode cX8_rate 111 = .ok (.iconst 2, 1) := by decide +kernel
theorem dX8_rate_112 : decode cX8_rate 112 = .ok (.if_icmp .ne 9, 3) := by decide +kernel
theorem dX8_rate_115 : decode cX8_rate 115 = .ok (.ldc2_w 242, 3) := by decide +kernel
theorem dX8_rate_118 : decode cX8_rate 118 = .ok (.goto 28, 3) := by decide +kernel
theorem dX8_rate_121 : decode cX8_rate 121 = .ok (.iload_n 1, 1) := by decide +kernel
theorem dX8_rate_122 : decode cX8_rate 122 = .ok (.iconst 3, 1) := by decide +kernel
theorem dX8_rate_123 : decode cX8_rate 123 = .ok (.if_icmp .ne 9, 3) := by decide +kernel
theorem dX8_rate_126 : decode cX8_rate 126 = .ok (.ldc2_w 244, 3) := by decide +kernel
theorem dX8_rate_129 : decode cX8_rate 129 = .ok (.goto 17, 3) := by decide +kernel
theorem dX8_rate_132 : decode cX8_rate 132 = .ok (.iload_n 1, 1) := by decide +kernel
theorem dX8_rate_133 : decode cX8_rate 133 = .ok (.iconst 4, 1) := by decide +kernel
theorem dX8_rate_134 : decode cX8_rate 134 = .ok (.if_icmp .ne 9, 3) := by decide +kernel
theorem dX8_rate_137 : decode cX8_rate 137 = .ok (.ldc2_w 246, 3) := by decide +kernel
theorem dX8_rate_140 : decode cX8_rate 140 = .ok (.goto 6, 3) := by decide +kernel
theorem dX8_rate_143 : decode cX8_rate 143 = .ok (.ldc2_w 248, 3) := by decide +kernel
theorem dX8_rate_146 : decode cX8_rate 146 = .ok (.ladd, 1) := by decide +kernel
theorem dX8_rate_147 : decode cX8_rate 147 = .ok (.putfield 236, 3) := by decide +kernel
theorem dX8_rate_150 : decode cX8_rate 150 = .ok (.iload_n 1, 1) := by decide +kernel
theorem dX8_rate_151 : decode cX8_rate 151 = .ok (.ifCond .ne 7, 3) := by decide +kernel
theorem dX8_rate_154 : decode cX8_rate 154 = .ok (.iload_n 3, 1) := by decide +kernel
theorem dX8_rate_155 : decode cX8_rate 155 = .ok (.goto 58, 3) := by decide +kernel
theorem dX8_rate_158 : decode cX8_rate 158 = .ok (.iload_n 1, 1) := by decide +kernel
theorem dX8_rate_159 : decode cX8_rate 159 = .ok (.iconst 1, 1) := by decide +kernel
theorem dX8_rate_160 : decode cX8_rate 160 = .ok (.if_icmp .ne 8, 3) := by decide +kernel
theorem dX8_rate_163 : decode cX8_rate 163 = .ok (.iload 4, 2) := by decide +kernel
theorem dX8_rate_165 : decode cX8_rate 165 = .ok (.goto 48, 3) := by decide +kernel
theorem dX8_rate_168 : decode cX8_rate 168 = .ok (.iload_n 1, 1) := by decide +kernel
theorem dX8_rate_169 : decode cX8_rate 169 = .ok (.iconst 2, 1) := by decide +kernel
theorem dX8_rate_170 : decode cX8_rate 170 = .ok (.if_icmp .ne 8, 3) := by decide +kernel
theorem dX8_rate_173 : decode cX8_rate 173 = .ok (.iload 5, 2) := by decide +kernel
theorem dX8_rate_175 : decode cX8_rate 175 = .ok (.goto 38, 3) := by decide +kernel
theorem dX8_rate_178 : decode cX8_rate 178 = .ok (.iload_n 1, 1) := by decide +kernel
theorem dX8_rate_179 : decode cX8_rate 179 = .ok (.iconst 3, 1) := by decide +kernel
theorem dX8_rate_180 : decode cX8_rate 180 = .ok (.if_icmp .ne 10, 3) := by decide +kernel
theorem dX8_rate_183 : decode cX8_rate 183 = .ok (.iconst 2, 1) := by decide +kernel
theorem dX8_rate_184 : decode cX8_rate 184 = .ok (.iload 4, 2) := by decide +kernel
theorem dX8_rate_186 : decode cX8_rate 186 = .ok (.imul, 1) := by decide +kernel
theorem dX8_rate_187 : decode cX8_rate 187 = .ok (.goto 26, 3) := by decide +kernel
theorem dX8_rate_190 : decode cX8_rate 190 = .ok (.iload_n 1, 1) := by decide +kernel
theorem dX8_rate_191 : decode cX8_rate 191 = .ok (.iconst 4, 1) := by decide +kernel
theorem dX8_rate_192 : decode cX8_rate 192 = .ok (.if_icmp .ne 15, 3) := by decide +kernel
theorem dX8_rate_195 : decode cX8_rate 195 = .ok (.iload 5, 2) := by decide +kernel
theorem dX8_rate_197 : decode cX8_rate 197 = .ok (.aload_n 0, 1) := by decide +kernel
theorem dX8_rate_198 : decode cX8_rate 198 = .ok (.getfield 25, 3) := by decide +kernel
theorem dX8_rate_201 : decode cX8_rate 201 = .ok (.iload_n 2, 1) := by decide +kernel
theorem dX8_rate_202 : decode cX8_rate 202 = .ok (.iaload, 1) := by decide +kernel
theorem dX8_rate_203 : decode cX8_rate 203 = .ok (.iadd, 1) := by decide +kernel
theorem dX8_rate_204 : decode cX8_rate 204 = .ok (.goto 9, 3) := by decide +kernel
theorem dX8_rate_207 : decode cX8_rate 207 = .ok (.iload_n 3, 1) := by decide +kernel
theorem dX8_rate_208 : decode cX8_rate 208 = .ok (.aload_n 0, 1) := by decide +kernel
theorem dX8_rate_209 : decode cX8_rate 209 = .ok (.invokevirtual 193, 3) := by decide +kernel
theorem dX8_rate_212 : decode cX8_rate 212 = .ok (.iadd, 1) := by decide +kernel
theorem dX8_rate_213 : decode cX8_rate 213 = .ok (.ireturn, 1) := by decide +kernel
theorem dX8_keep_0 : decode cX8_keep 0 = .ok (.aload_n 0, 1) := by decide +kernel
theorem dX8_keep_1 : decode cX8_keep 1 = .ok (.iconst 0, 1) := by decide +kernel
theorem dX8_keep_2 : decode cX8_keep 2 = .ok (.putfield 63, 3) := by decide +kernel
theorem dX8_keep_5 : decode cX8_keep 5 = .ok (.iload_n 1, 1) := by decide +kernel
theorem dX8_keep_6 : decode cX8_keep 6 = .ok (.iconst 0, 1) := by decide +kernel
theorem dX8_keep_7 : decode cX8_keep 7 = .ok (.iconst 1, 1) := by decide +kernel
theorem dX8_keep_8 : decode cX8_keep 8 = .ok (.invokestatic 66, 3) := by decide +kernel
theorem dX8_keep_11 : decode cX8_keep 11 = .ok (.ifCond .ne 5, 3) := by decide +kernel
theorem dX8_keep_14 : decode cX8_keep 14 = .ok (.iconst (-1), 1) := by decide +kernel
theorem dX8_keep_15 : decode cX8_keep 15 = .ok (.ireturn, 1) := by decide +kernel
theorem dX8_keep_16 : decode cX8_keep 16 = .ok (.iconst 0, 1) := by decide +kernel
theorem dX8_keep_17 : decode cX8_keep 17 = .ok (.istore_n 2, 1) := by decide +kernel
theorem dX8_keep_18 : decode cX8_keep 18 = .ok (.iload_n 2, 1) := by decide +kernel
theorem dX8_keep_19 : decode cX8_keep 19 = .ok (.sipush 189, 3) := by decide +kernel
theorem dX8_keep_22 : decode cX8_keep 22 = .ok (.if_icmp .ge 27, 3) := by decide +kernel
theorem dX8_keep_25 : decode cX8_keep 25 = .ok (.aload_n 0, 1) := by decide +kernel
theorem dX8_keep_26 : decode cX8_keep 26 = .ok (.getfield 31, 3) := by decide +kernel
theorem dX8_keep_29 : decode cX8_keep 29 = .ok (.sipush 189, 3) := by decide +kernel
theorem dX8_keep_32 : decode cX8_keep 32 = .ok (.iload_n 1, 1) := by decide +kernel
theorem dX8_keep_33 : decode cX8_keep 33 = .ok (.imul, 1) := by decide +kernel
theorem dX8_keep_34 : decode cX8_keep 34 = .ok (.iload_n 2, 1) := by decide +kernel
theorem dX8_keep_35 : decode cX8_keep 35 = .ok (.iadd, 1) := by decide +kernel
theorem dX8_keep_36 : decode cX8_keep 36 = .ok (.aload_n 0, 1) := by decide +kernel
theorem dX8_keep_37 : decode cX8_keep 37 = .ok (.getfield 28, 3) := by decide +kernel
theorem dX8_keep_40 : decode cX8_keep 40 = .ok (.iload_n 2, 1) := by decide +kernel
theorem dX8_keep_41 : decode cX8_keep 41 = .ok (.iaload, 1) := by decide +kernel
theorem dX8_keep_42 : decode cX8_keep 42 = .ok (.iastore, 1) := by decide +kernel
theorem dX8_keep_43 : decode cX8_keep 43 = .ok (.iinc 2 1, 3) := by decide +kernel
theorem dX8_keep_46 : decode cX8_keep 46 = .ok (.goto (-28), 3) := by decide +kernel
theorem dX8_keep_49 : decode cX8_keep 49 = .ok (.aload_n 0, 1) := by decide +kernel
theorem dX8_keep_50 : decode cX8_keep 50 = .ok (.getfield 34, 3) := by decide +kernel
theorem dX8_keep_53 : decode cX8_keep 53 = .ok (.iload_n 1, 1) := by decide +kernel
theorem dX8_keep_54 : decode cX8_keep 54 = .ok (.iconst 1, 1) := by decide +kernel
theorem dX8_keep_55 : decode cX8_keep 55 = .ok (.bastore, 1) := by decide +kernel
theorem dX8_keep_56 : decode cX8_keep 56 = .ok (.aload_n 0, 1) := by decide +kernel
theorem dX8_keep_57 : decode cX8_keep 57 = .ok (.getfield 28, 3) := by decide +kernel
theorem dX8_keep_60 : decode cX8_keep 60 = .ok (.iconst 0, 1) := by decide +kernel
theorem dX8_keep_61 : decode cX8_keep 61 = .ok (.iaload, 1) := by decide +kernel
theorem dX8_keep_62 : decode cX8_keep 62 = .ok (.ireturn, 1) := by decide +kernel
theorem dX8_back_0 : decode cX8_back 0 = .ok (.aload_n 0, 1) := by decide +kernel
theorem dX8_back_1 : decode cX8_back 1 = .ok (.iconst 0, 1) := by decide +kernel
theorem dX8_back_2 : decode cX8_back 2 = .ok (.putfield 63, 3) := by decide +kernel
theorem dX8_back_5 : decode cX8_back 5 = .ok (.iload_n 1, 1) := by decide +kernel
theorem dX8_back_6 : decode cX8_back 6 = .ok (.iconst 0, 1) := by decide +kernel
theorem dX8_back_7 : decode cX8_back 7 = .ok (.iconst 1, 1) := by decide +kernel
theorem dX8_back_8 : decode cX8_back 8 = .ok (.invokestatic 66, 3) := by decide +kernel
theorem dX8_back_11 : decode cX8_back 11 = .ok (.ifCond .ne 5, 3) := by decide +kernel
theorem dX8_back_14 : decode cX8_back 14 = .ok (.iconst (-1), 1) := by decide +kernel
theorem dX8_back_15 : decode cX8_back 15 = .ok (.ireturn, 1) := by decide +kernel
theorem dX8_back_16 : decode cX8_back 16 = .ok (.aload_n 0, 1) := by decide +kernel
theorem dX8_back_17 : decode cX8_back 17 = .ok (.getfield 34, 3) := by decide +kernel
theorem dX8_back_20 : decode cX8_back 20 = .ok (.iload_n 1, 1) := by decide +kernel
theorem dX8_back_21 : decode cX8_back 21 = .ok (.baload, 1) := by decide +kernel
theorem dX8_back_22 : decode cX8_back 22 = .ok (.ifCond .ne 6, 3) := by decide +kernel
theorem dX8_back_25 : decode cX8_back 25 = .ok (.bipush (-2), 2) := by decide +kernel
theorem dX8_back_27 : decode cX8_back 27 = .ok (.ireturn, 1) := by decide +kernel
theorem dX8_back_28 : decode cX8_back 28 = .ok (.iconst 0, 1) := by decide +kernel
theorem dX8_back_29 : decode cX8_back 29 = .ok (.istore_n 2, 1) := by decide +kernel
theorem dX8_back_30 : decode cX8_back 30 = .ok (.iload_n 2, 1) := by decide +kernel
theorem dX8_back_31 : decode cX8_back 31 = .ok (.sipush 189, 3) := by decide +kernel
theorem dX8_back_34 : decode cX8_back 34 = .ok (.if_icmp .ge 27, 3) := by decide +kernel
theorem dX8_back_37 : decode cX8_back 37 = .ok (.aload_n 0, 1) := by decide +kernel
theorem dX8_back_38 : decode cX8_back 38 = .ok (.getfield 28, 3) := by decide +kernel
theorem dX8_back_41 : decode cX8_back 41 = .ok (.iload_n 2, 1) := by decide +kernel
theorem dX8_back_42 : decode cX8_back 42 = .ok (.aload_n 0, 1) := by decide +kernel
theorem dX8_back_43 : decode cX8_back 43 = .ok (.getfield 31, 3) := by decide +kernel
theorem dX8_back_46 : decode cX8_back 46 = .ok (.sipush 189, 3) := by decide +kernel
theorem dX8_back_49 : decode cX8_back 49 = .ok (.iload_n 1, 1) := by decide +kernel
theorem dX8_back_50 : decode cX8_back 50 = .ok (.imul, 1) := by decide +kernel
theorem dX8_back_51 : decode cX8_back 51 = .ok (.iload_n 2, 1) := by decide +kernel
theorem dX8_back_52 : decode cX8_back 52 = .ok (.iadd, 1) := by decide +kernel
theorem dX8_back_53 : decode cX8_back 53 = .ok (.iaload, 1) := by decide +kernel
theorem dX8_back_54 : decode cX8_back 54 = .ok (.iastore, 1) := by decide +kernel
theorem dX8_back_55 : decode cX8_back 55 = .ok (.iinc 2 1, 3) := by decide +kernel
theorem dX8_back_58 : decode cX8_back 58 = .ok (.goto (-28), 3) := by decide +kernel
theorem dX8_back_61 : decode cX8_back 61 = .ok (.aload_n 0, 1) := by decide +kernel
theorem dX8_back_62 : decode cX8_back 62 = .ok (.iconst 0, 1) := by decide +kernel
theorem dX8_back_63 : decode cX8_back 63 = .ok (.putfield 137, 3) := by decide +kernel
theorem dX8_back_66 : decode cX8_back 66 = .ok (.aload_n 0, 1) := by decide +kernel
theorem dX8_back_67 : decode cX8_back 67 = .ok (.getfield 28, 3) := by decide +kernel
theorem dX8_back_70 : decode cX8_back 70 = .ok (.iconst 0, 1) := by decide +kernel
theorem dX8_back_71 : decode cX8_back 71 = .ok (.iaload, 1) := by decide +kernel
theorem dX8_back_72 : decode cX8_back 72 = .ok (.ireturn, 1) := by decide +kernel
theorem dX8_count_0 : decode cX8_count 0 = .ok (.aload_n 0, 1) := by decide +kernel
theorem dX8_count_1 : decode cX8_count 1 = .ok (.iconst 0, 1) := by decide +kernel
theorem dX8_count_2 : decode cX8_count 2 = .ok (.putfield 63, 3) := by decide +kernel
theorem dX8_count_5 : decode cX8_count 5 = .ok (.iload_n 1, 1) := by decide +kernel
theorem dX8_count_6 : decode cX8_count 6 = .ok (.iconst 3, 1) := by decide +kernel
theorem dX8_count_7 : decode cX8_count 7 = .ok (.if_icmp .ge 44, 3) := by decide +kernel
theorem dX8_count_10 : decode cX8_count 10 = .ok (.iload_n 1, 1) := by decide +kernel
theorem dX8_count_11 : decode cX8_count 11 = .ok (.ifCond .ne 10, 3) := by decide +kernel
theorem dX8_count_14 : decode cX8_count 14 = .ok (.aload_n 0, 1) := by decide +kernel
theorem dX8_count_15 : decode cX8_count 15 = .ok (.getfield 59, 3) := by decide +kernel
theorem dX8_count_18 : decode cX8_count 18 = .ok (.goto 32, 3) := by decide +kernel
theorem dX8_count_21 : decode cX8_count 21 = .ok (.iload_n 1, 1) := by decide +kernel
theorem dX8_count_22 : decode cX8_count 22 = .ok (.iconst 1, 1) := by decide +kernel
theorem dX8_count_23 : decode cX8_count 23 = .ok (.if_icmp .ne 12, 3) := by decide +kernel
theorem dX8_count_26 : decode cX8_count 26 = .ok (.aload_n 0, 1) := by decide +kernel
theorem dX8_count_27 : decode cX8_count 27 = .ok (.getfield 28, 3) := by decide +kernel
theorem dX8_count_30 : decode cX8_count 30 = .ok (.iconst 2, 1) := by decide +kernel
theorem dX8_count_31 : decode cX8_count 31 = .ok (.iaload, 1) := by decide +kernel
theorem dX8_count_32 : decode cX8_count 32 = .ok (.goto 18, 3) := by decide +kernel
theorem dX8_count_35 : decode cX8_count 35 = .ok (.iload_n 1, 1) := by decide +kernel
theorem dX8_count_36 : decode cX8_count 36 = .ok (.iconst 2, 1) := by decide +kernel
theorem dX8_count_37 : decode cX8_count 37 = .ok (.if_icmp .ne 12, 3) := by decide +kernel
theorem dX8_count_40 : decode cX8_count 40 = .ok (.aload_n 0, 1) := by decide +kernel
theorem dX8_count_41 : decode cX8_count 41 = .ok (.getfield 28, 3) := by decide +kernel
theorem dX8_count_44 : decode cX8_count 44 = .ok (.iconst 1, 1) := by decide +kernel
theorem dX8_count_45 : decode cX8_count 45 = .ok (.iaload, 1) := by decide +kernel
theorem dX8_count_46 : decode cX8_count 46 = .ok (.goto 4, 3) := by decide +kernel
theorem dX8_count_49 : decode cX8_count 49 = .ok (.iconst (-1), 1) := by decide +kernel
theorem dX8_count_50 : decode cX8_count 50 = .ok (.ireturn, 1) := by decide +kernel
theorem dX8_count_51 : decode cX8_count 51 = .ok (.iload_n 1, 1) := by decide +kernel
theorem dX8_count_52 : decode cX8_count 52 = .ok (.iconst 3, 1) := by decide +kernel
theorem dX8_count_53 : decode cX8_count 53 = .ok (.if_icmp .ne 10, 3) := by decide +kernel
theorem dX8_count_56 : decode cX8_count 56 = .ok (.aload_n 0, 1) := by decide +kernel
theorem dX8_count_57 : decode cX8_count 57 = .ok (.getfield 140, 3) := by decide +kernel
theorem dX8_count_60 : decode cX8_count 60 = .ok (.goto 16, 3) := by decide +kernel
theorem dX8_count_63 : decode cX8_count 63 = .ok (.iload_n 1, 1) := by decide +kernel
theorem dX8_count_64 : decode cX8_count 64 = .ok (.iconst 4, 1) := by decide +kernel
theorem dX8_count_65 : decode cX8_count 65 = .ok (.if_icmp .ne 10, 3) := by decide +kernel
theorem dX8_count_68 : decode cX8_count 68 = .ok (.aload_n 0, 1) := by decide +kernel
theorem dX8_count_69 : decode cX8_count 69 = .ok (.getfield 70, 3) := by decide +kernel
theorem dX8_count_72 : decode cX8_count 72 = .ok (.goto 4, 3) := by decide +kernel
theorem dX8_count_75 : decode cX8_count 75 = .ok (.iconst (-1), 1) := by decide +kernel
theorem dX8_count_76 : decode cX8_count 76 = .ok (.ireturn, 1) := by decide +kernel
