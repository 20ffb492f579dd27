theorem dX6_readNumber_0 : decode cX6_readNumber 0 = .ok (.aload_n 0, 1) := by decide +kernel
theorem dX6_readNumber_1 : decode cX6_readNumber 1 = .ok (.getfield 44, 3) := by decide +kernel
theorem dX6_readNumber_4 : decode cX6_readNumber 4 = .ok (.iconst (-1), 1) := by decide +kernel
theorem dX6_readNumber_5 : decode cX6_readNumber 5 = .ok (.if_icmp .eq 5, 3) := by decide +kernel
theorem dX6_readNumber_8 : decode cX6_readNumber 8 = .ok (.iload_n 1, 1) := by decide +kernel
theorem dX6_readNumber_9 : decode cX6_readNumber 9 = .ok (.ireturn, 1) := by decide +kernel
theorem dX6_readNumber_10 : decode cX6_readNumber 10 = .ok (.aload_n 0, 1) := by decide +kernel
theorem dX6_readNumber_11 : decode cX6_readNumber 11 = .ok (.invokevirtual 66, 3) := by decide +kernel
theorem dX6_readNumber_14 : decode cX6_readNumber 14 = .ok (.aload_n 0, 1) := by decide +kernel
theorem dX6_readNumber_15 : decode cX6_readNumber 15 = .ok (.getfield 50, 3) := by decide +kernel
theorem dX6_readNumber_18 : decode cX6_readNumber 18 = .ok (.bipush (-2), 2) := by decide +kernel
theorem dX6_readNumber_20 : decode cX6_readNumber 20 = .ok (.if_icmp .ne 19, 3) := by decide +kernel
theorem dX6_readNumber_23 : decode cX6_readNumber 23 = .ok (.aload_n 0, 1) := by decide +kernel
theorem dX6_readNumber_24 : decode cX6_readNumber 24 = .ok (.getfield 56, 3) := by decide +kernel
theorem dX6_readNumber_27 : decode cX6_readNumber 27 = .ok (.iload_n 1, 1) := by decide +kernel
theorem dX6_readNumber_28 : decode cX6_readNumber 28 = .ok (.if_icmp .lt 11, 3) := by decide +kernel
theorem dX6_readNumber_31 : decode cX6_readNumber 31 = .ok (.aload_n 0, 1) := by decide +kernel
theorem dX6_readNumber_32 : decode cX6_readNumber 32 = .ok (.getfield 56, 3) := by decide +kernel
theorem dX6_readNumber_35 : decode cX6_readNumber 35 = .ok (.iload_n 2, 1) := by decide +kernel
theorem dX6_readNumber_36 : decode cX6_readNumber 36 = .ok (.if_icmp .le 9, 3) := by decide +kernel
theorem dX6_readNumber_39 : decode cX6_readNumber 39 = .ok (.aload_n 0, 1) := by decide +kernel
theorem dX6_readNumber_40 : decode cX6_readNumber 40 = .ok (.invokevirtual 84, 3) := by decide +kernel
theorem dX6_readNumber_43 : decode cX6_readNumber 43 = .ok (.iload_n 1, 1) := by decide +kernel
theorem dX6_readNumber_44 : decode cX6_readNumber 44 = .ok (.ireturn, 1) := by decide +kernel
theorem dX6_readNumber_45 : decode cX6_readNumber 45 = .ok (.aload_n 0, 1) := by decide +kernel
theorem dX6_readNumber_46 : decode cX6_readNumber 46 = .ok (.getfield 56, 3) := by decide +kernel
theorem dX6_readNumber_49 : decode cX6_readNumber 49 = .ok (.ireturn, 1) := by decide +kernel
theorem dX6_refuse_0 : decode cX6_refuse 0 = .ok (.aload_n 0, 1) := by decide +kernel
theorem dX6_refuse_1 : decode cX6_refuse 1 = .ok (.getfield 44, 3) := by decide +kernel
theorem dX6_refuse_4 : decode cX6_refuse 4 = .ok (.iconst (-1), 1) := by decide +kernel
theorem dX6_refuse_5 : decode cX6_refuse 5 = .ok (.if_icmp .ne 11, 3) := by decide +kernel
theorem dX6_refuse_8 : decode cX6_refuse 8 = .ok (.aload_n 0, 1) := by decide +kernel
theorem dX6_refuse_9 : decode cX6_refuse 9 = .ok (.aload_n 0, 1) := by decide +kernel
theorem dX6_refuse_10 : decode cX6_refuse 10 = .ok (.getfield 53, 3) := by decide +kernel
theorem dX6_refuse_13 : decode cX6_refuse 13 = .ok (.putfield 44, 3) := by decide +kernel
theorem dX6_refuse_16 : decode cX6_refuse 16 = .ok (.return_, 1) := by decide +kernel
theorem dX6_step_0 : decode cX6_step 0 = .ok (.aload_n 0, 1) := by decide +kernel
theorem dX6_step_1 : decode cX6_step 1 = .ok (.getfield 47, 3) := by decide +kernel
theorem dX6_step_4 : decode cX6_step 4 = .ok (.aload_n 0, 1) := by decide +kernel
theorem dX6_step_5 : decode cX6_step 5 = .ok (.getfield 31, 3) := by decide +kernel
theorem dX6_step_8 : decode cX6_step 8 = .ok (.if_icmp .ge 30, 3) := by decide +kernel
theorem dX6_step_11 : decode cX6_step 11 = .ok (.aload_n 0, 1) := by decide +kernel
theorem dX6_step_12 : decode cX6_step 12 = .ok (.getfield 59, 3) := by decide +kernel
theorem dX6_step_15 : decode cX6_step 15 = .ok (.aload_n 0, 1) := by decide +kernel
theorem dX6_step_16 : decode cX6_step 16 = .ok (.getfield 47, 3) := by decide +kernel
theorem dX6_step_19 : decode cX6_step 19 = .ok (.iaload, 1) := by decide +kernel
theorem dX6_step_20 : decode cX6_step 20 = .ok (.bipush 32, 2) := by decide +kernel
theorem dX6_step_22 : decode cX6_step 22 = .ok (.if_icmp .ne 16, 3) := by decide +kernel
theorem dX6_step_25 : decode cX6_step 25 = .ok (.aload_n 0, 1) := by decide +kernel
theorem dX6_step_26 : decode cX6_step 26 = .ok (.dup, 1) := by decide +kernel
theorem dX6_step_27 : decode cX6_step 27 = .ok (.getfield 47, 3) := by decide +kernel
theorem dX6_step_30 : decode cX6_step 30 = .ok (.iconst 1, 1) := by decide +kernel
theorem dX6_step_31 : decode cX6_step 31 = .ok (.iadd, 1) := by decide +kernel
theorem dX6_step_32 : decode cX6_step 32 = .ok (.putfield 47, 3) := by decide +kernel
theorem dX6_step_35 : decode cX6_step 35 = .ok (.goto (-35), 3) := by decide +kernel
theorem dX6_step_38 : decode cX6_step 38 = .ok (.aload_n 0, 1) := by decide +kernel
theorem dX6_step_39 : decode cX6_step 39 = .ok (.aload_n 0, 1) := by decide +kernel
theorem dX6_step_40 : decode cX6_step 40 = .ok (.getfield 47, 3) := by decide +kernel
theorem dX6_step_43 : decode cX6_step 43 = .ok (.putfield 53, 3) := by decide +kernel
theorem dX6_step_46 : decode cX6_step 46 = .ok (.aload_n 0, 1) := by decide +kernel
theorem dX6_step_47 : decode cX6_step 47 = .ok (.getfield 47, 3) := by decide +kernel
theorem dX6_step_50 : decode cX6_step 50 = .ok (.aload_n 0, 1) := by decide +kernel
theorem dX6_step_51 : decode cX6_step 51 = .ok (.getfield 31, 3) := by decide +kernel
theorem dX6_step_54 : decode cX6_step 54 = .ok (.if_icmp .lt 11, 3) := by decide +kernel
theorem dX6_step_57 : decode cX6_step 57 = .ok (.aload_n 0, 1) := by decide +kernel
theorem dX6_step_58 : decode cX6_step 58 = .ok (.iconst (-1), 1) := by decide +kernel
theorem dX6_step_59 : decode cX6_step 59 = .ok (.putfield 50, 3) := by decide +kernel
theorem dX6_step_62 : decode cX6_step 62 = .ok (.goto 48, 3) := by decide +kernel
theorem dX6_step_65 : decode cX6_step 65 = .ok (.aload_n 0, 1) := by decide +kernel
theorem dX6_step_66 : decode cX6_step 66 = .ok (.getfield 59, 3) := by decide +kernel
theorem dX6_step_69 : decode cX6_step 69 = .ok (.aload_n 0, 1) := by decide +kernel
theorem dX6_step_70 : decode cX6_step 70 = .ok (.getfield 47, 3) := by decide +kernel
theorem dX6_step_73 : decode cX6_step 73 = .ok (.iaload, 1) := by decide +kernel
theorem dX6_step_74 : decode cX6_step 74 = .ok (.invokestatic 109, 3) := by decide +kernel
theorem dX6_step_77 : decode cX6_step 77 = .ok (.ifCond .eq 10, 3) := by decide +kernel
theorem dX6_step_80 : decode cX6_step 80 = .ok (.aload_n 0, 1) := by decide +kernel
theorem dX6_step_81 : decode cX6_step 81 = .ok (.invokevirtual 112, 3) := by decide +kernel
theorem dX6_step_84 : decode cX6_step 84 = .ok (.goto 26, 3) := by decide +kernel
theorem dX6_step_87 : decode cX6_step 87 = .ok (.aload_n 0, 1) := by decide +kernel
theorem dX6_step_88 : decode cX6_step 88 = .ok (.aload_n 0, 1) := by decide +kernel
theorem dX6_step_89 : decode cX6_step 89 = .ok (.getfield 59, 3) := by decide +kernel
theorem dX6_step_92 : decode cX6_step 92 = .ok (.aload_n 0, 1) := by decide +kernel
theorem dX6_step_93 : decode cX6_step 93 = .ok (.getfield 47, 3) := by decide +kernel
theorem dX6_step_96 : decode cX6_step 96 = .ok (.iaload, 1) := by decide +kernel
theorem dX6_step_97 : decode cX6_step 97 = .ok (.putfield 50, 3) := by decide +kernel
theorem dX6_step_100 : decode cX6_step 100 = .ok (.aload_n 0, 1) := by decide +kernel
theorem dX6_step_101 : decode cX6_step 101 = .ok (.dup, 1) := by decide +kernel
theorem dX6_step_102 : decode cX6_step 102 = .ok (.getfield 47, 3) := by decide +kernel
theorem dX6_step_105 : decode cX6_step 105 = .ok (.iconst 1, 1) := by decide +kernel
theorem dX6_step_106 : decode cX6_step 106 = .ok (.iadd, 1) := by decide +kernel
theorem dX6_step_107 : decode cX6_step 107 = .ok (.putfield 47, 3) := by decide +kernel
theorem dX6_step_110 : decode cX6_step 110 = .ok (.return_, 1) := by decide +kernel
theorem dX6_stepNumber_0 : decode cX6_stepNumber 0 = .ok (.aload_n 0, 1) := by decide +kernel
theorem dX6_stepNumber_1 : decode cX6_stepNumber 1 = .ok (.getfield 59, 3) := by decide +kernel
theorem dX6_stepNumber_4 : decode cX6_stepNumber 4 = .ok (.aload_n 0, 1) := by decide +kernel
theorem dX6_stepNumber_5 : decode cX6_stepNumber 5 = .ok (.getfield 47, 3) := by decide +kernel
theorem dX6_stepNumber_8 : decode cX6_stepNumber 8 = .ok (.iaload, 1) := by decide +kernel
theorem dX6_stepNumber_9 : decode cX6_stepNumber 9 = .ok (.bipush 48, 2) := by decide +kernel
theorem dX6_stepNumber_11 : decode cX6_stepNumber 11 = .ok (.if_icmp .ne 7, 3) := by decide +kernel
theorem dX6_stepNumber_14 : decode cX6_stepNumber 14 = .ok (.iconst 1, 1) := by decide +kernel
theorem dX6_stepNumber_15 : decode cX6_stepNumber 15 = .ok (.goto 4, 3) := by decide +kernel
theorem dX6_stepNumber_18 : decode cX6_stepNumber 18 = .ok (.iconst 0, 1) := by decide +kernel
theorem dX6_stepNumber_19 : decode cX6_stepNumber 19 = .ok (.istore_n 1, 1) := by decide +kernel
theorem dX6_stepNumber_20 : decode cX6_stepNumber 20 = .ok (.aload_n 0, 1) := by decide +kernel
theorem dX6_stepNumber_21 : decode cX6_stepNumber 21 = .ok (.iconst 0, 1) := by decide +kernel
theorem dX6_stepNumber_22 : decode cX6_stepNumber 22 = .ok (.putfield 56, 3) := by decide +kernel
theorem dX6_stepNumber_25 : decode cX6_stepNumber 25 = .ok (.aload_n 0, 1) := by decide +kernel
theorem dX6_stepNumber_26 : decode cX6_stepNumber 26 = .ok (.getfield 47, 3) := by decide +kernel
theorem dX6_stepNumber_29 : decode cX6_stepNumber 29 = .ok (.aload_n 0, 1) := by decide +kernel
theorem dX6_stepNumber_30 : decode cX6_stepNumber 30 = .ok (.getfield 31, 3) := by decide +kernel
theorem dX6_stepNumber_33 : decode cX6_stepNumber 33 = .ok (.if_icmp .ge 60, 3) := by decide +kernel
theorem dX6_stepNumber_36 : decode cX6_stepNumber 36 = .ok (.aload_n 0, 1) := by decide +kernel
theorem dX6_stepNumber_37 : decode cX6_stepNumber 37 = .ok (.getfield 59, 3) := by decide +kernel
theorem dX6_stepNumber_40 : decode cX6_stepNumber 40 = .ok (.aload_n 0, 1) := by decide +kernel
theorem dX6_stepNumber_41 : decode cX6_stepNumber 41 = .ok (.getfield 47, 3) := by decide +kernel
theorem dX6_stepNumber_44 : decode cX6_stepNumber 44 = .ok (.iaload, 1) := by decide +kernel
theorem dX6_stepNumber_45 : decode cX6_stepNumber 45 = .ok (.invokestatic 109, 3) := by decide +kernel
theorem dX6_stepNumber_48 : decode cX6_stepNumber 48 = .ok (.ifCond .eq 45, 3) := by decide +kernel
theorem dX6_stepNumber_51 : decode cX6_stepNumber 51 = .ok (.aload_n 0, 1) := by decide +kernel
theorem dX6_stepNumber_52 : decode cX6_stepNumber 52 = .ok (.bipush 100, 2) := by decide +kernel
theorem dX6_stepNumber_54 : decode cX6_stepNumber 54 = .ok (.aload_n 0, 1) := by decide +kernel
theorem dX6_stepNumber_55 : decode cX6_stepNumber 55 = .ok (.getfield 56, 3) := by decide +kernel
theorem dX6_stepNumber_58 : decode cX6_stepNumber 58 = .ok (.bipush 10, 2) := by decide +kernel
theorem dX6_stepNumber_60 : decode cX6_stepNumber 60 = .ok (.imul, 1) := by decide +kernel
theorem dX6_stepNumber_61 : decode cX6_stepNumber 61 = .ok (.aload_n 0, 1) := by decide +kernel
theorem dX6_stepNumber_62 : decode cX6_stepNumber 62 = .ok (.getfield 59, 3) := by decide +kernel
theorem dX6_stepNumber_65 : decode cX6_stepNumber 65 = .ok (.aload_n 0, 1) := by decide +kernel
theorem dX6_stepNumber_66 : decode cX6_stepNumber 66 = .ok (.getfield 47, 3) := by decide +kernel
theorem dX6_stepNumber_69 : decode cX6_stepNumber 69 = .ok (.iaload, 1) := by decide +kernel
theorem dX6_stepNumber_70 : decode cX6_stepNumber 70 = .ok (.iadd, 1) := by decide +kernel
theorem dX6_stepNumber_71 : decode cX6_stepNumber 71 = .ok (.bipush 48, 2) := by decide +kernel
theorem dX6_stepNumber_73 : decode cX6_stepNumber 73 = .ok (.isub, 1) := by decide +kernel
theorem dX6_stepNumber_74 : decode cX6_stepNumber 74 = .ok (.invokestatic 115, 3) := by decide +kernel
theorem dX6_stepNumber_77 : decode cX6_stepNumber 77 = .ok (.putfield 56, 3) := by decide +kernel
theorem dX6_stepNumber_80 : decode cX6_stepNumber 80 = .ok (.aload_n 0, 1) := by decide +kernel
theorem dX6_stepNumber_81 : decode cX6_stepNumber 81 = .ok (.dup, 1) := by decide +kernel
theorem dX6_stepNumber_82 : decode cX6_stepNumber 82 = .ok (.getfield 47, 3) := by decide +kernel
theorem dX6_stepNumber_85 : decode cX6_stepNumber 85 = .ok (.iconst 1, 1) := by decide +kernel
theorem dX6_stepNumber_86 : decode cX6_stepNumber 86 = .ok (.iadd, 1) := by decide +kernel
theorem dX6_stepNumber_87 : decode cX6_stepNumber 87 = .ok (.putfield 47, 3) := by decide +kernel
theorem dX6_stepNumber_90 : decode cX6_stepNumber 90 = .ok (.goto (-65), 3) := by decide +kernel
theorem dX6_stepNumber_93 : decode cX6_stepNumber 93 = .ok (.aload_n 0, 1) := by decide +kernel
theorem dX6_stepNumber_94 : decode cX6_stepNumber 94 = .ok (.getfield 56, 3) := by decide +kernel
theorem dX6_stepNumber_97 : decode cX6_stepNumber 97 = .ok (.bipush 99, 2) := by decide +kernel
theorem dX6_stepNumber_99 : decode cX6_stepNumber 99 = .ok (.if_icmp .gt 20, 3) := by decide +kernel
theorem dX6_stepNumber_102 : decode cX6_stepNumber 102 = .ok (.iload_n 1, 1) := by decide +kernel
theorem dX6_stepNumber_103 : decode cX6_stepNumber 103 = .ok (.ifCond .eq 20, 3) := by decide +kernel
theorem dX6_stepNumber_106 : decode cX6_stepNumber 106 = .ok (.aload_n 0, 1) := by decide +kernel
theorem dX6_stepNumber_107 : decode cX6_stepNumber 107 = .ok (.getfield 47, 3) := by decide +kernel
theorem dX6_stepNumber_110 : decode cX6_stepNumber 110 = .ok (.aload_n 0, 1) := by decide +kernel
theorem dX6_stepNumber_111 : decode cX6_stepNumber 111 = .ok (.getfield 53, 3) := by decide +kernel
theorem dX6_stepNumber_114 : decode cX6_stepNumber 114 = .ok (.iconst 1, 1) := by decide +kernel
theorem dX6_stepNumber_115 : decode cX6_stepNumber 115 = .ok (.iadd, 1) := by decide +kernel
theorem dX6_stepNumber_116 : decode cX6_stepNumber 116 = .ok (.if_icmp .le 7, 3) := by decide +kernel
theorem dX6_stepNumber_119 : decode cX6_stepNumber 119 = .ok (.iconst 1, 1) := by decide +kernel
theorem dX6_stepNumber_120 : decode cX6_stepNumber 120 = .ok (.goto 4, 3) := by decide +kernel
theorem dX6_stepNumber_123 : decode cX6_stepNumber 123 = .ok (.iconst 0, 1) := by decide +kernel
theorem dX6_stepNumber_124 : decode cX6_stepNumber 124 = .ok (.istore_n 2, 1) := by decide +kernel
theorem dX6_stepNumber_125 : decode cX6_stepNumber 125 = .ok (.aload_n 0, 1) := by decide +kernel
theorem dX6_stepNumber_126 : decode cX6_stepNumber 126 = .ok (.iload_n 2, 1) := by decide +kernel
theorem dX6_stepNumber_127 : decode cX6_stepNumber 127 = .ok (.ifCond .eq 8, 3) := by decide +kernel
theorem dX6_stepNumber_130 : decode cX6_stepNumber 130 = .ok (.bipush (-3), 2) := by decide +kernel
theorem dX6_stepNumber_132 : decode cX6_stepNumber 132 = .ok (.goto 5, 3) := by decide +kernel
theorem dX6_stepNumber_135 : decode cX6_stepNumber 135 = .ok (.bipush (-2), 2) := by decide +kernel
theorem dX6_stepNumber_137 : decode cX6_stepNumber 137 = .ok (.putfield 50, 3) := by decide +kernel
theorem dX6_stepNumber_140 : decode cX6_stepNumber 140 = .ok (.return_, 1) := by decide +kernel
theorem dX6_isDigit_0 : decode cX6_isDigit 0 = .ok (.iload_n 0, 1) := by decide +kernel
theorem dX6_isDigit_1 : decode cX6_isDigit 1 = .ok (.bipush 48, 2) := by decide +kernel
theorem dX6_isDigit_3 : decode cX6_isDigit 3 = .ok (.if_icmp .lt 13, 3) := by decide +kernel
theorem dX6_isDigit_6 : decode cX6_isDigit 6 = .ok (.iload_n 0, 1) := by decide +kernel
theorem dX6_isDigit_7 : decode cX6_isDigit 7 = .ok (.bipush 57, 2) := by decide +kernel
theorem dX6_isDigit_9 : decode cX6_isDigit 9 = .ok (.if_icmp .gt 7, 3) := by decide +kernel
theorem dX6_isDigit_12 : decode cX6_isDigit 12 = .ok (.iconst 1, 1) := by decide +kernel
theorem dX6_isDigit_13 : decode cX6_isDigit 13 = .ok (.goto 4, 3) := by decide +kernel
theorem dX6_isDigit_16 : decode cX6_isDigit 16 = .ok (.iconst 0, 1) := by decide +kernel
theorem dX6_isDigit_17 : decode cX6_isDigit 17 = .ok (.ireturn, 1) := by decide +kernel
theorem dX6_tellPlan_0 : decode cX6_tellPlan 0 = .ok (.aload_n 1, 1) := by decide +kernel
theorem dX6_tellPlan_1 : decode cX6_tellPlan 1 = .ok (.aload_n 0, 1) := by decide +kernel
theorem dX6_tellPlan_2 : decode cX6_tellPlan 2 = .ok (.getfield 12, 3) := by decide +kernel
theorem dX6_tellPlan_5 : decode cX6_tellPlan 5 = .ok (.invokevirtual 120, 3) := by decide +kernel
theorem dX6_tellPlan_8 : decode cX6_tellPlan 8 = .ok (.return_, 1) := by decide +kernel
theorem dX6_tellFleet_0 : decode cX6_tellFleet 0 = .ok (.aload_n 1, 1) := by decide +kernel
theorem dX6_tellFleet_1 : decode cX6_tellFleet 1 = .ok (.invokevirtual 124, 3) := by decide +kernel
theorem dX6_tellFleet_4 : decode cX6_tellFleet 4 = .ok (.iconst 0, 1) := by decide +kernel
theorem dX6_tellFleet_5 : decode cX6_tellFleet 5 = .ok (.istore_n 2, 1) := by decide +kernel
theorem dX6_tellFleet_6 : decode cX6_tellFleet 6 = .ok (.iload_n 2, 1) := by decide +kernel
theorem dX6_tellFleet_7 : decode cX6_tellFleet 7 = .ok (.aload_n 0, 1) := by decide +kernel
theorem dX6_tellFleet_8 : decode cX6_tellFleet 8 = .ok (.getfield 35, 3) := by decide +kernel
theorem dX6_tellFleet_11 : decode cX6_tellFleet 11 = .ok (.if_icmp .ge 54, 3) := by decide +kernel
theorem dX6_tellFleet_14 : decode cX6_tellFleet 14 = .ok (.aload_n 1, 1) := by decide +kernel
theorem dX6_tellFleet_15 : decode cX6_tellFleet 15 = .ok (.aload_n 0, 1) := by decide +kernel
theorem dX6_tellFleet_16 : decode cX6_tellFleet 16 = .ok (.getfield 18, 3) := by decide +kernel
theorem dX6_tellFleet_19 : decode cX6_tellFleet 19 = .ok (.iload_n 2, 1) := by decide +kernel
theorem dX6_tellFleet_20 : decode cX6_tellFleet 20 = .ok (.iaload, 1) := by decide +kernel
theorem dX6_tellFleet_21 : decode cX6_tellFleet 21 = .ok (.invokevirtual 127, 3) := by decide +kernel
theorem dX6_tellFleet_24 : decode cX6_tellFleet 24 = .ok (.istore_n 3, 1) := by decide +kernel
theorem dX6_tellFleet_25 : decode cX6_tellFleet 25 = .ok (.iconst 0, 1) := by decide +kernel
theorem dX6_tellFleet_26 : decode cX6_tellFleet 26 = .ok (.istore 4, 2) := by decide +kernel
theorem dX6_tellFleet_28 : decode cX6_tellFleet 28 = .ok (.iload 4, 2) := by decide +kernel
theorem dX6_tellFleet_30 : decode cX6_tellFleet 30 = .ok (.aload_n 0, 1) := by decide +kernel
theorem dX6_tellFleet_31 : decode cX6_tellFleet 31 = .ok (.getfield 12, 3) := by decide +kernel
theorem dX6_tellFleet_34 : decode cX6_tellFleet 34 = .ok (.getfield 96, 3) := by decide +kernel
theorem dX6_tellFleet_37 : decode cX6_tellFleet 37 = .ok (.if_icmp .ge 22, 3) := by decide +kernel
theorem dX6_tellFleet_40 : decode cX6_tellFleet 40 = .ok (.aload_n 1, 1) := by decide +kernel
theorem dX6_tellFleet_41 : decode cX6_tellFleet 41 = .ok (.iload_n 3, 1) := by decide +kernel
theorem dX6_tellFleet_42 : decode cX6_tellFleet 42 = .ok (.aload_n 1, 1) := by decide +kernel
theorem dX6_tellFleet_43 : decode cX6_tellFleet 43 = .ok (.iload 4, 2) := by decide +kernel
theorem dX6_tellFleet_45 : decode cX6_tellFleet 45 = .ok (.iload_n 3, 1) := by decide +kernel
theorem dX6_tellFleet_46 : decode cX6_tellFleet 46 = .ok (.iconst 0, 1) := by decide +kernel
theorem dX6_tellFleet_47 : decode cX6_tellFleet 47 = .ok (.invokevirtual 131, 3) := by decide +kernel
theorem dX6_tellFleet_50 : decode cX6_tellFleet 50 = .ok (.invokevirtual 135, 3) := by decide +kernel
theorem dX6_tellFleet_53 : decode cX6_tellFleet 53 = .ok (.iinc 4 1, 3) := by decide +kernel
theorem dX6_tellFleet_56 : decode cX6_tellFleet 56 = .ok (.goto (-28), 3) := by decide +kernel
theorem dX6_tellFleet_59 : decode cX6_tellFleet 59 = .ok (.iinc 2 1, 3) := by decide +kernel
theorem dX6_tellFleet_62 : decode cX6_tellFleet 62 = .ok (.goto (-56), 3) := by decide +kernel
theorem dX6_tellFleet_65 : decode cX6_tellFleet 65 = .ok (.iconst 0, 1) := by decide +kernel
theorem dX6_tellFleet_66 : decode cX6_tellFleet 66 = .ok (.istore_n 2, 1) := by decide +kernel
theorem dX6_tellFleet_67 : decode cX6_tellFleet 67 = .ok (.iload_n 2, 1) := by decide +kernel
theorem dX6_tellFleet_68 : decode cX6_tellFleet 68 = .ok (.aload_n 0, 1) := by decide +kernel
theorem dX6_tellFleet_69 : decode cX6_tellFleet 69 = .ok (.getfield 38, 3) := by decide +kernel
theorem dX6_tellFleet_72 : decode cX6_tellFleet 72 = .ok (.if_icmp .ge 32, 3) := by decide +kernel
theorem dX6_tellFleet_75 : decode cX6_tellFleet 75 = .ok (.aload_n 1, 1) := by decide +kernel
theorem dX6_tellFleet_76 : decode cX6_tellFleet 76 = .ok (.aload_n 0, 1) := by decide +kernel
theorem dX6_tellFleet_77 : decode cX6_tellFleet 77 = .ok (.getfield 22, 3) := by decide +kernel
theorem dX6_tellFleet_80 : decode cX6_tellFleet 80 = .ok (.iload_n 2, 1) := by decide +kernel
theorem dX6_tellFleet_81 : decode cX6_tellFleet 81 = .ok (.iaload, 1) := by decide +kernel
theorem dX6_tellFleet_82 : decode cX6_tellFleet 82 = .ok (.aload_n 0, 1) := by decide +kernel
theorem dX6_tellFleet_83 : decode cX6_tellFleet 83 = .ok (.getfield 25, 3) := by decide +kernel
theorem dX6_tellFleet_86 : decode cX6_tellFleet 86 = .ok (.iload_n 2, 1) := by decide +kernel
theorem dX6_tellFleet_87 : decode cX6_tellFleet 87 = .ok (.iaload, 1) := by decide +kernel
theorem dX6_tellFleet_88 : decode cX6_tellFleet 88 = .ok (.aload_n 0, 1) := by decide +kernel
theorem dX6_tellFleet_89 : decode cX6_tellFleet 89 = .ok (.getfield 28, 3) := by decide +kernel
theorem dX6_tellFleet_92 : decode cX6_tellFleet 92 = .ok (.iload_n 2, 1) := by decide +kernel
theorem dX6_tellFleet_93 : decode cX6_tellFleet 93 = .ok (.iaload, 1) := by decide +kernel
theorem dX6_tellFleet_94 : decode cX6_tellFleet 94 = .ok (.invokevirtual 131, 3) := by decide +kernel
theorem dX6_tellFleet_97 : decode cX6_tellFleet 97 = .ok (.pop, 1) := by decide +kernel
theorem dX6_tellFleet_98 : decode cX6_tellFleet 98 = .ok (.iinc 2 1, 3) := by decide +kernel
theorem dX6_tellFleet_101 : decode cX6_tellFleet 101 = .ok (.goto (-34), 3) := by decide +kernel
theorem dX6_tellFleet_104 : decode cX6_tellFleet 104 = .ok (.return_, 1) := by decide +kernel
theorem dX7_init_0 : decode cX7_init 0 = .ok (.aload_n 0, 1) := by decide +kernel
theorem dX7_init_1 : decode cX7_init 1 = .ok (.invokespecial 1, 3) := by decide +kernel
theorem dX7_init_4 : decode cX7_init 4 = .ok (.aload_n 0, 1) := by decide +kernel
theorem dX7_init_5 : decode cX7_init 5 = .ok (.new 7, 3) := by decide +kernel
theorem dX7_init_8 : decode cX7_init 8 = .ok (.dup, 1) := by decide +kernel
theorem dX7_init_9 : decode cX7_init 9 = .ok (.invokespecial 9, 3) := by decide +kernel
theorem dX7_init_12 : decode cX7_init 12 = .ok (.putfield 10, 3) := by decide +kernel
theorem dX7_init_15 : decode cX7_init 15 = .ok (.aload_n 0, 1) := by decide +kernel
theorem dX7_init_16 : decode cX7_init 16 = .ok (.new 16, 3) := by decide +kernel
theorem dX7_init_19 : decode cX7_init 19 = .ok (.dup, 1) := by decide +kernel
theorem dX7_init_20 : decode cX7_init 20 = .ok (.invokespecial 18, 3) := by decide +kernel
theorem dX7_init_23 : decode cX7_init 23 = .ok (.putfield 19, 3) := by decide +kernel
theorem dX7_init_26 : decode cX7_init 26 = .ok (.aload_n 0, 1) := by decide +kernel
theorem dX7_init_27 : decode cX7_init 27 = .ok (.new 23, 3) := by decide +kernel
theorem dX7_init_30 : decode cX7_init 30 = .ok (.dup, 1) := by decide +kernel
theorem dX7_init_31 : decode cX7_init 31 = .ok (.aload_n 0, 1) := by decide +kernel
theorem dX7_init_32 : decode cX7_init 32 = .ok (.getfield 10, 3) := by decide +kernel
theorem dX7_init_35 : decode cX7_init 35 = .ok (.aload_n 0, 1) := by decide +kernel
theorem dX7_init_36 : decode cX7_init 36 = .ok (.getfield 19, 3) := by decide +kernel
theorem dX7_init_39 : decode cX7_init 39 = .ok (.invokespecial 25, 3) := by decide +kernel
theorem dX7_init_42 : decode cX7_init 42 = .ok (.putfield 28, 3) := by decide +kernel
theorem dX7_init_45 : decode cX7_init 45 = .ok (.aload_n 0, 1) := by decide +kernel
theorem dX7_init_46 : decode cX7_init 46 = .ok (.new 32, 3) := by decide +kernel
theorem dX7_init_49 : decode cX7_init 49 = .ok (.dup, 1) := by decide +kernel
theorem dX7_init_50 : decode cX7_init 50 = .ok (.aload_n 0, 1) := by decide +kernel
theorem dX7_init_51 : decode cX7_init 51 = .ok (.getfield 10, 3) := by decide +kernel
theorem dX7_init_54 : decode cX7_init 54 = .ok (.aload_n 0, 1) := by decide +kernel
theorem dX7_init_55 : decode cX7_init 55 = .ok (.getfield 19, 3) := by decide +kernel
theorem dX7_init_58 : decode cX7_init 58 = .ok (.aload_n 0, 1) := by decide +kernel
theorem dX7_init_59 : decode cX7_init 59 = .ok (.getfield 28, 3) := by decide +kernel
theorem dX7_init_62 : decode cX7_init 62 = .ok (.invokespecial 34, 3) := by decide +kernel
theorem dX7_init_65 : decode cX7_init 65 = .ok (.putfield 37, 3) := by decide +kernel
theorem dX7_init_68 : decode cX7_init 68 = .ok (.aload_n 0, 1) := by decide +kernel
theorem dX7_init_69 : decode cX7_init 69 = .ok (.new 41, 3) := by decide +kernel
theorem dX7_init_72 : decode cX7_init 72 = .ok (.dup, 1) := by decide +kernel
theorem dX7_init_73 : decode cX7_init 73 = .ok (.invokespecial 43, 3) := by decide +kernel
theorem dX7_init_76 : decode cX7_init 76 = .ok (.putfield 44, 3) := by decide +kernel
theorem dX7_init_79 : decode cX7_init 79 = .ok (.aload_n 0, 1) := by decide +kernel
theorem dX7_init_80 : decode cX7_init 80 = .ok (.new 48, 3) := by decide +kernel
theorem dX7_init_83 : decode cX7_init 83 = .ok (.dup, 1) := by decide +kernel
theorem dX7_init_84 : decode cX7_init 84 = .ok (.aload_n 0, 1) := by decide +kernel
theorem dX7_init_85 : decode cX7_init 85 = .ok (.getfield 10, 3) := by decide +kernel
theorem dX7_init_88 : decode cX7_init 88 = .ok (.aload_n 0, 1) := by decide +kernel
theorem dX7_init_89 : decode cX7_init 89 = .ok (.getfield 19, 3) := by decide +kernel
theorem dX7_init_92 : decode cX7_init 92 = .ok (.invokespecial 50, 3) := by decide +kernel
theorem dX7_init_95 : decode cX7_init 95 = .ok (.putfield 51, 3) := by decide +kernel
theorem dX7_init_98 : decode cX7_init 98 = .ok (.aload_n 0, 1) := by decide +kernel
theorem dX7_init_99 : decode cX7_init 99 = .ok (.iconst 2, 1) := by decide +kernel
theorem dX7_init_100 : decode cX7_init 100 = .ok (.anewarray 16, 3) := by decide +kernel
theorem dX7_init_103 : decode cX7_init 103 = .ok (.putfield 55, 3) := by decide +kernel
theorem dX7_init_106 : decode cX7_init 106 = .ok (.aload_n 0, 1) := by decide +kernel
theorem dX7_init_107 : decode cX7_init 107 = .ok (.iconst 2, 1) := by decide +kernel
theorem dX7_init_108 : decode cX7_init 108 = .ok (.newarray .boolean, 2) := by decide +kernel
theorem dX7_init_110 : decode cX7_init 110 = .ok (.putfield 59, 3) := by decide +kernel
theorem dX7_init_113 : decode cX7_init 113 = .ok (.aload_n 0, 1) := by decide +kernel
theorem dX7_init_114 : decode cX7_init 114 = .ok (.sipush 200, 3) := by decide +kernel
theorem dX7_init_117 : decode cX7_init 117 = .ok (.newarray .int, 2) := by decide +kernel
theorem dX7_init_119 : decode cX7_init 119 = .ok (.putfield 63, 3) := by decide +kernel
theorem dX7_init_122 : decode cX7_init 122 = .ok (.aload_n 0, 1) := by decide +kernel
theorem dX7_init_123 : decode cX7_init 123 = .ok (.new 67, 3) := by decide +kernel
theorem dX7_init_126 : decode cX7_init 126 = .ok (.dup, 1) := by decide +kernel
theorem dX7_init_127 : decode cX7_init 127 = .ok (.aload_n 0, 1) := by decide +kernel
theorem dX7_init_128 : decode cX7_init 128 = .ok (.getfield 63, 3) := by decide +kernel
theorem dX7_init_131 : decode cX7_init 131 = .ok (.invokespecial 69, 3) := by decide +kernel
theorem dX7_init_134 : decode cX7_init 134 = .ok (.putfield 72, 3) := by decide +kernel
theorem dX7_init_137 : decode cX7_init 137 = .ok (.aload_n 0, 1) := by decide +kernel
theorem dX7_init_138 : decode cX7_init 138 = .ok (.bipush 6, 2) := by decide +kernel
theorem dX7_init_140 : decode cX7_init 140 = .ok (.newarray .int, 2) := by decide +kernel
theorem dX7_init_142 : decode cX7_init 142 = .ok (.putfield 76, 3) := by decide +kernel
theorem dX7_init_145 : decode cX7_init 145 = .ok (.aload_n 0, 1) := by decide +kernel
theorem dX7_init_146 : decode cX7_init 146 = .ok (.bipush 6, 2) := by decide +kernel
theorem dX7_init_148 : decode cX7_init 148 = .ok (.newarray .int, 2) := by decide +kernel
theorem dX7_init_150 : decode cX7_init 150 = .ok (.putfield 79, 3) := by decide +kernel
theorem dX7_init_153 : decode cX7_init 153 = .ok (.aload_n 0, 1) := by decide +kernel
theorem dX7_init_154 : decode cX7_init 154 = .ok (.iconst 0, 1) := by decide +kernel
theorem dX7_init_155 : decode cX7_init 155 = .ok (.putfield 82, 3) := by decide +kernel
theorem dX7_init_158 : decode cX7_init 158 = .ok (.aload_n 0, 1) := by decide +kernel
theorem dX7_init_159 : decode cX7_init 159 = .ok (.iconst 0, 1) := by decide +kernel
theorem dX7_init_160 : decode cX7_init 160 = .ok (.putfield 86, 3) := by decide +kernel
theorem dX7_init_163 : decode cX7_init 163 = .ok (.iconst 0, 1) := by decide +kernel
theorem dX7_init_164 : decode cX7_init 164 = .ok (.istore_n 1, 1) := by decide +kernel
theorem dX7_init_165 : decode cX7_init 165 = .ok (.iload_n 1, 1) := by decide +kernel
theorem dX7_init_166 : decode cX7_init 166 = .ok (.iconst 2, 1) := by decide +kernel
theorem dX7_init_167 : decode cX7_init 167 = .ok (.if_icmp .ge 22, 3) := by decide +kernel
theorem dX7_init_170 : decode cX7_init 170 = .ok (.aload_n 0, 1) := by decide +kernel
theorem dX7_init_171 : decode cX7_init 171 = .ok (.getfield 55, 3) := by decide +kernel
theorem dX7_init_174 : decode cX7_init 174 = .ok (.iload_n 1, 1) := by decide +kernel
theorem dX7_init_175 : decode cX7_init 175 = .ok (.new 16, 3) := by decide +kernel
theorem dX7_init_178 : decode cX7_init 178 = .ok (.dup, 1) := by decide +kernel
theorem dX7_init_179 : decode cX7_init 179 = .ok (.invokespecial 18, 3) := by decide +kernel
theorem dX7_init_182 : decode cX7_init 182 = .ok (.aastore, 1) := by decide +kernel
theorem dX7_init_183 : decode cX7_init 183 = .ok (.iinc 1 1, 3) := by decide +kernel
theorem dX7_init_186 : decode cX7_init 186 = .ok (.goto (-21), 3) := by decide +kernel
theorem dX7_init_189 : decode cX7_init 189 = .ok (.return_, 1) := by decide +kernel
theorem dX7_type_0 : decode cX7_type 0 = .ok (.iload_n 1, 1) := by decide +kernel
theorem dX7_type_1 : decode cX7_type 1 = .ok (.ifCond .lt 10, 3) := by decide +kernel
theorem dX7_type_4 : decode cX7_type 4 = .ok (.iload_n 1, 1) := by decide +kernel
theorem dX7_type_5 : decode cX7_type 5 = .ok (.sipush 255, 3) := by decide +kernel
theorem dX7_type_8 : decode cX7_type 8 = .ok (.if_icmp .le 5, 3) := by decide +kernel
theorem dX7_type_11 : decode cX7_type 11 = .ok (.iconst (-1), 1) := by decide +kernel
theorem dX7_type_12 : decode cX7_type 12 = .ok (.ireturn, 1) := by decide +kernel
theorem dX7_type_13 : decode cX7_type 13 = .ok (.aload_n 0, 1) := by decide +kernel
theorem dX7_type_14 : decode cX7_type 14 = .ok (.getfield 82, 3) := by decide +kernel
theorem dX7_type_17 : decode cX7_type 17 = .ok (.sipush 200, 3) := by decide +kernel
theorem dX7_type_20 : decode cX7_type 20 = .ok (.if_icmp .lt 6, 3) := by decide +kernel
theorem dX7_type_23 : decode cX7_type 23 = .ok (.bipush (-3), 2) := by decide +kernel
theorem dX7_type_25 : decode cX7_type 25 = .ok (.ireturn, 1) := by decide +kernel
theorem dX7_type_26 : decode cX7_type 26 = .ok (.aload_n 0, 1) := by decide +kernel
theorem dX7_type_27 : decode cX7_type 27 = .ok (.getfield 63, 3) := by decide +kernel
theorem dX7_type_30 : decode cX7_type 30 = .ok (.aload_n 0, 1) := by decide +kernel
theorem dX7_type_31 : decode cX7_type 31 = .ok (.getfield 82, 3) := by decide +kernel
theorem dX7_type_34 : decode cX7_type 34 = .ok (.iload_n 1, 1) := by decide +kernel
theorem dX7_type_35 : decode cX7_type 35 = .ok (.iastore, 1) := by decide +kernel
theorem dX7_type_36 : decode cX7_type 36 = .ok (.aload_n 0, 1) := by decide +kernel
theorem dX7_type_37 : decode cX7_type 37 = .ok (.dup, 1) := by decide +kernel
theorem dX7_type_38 : decode cX7_type 38 = .ok (.getfield 82, 3) := by decide +kernel
theorem dX7_type_41 : decode cX7_type 41 = .ok (.iconst 1, 1) := by decide +kernel
theorem dX7_type_42 : decode cX7_type 42 = .ok (.iadd, 1) := by decide +kernel
theorem dX7_type_43 : decode cX7_type 43 = .ok (.putfield 82, 3) := by decide +kernel
theorem dX7_type_46 : decode cX7_type 46 = .ok (.aload_n 0, 1) := by decide +kernel
theorem dX7_type_47 : decode cX7_type 47 = .ok (.getfield 82, 3) := by decide +kernel
theorem dX7_type_50 : decode cX7_type 50 = .ok (.ireturn, 1) := by decide +kernel
theorem dX7_clear_0 : decode cX7_clear 0 = .ok (.aload_n 0, 1) := by decide +kernel
theorem dX7_clear_1 : decode cX7_clear 1 = .ok (.getfield 82, 3) := by decide +kernel
theorem dX7_clear_4 : decode cX7_clear 4 = .ok (.istore_n 1, 1) := by decide +kernel
theorem dX7_clear_5 : decode cX7_clear 5 = .ok (.aload_n 0, 1) := by decide +kernel
theorem dX7_clear_6 : decode cX7_clear 6 = .ok (.iconst 0, 1) := by decide +kernel
theorem dX7_clear_7 : decode cX7_clear 7 = .ok (.putfield 82, 3) := by decide +kernel
theorem dX7_clear_10 : decode cX7_clear 10 = .ok (.iload_n 1, 1) := by decide +kernel
theorem dX7_clear_11 : decode cX7_clear 11 = .ok (.ireturn, 1) := by decide +kernel
theorem dX7_port_0 : decode cX7_port 0 = .ok (.aload_n 0, 1) := by decide +kernel
theorem dX7_port_1 : decode cX7_port 1 = .ok (.getfield 72, 3) := by decide +kernel
theorem dX7_port_4 : decode cX7_port 4 = .ok (.aload_n 0, 1) := by decide +kernel
theorem dX7_port_5 : decode cX7_port 5 = .ok (.getfield 82, 3) := by decide +kernel
theorem dX7_port_8 : decode cX7_port 8 = .ok (.invokevirtual 89, 3) := by decide +kernel
theorem dX7_port_11 : decode cX7_port 11 = .ok (.istore_n 1, 1) := by decide +kernel
theorem dX7_port_12 : decode cX7_port 12 = .ok (.iload_n 1, 1) := by decide +kernel
theorem dX7_port_13 : decode cX7_port 13 = .ok (.ifCond .lt 8, 3) := by decide +kernel
theorem dX7_port_16 : decode cX7_port 16 = .ok (.bipush (-10), 2) := by decide +kernel
theorem dX7_port_18 : decode cX7_port 18 = .ok (.iload_n 1, 1) := by decide +kernel
theorem dX7_port_19 : decode cX7_port 19 = .ok (.isub, 1) := by decide +kernel
theorem dX7_port_20 : decode cX7_port 20 = .ok (.ireturn, 1) := by decide +kernel
theorem dX7_port_21 : decode cX7_port 21 = .ok (.aload_n 0, 1) := by decide +kernel
theorem dX7_port_22 : decode cX7_port 22 = .ok (.getfield 72, 3) := by decide +kernel
theorem dX7_port_25 : decode cX7_port 25 = .ok (.aload_n 0, 1) := by decide +kernel
theorem dX7_port_26 : decode cX7_port 26 = .ok (.getfield 10, 3) := by decide +kernel
theorem dX7_port_29 : decode cX7_port 29 = .ok (.invokevirtual 93, 3) := by decide +kernel
theorem dX7_port_32 : decode cX7_port 32 = .ok (.aload_n 0, 1) := by decide +kernel
theorem dX7_port_33 : decode cX7_port 33 = .ok (.getfield 72, 3) := by decide +kernel
theorem dX7_port_36 : decode cX7_port 36 = .ok (.aload_n 0, 1) := by decide +kernel
theorem dX7_port_37 : decode cX7_port 37 = .ok (.getfield 19, 3) := by decide +kernel
theorem dX7_port_40 : decode cX7_port 40 = .ok (.invokevirtual 97, 3) := by decide +kernel
theorem dX7_port_43 : decode cX7_port 43 = .ok (.aload_n 0, 1) := by decide +kernel
theorem dX7_port_44 : decode cX7_port 44 = .ok (.getfield 44, 3) := by decide +kernel
theorem dX7_port_47 : decode cX7_port 47 = .ok (.invokevirtual 101, 3) := by decide +kernel
theorem dX7_port_50 : decode cX7_port 50 = .ok (.iconst 0, 1) := by decide +kernel
theorem dX7_port_51 : decode cX7_port 51 = .ok (.istore_n 2, 1) := by decide +kernel
theorem dX7_port_52 : decode cX7_port 52 = .ok (.iload_n 2, 1) := by decide +kernel
theorem dX7_port_53 : decode cX7_port 53 = .ok (.iconst 2, 1) := by decide +kernel
theorem dX7_port_54 : decode cX7_port 54 = .ok (.if_icmp .ge 16, 3) := by decide +kernel
theorem dX7_port_57 : decode cX7_port 57 = .ok (.aload_n 0, 1) := by decide +kernel
theorem dX7_port_58 : decode cX7_port 58 = .ok (.getfield 59, 3) := by decide +kernel
theorem dX7_port_61 : decode cX7_port 61 = .ok (.iload_n 2, 1) := by decide +kernel
theorem dX7_port_62 : decode cX7_port 62 = .ok (.iconst 0, 1) := by decide +kernel
theorem dX7_port_63 : decode cX7_port 63 = .ok (.bastore, 1) := by decide +kernel
theorem dX7_port_64 : decode cX7_port 64 = .ok (.iinc 2 1, 3) := by decide +kernel
theorem dX7_port_67 : decode cX7_port 67 = .ok (.goto (-15), 3) := by decide +kernel
theorem dX7_port_70 : decode cX7_port 70 = .ok (.aload_n 0, 1) := by decide +kernel
theorem dX7_port_71 : decode cX7_port 71 = .ok (.iconst 0, 1) := by decide +kernel
theorem dX7_port_72 : decode cX7_port 72 = .ok (.putfield 86, 3) := by decide +kernel
theorem dX7_port_75 : decode cX7_port 75 = .ok (.aload_n 0, 1) := by decide +kernel
theorem dX7_port_76 : decode cX7_port 76 = .ok (.iconst 0, 1) := by decide +kernel
theorem dX7_port_77 : decode cX7_port 77 = .ok (.putfield 82, 3) := by decide +kernel
theorem dX7_port_80 : decode cX7_port 80 = .ok (.aload_n 0, 1) := by decide +kernel
theorem dX7_port_81 : decode cX7_port 81 = .ok (.getfield 72, 3) := by decide +kernel
theorem dX7_port_84 : decode cX7_port 84 = .ok (.getfield 104, 3) := by decide +kernel
theorem dX7_port_87 : decode cX7_port 87 = .ok (.ireturn, 1) := by decide +kernel
theorem dX7_place_0 : decode cX7_place 0 = .ok (.aload_n 0, 1) := by decide +kernel
theorem dX7_place_1 : decode cX7_place 1 = .ok (.iload_n 1, 1) := by decide +kernel
theorem dX7_place_2 : decode cX7_place 2 = .ok (.invokevirtual 107, 3) := by decide +kernel
theorem dX7_place_5 : decode cX7_place 5 = .ok (.ifCond .ne 5, 3) := by decide +kernel
theorem dX7_place_8 : decode cX7_place 8 = .ok (.iconst (-1), 1) := by decide +kernel
theorem dX7_place_9 : decode cX7_place 9 = .ok (.ireturn, 1) := by decide +kernel
theorem dX7_place_10 : decode cX7_place 10 = .ok (.iload_n 2, 1) := by decide +kernel
theorem dX7_place_11 : decode cX7_place 11 = .ok (.tableswitch 54 0 2 #[25, 35, 45], 25) := by decide +kernel
theorem dX7_place_36 : decode cX7_place 36 = .ok (.aload_n 0, 1) := by decide +kernel
theorem dX7_place_37 : decode cX7_place 37 = .ok (.getfield 10, 3) := by decide +kernel
theorem dX7_place_40 : decode cX7_place 40 = .ok (.getfield 111, 3) := by decide +kernel
theorem dX7_place_43 : decode cX7_place 43 = .ok (.iload_n 1, 1) := by decide +kernel
theorem dX7_place_44 : decode cX7_place 44 = .ok (.iaload, 1) := by decide +kernel
theorem dX7_place_45 : decode cX7_place 45 = .ok (.ireturn, 1) := by decide +kernel
theorem dX7_place_46 : decode cX7_place 46 = .ok (.aload_n 0, 1) := by decide +kernel
theorem dX7_place_47 : decode cX7_place 47 = .ok (.getfield 10, 3) := by decide +kernel
theorem dX7_place_50 : decode cX7_place 50 = .ok (.getfield 114, 3) := by decide +kernel
theorem dX7_place_53 : decode cX7_place 53 = .ok (.iload_n 1, 1) := by decide +kernel
theorem dX7_place_54 : decode cX7_place 54 = .ok (.iaload, 1) := by decide +kernel
theorem dX7_place_55 : decode cX7_place 55 = .ok (.ireturn, 1) := by decide +kernel
theorem dX7_place_56 : decode cX7_place 56 = .ok (.aload_n 0, 1) := by decide +kernel
theorem dX7_place_57 : decode cX7_place 57 = .ok (.getfield 19, 3) := by decide +kernel
theorem dX7_place_60 : decode cX7_place 60 = .ok (.iload_n 1, 1) := by decide +kernel
theorem dX7_place_61 : decode cX7_place 61 = .ok (.invokevirtual 117, 3) := by decide +kernel
theorem dX7_place_64 : decode cX7_place 64 = .ok (.ireturn, 1) := by decide +kernel
theorem dX7_place_65 : decode cX7_place 65 = .ok (.iconst (-1), 1) := by decide +kernel
theorem dX7_place_66 : decode cX7_place 66 = .ok (.ireturn, 1) := by decide +kernel
theorem dX7_part_0 : decode cX7_part 0 = .ok (.aload_n 0, 1) := by decide +kernel
theorem dX7_part_1 : decode cX7_part 1 = .ok (.iload_n 1, 1) := by decide +kernel
theorem dX7_part_2 : decode cX7_part 2 = .ok (.invokevirtual 120, 3) := by decide +kernel
theorem dX7_part_5 : decode cX7_part 5 = .ok (.ifCond .ne 5, 3) := by decide +kernel
theorem dX7_part_8 : decode cX7_part 8 = .ok (.iconst (-1), 1) := by decide +kernel
theorem dX7_part_9 : decode cX7_part 9 = .ok (.ireturn, 1) := by decide +kernel
theorem dX7_part_10 : decode cX7_part 10 = .ok (.iload_n 2, 1) := by decide +kernel
theorem dX7_part_11 : decode cX7_part 11 = .ok (.tableswitch 69 0 3 #[29, 39, 49, 59], 29) := by decide +kernel
theorem dX7_part_40 : decode cX7_part 40 = .ok (.aload_n 0, 1) := by decide +kernel
theorem dX7_part_41 : decode cX7_part 41 = .ok (.getfield 19, 3) := by decide +kernel
theorem dX7_part_44 : decode cX7_part 44 = .ok (.getfield 123, 3) := by decide +kernel
theorem dX7_part_47 : decode cX7_part 47 = .ok (.iload_n 1, 1) := by decide +kernel
theorem dX7_part_48 : decode cX7_part 48 = .ok (.iaload, 1) := by decide +kernel
theorem dX7_part_49 : decode cX7_part 49 = .ok (.ireturn, 1) := by decide +kernel
theorem dX7_part_50 : decode cX7_part 50 = .ok (.aload_n 0, 1) := by decide +kernel
theorem dX7_part_51 : decode cX7_part 51 = .ok (.getfield 19, 3) := by decide +kernel
theorem dX7_part_54 : decode cX7_part 54 = .ok (.getfield 126, 3) := by decide +kernel
theorem dX7_part_57 : decode cX7_part 57 = .ok (.iload_n 1, 1) := by decide +kernel
theorem dX7_part_58 : decode cX7_part 58 = .ok (.iaload, 1) := by decide +kernel
theorem dX7_part_59 : decode cX7_part 59 = .ok (.ireturn, 1) := by decide +kernel
theorem dX7_part_60 : decode cX7_part 60 = .ok (.aload_n 0, 1) := by decide +kernel
theorem dX7_part_61 : decode cX7_part 61 = .ok (.getfield 19, 3) := by decide +kernel
theorem dX7_part_64 : decode cX7_part 64 = .ok (.getfield 129, 3) := by decide +kernel
theorem dX7_part_67 : decode cX7_part 67 = .ok (.iload_n 1, 1) := by decide +kernel
theorem dX7_part_68 : decode cX7_part 68 = .ok (.iaload, 1) := by decide +kernel
theorem dX7_part_69 : decode cX7_part 69 = .ok (.ireturn, 1) := by decide +kernel
theorem dX7_part_70 : decode cX7_part 70 = .ok (.aload_n 0, 1) := by decide +kernel
theorem dX7_part_71 : decode cX7_part 71 = .ok (.getfield 19, 3) := by decide +kernel
theorem dX7_part_74 : decode cX7_part 74 = .ok (.getfield 132, 3) := by decide +kernel
theorem dX7_part_77 : decode cX7_part 77 = .ok (.iload_n 1, 1) := by decide +kernel
theorem dX7_part_78 : decode cX7_part 78 = .ok (.iaload, 1) := by decide +kernel
theorem dX7_part_79 : decode cX7_part 79 = .ok (.ireturn, 1) := by decide +kernel
theorem dX7_part_80 : decode cX7_part 80 = .ok (.iconst (-1), 1) := by decide +kernel
theorem dX7_part_81 : decode cX7_part 81 = .ok (.ireturn, 1) := by decide +kernel
theorem dX7_inPlace_0 : decode cX7_inPlace 0 = .ok (.aload_n 0, 1) := by decide +kernel
theorem dX7_inPlace_1 : decode cX7_inPlace 1 = .ok (.iload_n 1, 1) := by decide +kernel
theorem dX7_inPlace_2 : decode cX7_inPlace 2 = .ok (.invokevirtual 135, 3) := by decide +kernel
theorem dX7_inPlace_5 : decode cX7_inPlace 5 = .ok (.ifCond .eq 11, 3) := by decide +kernel
theorem dX7_inPlace_8 : decode cX7_inPlace 8 = .ok (.aload_n 0, 1) := by decide +kernel
theorem dX7_inPlace_9 : decode cX7_inPlace 9 = .ok (.iload_n 2, 1) := by decide +kernel
theorem dX7_inPlace_10 : decode cX7_inPlace 10 = .ok (.invokevirtual 107, 3) := by decide +kernel
theorem dX7_inPlace_13 : decode cX7_inPlace 13 = .ok (.ifCond .ne 5, 3) := by decide +kernel
theorem dX7_inPlace_16 : decode cX7_inPlace 16 = .ok (.iconst (-1), 1) := by decide +kernel
theorem dX7_inPlace_17 : decode cX7_inPlace 17 = .ok (.ireturn, 1) := by decide +kernel
theorem dX7_inPlace_18 : decode cX7_inPlace 18 = .ok (.aload_n 0, 1) := by decide +kernel
theorem dX7_inPlace_19 : decode cX7_inPlace 19 = .ok (.getfield 19, 3) := by decide +kernel
theorem dX7_inPlace_22 : decode cX7_inPlace 22 = .ok (.iload_n 1, 1) := by decide +kernel
theorem dX7_inPlace_23 : decode cX7_inPlace 23 = .ok (.iload_n 2, 1) := by decide +kernel
theorem dX7_inPlace_24 : decode cX7_inPlace 24 = .ok (.invokevirtual 138, 3) := by decide +kernel
theorem dX7_inPlace_27 : decode cX7_inPlace 27 = .ok (.ireturn, 1) := by decide +kernel
theorem dX7_ship_0 : decode cX7_ship 0 = .ok (.aload_n 0, 1) := by decide +kernel
theorem dX7_ship_1 : decode cX7_ship 1 = .ok (.iload_n 1, 1) := by decide +kernel
theorem dX7_ship_2 : decode cX7_ship 2 = .ok (.invokevirtual 135, 3) := by decide +kernel
theorem dX7_ship_5 : decode cX7_ship 5 = .ok (.ifCond .ne 5, 3) := by decide +kernel
theorem dX7_ship_8 : decode cX7_ship 8 = .ok (.iconst (-1), 1) := by decide +kernel
theorem dX7_ship_9 : decode cX7_ship 9 = .ok (.ireturn, 1) := by decide +kernel
theorem dX7_ship_10 : decode cX7_ship 10 = .ok (.iload_n 2, 1) := by decide +kernel
theorem dX7_ship_11 : decode cX7_ship 11 = .ok (.lookupswitch 41 #[(0, 25), (1, 35)], 25) := by decide +kernel
theorem dX7_ship_36 : decode cX7_ship 36 = .ok (.aload_n 0, 1) := by decide +kernel
theorem dX7_ship_37 : decode cX7_ship 37 = .ok (.getfield 19, 3) := by decide +kernel
theorem dX7_ship_40 : decode cX7_ship 40 = .ok (.getfield 142, 3) := by decide +kernel
theorem dX7_ship_43 : decode cX7_ship 43 = .ok (.iload_n 1, 1) := by decide +kernel
theorem dX7_ship_44 : decode cX7_ship 44 = .ok (.iaload, 1) := by decide +kernel
theorem dX7_ship_45 : decode cX7_ship 45 = .ok (.ireturn, 1) := by decide +kernel
theorem dX7_ship_46 : decode cX7_ship 46 = .ok (.aload_n 0, 1) := by decide +kernel
theorem dX7_ship_47 : decode cX7_ship 47 = .ok (.iload_n 1, 1) := by decide +kernel
theorem dX7_ship_48 : decode cX7_ship 48 = .ok (.invokevirtual 145, 3) := by decide +kernel
theorem dX7_ship_51 : decode cX7_ship 51 = .ok (.ireturn, 1) := by decide +kernel
theorem dX7_ship_52 : decode cX7_ship 52 = .ok (.iconst (-1), 1) := by decide +kernel
theorem dX7_ship_53 : decode cX7_ship 53 = .ok (.ireturn, 1) := by decide +kernel
theorem dX7_is_0 : decode cX7_is 0 = .ok (.aload_n 0, 1) := by decide +kernel
theorem dX7_is_1 : decode cX7_is 1 = .ok (.iload_n 1, 1) := by decide +kernel
theorem dX7_is_2 : decode cX7_is 2 = .ok (.invokevirtual 135, 3) := by decide +kernel
theorem dX7_is_5 : decode cX7_is 5 = .ok (.ifCond .eq 10, 3) := by decide +kernel
theorem dX7_is_8 : decode cX7_is 8 = .ok (.iload_n 2, 1) := by decide +kernel
theorem dX7_is_9 : decode cX7_is 9 = .ok (.invokestatic 148, 3) := by decide +kernel
theorem dX7_is_12 : decode cX7_is 12 = .ok (.ifCond .ne 5, 3) := by decide +kernel
theorem dX7_is_15 : decode cX7_is 15 = .ok (.iconst (-1), 1) := by decide +kernel
theorem dX7_is_16 : decode cX7_is 16 = .ok (.ireturn, 1) := by decide +kernel
theorem dX7_is_17 : decode cX7_is 17 = .ok (.aload_n 0, 1) := by decide +kernel
theorem dX7_is_18 : decode cX7_is 18 = .ok (.iload_n 1, 1) := by decide +kernel
theorem dX7_is_19 : decode cX7_is 19 = .ok (.iload_n 2, 1) := by decide +kernel
theorem dX7_is_20 : decode cX7_is 20 = .ok (.invokevirtual 151, 3) := by decide +kernel
theorem dX7_is_23 : decode cX7_is 23 = .ok (.ireturn, 1) := by decide +kernel
theorem dX7_now_0 : decode cX7_now 0 = .ok (.iload_n 1, 1) := by decide +kernel
theorem dX7_now_1 : decode cX7_now 1 = .ok (.tableswitch 69 0 4 #[35, 43, 51, 56, 61], 35) := by decide +kernel
theorem dX7_now_36 : decode cX7_now 36 = .ok (.aload_n 0, 1) := by decide +kernel
theorem dX7_now_37 : decode cX7_now 37 = .ok (.getfield 19, 3) := by decide +kernel
theorem dX7_now_40 : decode cX7_now 40 = .ok (.getfield 154, 3) := by decide +kernel
theorem dX7_now_43 : decode cX7_now 43 = .ok (.ireturn, 1) := by decide +kernel
theorem dX7_now_44 : decode cX7_now 44 = .ok (.aload_n 0, 1) := by decide +kernel
theorem dX7_now_45 : decode cX7_now 45 = .ok (.getfield 19, 3) := by decide +kernel
theorem dX7_now_48 : decode cX7_now 48 = .ok (.invokevirtual 157, 3) := by decide +kernel
theorem dX7_now_51 : decode cX7_now 51 = .ok (.ireturn, 1) := by decide +kernel
theorem dX7_now_52 : decode cX7_now 52 = .ok (.aload_n 0, 1) := by decide +kernel
theorem dX7_now_53 : decode cX7_now 53 = .ok (.invokevirtual 161, 3) := by decide +kernel
theorem dX7_now_56 : decode cX7_now 56 = .ok (.ireturn, 1) := by decide +kernel
theorem dX7_now_57 : decode cX7_now 57 = .ok (.aload_n 0, 1) := by decide +kernel
theorem dX7_now_58 : decode cX7_now 58 = .ok (.invokevirtual 164, 3) := by decide +kernel
theorem dX7_now_61 : decode cX7_now 61 = .ok (.ireturn, 1) := by decide +kernel
theorem dX7_now_62 : decode cX7_now 62 = .ok (.aload_n 0, 1) := by decide +kernel
theorem dX7_now_63 : decode cX7_now 63 = .ok (.getfield 44, 3) := by decide +kernel
theorem dX7_now_66 : decode cX7_now 66 = .ok (.getfield 167, 3) := by decide +kernel
theorem dX7_now_69 : decode cX7_now 69 = .ok (.ireturn, 1) := by decide +kernel
theorem dX7_now_70 : decode cX7_now 70 = .ok (.iconst (-1), 1) := by decide +kernel
theorem dX7_now_71 : decode cX7_now 71 = .ok (.ireturn, 1) := by decide +kernel
theorem dX7_replace_0 : decode cX7_replace 0 = .ok (.aload_n 0, 1) := by decide +kernel
theorem dX7_replace_1 : decode cX7_replace 1 = .ok (.iload_n 1, 1) := by decide +kernel
theorem dX7_replace_2 : decode cX7_replace 2 = .ok (.invokevirtual 135, 3) := by decide +kernel
theorem dX7_replace_5 : decode cX7_replace 5 = .ok (.ifCond .eq 11, 3) := by decide +kernel
theorem dX7_replace_8 : decode cX7_replace 8 = .ok (.aload_n 0, 1) := by decide +kernel
theorem dX7_replace_9 : decode cX7_replace 9 = .ok (.iload_n 2, 1) := by decide +kernel
theorem dX7_replace_10 : decode cX7_replace 10 = .ok (.invokevirtual 120, 3) := by decide +kernel
theorem dX7_replace_13 : decode cX7_replace 13 = .ok (.ifCond .ne 5, 3) := by decide +kernel
theorem dX7_replace_16 : decode cX7_replace 16 = .ok (.iconst (-1), 1) := by decide +kernel
theorem dX7_replace_17 : decode cX7_replace 17 = .ok (.ireturn, 1) := by decide +kernel
theorem dX7_replace_18 : decode cX7_replace 18 = .ok (.aload_n 0, 1) := by decide +kernel
theorem dX7_replace_19 : decode cX7_replace 19 = .ok (.getfield 19, 3) := by decide +kernel
theorem dX7_replace_22 : decode cX7_replace 22 = .ok (.getfield 132, 3) := by decide +kernel
theorem dX7_replace_25 : decode cX7_replace 25 = .ok (.iload_n 2, 1) := by decide +kernel
theorem dX7_replace_26 : decode cX7_replace 26 = .ok (.iaload, 1) := by decide +kernel
theorem dX7_replace_27 : decode cX7_replace 27 = .ok (.bipush 8, 2) := by decide +kernel
theorem dX7_replace_29 : decode cX7_replace 29 = .ok (.if_icmp .eq 6, 3) := by decide +kernel
theorem dX7_replace_32 : decode cX7_replace 32 = .ok (.bipush (-2), 2) := by decide +kernel
theorem dX7_replace_34 : decode cX7_replace 34 = .ok (.ireturn, 1) := by decide +kernel
theorem dX7_replace_35 : decode cX7_replace 35 = .ok (.aload_n 0, 1) := by decide +kernel
theorem dX7_replace_36 : decode cX7_replace 36 = .ok (.getfield 44, 3) := by decide +kernel
theorem dX7_replace_39 : decode cX7_replace 39 = .ok (.aload_n 0, 1) := by decide +kernel
theorem dX7_replace_40 : decode cX7_replace 40 = .ok (.getfield 19, 3) := by decide +kernel
theorem dX7_replace_43 : decode cX7_replace 43 = .ok (.invokevirtual 170, 3) := by decide +kernel
theorem dX7_replace_46 : decode cX7_replace 46 = .ok (.aload_n 0, 1) := by decide +kernel
theorem dX7_replace_47 : decode cX7_replace 47 = .ok (.getfield 19, 3) := by decide +kernel
theorem dX7_replace_50 : decode cX7_replace 50 = .ok (.iload_n 1, 1) := by decide +kernel
theorem dX7_replace_51 : decode cX7_replace 51 = .ok (.aload_n 0, 1) := by decide +kernel
theorem dX7_replace_52 : decode cX7_replace 52 = .ok (.getfield 19, 3) := by decide +kernel
theorem dX7_replace_55 : decode cX7_replace 55 = .ok (.getfield 123, 3) := by decide +kernel
theorem dX7_replace_58 : decode cX7_replace 58 = .ok (.iload_n 2, 1) := by decide +kernel
theorem dX7_replace_59 : decode cX7_replace 59 = .ok (.iaload, 1) := by decide +kernel
theorem dX7_replace_60 : decode cX7_replace 60 = .ok (.invokevirtual 138, 3) := by decide +kernel
theorem dX7_replace_63 : decode cX7_replace 63 = .ok (.istore_n 3, 1) := by decide +kernel
theorem dX7_replace_64 : decode cX7_replace 64 = .ok (.aload_n 0, 1) := by decide +kernel
theorem dX7_replace_65 : decode cX7_replace 65 = .ok (.getfield 19, 3) := by decide +kernel
theorem dX7_replace_68 : decode cX7_replace 68 = .ok (.getfield 132, 3) := by decide +kernel
theorem dX7_replace_71 : decode cX7_replace 71 = .ok (.iload_n 3, 1) := by decide +kernel
theorem dX7_replace_72 : decode cX7_replace 72 = .ok (.bipush 8, 2) := by decide +kernel
theorem dX7_replace_74 : decode cX7_replace 74 = .ok (.iastore, 1) := by decide +kernel
theorem dX7_replace_75 : decode cX7_replace 75 = .ok (.aload_n 0, 1) := by decide +kernel
theorem dX7_replace_76 : decode cX7_replace 76 = .ok (.getfield 19, 3) := by decide +kernel
theorem dX7_replace_79 : decode cX7_replace 79 = .ok (.iload_n 1, 1) := by decide +kernel
theorem dX7_replace_80 : decode cX7_replace 80 = .ok (.iload_n 2, 1) := by decide +kernel
theorem dX7_replace_81 : decode cX7_replace 81 = .ok (.invokevirtual 173, 3) := by decide +kernel
theorem dX7_replace_84 : decode cX7_replace 84 = .ok (.iload_n 3, 1) := by decide +kernel
theorem dX7_replace_85 : decode cX7_replace 85 = .ok (.ireturn, 1) := by decide +kernel
theorem dX7_fresh_0 : decode cX7_fresh 0 = .ok (.aload_n 0, 1) := by decide +kernel
theorem dX7_fresh_1 : decode cX7_fresh 1 = .ok (.iload_n 1, 1) := by decide +kernel
theorem dX7_fresh_2 : decode cX7_fresh 2 = .ok (.invokevirtual 107, 3) := by decide +kernel
theorem dX7_fresh_5 : decode cX7_fresh 5 = .ok (.ifCond .ne 5, 3) := by decide +kernel
theorem dX7_fresh_8 : decode cX7_fresh 8 = .ok (.iconst (-1), 1) := by decide +kernel
theorem dX7_fresh_9 : decode cX7_fresh 9 = .ok (.ireturn, 1) := by decide +kernel
theorem dX7_fresh_10 : decode cX7_fresh 10 = .ok (.aload_n 0, 1) := by decide +kernel
theorem dX7_fresh_11 : decode cX7_fresh 11 = .ok (.getfield 19, 3) := by decide +kernel
theorem dX7_fresh_14 : decode cX7_fresh 14 = .ok (.getfield 177, 3) := by decide +kernel
theorem dX7_fresh_17 : decode cX7_fresh 17 = .ok (.bipush 48, 2) := by decide +kernel
theorem dX7_fresh_19 : decode cX7_fresh 19 = .ok (.if_icmp .lt 6, 3) := by decide +kernel
theorem dX7_fresh_22 : decode cX7_fresh 22 = .ok (.bipush (-3), 2) := by decide +kernel
theorem dX7_fresh_24 : decode cX7_fresh 24 = .ok (.ireturn, 1) := by decide +kernel
theorem dX7_fresh_25 : decode cX7_fresh 25 = .ok (.aload_n 0, 1) := by decide +kernel
theorem dX7_fresh_26 : decode cX7_fresh 26 = .ok (.getfield 44, 3) := by decide +kernel
theorem dX7_fresh_29 : decode cX7_fresh 29 = .ok (.aload_n 0, 1) := by decide +kernel
theorem dX7_fresh_30 : decode cX7_fresh 30 = .ok (.getfield 19, 3) := by decide +kernel
theorem dX7_fresh_33 : decode cX7_fresh 33 = .ok (.invokevirtual 170, 3) := by decide +kernel
theorem dX7_fresh_36 : decode cX7_fresh 36 = .ok (.aload_n 0, 1) := by decide +kernel
theorem dX7_fresh_37 : decode cX7_fresh 37 = .ok (.getfield 19, 3) := by decide +kernel
theorem dX7_fresh_40 : decode cX7_fresh 40 = .ok (.iload_n 1, 1) := by decide +kernel
theorem dX7_fresh_41 : decode cX7_fresh 41 = .ok (.bipush 9, 2) := by decide +kernel
theorem dX7_fresh_43 : decode cX7_fresh 43 = .ok (.iconst 0, 1) := by decide +kernel
theorem dX7_fresh_44 : decode cX7_fresh 44 = .ok (.invokevirtual 180, 3) := by decide +kernel
theorem dX7_fresh_47 : decode cX7_fresh 47 = .ok (.ireturn, 1) := by decide +kernel
theorem dX7_build_0 : decode cX7_build 0 = .ok (.iconst 0, 1) := by decide +kernel
theorem dX7_build_1 : decode cX7_build 1 = .ok (.istore_n 1, 1) := by decide +kernel
theorem dX7_build_2 : decode cX7_build 2 = .ok (.iload_n 1, 1) := by decide +kernel
theorem dX7_build_3 : decode cX7_build 3 = .ok (.aload_n 0, 1) := by decide +kernel
theorem dX7_build_4 : decode cX7_build 4 = .ok (.getfield 10, 3) := by decide +kernel
theorem dX7_build_7 : decode cX7_build 7 = .ok (.getfield 184, 3) := by decide +kernel
theorem dX7_build_10 : decode cX7_build 10 = .ok (.if_icmp .ge 23, 3) := by decide +kernel
theorem dX7_build_13 : decode cX7_build 13 = .ok (.aload_n 0, 1) := by decide +kernel
theorem dX7_build_14 : decode cX7_build 14 = .ok (.getfield 19, 3) := by decide +kernel
theorem dX7_build_17 : decode cX7_build 17 = .ok (.iload_n 1, 1) := by decide +kernel
theorem dX7_build_18 : decode cX7_build 18 = .ok (.invokevirtual 187, 3) := by decide +kernel
theorem dX7_build_21 : decode cX7_build 21 = .ok (.ifCond .ge 6, 3) := by decide +kernel
theorem dX7_build_24 : decode cX7_build 24 = .ok (.bipush (-2), 2) := by decide +kernel
theorem dX7_build_26 : decode cX7_build 26 = .ok (.ireturn, 1) := by decide +kernel
theorem dX7_build_27 : decode cX7_build 27 = .ok (.iinc 1 1, 3) := by decide +kernel
theorem dX7_build_30 : decode cX7_build 30 = .ok (.goto (-28), 3) := by decide +kernel
theorem dX7_build_33 : decode cX7_build 33 = .ok (.aload_n 0, 1) := by decide +kernel
theorem dX7_build_34 : decode cX7_build 34 = .ok (.getfield 19, 3) := by decide +kernel
theorem dX7_build_37 : decode cX7_build 37 = .ok (.getfield 190, 3) := by decide +kernel
theorem dX7_build_40 : decode cX7_build 40 = .ok (.bipush 6, 2) := by decide +kernel
theorem dX7_build_42 : decode cX7_build 42 = .ok (.if_icmp .lt 6, 3) := by decide +kernel
theorem dX7_build_45 : decode cX7_build 45 = .ok (.bipush (-3), 2) := by decide +kernel
theorem dX7_build_47 : decode cX7_build 47 = .ok (.ireturn, 1) := by decide +kernel
theorem dX7_build_48 : decode cX7_build 48 = .ok (.aload_n 0, 1) := by decide +kernel
theorem dX7_build_49 : decode cX7_build 49 = .ok (.getfield 44, 3) := by decide +kernel
theorem dX7_build_52 : decode cX7_build 52 = .ok (.aload_n 0, 1) := by decide +kernel
theorem dX7_build_53 : decode cX7_build 53 = .ok (.getfield 19, 3) := by decide +kernel
theorem dX7_build_56 : decode cX7_build 56 = .ok (.invokevirtual 170, 3) := by decide +kernel
theorem dX7_build_59 : decode cX7_build 59 = .ok (.aload_n 0, 1) := by decide +kernel
theorem dX7_build_60 : decode cX7_build 60 = .ok (.getfield 19, 3) := by decide +kernel
theorem dX7_build_63 : decode cX7_build 63 = .ok (.bipush 9, 2) := by decide +kernel
theorem dX7_build_65 : decode cX7_build 65 = .ok (.invokevirtual 193, 3) := by decide +kernel
theorem dX7_build_68 : decode cX7_build 68 = .ok (.istore_n 1, 1) := by decide +kernel
theorem dX7_build_69 : decode cX7_build 69 = .ok (.iconst 0, 1) := by decide +kernel
theorem dX7_build_70 : decode cX7_build 70 = .ok (.istore_n 2, 1) := by decide +kernel
theorem dX7_build_71 : decode cX7_build 71 = .ok (.iload_n 2, 1) := by decide +kernel
theorem dX7_build_72 : decode cX7_build 72 = .ok (.aload_n 0, 1) := by decide +kernel
theorem dX7_build_73 : decode cX7_build 73 = .ok (.getfield 10, 3) := by decide +kernel
theorem dX7_build_76 : decode cX7_build 76 = .ok (.getfield 184, 3) := by decide +kernel
theorem dX7_build_79 : decode cX7_build 79 = .ok (.if_icmp .ge 25, 3) := by decide +kernel
theorem dX7_build_82 : decode cX7_build 82 = .ok (.aload_n 0, 1) := by decide +kernel
theorem dX7_build_83 : decode cX7_build 83 = .ok (.getfield 19, 3) := by decide +kernel
theorem dX7_build_86 : decode cX7_build 86 = .ok (.iload_n 1, 1) := by decide +kernel
theorem dX7_build_87 : decode cX7_build 87 = .ok (.aload_n 0, 1) := by decide +kernel
theorem dX7_build_88 : decode cX7_build 88 = .ok (.getfield 19, 3) := by decide +kernel
theorem dX7_build_91 : decode cX7_build 91 = .ok (.iload_n 2, 1) := by decide +kernel
theorem dX7_build_92 : decode cX7_build 92 = .ok (.invokevirtual 187, 3) := by decide +kernel
theorem dX7_build_95 : decode cX7_build 95 = .ok (.invokevirtual 173, 3) := by decide +kernel
theorem dX7_build_98 : decode cX7_build 98 = .ok (.iinc 2 1, 3) := by decide +kernel
theorem dX7_build_101 : decode cX7_build 101 = .ok (.goto (-30), 3) := by decide +kernel
theorem dX7_build_104 : decode cX7_build 104 = .ok (.iload_n 1, 1) := by decide +kernel
theorem dX7_build_105 : decode cX7_build 105 = .ok (.ireturn, 1) := by decide +kernel
theorem dX7_year_0 : decode cX7_year 0 = .ok (.aload_n 0, 1) := by decide +kernel
theorem dX7_year_1 : decode cX7_year 1 = .ok (.getfield 19, 3) := by decide +kernel
theorem dX7_year_4 : decode cX7_year 4 = .ok (.getfield 154, 3) := by decide +kernel
theorem dX7_year_7 : decode cX7_year 7 = .ok (.bipush 99, 2) := by decide +kernel
theorem dX7_year_9 : decode cX7_year 9 = .ok (.if_icmp .lt 6, 3) := by decide +kernel
theorem dX7_year_12 : decode cX7_year 12 = .ok (.bipush (-2), 2) := by decide +kernel
theorem dX7_year_14 : decode cX7_year 14 = .ok (.ireturn, 1) := by decide +kernel
theorem dX7_year_15 : decode cX7_year 15 = .ok (.aload_n 0, 1) := by decide +kernel
theorem dX7_year_16 : decode cX7_year 16 = .ok (.getfield 44, 3) := by decide +kernel
theorem dX7_year_19 : decode cX7_year 19 = .ok (.aload_n 0, 1) := by decide +kernel
theorem dX7_year_20 : decode cX7_year 20 = .ok (.getfield 19, 3) := by decide +kernel
theorem dX7_year_23 : decode cX7_year 23 = .ok (.invokevirtual 170, 3) := by decide +kernel
theorem dX7_year_26 : decode cX7_year 26 = .ok (.aload_n 0, 1) := by decide +kernel
theorem dX7_year_27 : decode cX7_year 27 = .ok (.getfield 19, 3) := by decide +kernel
theorem dX7_year_30 : decode cX7_year 30 = .ok (.dup, 1) := by decide +kernel
theorem dX7_year_31 : decode cX7_year 31 = .ok (.getfield 154, 3) := by decide +kernel
theorem dX7_year_34 : decode cX7_year 34 = .ok (.iconst 1, 1) := by decide +kernel
theorem dX7_year_35 : decode cX7_year 35 = .ok (.iadd, 1) := by decide +kernel
theorem dX7_year_36 : decode cX7_year 36 = .ok (.putfield 154, 3) := by decide +kernel
theorem dX7_year_39 : decode cX7_year 39 = .ok (.iconst 0, 1) := by decide +kernel
theorem dX7_year_40 : decode cX7_year 40 = .ok (.istore_n 1, 1) := by decide +kernel
theorem dX7_year_41 : decode cX7_year 41 = .ok (.iconst 0, 1) := by decide +kernel
theorem dX7_year_42 : decode cX7_year 42 = .ok (.istore_n 2, 1) := by decide +kernel
theorem dX7_year_43 : decode cX7_year 43 = .ok (.iload_n 2, 1) := by decide +kernel
theorem dX7_year_44 : decode cX7_year 44 = .ok (.aload_n 0, 1) := by decide +kernel
theorem dX7_year_45 : decode cX7_year 45 = .ok (.getfield 19, 3) := by decide +kernel
theorem dX7_year_48 : decode cX7_year 48 = .ok (.getfield 177, 3) := by decide +kernel
theorem dX7_year_51 : decode cX7_year 51 = .ok (.if_icmp .ge 79, 3) := by decide +kernel
theorem dX7_year_54 : decode cX7_year 54 = .ok (.aload_n 0, 1) := by decide +kernel
theorem dX7_year_55 : decode cX7_year 55 = .ok (.getfield 19, 3) := by decide +kernel
theorem dX7_year_58 : decode cX7_year 58 = .ok (.getfield 129, 3) := by decide +kernel
theorem dX7_year_61 : decode cX7_year 61 = .ok (.iload_n 2, 1) := by decide +kernel
theorem dX7_year_62 : decode cX7_year 62 = .ok (.dup2, 1) := by decide +kernel
theorem dX7_year_63 : decode cX7_year 63 = .ok (.iaload, 1) := by decide +kernel
theorem dX7_year_64 : decode cX7_year 64 = .ok (.iconst 1, 1) := by decide +kernel
theorem dX7_year_65 : decode cX7_year 65 = .ok (.iadd, 1) := by decide +kernel
theorem dX7_year_66 : decode cX7_year 66 = .ok (.iastore, 1) := by decide +kernel
theorem dX7_year_67 : decode cX7_year 67 = .ok (.aload_n 0, 1) := by decide +kernel
theorem dX7_year_68 : decode cX7_year 68 = .ok (.getfield 19, 3) := by decide +kernel
theorem dX7_year_71 : decode cX7_year 71 = .ok (.getfield 132, 3) := by decide +kernel
theorem dX7_year_74 : decode cX7_year 74 = .ok (.iload_n 2, 1) := by decide +kernel
theorem dX7_year_75 : decode cX7_year 75 = .ok (.iaload, 1) := by decide +kernel
theorem dX7_year_76 : decode cX7_year 76 = .ok (.bipush 8, 2) := by decide +kernel
theorem dX7_year_78 : decode cX7_year 78 = .ok (.if_icmp .ne 46, 3) := by decide +kernel
theorem dX7_year_81 : decode cX7_year 81 = .ok (.aload_n 0, 1) := by decide +kernel
theorem dX7_year_82 : decode cX7_year 82 = .ok (.getfield 19, 3) := by decide +kernel
theorem dX7_year_85 : decode cX7_year 85 = .ok (.getfield 129, 3) := by decide +kernel
theorem dX7_year_88 : decode cX7_year 88 = .ok (.iload_n 2, 1) := by decide +kernel
theorem dX7_year_89 : decode cX7_year 89 = .ok (.iaload, 1) := by decide +kernel
theorem dX7_year_90 : decode cX7_year 90 = .ok (.aload_n 0, 1) := by decide +kernel
theorem dX7_year_91 : decode cX7_year 91 = .ok (.getfield 10, 3) := by decide +kernel
theorem dX7_year_94 : decode cX7_year 94 = .ok (.getfield 114, 3) := by decide +kernel
theorem dX7_year_97 : decode cX7_year 97 = .ok (.aload_n 0, 1) := by decide +kernel
theorem dX7_year_98 : decode cX7_year 98 = .ok (.getfield 19, 3) := by decide +kernel
theorem dX7_year_101 : decode cX7_year 101 = .ok (.getfield 123, 3) := by decide +kernel
theorem dX7_year_104 : decode cX7_year 104 = .ok (.iload_n 2, 1) := by decide +kernel
theorem dX7_year_105 : decode cX7_year 105 = .ok (.iaload, 1) := by decide +kernel
theorem dX7_year_106 : decode cX7_year 106 = .ok (.iaload, 1) := by decide +kernel
theorem dX7_year_107 : decode cX7_year 107 = .ok (.if_icmp .lt 17, 3) := by decide +kernel
theorem dX7_year_110 : decode cX7_year 110 = .ok (.aload_n 0, 1) := by decide +kernel
theorem dX7_year_111 : decode cX7_year 111 = .ok (.getfield 19, 3) := by decide +kernel
theorem dX7_year_114 : decode cX7_year 114 = .ok (.getfield 132, 3) := by decide +kernel
theorem dX7_year_117 : decode cX7_year 117 = .ok (.iload_n 2, 1) := by decide +kernel
theorem dX7_year_118 : decode cX7_year 118 = .ok (.bipush 9, 2) := by decide +kernel
theorem dX7_year_120 : decode cX7_year 120 = .ok (.iastore, 1) := by decide +kernel
theorem dX7_year_121 : decode cX7_year 121 = .ok (.iinc 1 1, 3) := by decide +kernel
theorem dX7_year_124 : decode cX7_year 124 = .ok (.iinc 2 1, 3) := by decide +kernel
theorem dX7_year_127 : decode cX7_year 127 = .ok (.goto (-84), 3) := by decide +kernel
theorem dX7_year_130 : decode cX7_year 130 = .ok (.iload_n 1, 1) := by decide +kernel
theorem dX7_year_131 : decode cX7_year 131 = .ok (.ireturn, 1) := by decide +kernel
theorem dX7_undo_0 : decode cX7_undo 0 = .ok (.aload_n 0, 1) := by decide +kernel
theorem dX7_undo_1 : decode cX7_undo 1 = .ok (.getfield 44, 3) := by decide +kernel
theorem dX7_undo_4 : decode cX7_undo 4 = .ok (.getfield 167, 3) := by decide +kernel
theorem dX7_undo_7 : decode cX7_undo 7 = .ok (.ifCond .ne 6, 3) := by decide +kernel
theorem dX7_undo_10 : decode cX7_undo 10 = .ok (.bipush (-2), 2) := by decide +kernel
theorem dX7_undo_12 : decode cX7_undo 12 = .ok (.ireturn, 1) := by decide +kernel
theorem dX7_undo_13 : decode cX7_undo 13 = .ok (.aload_n 0, 1) := by decide +kernel
theorem dX7_undo_14 : decode cX7_undo 14 = .ok (.getfield 44, 3) := by decide +kernel
theorem dX7_undo_17 : decode cX7_undo 17 = .ok (.aload_n 0, 1) := by decide +kernel
theorem dX7_undo_18 : decode cX7_undo 18 = .ok (.getfield 19, 3) := by decide +kernel
theorem dX7_undo_21 : decode cX7_undo 21 = .ok (.invokevirtual 196, 3) := by decide +kernel
theorem dX7_undo_24 : decode cX7_undo 24 = .ok (.aload_n 0, 1) := by decide +kernel
theorem dX7_undo_25 : decode cX7_undo 25 = .ok (.getfield 44, 3) := by decide +kernel
theorem dX7_undo_28 : decode cX7_undo 28 = .ok (.getfield 167, 3) := by decide +kernel
theorem dX7_undo_31 : decode cX7_undo 31 = .ok (.ireturn, 1) := by decide +kernel
theorem dX7_twins_0 : decode cX7_twins 0 = .ok (.iload_n 1, 1) := by decide +kernel
theorem dX7_twins_1 : decode cX7_twins 1 = .ok (.invokestatic 148, 3) := by decide +kernel
theorem dX7_twins_4 : decode cX7_twins 4 = .ok (.ifCond .ne 5, 3) := by decide +kernel
theorem dX7_twins_7 : decode cX7_twins 7 = .ok (.iconst (-1), 1) := by decide +kernel
theorem dX7_twins_8 : decode cX7_twins 8 = .ok (.ireturn, 1) := by decide +kernel
theorem dX7_twins_9 : decode cX7_twins 9 = .ok (.aload_n 0, 1) := by decide +kernel
theorem dX7_twins_10 : decode cX7_twins 10 = .ok (.iload_n 1, 1) := by decide +kernel
theorem dX7_twins_11 : decode cX7_twins 11 = .ok (.invokevirtual 199, 3) := by decide +kernel
theorem dX7_twins_14 : decode cX7_twins 14 = .ok (.ireturn, 1) := by decide +kernel
theorem dX7_becomes_0 : decode cX7_becomes 0 = .ok (.aload_n 0, 1) := by decide +kernel
theorem dX7_becomes_1 : decode cX7_becomes 1 = .ok (.iload_n 1, 1) := by decide +kernel
theorem dX7_becomes_2 : decode cX7_becomes 2 = .ok (.invokevirtual 135, 3) := by decide +kernel
theorem dX7_becomes_5 : decode cX7_becomes 5 = .ok (.ifCond .eq 19, 3) := by decide +kernel
theorem dX7_becomes_8 : decode cX7_becomes 8 = .ok (.iload_n 2, 1) := by decide +kernel
theorem dX7_becomes_9 : decode cX7_becomes 9 = .ok (.invokestatic 148, 3) := by decide +kernel
theorem dX7_becomes_12 : decode cX7_becomes 12 = .ok (.ifCond .eq 12, 3) := by decide +kernel
theorem dX7_becomes_15 : decode cX7_becomes 15 = .ok (.iload_n 3, 1) := by decide +kernel
theorem dX7_becomes_16 : decode cX7_becomes 16 = .ok (.ifCond .lt 8, 3) := by decide +kernel
theorem dX7_becomes_19 : decode cX7_becomes 19 = .ok (.iload_n 3, 1) := by decide +kernel
theorem dX7_becomes_20 : decode cX7_becomes 20 = .ok (.iconst 4, 1) := by decide +kernel
theorem dX7_becomes_21 : decode cX7_becomes 21 = .ok (.if_icmp .lt 5, 3) := by decide +kernel
theorem dX7_becomes_24 : decode cX7_becomes 24 = .ok (.iconst (-1), 1) := by decide +kernel
theorem dX7_becomes_25 : decode cX7_becomes 25 = .ok (.ireturn, 1) := by decide +kernel
theorem dX7_becomes_26 : decode cX7_becomes 26 = .ok (.iload 4, 2) := by decide +kernel
theorem dX7_becomes_28 : decode cX7_becomes 28 = .ok (.iconst (-1), 1) := by decide +kernel
theorem dX7_becomes_29 : decode cX7_becomes 29 = .ok (.if_icmp .eq 14, 3) := by decide +kernel
theorem dX7_becomes_32 : decode cX7_becomes 32 = .ok (.aload_n 0, 1) := by decide +kernel
theorem dX7_becomes_33 : decode cX7_becomes 33 = .ok (.iload 4, 2) := by decide +kernel
theorem dX7_becomes_35 : decode cX7_becomes 35 = .ok (.invokevirtual 107, 3) := by decide +kernel
theorem dX7_becomes_38 : decode cX7_becomes 38 = .ok (.ifCond .ne 5, 3) := by decide +kernel
theorem dX7_becomes_41 : decode cX7_becomes 41 = .ok (.iconst (-1), 1) := by decide +kernel
theorem dX7_becomes_42 : decode cX7_becomes 42 = .ok (.ireturn, 1) := by decide +kernel
theorem dX7_becomes_43 : decode cX7_becomes 43 = .ok (.aload_n 0, 1) := by decide +kernel
theorem dX7_becomes_44 : decode cX7_becomes 44 = .ok (.getfield 37, 3) := by decide +kernel
theorem dX7_becomes_47 : decode cX7_becomes 47 = .ok (.iload_n 1, 1) := by decide +kernel
theorem dX7_becomes_48 : decode cX7_becomes 48 = .ok (.iload_n 2, 1) := by decide +kernel
theorem dX7_becomes_49 : decode cX7_becomes 49 = .ok (.iload_n 3, 1) := by decide +kernel
theorem dX7_becomes_50 : decode cX7_becomes 50 = .ok (.invokevirtual 202, 3) := by decide +kernel
theorem dX7_becomes_53 : decode cX7_becomes 53 = .ok (.aload_n 0, 1) := by decide +kernel
theorem dX7_becomes_54 : decode cX7_becomes 54 = .ok (.getfield 37, 3) := by decide +kernel
theorem dX7_becomes_57 : decode cX7_becomes 57 = .ok (.getfield 206, 3) := by decide +kernel
theorem dX7_becomes_60 : decode cX7_becomes 60 = .ok (.ifCond .ne 6, 3) := by decide +kernel
theorem dX7_becomes_63 : decode cX7_becomes 63 = .ok (.bipush (-9), 2) := by decide +kernel
theorem dX7_becomes_65 : decode cX7_becomes 65 = .ok (.ireturn, 1) := by decide +kernel
theorem dX7_becomes_66 : decode cX7_becomes 66 = .ok (.iload 4, 2) := by decide +kernel
theorem dX7_becomes_68 : decode cX7_becomes 68 = .ok (.iconst (-1), 1) := by decide +kernel
theorem dX7_becomes_69 : decode cX7_becomes 69 = .ok (.if_icmp .ne 13, 3) := by decide +kernel
theorem dX7_becomes_72 : decode cX7_becomes 72 = .ok (.aload_n 0, 1) := by decide +kernel
theorem dX7_becomes_73 : decode cX7_becomes 73 = .ok (.getfield 37, 3) := by decide +kernel
theorem dX7_becomes_76 : decode cX7_becomes 76 = .ok (.getfield 210, 3) := by decide +kernel
theorem dX7_becomes_79 : decode cX7_becomes 79 = .ok (.goto 13, 3) := by decide +kernel
theorem dX7_becomes_82 : decode cX7_becomes 82 = .ok (.aload_n 0, 1) := by decide +kernel
theorem dX7_becomes_83 : decode cX7_becomes 83 = .ok (.getfield 37, 3) := by decide +kernel
theorem dX7_becomes_86 : decode cX7_becomes 86 = .ok (.getfield 213, 3) := by decide +kernel
theorem dX7_becomes_89 : decode cX7_becomes 89 = .ok (.iload 4, 2) := by decide +kernel
theorem dX7_becomes_91 : decode cX7_becomes 91 = .ok (.iaload, 1) := by decide +kernel
theorem dX7_becomes_92 : decode cX7_becomes 92 = .ok (.ireturn, 1) := by decide +kernel
theorem dX7_stays_0 : decode cX7_stays 0 = .ok (.aload_n 0, 1) := by decide +kernel
theorem dX7_stays_1 : decode cX7_stays 1 = .ok (.iload_n 1, 1) := by decide +kernel
theorem dX7_stays_2 : decode cX7_stays 2 = .ok (.invokevirtual 135, 3) := by decide +kernel
theorem dX7_stays_5 : decode cX7_stays 5 = .ok (.ifCond .eq 10, 3) := by decide +kernel
theorem dX7_stays_8 : decode cX7_stays 8 = .ok (.iload_n 2, 1) := by decide +kernel
theorem dX7_stays_9 : decode cX7_stays 9 = .ok (.invokestatic 148, 3) := by decide +kernel
theorem dX7_stays_12 : decode cX7_stays 12 = .ok (.ifCond .ne 5, 3) := by decide +kernel
theorem dX7_stays_15 : decode cX7_stays 15 = .ok (.iconst (-1), 1) := by decide +kernel
theorem dX7_stays_16 : decode cX7_stays 16 = .ok (.ireturn, 1) := by decide +kernel
theorem dX7_stays_17 : decode cX7_stays 17 = .ok (.aload_n 0, 1) := by decide +kernel
theorem dX7_stays_18 : decode cX7_stays 18 = .ok (.iload_n 1, 1) := by decide +kernel
theorem dX7_stays_19 : decode cX7_stays 19 = .ok (.iload_n 2, 1) := by decide +kernel
theorem dX7_stays_20 : decode cX7_stays 20 = .ok (.invokevirtual 151, 3) := by decide +kernel
theorem dX7_stays_23 : decode cX7_stays 23 = .ok (.istore_n 3, 1) := by decide +kernel
theorem dX7_stays_24 : decode cX7_stays 24 = .ok (.iload_n 3, 1) := by decide +kernel
theorem dX7_stays_25 : decode cX7_stays 25 = .ok (.bipush (-9), 2) := by decide +kernel
theorem dX7_stays_27 : decode cX7_stays 27 = .ok (.if_icmp .ne 6, 3) := by decide +kernel
theorem dX7_stays_30 : decode cX7_stays 30 = .ok (.bipush (-9), 2) := by decide +kernel
theorem dX7_stays_32 : decode cX7_stays 32 = .ok (.ireturn, 1) := by decide +kernel
theorem dX7_stays_33 : decode cX7_stays 33 = .ok (.iconst 1, 1) := by decide +kernel
theorem dX7_stays_34 : decode cX7_stays 34 = .ok (.istore 4, 2) := by decide +kernel
theorem dX7_stays_36 : decode cX7_stays 36 = .ok (.iload 4, 2) := by decide +kernel
theorem dX7_stays_38 : decode cX7_stays 38 = .ok (.bipush 40, 2) := by decide +kernel
theorem dX7_stays_40 : decode cX7_stays 40 = .ok (.if_icmp .gt 32, 3) := by decide +kernel
theorem dX7_stays_43 : decode cX7_stays 43 = .ok (.aload_n 0, 1) := by decide +kernel
theorem dX7_stays_44 : decode cX7_stays 44 = .ok (.getfield 28, 3) := by decide +kernel
theorem dX7_stays_47 : decode cX7_stays 47 = .ok (.invokevirtual 216, 3) := by decide +kernel
theorem dX7_stays_50 : decode cX7_stays 50 = .ok (.pop, 1) := by decide +kernel
theorem dX7_stays_51 : decode cX7_stays 51 = .ok (.aload_n 0, 1) := by decide +kernel
theorem dX7_stays_52 : decode cX7_stays 52 = .ok (.getfield 28, 3) := by decide +kernel
theorem dX7_stays_55 : decode cX7_stays 55 = .ok (.iload_n 2, 1) := by decide +kernel
theorem dX7_stays_56 : decode cX7_stays 56 = .ok (.invokevirtual 219, 3) := by decide +kernel
theorem dX7_stays_59 : decode cX7_stays 59 = .ok (.iload_n 3, 1) := by decide +kernel
theorem dX7_stays_60 : decode cX7_stays 60 = .ok (.if_icmp .eq 6, 3) := by decide +kernel
theorem dX7_stays_63 : decode cX7_stays 63 = .ok (.iload 4, 2) := by decide +kernel
theorem dX7_stays_65 : decode cX7_stays 65 = .ok (.ireturn, 1) := by decide +kernel
theorem dX7_stays_66 : decode cX7_stays 66 = .ok (.iinc 4 1, 3) := by decide +kernel
theorem dX7_stays_69 : decode cX7_stays 69 = .ok (.goto (-33), 3) := by decide +kernel
theorem dX7_stays_72 : decode cX7_stays 72 = .ok (.bipush (-9), 2) := by decide +kernel
theorem dX7_stays_74 : decode cX7_stays 74 = .ok (.ireturn, 1) := by decide +kernel
theorem dX7_share_0 : decode cX7_share 0 = .ok (.aload_n 0, 1) := by decide +kernel
theorem dX7_share_1 : decode cX7_share 1 = .ok (.iload_n 1, 1) := by decide +kernel
theorem dX7_share_2 : decode cX7_share 2 = .ok (.invokevirtual 135, 3) := by decide +kernel
theorem dX7_share_5 : decode cX7_share 5 = .ok (.ifCond .eq 17, 3) := by decide +kernel
theorem dX7_share_8 : decode cX7_share 8 = .ok (.iload_n 2, 1) := by decide +kernel
theorem dX7_share_9 : decode cX7_share 9 = .ok (.invokestatic 222, 3) := by decide +kernel
theorem dX7_share_12 : decode cX7_share 12 = .ok (.ifCond .eq 10, 3) := by decide +kernel
theorem dX7_share_15 : decode cX7_share 15 = .ok (.iload_n 3, 1) := by decide +kernel
theorem dX7_share_16 : decode cX7_share 16 = .ok (.invokestatic 225, 3) := by decide +kernel
theorem dX7_share_19 : decode cX7_share 19 = .ok (.ifCond .ne 5, 3) := by decide +kernel
theorem dX7_share_22 : decode cX7_share 22 = .ok (.iconst (-1), 1) := by decide +kernel
theorem dX7_share_23 : decode cX7_share 23 = .ok (.ireturn, 1) := by decide +kernel
theorem dX7_share_24 : decode cX7_share 24 = .ok (.aload_n 0, 1) := by decide +kernel
theorem dX7_share_25 : decode cX7_share 25 = .ok (.getfield 28, 3) := by decide +kernel
theorem dX7_share_28 : decode cX7_share 28 = .ok (.iload_n 1, 1) := by decide +kernel
theorem dX7_share_29 : decode cX7_share 29 = .ok (.invokevirtual 228, 3) := by decide +kernel
theorem dX7_share_32 : decode cX7_share 32 = .ok (.aload_n 0, 1) := by decide +kernel
theorem dX7_share_33 : decode cX7_share 33 = .ok (.getfield 28, 3) := by decide +kernel
theorem dX7_share_36 : decode cX7_share 36 = .ok (.invokevirtual 232, 3) := by decide +kernel
theorem dX7_share_39 : decode cX7_share 39 = .ok (.aload_n 0, 1) := by decide +kernel
theorem dX7_share_40 : decode cX7_share 40 = .ok (.getfield 28, 3) := by decide +kernel
theorem dX7_share_43 : decode cX7_share 43 = .ok (.getfield 235, 3) := by decide +kernel
theorem dX7_share_46 : decode cX7_share 46 = .ok (.iload_n 2, 1) := by decide +kernel
theorem dX7_share_47 : decode cX7_share 47 = .ok (.iaload, 1) := by decide +kernel
theorem dX7_share_48 : decode cX7_share 48 = .ok (.i2l, 1) := by decide +kernel
theorem dX7_share_49 : decode cX7_share 49 = .ok (.aload_n 0, 1) := by decide +kernel
theorem dX7_share_50 : decode cX7_share 50 = .ok (.getfield 10, 3) := by decide +kernel
theorem dX7_share_53 : decode cX7_share 53 = .ok (.invokevirtual 238, 3) := by decide +kernel
theorem dX7_share_56 : decode cX7_share 56 = .ok (.i2l, 1) := by decide +kernel
theorem dX7_share_57 : decode cX7_share 57 = .ok (.iload_n 3, 1) := by decide +kernel
theorem dX7_share_58 : decode cX7_share 58 = .ok (.invokestatic 241, 3) := by decide +kernel
theorem dX7_share_61 : decode cX7_share 61 = .ok (.l2i, 1) := by decide +kernel
theorem dX7_share_62 : decode cX7_share 62 = .ok (.ireturn, 1) := by decide +kernel
theorem dX7_decides_0 : decode cX7_decides 0 = .ok (.aload_n 0, 1) := by decide +kernel
theorem dX7_decides_1 : decode cX7_decides 1 = .ok (.iload_n 1, 1) := by decide +kernel
theorem dX7_decides_2 : decode cX7_decides 2 = .ok (.invokevirtual 135, 3) := by decide +kernel
theorem dX7_decides_5 : decode cX7_decides 5 = .ok (.ifCond .eq 10, 3) := by decide +kernel
theorem dX7_decides_8 : decode cX7_decides 8 = .ok (.iload_n 2, 1) := by decide +kernel
theorem dX7_decides_9 : decode cX7_decides 9 = .ok (.invokestatic 148, 3) := by decide +kernel
theorem dX7_decides_12 : decode cX7_decides 12 = .ok (.ifCond .ne 5, 3) := by decide +kernel
theorem dX7_decides_15 : decode cX7_decides 15 = .ok (.iconst (-1), 1) := by decide +kernel
theorem dX7_decides_16 : decode cX7_decides 16 = .ok (.ireturn, 1) := by decide +kernel
theorem dX7_decides_17 : decode cX7_decides 17 = .ok (.aload_n 0, 1) := by decide +kernel
theorem dX7_decides_18 : decode cX7_decides 18 = .ok (.iload_n 1, 1) := by decide +kernel
theorem dX7_decides_19 : decode cX7_decides 19 = .ok (.iload_n 2, 1) := by decide +kernel
theorem dX7_decides_20 : decode cX7_decides 20 = .ok (.invokevirtual 151, 3) := by decide +kernel
theorem dX7_decides_23 : decode cX7_decides 23 = .ok (.istore_n 3, 1) := by decide +kernel
theorem dX7_decides_24 : decode cX7_decides 24 = .ok (.iconst 0, 1) := by decide +kernel
theorem dX7_decides_25 : decode cX7_decides 25 = .ok (.istore 4, 2) := by decide +kernel
theorem dX7_decides_27 : decode cX7_decides 27 = .ok (.iconst 0, 1) := by decide +kernel
theorem dX7_decides_28 : decode cX7_decides 28 = .ok (.istore 5, 2) := by decide +kernel
theorem dX7_decides_30 : decode cX7_decides 30 = .ok (.iload 5, 2) := by decide +kernel
theorem dX7_decides_32 : decode cX7_decides 32 = .ok (.aload_n 0, 1) := by decide +kernel
theorem dX7_decides_33 : decode cX7_decides 33 = .ok (.getfield 10, 3) := by decide +kernel
theorem dX7_decides_36 : decode cX7_decides 36 = .ok (.getfield 184, 3) := by decide +kernel
theorem dX7_decides_39 : decode cX7_decides 39 = .ok (.if_icmp .ge 61, 3) := by decide +kernel
theorem dX7_decides_42 : decode cX7_decides 42 = .ok (.aload_n 0, 1) := by decide +kernel
theorem dX7_decides_43 : decode cX7_decides 43 = .ok (.getfield 28, 3) := by decide +kernel
theorem dX7_decides_46 : decode cX7_decides 46 = .ok (.iload 5, 2) := by decide +kernel
theorem dX7_decides_48 : decode cX7_decides 48 = .ok (.bipush 9, 2) := by decide +kernel
theorem dX7_decides_50 : decode cX7_decides 50 = .ok (.iconst 0, 1) := by decide +kernel
theorem dX7_decides_51 : decode cX7_decides 51 = .ok (.invokevirtual 245, 3) := by decide +kernel
theorem dX7_decides_54 : decode cX7_decides 54 = .ok (.aload_n 0, 1) := by decide +kernel
theorem dX7_decides_55 : decode cX7_decides 55 = .ok (.getfield 28, 3) := by decide +kernel
theorem dX7_decides_58 : decode cX7_decides 58 = .ok (.iload_n 2, 1) := by decide +kernel
theorem dX7_decides_59 : decode cX7_decides 59 = .ok (.invokevirtual 219, 3) := by decide +kernel
theorem dX7_decides_62 : decode cX7_decides 62 = .ok (.iload_n 3, 1) := by decide +kernel
theorem dX7_decides_63 : decode cX7_decides 63 = .ok (.if_icmp .eq 12, 3) := by decide +kernel
theorem dX7_decides_66 : decode cX7_decides 66 = .ok (.iload 4, 2) := by decide +kernel
theorem dX7_decides_68 : decode cX7_decides 68 = .ok (.iconst 1, 1) := by decide +kernel
theorem dX7_decides_69 : decode cX7_decides 69 = .ok (.iload 5, 2) := by decide +kernel
theorem dX7_decides_71 : decode cX7_decides 71 = .ok (.ishl, 1) := by decide +kernel
theorem dX7_decides_72 : decode cX7_decides 72 = .ok (.ior, 1) := by decide +kernel
theorem dX7_decides_73 : decode cX7_decides 73 = .ok (.istore 4, 2) := by decide +kernel
theorem dX7_decides_75 : decode cX7_decides 75 = .ok (.aload_n 0, 1) := by decide +kernel
theorem dX7_decides_76 : decode cX7_decides 76 = .ok (.getfield 28, 3) := by decide +kernel
theorem dX7_decides_79 : decode cX7_decides 79 = .ok (.iload 5, 2) := by decide +kernel
theorem dX7_decides_81 : decode cX7_decides 81 = .ok (.aload_n 0, 1) := by decide +kernel
theorem dX7_decides_82 : decode cX7_decides 82 = .ok (.getfield 19, 3) := by decide +kernel
theorem dX7_decides_85 : decode cX7_decides 85 = .ok (.iload_n 1, 1) := by decide +kernel
theorem dX7_decides_86 : decode cX7_decides 86 = .ok (.iload 5, 2) := by decide +kernel
theorem dX7_decides_88 : decode cX7_decides 88 = .ok (.invokevirtual 138, 3) := by decide +kernel
theorem dX7_decides_91 : decode cX7_decides 91 = .ok (.invokevirtual 248, 3) := by decide +kernel
theorem dX7_decides_94 : decode cX7_decides 94 = .ok (.iinc 5 1, 3) := by decide +kernel
theorem dX7_decides_97 : decode cX7_decides 97 = .ok (.goto (-67), 3) := by decide +kernel
theorem dX7_decides_100 : decode cX7_decides 100 = .ok (.iload 4, 2) := by decide +kernel
theorem dX7_decides_102 : decode cX7_decides 102 = .ok (.ireturn, 1) := by decide +kernel
theorem dX7_thief_0 : decode cX7_thief 0 = .ok (.aload_n 0, 1) := by decide +kernel
theorem dX7_thief_1 : decode cX7_thief 1 = .ok (.iload_n 1, 1) := by decide +kernel
theorem dX7_thief_2 : decode cX7_thief 2 = .ok (.invokevirtual 135, 3) := by decide +kernel
theorem dX7_thief_5 : decode cX7_thief 5 = .ok (.ifCond .eq 17, 3) := by decide +kernel
theorem dX7_thief_8 : decode cX7_thief 8 = .ok (.iload_n 2, 1) := by decide +kernel
theorem dX7_thief_9 : decode cX7_thief 9 = .ok (.invokestatic 148, 3) := by decide +kernel
theorem dX7_thief_12 : decode cX7_thief 12 = .ok (.ifCond .eq 10, 3) := by decide +kernel
theorem dX7_thief_15 : decode cX7_thief 15 = .ok (.iload_n 3, 1) := by decide +kernel
theorem dX7_thief_16 : decode cX7_thief 16 = .ok (.invokestatic 225, 3) := by decide +kernel
theorem dX7_thief_19 : decode cX7_thief 19 = .ok (.ifCond .ne 7, 3) := by decide +kernel
theorem dX7_thief_22 : decode cX7_thief 22 = .ok (.ldc2_w 251, 3) := by decide +kernel
theorem dX7_thief_25 : decode cX7_thief 25 = .ok (.lreturn, 1) := by decide +kernel
theorem dX7_thief_26 : decode cX7_thief 26 = .ok (.aload_n 0, 1) := by decide +kernel
theorem dX7_thief_27 : decode cX7_thief 27 = .ok (.iload_n 1, 1) := by decide +kernel
theorem dX7_thief_28 : decode cX7_thief 28 = .ok (.iload_n 2, 1) := by decide +kernel
theorem dX7_thief_29 : decode cX7_thief 29 = .ok (.invokevirtual 151, 3) := by decide +kernel
theorem dX7_thief_32 : decode cX7_thief 32 = .ok (.istore 4, 2) := by decide +kernel
theorem dX7_thief_34 : decode cX7_thief 34 = .ok (.lconst 0, 1) := by decide +kernel
theorem dX7_thief_35 : decode cX7_thief 35 = .ok (.lstore 5, 2) := by decide +kernel
theorem dX7_thief_37 : decode cX7_thief 37 = .ok (.lconst 1, 1) := by decide +kernel
theorem dX7_thief_38 : decode cX7_thief 38 = .ok (.lstore 7, 2) := by decide +kernel
theorem dX7_thief_40 : decode cX7_thief 40 = .ok (.iconst 0, 1) := by decide +kernel
theorem dX7_thief_41 : decode cX7_thief 41 = .ok (.istore 9, 2) := by decide +kernel
theorem dX7_thief_43 : decode cX7_thief 43 = .ok (.iload 9, 2) := by decide +kernel
theorem dX7_thief_45 : decode cX7_thief 45 = .ok (.aload_n 0, 1) := by decide +kernel
theorem dX7_thief_46 : decode cX7_thief 46 = .ok (.getfield 10, 3) := by decide +kernel
theorem dX7_thief_49 : decode cX7_thief 49 = .ok (.getfield 184, 3) := by decide +kernel
theorem dX7_thief_52 : decode cX7_thief 52 = .ok (.if_icmp .ge 55, 3) := by decide +kernel
theorem dX7_thief_55 : decode cX7_thief 55 = .ok (.iconst 1, 1) := by decide +kernel
theorem dX7_thief_56 : decode cX7_thief 56 = .ok (.aload_n 0, 1) := by decide +kernel
theorem dX7_thief_57 : decode cX7_thief 57 = .ok (.getfield 19, 3) := by decide +kernel
theorem dX7_thief_60 : decode cX7_thief 60 = .ok (.iload 9, 2) := by decide +kernel
theorem dX7_thief_62 : decode cX7_thief 62 = .ok (.invokevirtual 117, 3) := by decide +kernel
theorem dX7_thief_65 : decode cX7_thief 65 = .ok (.invokestatic 253, 3) := by decide +kernel
theorem dX7_thief_68 : decode cX7_thief 68 = .ok (.istore 10, 2) := by decide +kernel
theorem dX7_thief_70 : decode cX7_thief 70 = .ok (.lload 5, 2) := by decide +kernel
theorem dX7_thief_72 : decode cX7_thief 72 = .ok (.iload 10, 2) := by decide +kernel
theorem dX7_thief_74 : decode cX7_thief 74 = .ok (.i2l, 1) := by decide +kernel
theorem dX7_thief_75 : decode cX7_thief 75 = .ok (.lmul, 1) := by decide +kernel
theorem dX7_thief_76 : decode cX7_thief 76 = .ok (.aload_n 0, 1) := by decide +kernel
theorem dX7_thief_77 : decode cX7_thief 77 = .ok (.iload_n 1, 1) := by decide +kernel
theorem dX7_thief_78 : decode cX7_thief 78 = .ok (.iload 9, 2) := by decide +kernel
theorem dX7_thief_80 : decode cX7_thief 80 = .ok (.iload_n 2, 1) := by decide +kernel
theorem dX7_thief_81 : decode cX7_thief 81 = .ok (.iload 4, 2) := by decide +kernel
theorem dX7_thief_83 : decode cX7_thief 83 = .ok (.invokevirtual 258, 3) := by decide +kernel
theorem dX7_thief_86 : decode cX7_thief 86 = .ok (.i2l, 1) := by decide +kernel
theorem dX7_thief_87 : decode cX7_thief 87 = .ok (.lload 7, 2) := by decide +kernel
theorem dX7_thief_89 : decode cX7_thief 89 = .ok (.lmul, 1) := by decide +kernel
theorem dX7_thief_90 : decode cX7_thief 90 = .ok (.ladd, 1) := by decide +kernel
theorem dX7_thief_91 : decode cX7_thief 91 = .ok (.lstore 5, 2) := by decide +kernel
theorem dX7_thief_93 : decode cX7_thief 93 = .ok (.lload 7, 2) := by decide +kernel
theorem dX7_thief_95 : decode cX7_thief 95 = .ok (.iload 10, 2) := by decide +kernel
theorem dX7_thief_97 : decode cX7_thief 97 = .ok (.i2l, 1) := by decide +kernel
theorem dX7_thief_98 : decode cX7_thief 98 = .ok (.lmul, 1) := by decide +kernel
theorem dX7_thief_99 : decode cX7_thief 99 = .ok (.lstore 7, 2) := by decide +kernel
theorem dX7_thief_101 : decode cX7_thief 101 = .ok (.iinc 9 1, 3) := by decide +kernel
theorem dX7_thief_104 : decode cX7_thief 104 = .ok (.goto (-61), 3) := by decide +kernel
theorem dX7_thief_107 : decode cX7_thief 107 = .ok (.lload 5, 2) := by decide +kernel
theorem dX7_thief_109 : decode cX7_thief 109 = .ok (.lload 7, 2) := by decide +kernel
theorem dX7_thief_111 : decode cX7_thief 111 = .ok (.aload_n 0, 1) := by decide +kernel
theorem dX7_thief_112 : decode cX7_thief 112 = .ok (.getfield 10, 3) := by decide +kernel
theorem dX7_thief_115 : decode cX7_thief 115 = .ok (.getfield 184, 3) := by decide +kernel
theorem dX7_thief_118 : decode cX7_thief 118 = .ok (.i2l, 1) := by decide +kernel
theorem dX7_thief_119 : decode cX7_thief 119 = .ok (.lmul, 1) := by decide +kernel
theorem dX7_thief_120 : decode cX7_thief 120 = .ok (.iload_n 3, 1) := by decide +kernel
theorem dX7_thief_121 : decode cX7_thief 121 = .ok (.invokestatic 241, 3) := by decide +kernel
theorem dX7_thief_124 : decode cX7_thief 124 = .ok (.lreturn, 1) := by decide +kernel
theorem dX7_saw_0 : decode cX7_saw 0 = .ok (.aload_n 0, 1) := by decide +kernel
theorem dX7_saw_1 : decode cX7_saw 1 = .ok (.iload_n 1, 1) := by decide +kernel
theorem dX7_saw_2 : decode cX7_saw 2 = .ok (.invokevirtual 107, 3) := by decide +kernel
theorem dX7_saw_5 : decode cX7_saw 5 = .ok (.ifCond .eq 10, 3) := by decide +kernel
theorem dX7_saw_8 : decode cX7_saw 8 = .ok (.iload_n 2, 1) := by decide +kernel
theorem dX7_saw_9 : decode cX7_saw 9 = .ok (.invokestatic 222, 3) := by decide +kernel
theorem dX7_saw_12 : decode cX7_saw 12 = .ok (.ifCond .ne 5, 3) := by decide +kernel
theorem dX7_saw_15 : decode cX7_saw 15 = .ok (.iconst (-1), 1) := by decide +kernel
theorem dX7_saw_16 : decode cX7_saw 16 = .ok (.ireturn, 1) := by decide +kernel
theorem dX7_saw_17 : decode cX7_saw 17 = .ok (.aload_n 0, 1) := by decide +kernel
theorem dX7_saw_18 : decode cX7_saw 18 = .ok (.getfield 86, 3) := by decide +kernel
theorem dX7_saw_21 : decode cX7_saw 21 = .ok (.bipush 6, 2) := by decide +kernel
theorem dX7_saw_23 : decode cX7_saw 23 = .ok (.if_icmp .lt 6, 3) := by decide +kernel
theorem dX7_saw_26 : decode cX7_saw 26 = .ok (.bipush (-3), 2) := by decide +kernel
theorem dX7_saw_28 : decode cX7_saw 28 = .ok (.ireturn, 1) := by decide +kernel
theorem dX7_saw_29 : decode cX7_saw 29 = .ok (.aload_n 0, 1) := by decide +kernel
theorem dX7_saw_30 : decode cX7_saw 30 = .ok (.getfield 76, 3) := by decide +kernel
theorem dX7_saw_33 : decode cX7_saw 33 = .ok (.aload_n 0, 1) := by decide +kernel
theorem dX7_saw_34 : decode cX7_saw 34 = .ok (.getfield 86, 3) := by decide +kernel
theorem dX7_saw_37 : decode cX7_saw 37 = .ok (.iload_n 1, 1) := by decide +kernel
theorem dX7_saw_38 : decode cX7_saw 38 = .ok (.iastore, 1) := by decide +kernel
theorem dX7_saw_39 : decode cX7_saw 39 = .ok (.aload_n 0, 1) := by decide +kernel
theorem dX7_saw_40 : decode cX7_saw 40 = .ok (.getfield 79, 3) := by decide +kernel
theorem dX7_saw_43 : decode cX7_saw 43 = .ok (.aload_n 0, 1) := by decide +kernel
theorem dX7_saw_44 : decode cX7_saw 44 = .ok (.getfield 86, 3) := by decide +kernel
theorem dX7_saw_47 : decode cX7_saw 47 = .ok (.iload_n 2, 1) := by decide +kernel
theorem dX7_saw_48 : decode cX7_saw 48 = .ok (.iastore, 1) := by decide +kernel
theorem dX7_saw_49 : decode cX7_saw 49 = .ok (.aload_n 0, 1) := by decide +kernel
theorem dX7_saw_50 : decode cX7_saw 50 = .ok (.dup, 1) := by decide +kernel
theorem dX7_saw_51 : decode cX7_saw 51 = .ok (.getfield 86, 3) := by decide +kernel
theorem dX7_saw_54 : decode cX7_saw 54 = .ok (.iconst 1, 1) := by decide +kernel
theorem dX7_saw_55 : decode cX7_saw 55 = .ok (.iadd, 1) := by decide +kernel
theorem dX7_saw_56 : decode cX7_saw 56 = .ok (.putfield 86, 3) := by decide +kernel
theorem dX7_saw_59 : decode cX7_saw 59 = .ok (.aload_n 0, 1) := by decide +kernel
theorem dX7_saw_60 : decode cX7_saw 60 = .ok (.getfield 86, 3) := by decide +kernel
theorem dX7_saw_63 : decode cX7_saw 63 = .ok (.ireturn, 1) := by decide +kernel
theorem dX7_forget_0 : decode cX7_forget 0 = .ok (.aload_n 0, 1) := by decide +kernel
theorem dX7_forget_1 : decode cX7_forget 1 = .ok (.getfield 86, 3) := by decide +kernel
theorem dX7_forget_4 : decode cX7_forget 4 = .ok (.istore_n 1, 1) := by decide +kernel
theorem dX7_forget_5 : decode cX7_forget 5 = .ok (.aload_n 0, 1) := by decide +kernel
theorem dX7_forget_6 : decode cX7_forget 6 = .ok (.iconst 0, 1) := by decide +kernel
theorem dX7_forget_7 : decode cX7_forget 7 = .ok (.putfield 86, 3) := by decide +kernel
theorem dX7_forget_10 : decode cX7_forget 10 = .ok (.iload_n 1, 1) := by decide +kernel
theorem dX7_forget_11 : decode cX7_forget 11 = .ok (.ireturn, 1) := by decide +kernel
theorem dX7_mayBe_0 : decode cX7_mayBe 0 = .ok (.iconst 0, 1) := by decide +kernel
theorem dX7_mayBe_1 : decode cX7_mayBe 1 = .ok (.istore_n 1, 1) := by decide +kernel
theorem dX7_mayBe_2 : decode cX7_mayBe 2 = .ok (.iconst 0, 1) := by decide +kernel
theorem dX7_mayBe_3 : decode cX7_mayBe 3 = .ok (.istore_n 2, 1) := by decide +kernel
theorem dX7_mayBe_4 : decode cX7_mayBe 4 = .ok (.iload_n 2, 1) := by decide +kernel
theorem dX7_mayBe_5 : decode cX7_mayBe 5 = .ok (.aload_n 0, 1) := by decide +kernel
theorem dX7_mayBe_6 : decode cX7_mayBe 6 = .ok (.getfield 19, 3) := by decide +kernel
theorem dX7_mayBe_9 : decode cX7_mayBe 9 = .ok (.getfield 190, 3) := by decide +kernel
theorem dX7_mayBe_12 : decode cX7_mayBe 12 = .ok (.if_icmp .ge 23, 3) := by decide +kernel
theorem dX7_mayBe_15 : decode cX7_mayBe 15 = .ok (.aload_n 0, 1) := by decide +kernel
theorem dX7_mayBe_16 : decode cX7_mayBe 16 = .ok (.iload_n 2, 1) := by decide +kernel
theorem dX7_mayBe_17 : decode cX7_mayBe 17 = .ok (.invokevirtual 262, 3) := by decide +kernel
theorem dX7_mayBe_20 : decode cX7_mayBe 20 = .ok (.ifCond .eq 9, 3) := by decide +kernel
theorem dX7_mayBe_23 : decode cX7_mayBe 23 = .ok (.iload_n 1, 1) := by decide +kernel
theorem dX7_mayBe_24 : decode cX7_mayBe 24 = .ok (.iconst 1, 1) := by decide +kernel
theorem dX7_mayBe_25 : decode cX7_mayBe 25 = .ok (.iload_n 2, 1) := by decide +kernel
theorem dX7_mayBe_26 : decode cX7_mayBe 26 = .ok (.ishl, 1) := by decide +kernel
theorem dX7_mayBe_27 : decode cX7_mayBe 27 = .ok (.ior, 1) := by decide +kernel
theorem dX7_mayBe_28 : decode cX7_mayBe 28 = .ok (.istore_n 1, 1) := by decide +kernel
theorem dX7_mayBe_29 : decode cX7_mayBe 29 = .ok (.iinc 2 1, 3) := by decide +kernel
theorem dX7_mayBe_32 : decode cX7_mayBe 32 = .ok (.goto (-28), 3) := by decide +kernel
theorem dX7_mayBe_35 : decode cX7_mayBe 35 = .ok (.iload_n 1, 1) := by decide +kernel
theorem dX7_mayBe_36 : decode cX7_mayBe 36 = .ok (.ireturn, 1) := by decide +kernel
theorem dX7_leastSeen_0 : decode cX7_leastSeen 0 = .ok (.aload_n 0, 1) := by decide +kernel
theorem dX7_leastSeen_1 : decode cX7_leastSeen 1 = .ok (.iload_n 1, 1) := by decide +kernel
theorem dX7_leastSeen_2 : decode cX7_leastSeen 2 = .ok (.invokevirtual 135, 3) := by decide +kernel
theorem dX7_leastSeen_5 : decode cX7_leastSeen 5 = .ok (.ifCond .ne 5, 3) := by decide +kernel
theorem dX7_leastSeen_8 : decode cX7_leastSeen 8 = .ok (.iconst (-1), 1) := by decide +kernel
theorem dX7_leastSeen_9 : decode cX7_leastSeen 9 = .ok (.ireturn, 1) := by decide +kernel
theorem dX7_leastSeen_10 : decode cX7_leastSeen 10 = .ok (.bipush (-9), 2) := by decide +kernel
theorem dX7_leastSeen_12 : decode cX7_leastSeen 12 = .ok (.istore_n 2, 1) := by decide +kernel
theorem dX7_leastSeen_13 : decode cX7_leastSeen 13 = .ok (.iconst 0, 1) := by decide +kernel
theorem dX7_leastSeen_14 : decode cX7_leastSeen 14 = .ok (.istore_n 3, 1) := by decide +kernel
theorem dX7_leastSeen_15 : decode cX7_leastSeen 15 = .ok (.iload_n 3, 1) := by decide +kernel
theorem dX7_leastSeen_16 : decode cX7_leastSeen 16 = .ok (.iconst 1, 1) := by decide +kernel
theorem dX7_leastSeen_17 : decode cX7_leastSeen 17 = .ok (.aload_n 0, 1) := by decide +kernel
theorem dX7_leastSeen_18 : decode cX7_leastSeen 18 = .ok (.getfield 10, 3) := by decide +kernel
theorem dX7_leastSeen_21 : decode cX7_leastSeen 21 = .ok (.getfield 184, 3) := by decide +kernel
theorem dX7_leastSeen_24 : decode cX7_leastSeen 24 = .ok (.ishl, 1) := by decide +kernel
theorem dX7_leastSeen_25 : decode cX7_leastSeen 25 = .ok (.if_icmp .ge 49, 3) := by decide +kernel
theorem dX7_leastSeen_28 : decode cX7_leastSeen 28 = .ok (.iload_n 2, 1) := by decide +kernel
theorem dX7_leastSeen_29 : decode cX7_leastSeen 29 = .ok (.bipush (-9), 2) := by decide +kernel
theorem dX7_leastSeen_31 : decode cX7_leastSeen 31 = .ok (.if_icmp .eq 14, 3) := by decide +kernel
theorem dX7_leastSeen_34 : decode cX7_leastSeen 34 = .ok (.iload_n 3, 1) := by decide +kernel
theorem dX7_leastSeen_35 : decode cX7_leastSeen 35 = .ok (.invokestatic 265, 3) := by decide +kernel
theorem dX7_leastSeen_38 : decode cX7_leastSeen 38 = .ok (.iload_n 2, 1) := by decide +kernel
theorem dX7_leastSeen_39 : decode cX7_leastSeen 39 = .ok (.invokestatic 265, 3) := by decide +kernel
theorem dX7_leastSeen_42 : decode cX7_leastSeen 42 = .ok (.if_icmp .ge 7, 3) := by decide +kernel
theorem dX7_leastSeen_45 : decode cX7_leastSeen 45 = .ok (.iconst 1, 1) := by decide +kernel
theorem dX7_leastSeen_46 : decode cX7_leastSeen 46 = .ok (.goto 4, 3) := by decide +kernel
theorem dX7_leastSeen_49 : decode cX7_leastSeen 49 = .ok (.iconst 0, 1) := by decide +kernel
theorem dX7_leastSeen_50 : decode cX7_leastSeen 50 = .ok (.istore 4, 2) := by decide +kernel
theorem dX7_leastSeen_52 : decode cX7_leastSeen 52 = .ok (.iload 4, 2) := by decide +kernel
theorem dX7_leastSeen_54 : decode cX7_leastSeen 54 = .ok (.ifCond .eq 14, 3) := by decide +kernel
theorem dX7_leastSeen_57 : decode cX7_leastSeen 57 = .ok (.aload_n 0, 1) := by decide +kernel
theorem dX7_leastSeen_58 : decode cX7_leastSeen 58 = .ok (.iload_n 1, 1) := by decide +kernel
theorem dX7_leastSeen_59 : decode cX7_leastSeen 59 = .ok (.iload_n 3, 1) := by decide +kernel
theorem dX7_leastSeen_60 : decode cX7_leastSeen 60 = .ok (.invokevirtual 270, 3) := by decide +kernel
theorem dX7_leastSeen_63 : decode cX7_leastSeen 63 = .ok (.ifCond .eq 5, 3) := by decide +kernel
theorem dX7_leastSeen_66 : decode cX7_leastSeen 66 = .ok (.iload_n 3, 1) := by decide +kernel
theorem dX7_leastSeen_67 : decode cX7_leastSeen 67 = .ok (.istore_n 2, 1) := by decide +kernel
theorem dX7_leastSeen_68 : decode cX7_leastSeen 68 = .ok (.iinc 3 1, 3) := by decide +kernel
theorem dX7_leastSeen_71 : decode cX7_leastSeen 71 = .ok (.goto (-56), 3) := by decide +kernel
theorem dX7_leastSeen_74 : decode cX7_leastSeen 74 = .ok (.iload_n 2, 1) := by decide +kernel
theorem dX7_leastSeen_75 : decode cX7_leastSeen 75 = .ok (.ireturn, 1) := by decide +kernel
theorem dX7_repairs_0 : decode cX7_repairs 0 = .ok (.aload_n 0, 1) := by decide +kernel
theorem dX7_repairs_1 : decode cX7_repairs 1 = .ok (.iload_n 1, 1) := by decide +kernel
theorem dX7_repairs_2 : decode cX7_repairs 2 = .ok (.invokevirtual 135, 3) := by decide +kernel
theorem dX7_repairs_5 : decode cX7_repairs 5 = .ok (.ifCond .eq 22, 3) := by decide +kernel
theorem dX7_repairs_8 : decode cX7_repairs 8 = .ok (.iload_n 2, 1) := by decide +kernel
theorem dX7_repairs_9 : decode cX7_repairs 9 = .ok (.ifCond .lt 18, 3) := by decide +kernel
theorem dX7_repairs_12 : decode cX7_repairs 12 = .ok (.iload_n 2, 1) := by decide +kernel
theorem dX7_repairs_13 : decode cX7_repairs 13 = .ok (.bipush 40, 2) := by decide +kernel
theorem dX7_repairs_15 : decode cX7_repairs 15 = .ok (.if_icmp .gt 12, 3) := by decide +kernel
theorem dX7_repairs_18 : decode cX7_repairs 18 = .ok (.iload_n 3, 1) := by decide +kernel
theorem dX7_repairs_19 : decode cX7_repairs 19 = .ok (.ifCond .lt 8, 3) := by decide +kernel
theorem dX7_repairs_22 : decode cX7_repairs 22 = .ok (.iload_n 3, 1) := by decide +kernel
theorem dX7_repairs_23 : decode cX7_repairs 23 = .ok (.iconst 1, 1) := by decide +kernel
theorem dX7_repairs_24 : decode cX7_repairs 24 = .ok (.if_icmp .le 5, 3) := by decide +kernel
theorem dX7_repairs_27 : decode cX7_repairs 27 = .ok (.iconst (-1), 1) := by decide +kernel
theorem dX7_repairs_28 : decode cX7_repairs 28 = .ok (.ireturn, 1) := by decide +kernel
theorem dX7_repairs_29 : decode cX7_repairs 29 = .ok (.aload_n 0, 1) := by decide +kernel
theorem dX7_repairs_30 : decode cX7_repairs 30 = .ok (.getfield 28, 3) := by decide +kernel
theorem dX7_repairs_33 : decode cX7_repairs 33 = .ok (.iload_n 1, 1) := by decide +kernel
theorem dX7_repairs_34 : decode cX7_repairs 34 = .ok (.invokevirtual 228, 3) := by decide +kernel
theorem dX7_repairs_37 : decode cX7_repairs 37 = .ok (.iconst 0, 1) := by decide +kernel
theorem dX7_repairs_38 : decode cX7_repairs 38 = .ok (.istore 4, 2) := by decide +kernel
theorem dX7_repairs_40 : decode cX7_repairs 40 = .ok (.iconst 0, 1) := by decide +kernel
theorem dX7_repairs_41 : decode cX7_repairs 41 = .ok (.istore 5, 2) := by decide +kernel
theorem dX7_repairs_43 : decode cX7_repairs 43 = .ok (.bipush (-9), 2) := by decide +kernel
theorem dX7_repairs_45 : decode cX7_repairs 45 = .ok (.istore 6, 2) := by decide +kernel
theorem dX7_repairs_47 : decode cX7_repairs 47 = .ok (.iconst 1, 1) := by decide +kernel
theorem dX7_repairs_48 : decode cX7_repairs 48 = .ok (.istore 7, 2) := by decide +kernel
theorem dX7_repairs_50 : decode cX7_repairs 50 = .ok (.iload 7, 2) := by decide +kernel
theorem dX7_repairs_52 : decode cX7_repairs 52 = .ok (.iload_n 2, 1) := by decide +kernel
theorem dX7_repairs_53 : decode cX7_repairs 53 = .ok (.if_icmp .gt 40, 3) := by decide +kernel
theorem dX7_repairs_56 : decode cX7_repairs 56 = .ok (.aload_n 0, 1) := by decide +kernel
theorem dX7_repairs_57 : decode cX7_repairs 57 = .ok (.getfield 28, 3) := by decide +kernel
theorem dX7_repairs_60 : decode cX7_repairs 60 = .ok (.invokevirtual 216, 3) := by decide +kernel
theorem dX7_repairs_63 : decode cX7_repairs 63 = .ok (.istore 8, 2) := by decide +kernel
theorem dX7_repairs_65 : decode cX7_repairs 65 = .ok (.iload 4, 2) := by decide +kernel
theorem dX7_repairs_67 : decode cX7_repairs 67 = .ok (.iload 8, 2) := by decide +kernel
theorem dX7_repairs_69 : decode cX7_repairs 69 = .ok (.iadd, 1) := by decide +kernel
theorem dX7_repairs_70 : decode cX7_repairs 70 = .ok (.istore 4, 2) := by decide +kernel
theorem dX7_repairs_72 : decode cX7_repairs 72 = .ok (.iload 8, 2) := by decide +kernel
theorem dX7_repairs_74 : decode cX7_repairs 74 = .ok (.iload 5, 2) := by decide +kernel
theorem dX7_repairs_76 : decode cX7_repairs 76 = .ok (.if_icmp .le 11, 3) := by decide +kernel
theorem dX7_repairs_79 : decode cX7_repairs 79 = .ok (.iload 8, 2) := by decide +kernel
theorem dX7_repairs_81 : decode cX7_repairs 81 = .ok (.istore 5, 2) := by decide +kernel
theorem dX7_repairs_83 : decode cX7_repairs 83 = .ok (.iload 7, 2) := by decide +kernel
theorem dX7_repairs_85 : decode cX7_repairs 85 = .ok (.istore 6, 2) := by decide +kernel
theorem dX7_repairs_87 : decode cX7_repairs 87 = .ok (.iinc 7 1, 3) := by decide +kernel
theorem dX7_repairs_90 : decode cX7_repairs 90 = .ok (.goto (-40), 3) := by decide +kernel
theorem dX7_repairs_93 : decode cX7_repairs 93 = .ok (.iload_n 3, 1) := by decide +kernel
theorem dX7_repairs_94 : decode cX7_repairs 94 = .ok (.ifCond .ne 8, 3) := by decide +kernel
theorem dX7_repairs_97 : decode cX7_repairs 97 = .ok (.iload 4, 2) := by decide +kernel
theorem dX7_repairs_99 : decode cX7_repairs 99 = .ok (.goto 5, 3) := by decide +kernel
theorem dX7_repairs_102 : decode cX7_repairs 102 = .ok (.iload 6, 2) := by decide +kernel
theorem dX7_repairs_104 : decode cX7_repairs 104 = .ok (.ireturn, 1) := by decide +kernel
theorem dX7_rate_0 : decode cX7_rate 0 = .ok (.aload_n 0, 1) := by decide +kernel
theorem dX7_rate_1 : decode cX7_rate 1 = .ok (.iload_n 2, 1) := by decide +kernel
theorem dX7_rate_2 : decode cX7_rate 2 = .ok (.invokevirtual 120, 3) := by decide +kernel
theorem dX7_rate_5 : decode cX7_rate 5 = .ok (.ifCond .eq 17, 3) := by decide +kernel
theorem dX7_rate_8 : decode cX7_rate 8 = .ok (.aload_n 0, 1) := by decide +kernel
theorem dX7_rate_9 : decode cX7_rate 9 = .ok (.getfield 19, 3) := by decide +kernel
theorem dX7_rate_12 : decode cX7_rate 12 = .ok (.getfield 132, 3) := by decide +kernel
theorem dX7_rate_15 : decode cX7_rate 15 = .ok (.iload_n 2, 1) := by decide +kernel
theorem dX7_rate_16 : decode cX7_rate 16 = .ok (.iaload, 1) := by decide +kernel
theorem dX7_rate_17 : decode cX7_rate 17 = .ok (.bipush 9, 2) := by decide +kernel
theorem dX7_rate_19 : decode cX7_rate 19 = .ok (.if_icmp .ne 7, 3) := by decide +kernel
theorem dX7_rate_22 : decode cX7_rate 22 = .ok (.ldc_w 274, 3) := by decide +kernel
theorem dX7_rate_25 : decode cX7_rate 25 = .ok (.ireturn, 1) := by decide +kernel
theorem dX7_rate_26 : decode cX7_rate 26 = .ok (.aload_n 0, 1) := by decide +kernel
theorem dX7_rate_27 : decode cX7_rate 27 = .ok (.getfield 51, 3) := by decide +kernel
theorem dX7_rate_30 : decode cX7_rate 30 = .ok (.iload_n 1, 1) := by decide +kernel
theorem dX7_rate_31 : decode cX7_rate 31 = .ok (.iload_n 2, 1) := by decide +kernel
theorem dX7_rate_32 : decode cX7_rate 32 = .ok (.invokevirtual 275, 3) := by decide +kernel
theorem dX7_rate_35 : decode cX7_rate 35 = .ok (.ireturn, 1) := by decide +kernel
theorem dX7_keep_0 : decode cX7_keep 0 = .ok (.iload_n 1, 1) := by decide +kernel
theorem dX7_keep_1 : decode cX7_keep 1 = .ok (.ifCond .lt 8, 3) := by decide +kernel
theorem dX7_keep_4 : decode cX7_keep 4 = .ok (.iload_n 1, 1) := by decide +kernel
theorem dX7_keep_5 : decode cX7_keep 5 = .ok (.iconst 2, 1) := by decide +kernel
theorem dX7_keep_6 : decode cX7_keep 6 = .ok (.if_icmp .lt 5, 3) := by decide +kernel
theorem dX7_keep_9 : decode cX7_keep 9 = .ok (.iconst (-1), 1) := by decide +kernel
theorem dX7_keep_10 : decode cX7_keep 10 = .ok (.ireturn, 1) := by decide +kernel
theorem dX7_keep_11 : decode cX7_keep 11 = .ok (.aload_n 0, 1) := by decide +kernel
theorem dX7_keep_12 : decode cX7_keep 12 = .ok (.getfield 55, 3) := by decide +kernel
theorem dX7_keep_15 : decode cX7_keep 15 = .ok (.iload_n 1, 1) := by decide +kernel
theorem dX7_keep_16 : decode cX7_keep 16 = .ok (.aaload, 1) := by decide +kernel
theorem dX7_keep_17 : decode cX7_keep 17 = .ok (.aload_n 0, 1) := by decide +kernel
theorem dX7_keep_18 : decode cX7_keep 18 = .ok (.getfield 19, 3) := by decide +kernel
theorem dX7_keep_21 : decode cX7_keep 21 = .ok (.invokevirtual 278, 3) := by decide +kernel
theorem dX7_keep_24 : decode cX7_keep 24 = .ok (.aload_n 0, 1) := by decide +kernel
theorem dX7_keep_25 : decode cX7_keep 25 = .ok (.getfield 59, 3) := by decide +kernel
theorem dX7_keep_28 : decode cX7_keep 28 = .ok (.iload_n 1, 1) := by decide +kernel
theorem dX7_keep_29 : decode cX7_keep 29 = .ok (.iconst 1, 1) := by decide +kernel
theorem dX7_keep_30 : decode cX7_keep 30 = .ok (.bastore, 1) := by decide +kernel
theorem dX7_keep_31 : decode cX7_keep 31 = .ok (.aload_n 0, 1) := by decide +kernel
theorem dX7_keep_32 : decode cX7_keep 32 = .ok (.getfield 19, 3) := by decide +kernel
theorem dX7_keep_35 : decode cX7_keep 35 = .ok (.getfield 154, 3) := by decide +kernel
theorem dX7_keep_38 : decode cX7_keep 38 = .ok (.ireturn, 1) := by decide +kernel
theorem dX7_back_0 : decode cX7_back 0 = .ok (.iload_n 1, 1) := by decide +kernel
theorem dX7_back_1 : decode cX7_back 1 = .ok (.ifCond .lt 8, 3) := by decide +kernel
theorem dX7_back_4 : decode cX7_back 4 = .ok (.iload_n 1, 1) := by decide +kernel
theorem dX7_back_5 : decode cX7_back 5 = .ok (.iconst 2, 1) := by decide +kernel
theorem dX7_back_6 : decode cX7_back 6 = .ok (.if_icmp .lt 5, 3) := by decide +kernel
theorem dX7_back_9 : decode cX7_back 9 = .ok (.iconst (-1), 1) := by decide +kernel
theorem dX7_back_10 : decode cX7_back 10 = .ok (.ireturn, 1) := by decide +kernel
theorem dX7_back_11 : decode cX7_back 11 = .ok (.aload_n 0, 1) := by decide +kernel
theorem dX7_back_12 : decode cX7_back 12 = .ok (.getfield 59, 3) := by decide +kernel
theorem dX7_back_15 : decode cX7_back 15 = .ok (.iload_n 1, 1) := by decide +kernel
theorem dX7_back_16 : decode cX7_back 16 = .ok (.baload, 1) := by decide +kernel
theorem dX7_back_17 : decode cX7_back 17 = .ok (.ifCond .ne 6, 3) := by decide +kernel
theorem dX7_back_20 : decode cX7_back 20 = .ok (.bipush (-2), 2) := by decide +kernel
theorem dX7_back_22 : decode cX7_back 22 = .ok (.ireturn, 1) := by decide +kernel
theorem dX7_back_23 : decode cX7_back 23 = .ok (.aload_n 0, 1) := by decide +kernel
theorem dX7_back_24 : decode cX7_back 24 = .ok (.getfield 19, 3) := by decide +kernel
theorem dX7_back_27 : decode cX7_back 27 = .ok (.aload_n 0, 1) := by decide +kernel
theorem dX7_back_28 : decode cX7_back 28 = .ok (.getfield 55, 3) := by decide +kernel
theorem dX7_back_31 : decode cX7_back 31 = .ok (.iload_n 1, 1) := by decide +kernel
theorem dX7_back_32 : decode cX7_back 32 = .ok (.aaload, 1) := by decide +kernel
theorem dX7_back_33 : decode cX7_back 33 = .ok (.invokevirtual 278, 3) := by decide +kernel
theorem dX7_back_36 : decode cX7_back 36 = .ok (.aload_n 0, 1) := by decide +kernel
theorem dX7_back_37 : decode cX7_back 37 = .ok (.getfield 44, 3) := by decide +kernel
theorem dX7_back_40 : decode cX7_back 40 = .ok (.invokevirtual 101, 3) := by decide +kernel
theorem dX7_back_43 : decode cX7_back 43 = .ok (.aload_n 0, 1) := by decide +kernel
theorem dX7_back_44 : decode cX7_back 44 = .ok (.getfield 19, 3) := by decide +kernel
theorem dX7_back_47 : decode cX7_back 47 = .ok (.getfield 154, 3) := by decide +kernel
theorem dX7_back_50 : decode cX7_back 50 = .ok (.ireturn, 1) := by decide +kernel
theorem dX7_count_0 : decode cX7_count 0 = .ok (.iload_n 1, 1) := by decide +kernel
theorem dX7_count_1 : decode cX7_count 1 = .ok (.tableswitch 69 0 4 #[35, 43, 51, 59, 64], 35) := by decide +kernel
theorem dX7_count_36 : decode cX7_count 36 = .ok (.aload_n 0, 1) := by decide +kernel
theorem dX7_count_37 : decode cX7_count 37 = .ok (.getfield 10, 3) := by decide +kernel
theorem dX7_count_40 : decode cX7_count 40 = .ok (.getfield 184, 3) := by decide +kernel
theorem dX7_count_43 : decode cX7_count 43 = .ok (.ireturn, 1) := by decide +kernel
theorem dX7_count_44 : decode cX7_count 44 = .ok (.aload_n 0, 1) := by decide +kernel
theorem dX7_count_45 : decode cX7_count 45 = .ok (.getfield 19, 3) := by decide +kernel
theorem dX7_count_48 : decode cX7_count 48 = .ok (.getfield 190, 3) := by decide +kernel
theorem dX7_count_51 : decode cX7_count 51 = .ok (.ireturn, 1) := by decide +kernel
theorem dX7_count_52 : decode cX7_count 52 = .ok (.aload_n 0, 1) := by decide +kernel
theorem dX7_count_53 : decode cX7_count 53 = .ok (.getfield 19, 3) := by decide +kernel
theorem dX7_count_56 : decode cX7_count 56 = .ok (.getfield 177, 3) := by decide +kernel
theorem dX7_count_59 : decode cX7_count 59 = .ok (.ireturn, 1) := by decide +kernel
theorem dX7_count_60 : decode cX7_count 60 = .ok (.aload_n 0, 1) := by decide +kernel
theorem dX7_count_61 : decode cX7_count 61 = .ok (.getfield 86, 3) := by decide +kernel
theorem dX7_count_64 : decode cX7_count 64 = .ok (.ireturn, 1) := by decide +kernel
theorem dX7_count_65 : decode cX7_count 65 = .ok (.aload_n 0, 1) := by decide +kernel
theorem dX7_count_66 : decode cX7_count 66 = .ok (.getfield 82, 3) := by decide +kernel
theorem dX7_count_69 : decode cX7_count 69 = .ok (.ireturn, 1) := by decide +kernel
theorem dX7_count_70 : decode cX7_count 70 = .ok (.iconst (-1), 1) := by decide +kernel
theorem dX7_count_71 : decode cX7_count 71 = .ok (.ireturn, 1) := by decide +kernel
theorem dX7_trace_0 : decode cX7_trace 0 = .ok (.aload_n 0, 1) := by decide +kernel
theorem dX7_trace_1 : decode cX7_trace 1 = .ok (.getfield 51, 3) := by decide +kernel
theorem dX7_trace_4 : decode cX7_trace 4 = .ok (.getfield 281, 3) := by decide +kernel
theorem dX7_trace_7 : decode cX7_trace 7 = .ok (.lreturn, 1) := by decide +kernel
theorem dX7_isPlace_0 : decode cX7_isPlace 0 = .ok (.iload_n 1, 1) := by decide +kernel
theorem dX7_isPlace_1 : decode cX7_isPlace 1 = .ok (.ifCond .lt 18, 3) := by decide +kernel
theorem dX7_isPlace_4 : decode cX7_isPlace 4 = .ok (.iload_n 1, 1) := by decide +kernel
theorem dX7_isPlace_5 : decode cX7_isPlace 5 = .ok (.aload_n 0, 1) := by decide +kernel
theorem dX7_isPlace_6 : decode cX7_isPlace 6 = .ok (.getfield 10, 3) := by decide +kernel
theorem dX7_isPlace_9 : decode cX7_isPlace 9 = .ok (.getfield 184, 3) := by decide +kernel
theorem dX7_isPlace_12 : decode cX7_isPlace 12 = .ok (.if_icmp .ge 7, 3) := by decide +kernel
theorem dX7_isPlace_15 : decode cX7_isPlace 15 = .ok (.iconst 1, 1) := by decide +kernel
theorem dX7_isPlace_16 : decode cX7_isPlace 16 = .ok (.goto 4, 3) := by decide +kernel
theorem dX7_isPlace_19 : decode cX7_isPlace 19 = .ok (.iconst 0, 1) := by decide +kernel
theorem dX7_isPlace_20 : decode cX7_isPlace 20 = .ok (.ireturn, 1) := by decide +kernel
theorem dX7_isShip_0 : decode cX7_isShip 0 = .ok (.iload_n 1, 1) := by decide +kernel
theorem dX7_isShip_1 : decode cX7_isShip 1 = .ok (.ifCond .lt 18, 3) := by decide +kernel
theorem dX7_isShip_4 : decode cX7_isShip 4 = .ok (.iload_n 1, 1) := by decide +kernel
theorem dX7_isShip_5 : decode cX7_isShip 5 = .ok (.aload_n 0, 1) := by decide +kernel
theorem dX7_isShip_6 : decode cX7_isShip 6 = .ok (.getfield 19, 3) := by decide +kernel
theorem dX7_isShip_9 : decode cX7_isShip 9 = .ok (.getfield 190, 3) := by decide +kernel
theorem dX7_isShip_12 : decode cX7_isShip 12 = .ok (.if_icmp .ge 7, 3) := by decide +kernel
theorem dX7_isShip_15 : decode cX7_isShip 15 = .ok (.iconst 1, 1) := by decide +kernel
theorem dX7_isShip_16 : decode cX7_isShip 16 = .ok (.goto 4, 3) := by decide +kernel
theorem dX7_isShip_19 : decode cX7_isShip 19 = .ok (.iconst 0, 1) := by decide +kernel
theorem dX7_isShip_20 : decode cX7_isShip 20 = .ok (.ireturn, 1) := by decide +kernel
theorem dX7_isPart_0 : decode cX7_isPart 0 = .ok (.iload_n 1, 1) := by decide +kernel
theorem dX7_isPart_1 : decode cX7_isPart 1 = .ok (.ifCond .lt 18, 3) := by decide +kernel
theorem dX7_isPart_4 : decode cX7_isPart 4 = .ok (.iload_n 1, 1) := by decide +kernel
theorem dX7_isPart_5 : decode cX7_isPart 5 = .ok (.aload_n 0, 1) := by decide +kernel
theorem dX7_isPart_6 : decode cX7_isPart 6 = .ok (.getfield 19, 3) := by decide +kernel
theorem dX7_isPart_9 : decode cX7_isPart 9 = .ok (.getfield 177, 3) := by decide +kernel
theorem dX7_isPart_12 : decode cX7_isPart 12 = .ok (.if_icmp .ge 7, 3) := by decide +kernel
theorem dX7_isPart_15 : decode cX7_isPart 15 = .ok (.iconst 1, 1) := by decide +kernel
theorem dX7_isPart_16 : decode cX7_isPart 16 = .ok (.goto 4, 3) := by decide +kernel
theorem dX7_isPart_19 : decode cX7_isPart 19 = .ok (.iconst 0, 1) := by decide +kernel
theorem dX7_isPart_20 : decode cX7_isPart 20 = .ok (.ireturn, 1) := by decide +kernel
theorem dX7_isLaw_0 : decode cX7_isLaw 0 = .ok (.iload_n 0, 1) := by decide +kernel
theorem dX7_isLaw_1 : decode cX7_isLaw 1 = .ok (.ifCond .lt 12, 3) := by decide +kernel
theorem dX7_isLaw_4 : decode cX7_isLaw 4 = .ok (.iload_n 0, 1) := by decide +kernel
theorem dX7_isLaw_5 : decode cX7_isLaw 5 = .ok (.iconst 5, 1) := by decide +kernel
theorem dX7_isLaw_6 : decode cX7_isLaw 6 = .ok (.if_icmp .ge 7, 3) := by decide +kernel
theorem dX7_isLaw_9 : decode cX7_isLaw 9 = .ok (.iconst 1, 1) := by decide +kernel
theorem dX7_isLaw_10 : decode cX7_isLaw 10 = .ok (.goto 4, 3) := by decide +kernel
theorem dX7_isLaw_13 : decode cX7_isLaw 13 = .ok (.iconst 0, 1) := by decide +kernel
theorem dX7_isLaw_14 : decode cX7_isLaw 14 = .ok (.ireturn, 1) := by decide +kernel
theorem dX7_isMake_0 : decode cX7_isMake 0 = .ok (.iload_n 0, 1) := by decide +kernel
theorem dX7_isMake_1 : decode cX7_isMake 1 = .ok (.ifCond .lt 8, 3) := by decide +kernel
theorem dX7_isMake_4 : decode cX7_isMake 4 = .ok (.iload_n 0, 1) := by decide +kernel
theorem dX7_isMake_5 : decode cX7_isMake 5 = .ok (.iconst 4, 1) := by decide +kernel
theorem dX7_isMake_6 : decode cX7_isMake 6 = .ok (.if_icmp .lt 9, 3) := by decide +kernel
theorem dX7_isMake_9 : decode cX7_isMake 9 = .ok (.iload_n 0, 1) := by decide +kernel
theorem dX7_isMake_10 : decode cX7_isMake 10 = .ok (.bipush 9, 2) := by decide +kernel
theorem dX7_isMake_12 : decode cX7_isMake 12 = .ok (.if_icmp .ne 7, 3) := by decide +kernel
theorem dX7_isMake_15 : decode cX7_isMake 15 = .ok (.iconst 1, 1) := by decide +kernel
theorem dX7_isMake_16 : decode cX7_isMake 16 = .ok (.goto 4, 3) := by decide +kernel
theorem dX7_isMake_19 : decode cX7_isMake 19 = .ok (.iconst 0, 1) := by decide +kernel
theorem dX7_isMake_20 : decode cX7_isMake 20 = .ok (.ireturn, 1) := by decide +kernel
theorem dX7_isFractionSide_0 : decode cX7_isFractionSide 0 = .ok (.iload_n 0, 1) := by decide +kernel
theorem dX7_isFractionSide_1 : decode cX7_isFractionSide 1 = .ok (.ifCond .eq 8, 3) := by decide +kernel
theorem dX7_isFractionSide_4 : decode cX7_isFractionSide 4 = .ok (.iload_n 0, 1) := by decide +kernel
theorem dX7_isFractionSide_5 : decode cX7_isFractionSide 5 = .ok (.iconst 1, 1) := by decide +kernel
theorem dX7_isFractionSide_6 : decode cX7_isFractionSide 6 = .ok (.if_icmp .ne 7, 3) := by decide +kernel
theorem dX7_isFractionSide_9 : decode cX7_isFractionSide 9 = .ok (.iconst 1, 1) := by decide +kernel
theorem dX7_isFractionSide_10 : decode cX7_isFractionSide 10 = .ok (.goto 4, 3) := by decide +kernel
theorem dX7_isFractionSide_13 : decode cX7_isFractionSide 13 = .ok (.iconst 0, 1) := by decide +kernel
theorem dX7_isFractionSide_14 : decode cX7_isFractionSide 14 = .ok (.ireturn, 1) := by decide +kernel
theorem dX7_whoseNow_0 : decode cX7_whoseNow 0 = .ok (.aload_n 0, 1) := by decide +kernel
theorem dX7_whoseNow_1 : decode cX7_whoseNow 1 = .ok (.getfield 28, 3) := by decide +kernel
theorem dX7_whoseNow_4 : decode cX7_whoseNow 4 = .ok (.iload_n 1, 1) := by decide +kernel
theorem dX7_whoseNow_5 : decode cX7_whoseNow 5 = .ok (.invokevirtual 228, 3) := by decide +kernel
theorem dX7_whoseNow_8 : decode cX7_whoseNow 8 = .ok (.aload_n 0, 1) := by decide +kernel
theorem dX7_whoseNow_9 : decode cX7_whoseNow 9 = .ok (.getfield 28, 3) := by decide +kernel
theorem dX7_whoseNow_12 : decode cX7_whoseNow 12 = .ok (.iload_n 2, 1) := by decide +kernel
theorem dX7_whoseNow_13 : decode cX7_whoseNow 13 = .ok (.invokevirtual 219, 3) := by decide +kernel
theorem dX7_whoseNow_16 : decode cX7_whoseNow 16 = .ok (.ireturn, 1) := by decide +kernel
theorem dX7_rottenPlaces_0 : decode cX7_rottenPlaces 0 = .ok (.iconst 0, 1) := by decide +kernel
theorem dX7_rottenPlaces_1 : decode cX7_rottenPlaces 1 = .ok (.istore_n 2, 1) := by decide +kernel
theorem dX7_rottenPlaces_2 : decode cX7_rottenPlaces 2 = .ok (.iconst 0, 1) := by decide +kernel
theorem dX7_rottenPlaces_3 : decode cX7_rottenPlaces 3 = .ok (.istore_n 3, 1) := by decide +kernel
theorem dX7_rottenPlaces_4 : decode cX7_rottenPlaces 4 = .ok (.iload_n 3, 1) := by decide +kernel
theorem dX7_rottenPlaces_5 : decode cX7_rottenPlaces 5 = .ok (.aload_n 0, 1) := by decide +kernel
theorem dX7_rottenPlaces_6 : decode cX7_rottenPlaces 6 = .ok (.getfield 10, 3) := by decide +kernel
theorem dX7_rottenPlaces_9 : decode cX7_rottenPlaces 9 = .ok (.getfield 184, 3) := by decide +kernel
theorem dX7_rottenPlaces_12 : decode cX7_rottenPlaces 12 = .ok (.if_icmp .ge 44, 3) := by decide +kernel
theorem dX7_rottenPlaces_15 : decode cX7_rottenPlaces 15 = .ok (.aload_n 0, 1) := by decide +kernel
theorem dX7_rottenPlaces_16 : decode cX7_rottenPlaces 16 = .ok (.getfield 19, 3) := by decide +kernel
theorem dX7_rottenPlaces_19 : decode cX7_rottenPlaces 19 = .ok (.getfield 129, 3) := by decide +kernel
theorem dX7_rottenPlaces_22 : decode cX7_rottenPlaces 22 = .ok (.aload_n 0, 1) := by decide +kernel
theorem dX7_rottenPlaces_23 : decode cX7_rottenPlaces 23 = .ok (.getfield 19, 3) := by decide +kernel
theorem dX7_rottenPlaces_26 : decode cX7_rottenPlaces 26 = .ok (.iload_n 1, 1) := by decide +kernel
theorem dX7_rottenPlaces_27 : decode cX7_rottenPlaces 27 = .ok (.iload_n 3, 1) := by decide +kernel
theorem dX7_rottenPlaces_28 : decode cX7_rottenPlaces 28 = .ok (.invokevirtual 138, 3) := by decide +kernel
theorem dX7_rottenPlaces_31 : decode cX7_rottenPlaces 31 = .ok (.iaload, 1) := by decide +kernel
theorem dX7_rottenPlaces_32 : decode cX7_rottenPlaces 32 = .ok (.aload_n 0, 1) := by decide +kernel
theorem dX7_rottenPlaces_33 : decode cX7_rottenPlaces 33 = .ok (.getfield 10, 3) := by decide +kernel
theorem dX7_rottenPlaces_36 : decode cX7_rottenPlaces 36 = .ok (.getfield 114, 3) := by decide +kernel
theorem dX7_rottenPlaces_39 : decode cX7_rottenPlaces 39 = .ok (.iload_n 3, 1) := by decide +kernel
theorem dX7_rottenPlaces_40 : decode cX7_rottenPlaces 40 = .ok (.iaload, 1) := by decide +kernel
theorem dX7_rottenPlaces_41 : decode cX7_rottenPlaces 41 = .ok (.if_icmp .lt 9, 3) := by decide +kernel
theorem dX7_rottenPlaces_44 : decode cX7_rottenPlaces 44 = .ok (.iload_n 2, 1) := by decide +kernel
theorem dX7_rottenPlaces_45 : decode cX7_rottenPlaces 45 = .ok (.iconst 1, 1) := by decide +kernel
theorem dX7_rottenPlaces_46 : decode cX7_rottenPlaces 46 = .ok (.iload_n 3, 1) := by decide +kernel
theorem dX7_rottenPlaces_47 : decode cX7_rottenPlaces 47 = .ok (.ishl, 1) := by decide +kernel
theorem dX7_rottenPlaces_48 : decode cX7_rottenPlaces 48 = .ok (.ior, 1) := by decide +kernel
theorem dX7_rottenPlaces_49 : decode cX7_rottenPlaces 49 = .ok (.istore_n 2, 1) := by decide +kernel
theorem dX7_rottenPlaces_50 : decode cX7_rottenPlaces 50 = .ok (.iinc 3 1, 3) := by decide +kernel
theorem dX7_rottenPlaces_53 : decode cX7_rottenPlaces 53 = .ok (.goto (-49), 3) := by decide +kernel
theorem dX7_rottenPlaces_56 : decode cX7_rottenPlaces 56 = .ok (.iload_n 2, 1) := by decide +kernel
theorem dX7_rottenPlaces_57 : decode cX7_rottenPlaces 57 = .ok (.ireturn, 1) := by decide +kernel
theorem dX7_rottenShips_0 : decode cX7_rottenShips 0 = .ok (.iconst 0, 1) := by decide +kernel
theorem dX7_rottenShips_1 : decode cX7_rottenShips 1 = .ok (.istore_n 1, 1) := by decide +kernel
theorem dX7_rottenShips_2 : decode cX7_rottenShips 2 = .ok (.iconst 0, 1) := by decide +kernel
theorem dX7_rottenShips_3 : decode cX7_rottenShips 3 = .ok (.istore_n 2, 1) := by decide +kernel
theorem dX7_rottenShips_4 : decode cX7_rottenShips 4 = .ok (.iload_n 2, 1) := by decide +kernel
theorem dX7_rottenShips_5 : decode cX7_rottenShips 5 = .ok (.aload_n 0, 1) := by decide +kernel
theorem dX7_rottenShips_6 : decode cX7_rottenShips 6 = .ok (.getfield 19, 3) := by decide +kernel
theorem dX7_rottenShips_9 : decode cX7_rottenShips 9 = .ok (.getfield 190, 3) := by decide +kernel
theorem dX7_rottenShips_12 : decode cX7_rottenShips 12 = .ok (.if_icmp .ge 23, 3) := by decide +kernel
theorem dX7_rottenShips_15 : decode cX7_rottenShips 15 = .ok (.aload_n 0, 1) := by decide +kernel
theorem dX7_rottenShips_16 : decode cX7_rottenShips 16 = .ok (.iload_n 2, 1) := by decide +kernel
theorem dX7_rottenShips_17 : decode cX7_rottenShips 17 = .ok (.invokevirtual 145, 3) := by decide +kernel
theorem dX7_rottenShips_20 : decode cX7_rottenShips 20 = .ok (.ifCond .eq 9, 3) := by decide +kernel
theorem dX7_rottenShips_23 : decode cX7_rottenShips 23 = .ok (.iload_n 1, 1) := by decide +kernel
theorem dX7_rottenShips_24 : decode cX7_rottenShips 24 = .ok (.iconst 1, 1) := by decide +kernel
theorem dX7_rottenShips_25 : decode cX7_rottenShips 25 = .ok (.iload_n 2, 1) := by decide +kernel
theorem dX7_rottenShips_26 : decode cX7_rottenShips 26 = .ok (.ishl, 1) := by decide +kernel
theorem dX7_rottenShips_27 : decode cX7_rottenShips 27 = .ok (.ior, 1) := by decide +kernel
theorem dX7_rottenShips_28 : decode cX7_rottenShips 28 = .ok (.istore_n 1, 1) := by decide +kernel
theorem dX7_rottenShips_29 : decode cX7_rottenShips 29 = .ok (.iinc 2 1, 3) := by decide +kernel
theorem dX7_rottenShips_32 : decode cX7_rottenShips 32 = .ok (.goto (-28), 3) := by decide +kernel
theorem dX7_rottenShips_35 : decode cX7_rottenShips 35 = .ok (.iload_n 1, 1) := by decide +kernel
theorem dX7_rottenShips_36 : decode cX7_rottenShips 36 = .ok (.ireturn, 1) := by decide +kernel
theorem dX7_fairLaws_0 : decode cX7_fairLaws 0 = .ok (.iconst 0, 1) := by decide +kernel
theorem dX7_fairLaws_1 : decode cX7_fairLaws 1 = .ok (.istore_n 1, 1) := by decide +kernel
theorem dX7_fairLaws_2 : decode cX7_fairLaws 2 = .ok (.iconst 0, 1) := by decide +kernel
theorem dX7_fairLaws_3 : decode cX7_fairLaws 3 = .ok (.istore_n 2, 1) := by decide +kernel
theorem dX7_fairLaws_4 : decode cX7_fairLaws 4 = .ok (.iload_n 2, 1) := by decide +kernel
theorem dX7_fairLaws_5 : decode cX7_fairLaws 5 = .ok (.iconst 5, 1) := by decide +kernel
theorem dX7_fairLaws_6 : decode cX7_fairLaws 6 = .ok (.if_icmp .ge 25, 3) := by decide +kernel
theorem dX7_fairLaws_9 : decode cX7_fairLaws 9 = .ok (.aload_n 0, 1) := by decide +kernel
theorem dX7_fairLaws_10 : decode cX7_fairLaws 10 = .ok (.iload_n 2, 1) := by decide +kernel
theorem dX7_fairLaws_11 : decode cX7_fairLaws 11 = .ok (.invokevirtual 199, 3) := by decide +kernel
theorem dX7_fairLaws_14 : decode cX7_fairLaws 14 = .ok (.bipush (-9), 2) := by decide +kernel
theorem dX7_fairLaws_16 : decode cX7_fairLaws 16 = .ok (.if_icmp .ne 9, 3) := by decide +kernel
theorem dX7_fairLaws_19 : decode cX7_fairLaws 19 = .ok (.iload_n 1, 1) := by decide +kernel
theorem dX7_fairLaws_20 : decode cX7_fairLaws 20 = .ok (.iconst 1, 1) := by decide +kernel
theorem dX7_fairLaws_21 : decode cX7_fairLaws 21 = .ok (.iload_n 2, 1) := by decide +kernel
theorem dX7_fairLaws_22 : decode cX7_fairLaws 22 = .ok (.ishl, 1) := by decide +kernel
theorem dX7_fairLaws_23 : decode cX7_fairLaws 23 = .ok (.ior, 1) := by decide +kernel
theorem dX7_fairLaws_24 : decode cX7_fairLaws 24 = .ok (.istore_n 1, 1) := by decide +kernel
theorem dX7_fairLaws_25 : decode cX7_fairLaws 25 = .ok (.iinc 2 1, 3) := by decide +kernel
theorem dX7_fairLaws_28 : decode cX7_fairLaws 28 = .ok (.goto (-24), 3) := by decide +kernel
theorem dX7_fairLaws_31 : decode cX7_fairLaws 31 = .ok (.iload_n 1, 1) := by decide +kernel
theorem dX7_fairLaws_32 : decode cX7_fairLaws 32 = .ok (.ireturn, 1) := by decide +kernel
theorem dX7_firstTwins_0 : decode cX7_firstTwins 0 = .ok (.iconst 0, 1) := by decide +kernel
theorem dX7_firstTwins_1 : decode cX7_firstTwins 1 = .ok (.istore_n 2, 1) := by decide +kernel
theorem dX7_firstTwins_2 : decode cX7_firstTwins 2 = .ok (.iload_n 2, 1) := by decide +kernel
theorem dX7_firstTwins_3 : decode cX7_firstTwins 3 = .ok (.aload_n 0, 1) := by decide +kernel
theorem dX7_firstTwins_4 : decode cX7_firstTwins 4 = .ok (.getfield 19, 3) := by decide +kernel
theorem dX7_firstTwins_7 : decode cX7_firstTwins 7 = .ok (.getfield 190, 3) := by decide +kernel
theorem dX7_firstTwins_10 : decode cX7_firstTwins 10 = .ok (.if_icmp .ge 64, 3) := by decide +kernel
theorem dX7_firstTwins_13 : decode cX7_firstTwins 13 = .ok (.aload_n 0, 1) := by decide +kernel
theorem dX7_firstTwins_14 : decode cX7_firstTwins 14 = .ok (.iload_n 2, 1) := by decide +kernel
theorem dX7_firstTwins_15 : decode cX7_firstTwins 15 = .ok (.iload_n 1, 1) := by decide +kernel
theorem dX7_firstTwins_16 : decode cX7_firstTwins 16 = .ok (.invokevirtual 151, 3) := by decide +kernel
theorem dX7_firstTwins_19 : decode cX7_firstTwins 19 = .ok (.istore_n 3, 1) := by decide +kernel
theorem dX7_firstTwins_20 : decode cX7_firstTwins 20 = .ok (.iload_n 2, 1) := by decide +kernel
theorem dX7_firstTwins_21 : decode cX7_firstTwins 21 = .ok (.iconst 1, 1) := by decide +kernel
theorem dX7_firstTwins_22 : decode cX7_firstTwins 22 = .ok (.iadd, 1) := by decide +kernel
theorem dX7_firstTwins_23 : decode cX7_firstTwins 23 = .ok (.istore 4, 2) := by decide +kernel
theorem dX7_firstTwins_25 : decode cX7_firstTwins 25 = .ok (.iload_n 3, 1) := by decide +kernel
theorem dX7_firstTwins_26 : decode cX7_firstTwins 26 = .ok (.bipush (-9), 2) := by decide +kernel
theorem dX7_firstTwins_28 : decode cX7_firstTwins 28 = .ok (.if_icmp .eq 40, 3) := by decide +kernel
theorem dX7_firstTwins_31 : decode cX7_firstTwins 31 = .ok (.iload 4, 2) := by decide +kernel
theorem dX7_firstTwins_33 : decode cX7_firstTwins 33 = .ok (.aload_n 0, 1) := by decide +kernel
theorem dX7_firstTwins_34 : decode cX7_firstTwins 34 = .ok (.getfield 19, 3) := by decide +kernel
theorem dX7_firstTwins_37 : decode cX7_firstTwins 37 = .ok (.getfield 190, 3) := by decide +kernel
theorem dX7_firstTwins_40 : decode cX7_firstTwins 40 = .ok (.if_icmp .ge 28, 3) := by decide +kernel
theorem dX7_firstTwins_43 : decode cX7_firstTwins 43 = .ok (.aload_n 0, 1) := by decide +kernel
theorem dX7_firstTwins_44 : decode cX7_firstTwins 44 = .ok (.iload 4, 2) := by decide +kernel
theorem dX7_firstTwins_46 : decode cX7_firstTwins 46 = .ok (.iload_n 1, 1) := by decide +kernel
theorem dX7_firstTwins_47 : decode cX7_firstTwins 47 = .ok (.invokevirtual 151, 3) := by decide +kernel
theorem dX7_firstTwins_50 : decode cX7_firstTwins 50 = .ok (.iload_n 3, 1) := by decide +kernel
theorem dX7_firstTwins_51 : decode cX7_firstTwins 51 = .ok (.if_icmp .ne 11, 3) := by decide +kernel
theorem dX7_firstTwins_54 : decode cX7_firstTwins 54 = .ok (.bipush 10, 2) := by decide +kernel
theorem dX7_firstTwins_56 : decode cX7_firstTwins 56 = .ok (.iload_n 2, 1) := by decide +kernel
theorem dX7_firstTwins_57 : decode cX7_firstTwins 57 = .ok (.imul, 1) := by decide +kernel
theorem dX7_firstTwins_58 : decode cX7_firstTwins 58 = .ok (.iload 4, 2) := by decide +kernel
theorem dX7_firstTwins_60 : decode cX7_firstTwins 60 = .ok (.iadd, 1) := by decide +kernel
theorem dX7_firstTwins_61 : decode cX7_firstTwins 61 = .ok (.ireturn, 1) := by decide +kernel
theorem dX7_firstTwins_62 : decode cX7_firstTwins 62 = .ok (.iinc 4 1, 3) := by decide +kernel
theorem dX7_firstTwins_65 : decode cX7_firstTwins 65 = .ok (.goto (-40), 3) := by decide +kernel
theorem dX7_firstTwins_68 : decode cX7_firstTwins 68 = .ok (.iinc 2 1, 3) := by decide +kernel
theorem dX7_firstTwins_71 : decode cX7_firstTwins 71 = .ok (.goto (-69), 3) := by decide +kernel
theorem dX7_firstTwins_74 : decode cX7_firstTwins 74 = .ok (.bipush (-9), 2) := by decide +kernel
theorem dX7_firstTwins_76 : decode cX7_firstTwins 76 = .ok (.ireturn, 1) := by decide +kernel
theorem dX7_staying_0 : decode cX7_staying 0 = .ok (.iconst 0, 1) := by decide +kernel
theorem dX7_staying_1 : decode cX7_staying 1 = .ok (.istore 5, 2) := by decide +kernel
theorem dX7_staying_3 : decode cX7_staying 3 = .ok (.iconst 0, 1) := by decide +kernel
theorem dX7_staying_4 : decode cX7_staying 4 = .ok (.istore 6, 2) := by decide +kernel
theorem dX7_staying_6 : decode cX7_staying 6 = .ok (.iconst 0, 1) := by decide +kernel
theorem dX7_staying_7 : decode cX7_staying 7 = .ok (.istore 7, 2) := by decide +kernel
theorem dX7_staying_9 : decode cX7_staying 9 = .ok (.iload 7, 2) := by decide +kernel
theorem dX7_staying_11 : decode cX7_staying 11 = .ok (.aload_n 0, 1) := by decide +kernel
theorem dX7_staying_12 : decode cX7_staying 12 = .ok (.getfield 19, 3) := by decide +kernel
theorem dX7_staying_15 : decode cX7_staying 15 = .ok (.getfield 177, 3) := by decide +kernel
theorem dX7_staying_18 : decode cX7_staying 18 = .ok (.if_icmp .ge 51, 3) := by decide +kernel
theorem dX7_staying_21 : decode cX7_staying 21 = .ok (.aload_n 0, 1) := by decide +kernel
theorem dX7_staying_22 : decode cX7_staying 22 = .ok (.getfield 19, 3) := by decide +kernel
theorem dX7_staying_25 : decode cX7_staying 25 = .ok (.iload 7, 2) := by decide +kernel
theorem dX7_staying_27 : decode cX7_staying 27 = .ok (.iload_n 2, 1) := by decide +kernel
theorem dX7_staying_28 : decode cX7_staying 28 = .ok (.invokevirtual 285, 3) := by decide +kernel
theorem dX7_staying_31 : decode cX7_staying 31 = .ok (.ifCond .eq 32, 3) := by decide +kernel
theorem dX7_staying_34 : decode cX7_staying 34 = .ok (.iinc 6 1, 3) := by decide +kernel
theorem dX7_staying_37 : decode cX7_staying 37 = .ok (.aload_n 0, 1) := by decide +kernel
theorem dX7_staying_38 : decode cX7_staying 38 = .ok (.getfield 28, 3) := by decide +kernel
theorem dX7_staying_41 : decode cX7_staying 41 = .ok (.iload_n 2, 1) := by decide +kernel
theorem dX7_staying_42 : decode cX7_staying 42 = .ok (.iload 7, 2) := by decide +kernel
theorem dX7_staying_44 : decode cX7_staying 44 = .ok (.invokevirtual 248, 3) := by decide +kernel
theorem dX7_staying_47 : decode cX7_staying 47 = .ok (.aload_n 0, 1) := by decide +kernel
theorem dX7_staying_48 : decode cX7_staying 48 = .ok (.getfield 28, 3) := by decide +kernel
theorem dX7_staying_51 : decode cX7_staying 51 = .ok (.iload_n 3, 1) := by decide +kernel
theorem dX7_staying_52 : decode cX7_staying 52 = .ok (.invokevirtual 219, 3) := by decide +kernel
theorem dX7_staying_55 : decode cX7_staying 55 = .ok (.iload 4, 2) := by decide +kernel
theorem dX7_staying_57 : decode cX7_staying 57 = .ok (.if_icmp .ne 6, 3) := by decide +kernel
theorem dX7_staying_60 : decode cX7_staying 60 = .ok (.iinc 5 1, 3) := by decide +kernel
theorem dX7_staying_63 : decode cX7_staying 63 = .ok (.iinc 7 1, 3) := by decide +kernel
theorem dX7_staying_66 : decode cX7_staying 66 = .ok (.goto (-57), 3) := by decide +kernel
theorem dX7_staying_69 : decode cX7_staying 69 = .ok (.aload_n 0, 1) := by decide +kernel
theorem dX7_staying_70 : decode cX7_staying 70 = .ok (.getfield 28, 3) := by decide +kernel
theorem dX7_staying_73 : decode cX7_staying 73 = .ok (.iload_n 2, 1) := by decide +kernel
theorem dX7_staying_74 : decode cX7_staying 74 = .ok (.aload_n 0, 1) := by decide +kernel
theorem dX7_staying_75 : decode cX7_staying 75 = .ok (.getfield 19, 3) := by decide +kernel
theorem dX7_staying_78 : decode cX7_staying 78 = .ok (.iload_n 1, 1) := by decide +kernel
theorem dX7_staying_79 : decode cX7_staying 79 = .ok (.iload_n 2, 1) := by decide +kernel
theorem dX7_staying_80 : decode cX7_staying 80 = .ok (.invokevirtual 138, 3) := by decide +kernel
theorem dX7_staying_83 : decode cX7_staying 83 = .ok (.invokevirtual 248, 3) := by decide +kernel
theorem dX7_staying_86 : decode cX7_staying 86 = .ok (.iload 6, 2) := by decide +kernel
theorem dX7_staying_88 : decode cX7_staying 88 = .ok (.ifCond .ne 7, 3) := by decide +kernel
theorem dX7_staying_91 : decode cX7_staying 91 = .ok (.iconst 1, 1) := by decide +kernel
theorem dX7_staying_92 : decode cX7_staying 92 = .ok (.goto 5, 3) := by decide +kernel
theorem dX7_staying_95 : decode cX7_staying 95 = .ok (.iload 5, 2) := by decide +kernel
theorem dX7_staying_97 : decode cX7_staying 97 = .ok (.ireturn, 1) := by decide +kernel
