theorem dX0_init_0 : decode cX0_init 0 = .ok (.aload_n 0, 1) := by decide +kernel
theorem dX0_init_1 : decode cX0_init 1 = .ok (.invokespecial 3, 3) := by decide +kernel
theorem dX0_init_4 : decode cX0_init 4 = .ok (.aload_n 0, 1) := by decide +kernel
theorem dX0_init_5 : decode cX0_init 5 = .ok (.bipush 6, 2) := by decide +kernel
theorem dX0_init_7 : decode cX0_init 7 = .ok (.newarray .int, 2) := by decide +kernel
theorem dX0_init_9 : decode cX0_init 9 = .ok (.putfield 9, 3) := by decide +kernel
theorem dX0_init_12 : decode cX0_init 12 = .ok (.aload_n 0, 1) := by decide +kernel
theorem dX0_init_13 : decode cX0_init 13 = .ok (.bipush 6, 2) := by decide +kernel
theorem dX0_init_15 : decode cX0_init 15 = .ok (.newarray .int, 2) := by decide +kernel
theorem dX0_init_17 : decode cX0_init 17 = .ok (.putfield 15, 3) := by decide +kernel
theorem dX0_init_20 : decode cX0_init 20 = .ok (.aload_n 0, 1) := by decide +kernel
theorem dX0_init_21 : decode cX0_init 21 = .ok (.iconst 0, 1) := by decide +kernel
theorem dX0_init_22 : decode cX0_init 22 = .ok (.putfield 18, 3) := by decide +kernel
theorem dX0_init_25 : decode cX0_init 25 = .ok (.aload_n 0, 1) := by decide +kernel
theorem dX0_init_26 : decode cX0_init 26 = .ok (.iconst 0, 1) := by decide +kernel
theorem dX0_init_27 : decode cX0_init 27 = .ok (.putfield 22, 3) := by decide +kernel
theorem dX0_init_30 : decode cX0_init 30 = .ok (.aload_n 0, 1) := by decide +kernel
theorem dX0_init_31 : decode cX0_init 31 = .ok (.iconst 0, 1) := by decide +kernel
theorem dX0_init_32 : decode cX0_init 32 = .ok (.putfield 26, 3) := by decide +kernel
theorem dX0_init_35 : decode cX0_init 35 = .ok (.aload_n 0, 1) := by decide +kernel
theorem dX0_init_36 : decode cX0_init 36 = .ok (.iconst 0, 1) := by decide +kernel
theorem dX0_init_37 : decode cX0_init 37 = .ok (.putfield 29, 3) := by decide +kernel
theorem dX0_init_40 : decode cX0_init 40 = .ok (.aload_n 0, 1) := by decide +kernel
theorem dX0_init_41 : decode cX0_init 41 = .ok (.iconst 0, 1) := by decide +kernel
theorem dX0_init_42 : decode cX0_init 42 = .ok (.putfield 32, 3) := by decide +kernel
theorem dX0_init_45 : decode cX0_init 45 = .ok (.aload_n 0, 1) := by decide +kernel
theorem dX0_init_46 : decode cX0_init 46 = .ok (.aload_n 1, 1) := by decide +kernel
theorem dX0_init_47 : decode cX0_init 47 = .ok (.putfield 35, 3) := by decide +kernel
theorem dX0_init_50 : decode cX0_init 50 = .ok (.aload_n 0, 1) := by decide +kernel
theorem dX0_init_51 : decode cX0_init 51 = .ok (.aload_n 2, 1) := by decide +kernel
theorem dX0_init_52 : decode cX0_init 52 = .ok (.putfield 39, 3) := by decide +kernel
theorem dX0_init_55 : decode cX0_init 55 = .ok (.aload_n 0, 1) := by decide +kernel
theorem dX0_init_56 : decode cX0_init 56 = .ok (.aload_n 3, 1) := by decide +kernel
theorem dX0_init_57 : decode cX0_init 57 = .ok (.putfield 43, 3) := by decide +kernel
theorem dX0_init_60 : decode cX0_init 60 = .ok (.return_, 1) := by decide +kernel
theorem dX0_seek_0 : decode cX0_seek 0 = .ok (.aload_n 0, 1) := by decide +kernel
theorem dX0_seek_1 : decode cX0_seek 1 = .ok (.iload_n 1, 1) := by decide +kernel
theorem dX0_seek_2 : decode cX0_seek 2 = .ok (.putfield 26, 3) := by decide +kernel
theorem dX0_seek_5 : decode cX0_seek 5 = .ok (.aload_n 0, 1) := by decide +kernel
theorem dX0_seek_6 : decode cX0_seek 6 = .ok (.iload_n 2, 1) := by decide +kernel
theorem dX0_seek_7 : decode cX0_seek 7 = .ok (.putfield 29, 3) := by decide +kernel
theorem dX0_seek_10 : decode cX0_seek 10 = .ok (.aload_n 0, 1) := by decide +kernel
theorem dX0_seek_11 : decode cX0_seek 11 = .ok (.iload_n 3, 1) := by decide +kernel
theorem dX0_seek_12 : decode cX0_seek 12 = .ok (.putfield 32, 3) := by decide +kernel
theorem dX0_seek_15 : decode cX0_seek 15 = .ok (.aload_n 0, 1) := by decide +kernel
theorem dX0_seek_16 : decode cX0_seek 16 = .ok (.iconst 0, 1) := by decide +kernel
theorem dX0_seek_17 : decode cX0_seek 17 = .ok (.putfield 18, 3) := by decide +kernel
theorem dX0_seek_20 : decode cX0_seek 20 = .ok (.aload_n 0, 1) := by decide +kernel
theorem dX0_seek_21 : decode cX0_seek 21 = .ok (.aload_n 0, 1) := by decide +kernel
theorem dX0_seek_22 : decode cX0_seek 22 = .ok (.getfield 35, 3) := by decide +kernel
theorem dX0_seek_25 : decode cX0_seek 25 = .ok (.getfield 47, 3) := by decide +kernel
theorem dX0_seek_28 : decode cX0_seek 28 = .ok (.iconst 1, 1) := by decide +kernel
theorem dX0_seek_29 : decode cX0_seek 29 = .ok (.iadd, 1) := by decide +kernel
theorem dX0_seek_30 : decode cX0_seek 30 = .ok (.putfield 22, 3) := by decide +kernel
theorem dX0_seek_33 : decode cX0_seek 33 = .ok (.aload_n 0, 1) := by decide +kernel
theorem dX0_seek_34 : decode cX0_seek 34 = .ok (.getfield 29, 3) := by decide +kernel
theorem dX0_seek_37 : decode cX0_seek 37 = .ok (.iconst 3, 1) := by decide +kernel
theorem dX0_seek_38 : decode cX0_seek 38 = .ok (.if_icmp .ne 10, 3) := by decide +kernel
theorem dX0_seek_41 : decode cX0_seek 41 = .ok (.aload_n 0, 1) := by decide +kernel
theorem dX0_seek_42 : decode cX0_seek 42 = .ok (.invokevirtual 52, 3) := by decide +kernel
theorem dX0_seek_45 : decode cX0_seek 45 = .ok (.goto 20, 3) := by decide +kernel
theorem dX0_seek_48 : decode cX0_seek 48 = .ok (.aload_n 0, 1) := by decide +kernel
theorem dX0_seek_49 : decode cX0_seek 49 = .ok (.getfield 43, 3) := by decide +kernel
theorem dX0_seek_52 : decode cX0_seek 52 = .ok (.aload_n 0, 1) := by decide +kernel
theorem dX0_seek_53 : decode cX0_seek 53 = .ok (.getfield 26, 3) := by decide +kernel
theorem dX0_seek_56 : decode cX0_seek 56 = .ok (.invokevirtual 55, 3) := by decide +kernel
theorem dX0_seek_59 : decode cX0_seek 59 = .ok (.aload_n 0, 1) := by decide +kernel
theorem dX0_seek_60 : decode cX0_seek 60 = .ok (.iconst 0, 1) := by decide +kernel
theorem dX0_seek_61 : decode cX0_seek 61 = .ok (.iconst 0, 1) := by decide +kernel
theorem dX0_seek_62 : decode cX0_seek 62 = .ok (.invokevirtual 61, 3) := by decide +kernel
theorem dX0_seek_65 : decode cX0_seek 65 = .ok (.return_, 1) := by decide +kernel
theorem dX0_choose_0 : decode cX0_choose 0 = .ok (.iload_n 2, 1) := by decide +kernel
theorem dX0_choose_1 : decode cX0_choose 1 = .ok (.aload_n 0, 1) := by decide +kernel
theorem dX0_choose_2 : decode cX0_choose 2 = .ok (.getfield 22, 3) := by decide +kernel
theorem dX0_choose_5 : decode cX0_choose 5 = .ok (.if_icmp .lt 4, 3) := by decide +kernel
theorem dX0_choose_8 : decode cX0_choose 8 = .ok (.return_, 1) := by decide +kernel
theorem dX0_choose_9 : decode cX0_choose 9 = .ok (.iload_n 1, 1) := by decide +kernel
theorem dX0_choose_10 : decode cX0_choose 10 = .ok (.aload_n 0, 1) := by decide +kernel
theorem dX0_choose_11 : decode cX0_choose 11 = .ok (.getfield 35, 3) := by decide +kernel
theorem dX0_choose_14 : decode cX0_choose 14 = .ok (.getfield 47, 3) := by decide +kernel
theorem dX0_choose_17 : decode cX0_choose 17 = .ok (.if_icmp .lt 27, 3) := by decide +kernel
theorem dX0_choose_20 : decode cX0_choose 20 = .ok (.aload_n 0, 1) := by decide +kernel
theorem dX0_choose_21 : decode cX0_choose 21 = .ok (.getfield 43, 3) := by decide +kernel
theorem dX0_choose_24 : decode cX0_choose 24 = .ok (.aload_n 0, 1) := by decide +kernel
theorem dX0_choose_25 : decode cX0_choose 25 = .ok (.getfield 29, 3) := by decide +kernel
theorem dX0_choose_28 : decode cX0_choose 28 = .ok (.invokevirtual 65, 3) := by decide +kernel
theorem dX0_choose_31 : decode cX0_choose 31 = .ok (.aload_n 0, 1) := by decide +kernel
theorem dX0_choose_32 : decode cX0_choose 32 = .ok (.getfield 32, 3) := by decide +kernel
theorem dX0_choose_35 : decode cX0_choose 35 = .ok (.if_icmp .ne 8, 3) := by decide +kernel
theorem dX0_choose_38 : decode cX0_choose 38 = .ok (.aload_n 0, 1) := by decide +kernel
theorem dX0_choose_39 : decode cX0_choose 39 = .ok (.iload_n 2, 1) := by decide +kernel
theorem dX0_choose_40 : decode cX0_choose 40 = .ok (.invokevirtual 69, 3) := by decide +kernel
theorem dX0_choose_43 : decode cX0_choose 43 = .ok (.return_, 1) := by decide +kernel
theorem dX0_choose_44 : decode cX0_choose 44 = .ok (.aload_n 0, 1) := by decide +kernel
theorem dX0_choose_45 : decode cX0_choose 45 = .ok (.getfield 39, 3) := by decide +kernel
theorem dX0_choose_48 : decode cX0_choose 48 = .ok (.aload_n 0, 1) := by decide +kernel
theorem dX0_choose_49 : decode cX0_choose 49 = .ok (.getfield 26, 3) := by decide +kernel
theorem dX0_choose_52 : decode cX0_choose 52 = .ok (.iload_n 1, 1) := by decide +kernel
theorem dX0_choose_53 : decode cX0_choose 53 = .ok (.invokevirtual 72, 3) := by decide +kernel
theorem dX0_choose_56 : decode cX0_choose 56 = .ok (.istore_n 3, 1) := by decide +kernel
theorem dX0_choose_57 : decode cX0_choose 57 = .ok (.aload_n 0, 1) := by decide +kernel
theorem dX0_choose_58 : decode cX0_choose 58 = .ok (.getfield 9, 3) := by decide +kernel
theorem dX0_choose_61 : decode cX0_choose 61 = .ok (.iload_n 1, 1) := by decide +kernel
theorem dX0_choose_62 : decode cX0_choose 62 = .ok (.bipush (-5), 2) := by decide +kernel
theorem dX0_choose_64 : decode cX0_choose 64 = .ok (.iastore, 1) := by decide +kernel
theorem dX0_choose_65 : decode cX0_choose 65 = .ok (.aload_n 0, 1) := by decide +kernel
theorem dX0_choose_66 : decode cX0_choose 66 = .ok (.iload_n 1, 1) := by decide +kernel
theorem dX0_choose_67 : decode cX0_choose 67 = .ok (.iconst 1, 1) := by decide +kernel
theorem dX0_choose_68 : decode cX0_choose 68 = .ok (.iadd, 1) := by decide +kernel
theorem dX0_choose_69 : decode cX0_choose 69 = .ok (.iload_n 2, 1) := by decide +kernel
theorem dX0_choose_70 : decode cX0_choose 70 = .ok (.invokevirtual 61, 3) := by decide +kernel
theorem dX0_choose_73 : decode cX0_choose 73 = .ok (.iconst 1, 1) := by decide +kernel
theorem dX0_choose_74 : decode cX0_choose 74 = .ok (.aload_n 0, 1) := by decide +kernel
theorem dX0_choose_75 : decode cX0_choose 75 = .ok (.getfield 39, 3) := by decide +kernel
theorem dX0_choose_78 : decode cX0_choose 78 = .ok (.getfield 78, 3) := by decide +kernel
theorem dX0_choose_81 : decode cX0_choose 81 = .ok (.iload_n 3, 1) := by decide +kernel
theorem dX0_choose_82 : decode cX0_choose 82 = .ok (.iaload, 1) := by decide +kernel
theorem dX0_choose_83 : decode cX0_choose 83 = .ok (.ishl, 1) := by decide +kernel
theorem dX0_choose_84 : decode cX0_choose 84 = .ok (.istore 4, 2) := by decide +kernel
theorem dX0_choose_86 : decode cX0_choose 86 = .ok (.iconst 0, 1) := by decide +kernel
theorem dX0_choose_87 : decode cX0_choose 87 = .ok (.istore 5, 2) := by decide +kernel
theorem dX0_choose_89 : decode cX0_choose 89 = .ok (.iload 5, 2) := by decide +kernel
theorem dX0_choose_91 : decode cX0_choose 91 = .ok (.aload_n 0, 1) := by decide +kernel
theorem dX0_choose_92 : decode cX0_choose 92 = .ok (.getfield 39, 3) := by decide +kernel
theorem dX0_choose_95 : decode cX0_choose 95 = .ok (.getfield 81, 3) := by decide +kernel
theorem dX0_choose_98 : decode cX0_choose 98 = .ok (.if_icmp .ge 79, 3) := by decide +kernel
theorem dX0_choose_101 : decode cX0_choose 101 = .ok (.iconst 1, 1) := by decide +kernel
theorem dX0_choose_102 : decode cX0_choose 102 = .ok (.aload_n 0, 1) := by decide +kernel
theorem dX0_choose_103 : decode cX0_choose 103 = .ok (.getfield 39, 3) := by decide +kernel
theorem dX0_choose_106 : decode cX0_choose 106 = .ok (.getfield 78, 3) := by decide +kernel
theorem dX0_choose_109 : decode cX0_choose 109 = .ok (.iload 5, 2) := by decide +kernel
theorem dX0_choose_111 : decode cX0_choose 111 = .ok (.iaload, 1) := by decide +kernel
theorem dX0_choose_112 : decode cX0_choose 112 = .ok (.ishl, 1) := by decide +kernel
theorem dX0_choose_113 : decode cX0_choose 113 = .ok (.istore 6, 2) := by decide +kernel
theorem dX0_choose_115 : decode cX0_choose 115 = .ok (.aload_n 0, 1) := by decide +kernel
theorem dX0_choose_116 : decode cX0_choose 116 = .ok (.getfield 39, 3) := by decide +kernel
theorem dX0_choose_119 : decode cX0_choose 119 = .ok (.iload 5, 2) := by decide +kernel
theorem dX0_choose_121 : decode cX0_choose 121 = .ok (.iload_n 1, 1) := by decide +kernel
theorem dX0_choose_122 : decode cX0_choose 122 = .ok (.invokevirtual 84, 3) := by decide +kernel
theorem dX0_choose_125 : decode cX0_choose 125 = .ok (.ifCond .eq 46, 3) := by decide +kernel
theorem dX0_choose_128 : decode cX0_choose 128 = .ok (.iload 4, 2) := by decide +kernel
theorem dX0_choose_130 : decode cX0_choose 130 = .ok (.iload 6, 2) := by decide +kernel
theorem dX0_choose_132 : decode cX0_choose 132 = .ok (.iand, 1) := by decide +kernel
theorem dX0_choose_133 : decode cX0_choose 133 = .ok (.ifCond .ne 38, 3) := by decide +kernel
theorem dX0_choose_136 : decode cX0_choose 136 = .ok (.iload 4, 2) := by decide +kernel
theorem dX0_choose_138 : decode cX0_choose 138 = .ok (.iload 6, 2) := by decide +kernel
theorem dX0_choose_140 : decode cX0_choose 140 = .ok (.ior, 1) := by decide +kernel
theorem dX0_choose_141 : decode cX0_choose 141 = .ok (.istore 4, 2) := by decide +kernel
theorem dX0_choose_143 : decode cX0_choose 143 = .ok (.aload_n 0, 1) := by decide +kernel
theorem dX0_choose_144 : decode cX0_choose 144 = .ok (.getfield 9, 3) := by decide +kernel
theorem dX0_choose_147 : decode cX0_choose 147 = .ok (.iload_n 1, 1) := by decide +kernel
theorem dX0_choose_148 : decode cX0_choose 148 = .ok (.iload 5, 2) := by decide +kernel
theorem dX0_choose_150 : decode cX0_choose 150 = .ok (.iastore, 1) := by decide +kernel
theorem dX0_choose_151 : decode cX0_choose 151 = .ok (.aload_n 0, 1) := by decide +kernel
theorem dX0_choose_152 : decode cX0_choose 152 = .ok (.getfield 43, 3) := by decide +kernel
theorem dX0_choose_155 : decode cX0_choose 155 = .ok (.iload_n 1, 1) := by decide +kernel
theorem dX0_choose_156 : decode cX0_choose 156 = .ok (.iload 5, 2) := by decide +kernel
theorem dX0_choose_158 : decode cX0_choose 158 = .ok (.invokevirtual 88, 3) := by decide +kernel
theorem dX0_choose_161 : decode cX0_choose 161 = .ok (.aload_n 0, 1) := by decide +kernel
theorem dX0_choose_162 : decode cX0_choose 162 = .ok (.iload_n 1, 1) := by decide +kernel
theorem dX0_choose_163 : decode cX0_choose 163 = .ok (.iconst 1, 1) := by decide +kernel
theorem dX0_choose_164 : decode cX0_choose 164 = .ok (.iadd, 1) := by decide +kernel
theorem dX0_choose_165 : decode cX0_choose 165 = .ok (.iload_n 2, 1) := by decide +kernel
theorem dX0_choose_166 : decode cX0_choose 166 = .ok (.iconst 1, 1) := by decide +kernel
theorem dX0_choose_167 : decode cX0_choose 167 = .ok (.iadd, 1) := by decide +kernel
theorem dX0_choose_168 : decode cX0_choose 168 = .ok (.invokevirtual 61, 3) := by decide +kernel
theorem dX0_choose_171 : decode cX0_choose 171 = .ok (.iinc 5 1, 3) := by decide +kernel
theorem dX0_choose_174 : decode cX0_choose 174 = .ok (.goto (-85), 3) := by decide +kernel
theorem dX0_choose_177 : decode cX0_choose 177 = .ok (.aload_n 0, 1) := by decide +kernel
theorem dX0_choose_178 : decode cX0_choose 178 = .ok (.getfield 43, 3) := by decide +kernel
theorem dX0_choose_181 : decode cX0_choose 181 = .ok (.iload_n 1, 1) := by decide +kernel
theorem dX0_choose_182 : decode cX0_choose 182 = .ok (.iload_n 3, 1) := by decide +kernel
theorem dX0_choose_183 : decode cX0_choose 183 = .ok (.invokevirtual 88, 3) := by decide +kernel
theorem dX0_choose_186 : decode cX0_choose 186 = .ok (.return_, 1) := by decide +kernel
theorem dX0_accept_0 : decode cX0_accept 0 = .ok (.aload_n 0, 1) := by decide +kernel
theorem dX0_accept_1 : decode cX0_accept 1 = .ok (.iconst 1, 1) := by decide +kernel
theorem dX0_accept_2 : decode cX0_accept 2 = .ok (.putfield 18, 3) := by decide +kernel
theorem dX0_accept_5 : decode cX0_accept 5 = .ok (.aload_n 0, 1) := by decide +kernel
theorem dX0_accept_6 : decode cX0_accept 6 = .ok (.iload_n 1, 1) := by decide +kernel
theorem dX0_accept_7 : decode cX0_accept 7 = .ok (.putfield 22, 3) := by decide +kernel
theorem dX0_accept_10 : decode cX0_accept 10 = .ok (.aload_n 0, 1) := by decide +kernel
theorem dX0_accept_11 : decode cX0_accept 11 = .ok (.getfield 9, 3) := by decide +kernel
theorem dX0_accept_14 : decode cX0_accept 14 = .ok (.iconst 0, 1) := by decide +kernel
theorem dX0_accept_15 : decode cX0_accept 15 = .ok (.aload_n 0, 1) := by decide +kernel
theorem dX0_accept_16 : decode cX0_accept 16 = .ok (.getfield 15, 3) := by decide +kernel
theorem dX0_accept_19 : decode cX0_accept 19 = .ok (.iconst 0, 1) := by decide +kernel
theorem dX0_accept_20 : decode cX0_accept 20 = .ok (.aload_n 0, 1) := by decide +kernel
theorem dX0_accept_21 : decode cX0_accept 21 = .ok (.getfield 35, 3) := by decide +kernel
theorem dX0_accept_24 : decode cX0_accept 24 = .ok (.getfield 47, 3) := by decide +kernel
theorem dX0_accept_27 : decode cX0_accept 27 = .ok (.invokestatic 91, 3) := by decide +kernel
theorem dX0_accept_30 : decode cX0_accept 30 = .ok (.return_, 1) := by decide +kernel
theorem dX0_seekOldest_0 : decode cX0_seekOldest 0 = .ok (.iconst 0, 1) := by decide +kernel
theorem dX0_seekOldest_1 : decode cX0_seekOldest 1 = .ok (.istore_n 1, 1) := by decide +kernel
theorem dX0_seekOldest_2 : decode cX0_seekOldest 2 = .ok (.iload_n 1, 1) := by decide +kernel
theorem dX0_seekOldest_3 : decode cX0_seekOldest 3 = .ok (.aload_n 0, 1) := by decide +kernel
theorem dX0_seekOldest_4 : decode cX0_seekOldest 4 = .ok (.getfield 35, 3) := by decide +kernel
theorem dX0_seekOldest_7 : decode cX0_seekOldest 7 = .ok (.getfield 47, 3) := by decide +kernel
theorem dX0_seekOldest_10 : decode cX0_seekOldest 10 = .ok (.if_icmp .ge 103, 3) := by decide +kernel
theorem dX0_seekOldest_13 : decode cX0_seekOldest 13 = .ok (.aload_n 0, 1) := by decide +kernel
theorem dX0_seekOldest_14 : decode cX0_seekOldest 14 = .ok (.getfield 39, 3) := by decide +kernel
theorem dX0_seekOldest_17 : decode cX0_seekOldest 17 = .ok (.aload_n 0, 1) := by decide +kernel
theorem dX0_seekOldest_18 : decode cX0_seekOldest 18 = .ok (.getfield 26, 3) := by decide +kernel
theorem dX0_seekOldest_21 : decode cX0_seekOldest 21 = .ok (.iload_n 1, 1) := by decide +kernel
theorem dX0_seekOldest_22 : decode cX0_seekOldest 22 = .ok (.invokevirtual 72, 3) := by decide +kernel
theorem dX0_seekOldest_25 : decode cX0_seekOldest 25 = .ok (.istore_n 2, 1) := by decide +kernel
theorem dX0_seekOldest_26 : decode cX0_seekOldest 26 = .ok (.iconst 0, 1) := by decide +kernel
theorem dX0_seekOldest_27 : decode cX0_seekOldest 27 = .ok (.istore_n 3, 1) := by decide +kernel
theorem dX0_seekOldest_28 : decode cX0_seekOldest 28 = .ok (.iload_n 3, 1) := by decide +kernel
theorem dX0_seekOldest_29 : decode cX0_seekOldest 29 = .ok (.aload_n 0, 1) := by decide +kernel
theorem dX0_seekOldest_30 : decode cX0_seekOldest 30 = .ok (.getfield 39, 3) := by decide +kernel
theorem dX0_seekOldest_33 : decode cX0_seekOldest 33 = .ok (.getfield 81, 3) := by decide +kernel
theorem dX0_seekOldest_36 : decode cX0_seekOldest 36 = .ok (.if_icmp .ge 71, 3) := by decide +kernel
theorem dX0_seekOldest_39 : decode cX0_seekOldest 39 = .ok (.iload_n 3, 1) := by decide +kernel
theorem dX0_seekOldest_40 : decode cX0_seekOldest 40 = .ok (.iload_n 2, 1) := by decide +kernel
theorem dX0_seekOldest_41 : decode cX0_seekOldest 41 = .ok (.if_icmp .eq 15, 3) := by decide +kernel
theorem dX0_seekOldest_44 : decode cX0_seekOldest 44 = .ok (.aload_n 0, 1) := by decide +kernel
theorem dX0_seekOldest_45 : decode cX0_seekOldest 45 = .ok (.getfield 39, 3) := by decide +kernel
theorem dX0_seekOldest_48 : decode cX0_seekOldest 48 = .ok (.iload_n 3, 1) := by decide +kernel
theorem dX0_seekOldest_49 : decode cX0_seekOldest 49 = .ok (.iload_n 1, 1) := by decide +kernel
theorem dX0_seekOldest_50 : decode cX0_seekOldest 50 = .ok (.invokevirtual 84, 3) := by decide +kernel
theorem dX0_seekOldest_53 : decode cX0_seekOldest 53 = .ok (.ifCond .eq 7, 3) := by decide +kernel
theorem dX0_seekOldest_56 : decode cX0_seekOldest 56 = .ok (.iconst 1, 1) := by decide +kernel
theorem dX0_seekOldest_57 : decode cX0_seekOldest 57 = .ok (.goto 4, 3) := by decide +kernel
theorem dX0_seekOldest_60 : decode cX0_seekOldest 60 = .ok (.iconst 0, 1) := by decide +kernel
theorem dX0_seekOldest_61 : decode cX0_seekOldest 61 = .ok (.istore 4, 2) := by decide +kernel
theorem dX0_seekOldest_63 : decode cX0_seekOldest 63 = .ok (.iload 4, 2) := by decide +kernel
theorem dX0_seekOldest_65 : decode cX0_seekOldest 65 = .ok (.ifCond .eq 36, 3) := by decide +kernel
theorem dX0_seekOldest_68 : decode cX0_seekOldest 68 = .ok (.aload_n 0, 1) := by decide +kernel
theorem dX0_seekOldest_69 : decode cX0_seekOldest 69 = .ok (.getfield 39, 3) := by decide +kernel
theorem dX0_seekOldest_72 : decode cX0_seekOldest 72 = .ok (.getfield 78, 3) := by decide +kernel
theorem dX0_seekOldest_75 : decode cX0_seekOldest 75 = .ok (.iload_n 3, 1) := by decide +kernel
theorem dX0_seekOldest_76 : decode cX0_seekOldest 76 = .ok (.iaload, 1) := by decide +kernel
theorem dX0_seekOldest_77 : decode cX0_seekOldest 77 = .ok (.aload_n 0, 1) := by decide +kernel
theorem dX0_seekOldest_78 : decode cX0_seekOldest 78 = .ok (.getfield 32, 3) := by decide +kernel
theorem dX0_seekOldest_81 : decode cX0_seekOldest 81 = .ok (.if_icmp .ne 20, 3) := by decide +kernel
theorem dX0_seekOldest_84 : decode cX0_seekOldest 84 = .ok (.aload_n 0, 1) := by decide +kernel
theorem dX0_seekOldest_85 : decode cX0_seekOldest 85 = .ok (.iload_n 1, 1) := by decide +kernel
theorem dX0_seekOldest_86 : decode cX0_seekOldest 86 = .ok (.iload_n 3, 1) := by decide +kernel
theorem dX0_seekOldest_87 : decode cX0_seekOldest 87 = .ok (.iload_n 3, 1) := by decide +kernel
theorem dX0_seekOldest_88 : decode cX0_seekOldest 88 = .ok (.iload_n 2, 1) := by decide +kernel
theorem dX0_seekOldest_89 : decode cX0_seekOldest 89 = .ok (.if_icmp .ne 8, 3) := by decide +kernel
theorem dX0_seekOldest_92 : decode cX0_seekOldest 92 = .ok (.bipush (-5), 2) := by decide +kernel
theorem dX0_seekOldest_94 : decode cX0_seekOldest 94 = .ok (.goto 4, 3) := by decide +kernel
theorem dX0_seekOldest_97 : decode cX0_seekOldest 97 = .ok (.iload_n 3, 1) := by decide +kernel
theorem dX0_seekOldest_98 : decode cX0_seekOldest 98 = .ok (.invokevirtual 97, 3) := by decide +kernel
theorem dX0_seekOldest_101 : decode cX0_seekOldest 101 = .ok (.iinc 3 1, 3) := by decide +kernel
theorem dX0_seekOldest_104 : decode cX0_seekOldest 104 = .ok (.goto (-76), 3) := by decide +kernel
theorem dX0_seekOldest_107 : decode cX0_seekOldest 107 = .ok (.iinc 1 1, 3) := by decide +kernel
theorem dX0_seekOldest_110 : decode cX0_seekOldest 110 = .ok (.goto (-108), 3) := by decide +kernel
theorem dX0_seekOldest_113 : decode cX0_seekOldest 113 = .ok (.return_, 1) := by decide +kernel
theorem dX0_tryOldest_0 : decode cX0_tryOldest 0 = .ok (.iconst 0, 1) := by decide +kernel
theorem dX0_tryOldest_1 : decode cX0_tryOldest 1 = .ok (.istore 4, 2) := by decide +kernel
theorem dX0_tryOldest_3 : decode cX0_tryOldest 3 = .ok (.iconst 0, 1) := by decide +kernel
theorem dX0_tryOldest_4 : decode cX0_tryOldest 4 = .ok (.istore 5, 2) := by decide +kernel
theorem dX0_tryOldest_6 : decode cX0_tryOldest 6 = .ok (.iload 5, 2) := by decide +kernel
theorem dX0_tryOldest_8 : decode cX0_tryOldest 8 = .ok (.aload_n 0, 1) := by decide +kernel
theorem dX0_tryOldest_9 : decode cX0_tryOldest 9 = .ok (.getfield 35, 3) := by decide +kernel
theorem dX0_tryOldest_12 : decode cX0_tryOldest 12 = .ok (.getfield 47, 3) := by decide +kernel
theorem dX0_tryOldest_15 : decode cX0_tryOldest 15 = .ok (.if_icmp .ge 93, 3) := by decide +kernel
theorem dX0_tryOldest_18 : decode cX0_tryOldest 18 = .ok (.iload 5, 2) := by decide +kernel
theorem dX0_tryOldest_20 : decode cX0_tryOldest 20 = .ok (.iload_n 1, 1) := by decide +kernel
theorem dX0_tryOldest_21 : decode cX0_tryOldest 21 = .ok (.if_icmp .ge 17, 3) := by decide +kernel
theorem dX0_tryOldest_24 : decode cX0_tryOldest 24 = .ok (.aload_n 0, 1) := by decide +kernel
theorem dX0_tryOldest_25 : decode cX0_tryOldest 25 = .ok (.getfield 39, 3) := by decide +kernel
theorem dX0_tryOldest_28 : decode cX0_tryOldest 28 = .ok (.getfield 101, 3) := by decide +kernel
theorem dX0_tryOldest_31 : decode cX0_tryOldest 31 = .ok (.iload_n 2, 1) := by decide +kernel
theorem dX0_tryOldest_32 : decode cX0_tryOldest 32 = .ok (.iaload, 1) := by decide +kernel
theorem dX0_tryOldest_33 : decode cX0_tryOldest 33 = .ok (.iconst 1, 1) := by decide +kernel
theorem dX0_tryOldest_34 : decode cX0_tryOldest 34 = .ok (.isub, 1) := by decide +kernel
theorem dX0_tryOldest_35 : decode cX0_tryOldest 35 = .ok (.goto 12, 3) := by decide +kernel
theorem dX0_tryOldest_38 : decode cX0_tryOldest 38 = .ok (.aload_n 0, 1) := by decide +kernel
theorem dX0_tryOldest_39 : decode cX0_tryOldest 39 = .ok (.getfield 39, 3) := by decide +kernel
theorem dX0_tryOldest_42 : decode cX0_tryOldest 42 = .ok (.getfield 101, 3) := by decide +kernel
theorem dX0_tryOldest_45 : decode cX0_tryOldest 45 = .ok (.iload_n 2, 1) := by decide +kernel
theorem dX0_tryOldest_46 : decode cX0_tryOldest 46 = .ok (.iaload, 1) := by decide +kernel
theorem dX0_tryOldest_47 : decode cX0_tryOldest 47 = .ok (.istore 6, 2) := by decide +kernel
theorem dX0_tryOldest_49 : decode cX0_tryOldest 49 = .ok (.aload_n 0, 1) := by decide +kernel
theorem dX0_tryOldest_50 : decode cX0_tryOldest 50 = .ok (.getfield 9, 3) := by decide +kernel
theorem dX0_tryOldest_53 : decode cX0_tryOldest 53 = .ok (.iload 5, 2) := by decide +kernel
theorem dX0_tryOldest_55 : decode cX0_tryOldest 55 = .ok (.iload 5, 2) := by decide +kernel
theorem dX0_tryOldest_57 : decode cX0_tryOldest 57 = .ok (.iload_n 1, 1) := by decide +kernel
theorem dX0_tryOldest_58 : decode cX0_tryOldest 58 = .ok (.if_icmp .ne 7, 3) := by decide +kernel
theorem dX0_tryOldest_61 : decode cX0_tryOldest 61 = .ok (.iload_n 3, 1) := by decide +kernel
theorem dX0_tryOldest_62 : decode cX0_tryOldest 62 = .ok (.goto 11, 3) := by decide +kernel
theorem dX0_tryOldest_65 : decode cX0_tryOldest 65 = .ok (.aload_n 0, 1) := by decide +kernel
theorem dX0_tryOldest_66 : decode cX0_tryOldest 66 = .ok (.iload 5, 2) := by decide +kernel
theorem dX0_tryOldest_68 : decode cX0_tryOldest 68 = .ok (.iload 6, 2) := by decide +kernel
theorem dX0_tryOldest_70 : decode cX0_tryOldest 70 = .ok (.invokevirtual 104, 3) := by decide +kernel
theorem dX0_tryOldest_73 : decode cX0_tryOldest 73 = .ok (.iastore, 1) := by decide +kernel
theorem dX0_tryOldest_74 : decode cX0_tryOldest 74 = .ok (.aload_n 0, 1) := by decide +kernel
theorem dX0_tryOldest_75 : decode cX0_tryOldest 75 = .ok (.getfield 9, 3) := by decide +kernel
theorem dX0_tryOldest_78 : decode cX0_tryOldest 78 = .ok (.iload 5, 2) := by decide +kernel
theorem dX0_tryOldest_80 : decode cX0_tryOldest 80 = .ok (.iaload, 1) := by decide +kernel
theorem dX0_tryOldest_81 : decode cX0_tryOldest 81 = .ok (.bipush (-9), 2) := by decide +kernel
theorem dX0_tryOldest_83 : decode cX0_tryOldest 83 = .ok (.if_icmp .ne 4, 3) := by decide +kernel
theorem dX0_tryOldest_86 : decode cX0_tryOldest 86 = .ok (.return_, 1) := by decide +kernel
theorem dX0_tryOldest_87 : decode cX0_tryOldest 87 = .ok (.aload_n 0, 1) := by decide +kernel
theorem dX0_tryOldest_88 : decode cX0_tryOldest 88 = .ok (.getfield 9, 3) := by decide +kernel
theorem dX0_tryOldest_91 : decode cX0_tryOldest 91 = .ok (.iload 5, 2) := by decide +kernel
theorem dX0_tryOldest_93 : decode cX0_tryOldest 93 = .ok (.iaload, 1) := by decide +kernel
theorem dX0_tryOldest_94 : decode cX0_tryOldest 94 = .ok (.bipush (-5), 2) := by decide +kernel
theorem dX0_tryOldest_96 : decode cX0_tryOldest 96 = .ok (.if_icmp .eq 6, 3) := by decide +kernel
theorem dX0_tryOldest_99 : decode cX0_tryOldest 99 = .ok (.iinc 4 1, 3) := by decide +kernel
theorem dX0_tryOldest_102 : decode cX0_tryOldest 102 = .ok (.iinc 5 1, 3) := by decide +kernel
theorem dX0_tryOldest_105 : decode cX0_tryOldest 105 = .ok (.goto (-99), 3) := by decide +kernel
theorem dX0_tryOldest_108 : decode cX0_tryOldest 108 = .ok (.iload 4, 2) := by decide +kernel
theorem dX0_tryOldest_110 : decode cX0_tryOldest 110 = .ok (.aload_n 0, 1) := by decide +kernel
theorem dX0_tryOldest_111 : decode cX0_tryOldest 111 = .ok (.getfield 22, 3) := by decide +kernel
theorem dX0_tryOldest_114 : decode cX0_tryOldest 114 = .ok (.if_icmp .lt 19, 3) := by decide +kernel
theorem dX0_tryOldest_117 : decode cX0_tryOldest 117 = .ok (.iload 4, 2) := by decide +kernel
theorem dX0_tryOldest_119 : decode cX0_tryOldest 119 = .ok (.aload_n 0, 1) := by decide +kernel
theorem dX0_tryOldest_120 : decode cX0_tryOldest 120 = .ok (.getfield 22, 3) := by decide +kernel
theorem dX0_tryOldest_123 : decode cX0_tryOldest 123 = .ok (.if_icmp .ne 16, 3) := by decide +kernel
theorem dX0_tryOldest_126 : decode cX0_tryOldest 126 = .ok (.aload_n 0, 1) := by decide +kernel
theorem dX0_tryOldest_127 : decode cX0_tryOldest 127 = .ok (.invokevirtual 107, 3) := by decide +kernel
theorem dX0_tryOldest_130 : decode cX0_tryOldest 130 = .ok (.ifCond .eq 9, 3) := by decide +kernel
theorem dX0_tryOldest_133 : decode cX0_tryOldest 133 = .ok (.aload_n 0, 1) := by decide +kernel
theorem dX0_tryOldest_134 : decode cX0_tryOldest 134 = .ok (.iload 4, 2) := by decide +kernel
theorem dX0_tryOldest_136 : decode cX0_tryOldest 136 = .ok (.invokevirtual 69, 3) := by decide +kernel
theorem dX0_tryOldest_139 : decode cX0_tryOldest 139 = .ok (.return_, 1) := by decide +kernel
theorem dX0_noOlder_0 : decode cX0_noOlder 0 = .ok (.aload_n 0, 1) := by decide +kernel
theorem dX0_noOlder_1 : decode cX0_noOlder 1 = .ok (.getfield 39, 3) := by decide +kernel
theorem dX0_noOlder_4 : decode cX0_noOlder 4 = .ok (.getfield 101, 3) := by decide +kernel
theorem dX0_noOlder_7 : decode cX0_noOlder 7 = .ok (.aload_n 0, 1) := by decide +kernel
theorem dX0_noOlder_8 : decode cX0_noOlder 8 = .ok (.getfield 39, 3) := by decide +kernel
theorem dX0_noOlder_11 : decode cX0_noOlder 11 = .ok (.aload_n 0, 1) := by decide +kernel
theorem dX0_noOlder_12 : decode cX0_noOlder 12 = .ok (.getfield 26, 3) := by decide +kernel
theorem dX0_noOlder_15 : decode cX0_noOlder 15 = .ok (.iload_n 1, 1) := by decide +kernel
theorem dX0_noOlder_16 : decode cX0_noOlder 16 = .ok (.invokevirtual 72, 3) := by decide +kernel
theorem dX0_noOlder_19 : decode cX0_noOlder 19 = .ok (.iaload, 1) := by decide +kernel
theorem dX0_noOlder_20 : decode cX0_noOlder 20 = .ok (.iload_n 2, 1) := by decide +kernel
theorem dX0_noOlder_21 : decode cX0_noOlder 21 = .ok (.if_icmp .gt 6, 3) := by decide +kernel
theorem dX0_noOlder_24 : decode cX0_noOlder 24 = .ok (.bipush (-5), 2) := by decide +kernel
theorem dX0_noOlder_26 : decode cX0_noOlder 26 = .ok (.ireturn, 1) := by decide +kernel
theorem dX0_noOlder_27 : decode cX0_noOlder 27 = .ok (.iconst 0, 1) := by decide +kernel
theorem dX0_noOlder_28 : decode cX0_noOlder 28 = .ok (.istore_n 3, 1) := by decide +kernel
theorem dX0_noOlder_29 : decode cX0_noOlder 29 = .ok (.iload_n 3, 1) := by decide +kernel
theorem dX0_noOlder_30 : decode cX0_noOlder 30 = .ok (.aload_n 0, 1) := by decide +kernel
theorem dX0_noOlder_31 : decode cX0_noOlder 31 = .ok (.getfield 39, 3) := by decide +kernel
theorem dX0_noOlder_34 : decode cX0_noOlder 34 = .ok (.getfield 81, 3) := by decide +kernel
theorem dX0_noOlder_37 : decode cX0_noOlder 37 = .ok (.if_icmp .ge 36, 3) := by decide +kernel
theorem dX0_noOlder_40 : decode cX0_noOlder 40 = .ok (.aload_n 0, 1) := by decide +kernel
theorem dX0_noOlder_41 : decode cX0_noOlder 41 = .ok (.getfield 39, 3) := by decide +kernel
theorem dX0_noOlder_44 : decode cX0_noOlder 44 = .ok (.iload_n 3, 1) := by decide +kernel
theorem dX0_noOlder_45 : decode cX0_noOlder 45 = .ok (.iload_n 1, 1) := by decide +kernel
theorem dX0_noOlder_46 : decode cX0_noOlder 46 = .ok (.invokevirtual 84, 3) := by decide +kernel
theorem dX0_noOlder_49 : decode cX0_noOlder 49 = .ok (.ifCond .eq 18, 3) := by decide +kernel
theorem dX0_noOlder_52 : decode cX0_noOlder 52 = .ok (.aload_n 0, 1) := by decide +kernel
theorem dX0_noOlder_53 : decode cX0_noOlder 53 = .ok (.getfield 39, 3) := by decide +kernel
theorem dX0_noOlder_56 : decode cX0_noOlder 56 = .ok (.getfield 101, 3) := by decide +kernel
theorem dX0_noOlder_59 : decode cX0_noOlder 59 = .ok (.iload_n 3, 1) := by decide +kernel
theorem dX0_noOlder_60 : decode cX0_noOlder 60 = .ok (.iaload, 1) := by decide +kernel
theorem dX0_noOlder_61 : decode cX0_noOlder 61 = .ok (.iload_n 2, 1) := by decide +kernel
theorem dX0_noOlder_62 : decode cX0_noOlder 62 = .ok (.if_icmp .gt 5, 3) := by decide +kernel
theorem dX0_noOlder_65 : decode cX0_noOlder 65 = .ok (.iload_n 3, 1) := by decide +kernel
theorem dX0_noOlder_66 : decode cX0_noOlder 66 = .ok (.ireturn, 1) := by decide +kernel
theorem dX0_noOlder_67 : decode cX0_noOlder 67 = .ok (.iinc 3 1, 3) := by decide +kernel
theorem dX0_noOlder_70 : decode cX0_noOlder 70 = .ok (.goto (-41), 3) := by decide +kernel
theorem dX0_noOlder_73 : decode cX0_noOlder 73 = .ok (.bipush (-9), 2) := by decide +kernel
theorem dX0_noOlder_75 : decode cX0_noOlder 75 = .ok (.ireturn, 1) := by decide +kernel
theorem dX0_comesFirst_0 : decode cX0_comesFirst 0 = .ok (.iconst 0, 1) := by decide +kernel
theorem dX0_comesFirst_1 : decode cX0_comesFirst 1 = .ok (.istore_n 1, 1) := by decide +kernel
theorem dX0_comesFirst_2 : decode cX0_comesFirst 2 = .ok (.iload_n 1, 1) := by decide +kernel
theorem dX0_comesFirst_3 : decode cX0_comesFirst 3 = .ok (.aload_n 0, 1) := by decide +kernel
theorem dX0_comesFirst_4 : decode cX0_comesFirst 4 = .ok (.getfield 35, 3) := by decide +kernel
theorem dX0_comesFirst_7 : decode cX0_comesFirst 7 = .ok (.getfield 47, 3) := by decide +kernel
theorem dX0_comesFirst_10 : decode cX0_comesFirst 10 = .ok (.if_icmp .ge 45, 3) := by decide +kernel
theorem dX0_comesFirst_13 : decode cX0_comesFirst 13 = .ok (.aload_n 0, 1) := by decide +kernel
theorem dX0_comesFirst_14 : decode cX0_comesFirst 14 = .ok (.getfield 9, 3) := by decide +kernel
theorem dX0_comesFirst_17 : decode cX0_comesFirst 17 = .ok (.iload_n 1, 1) := by decide +kernel
theorem dX0_comesFirst_18 : decode cX0_comesFirst 18 = .ok (.iaload, 1) := by decide +kernel
theorem dX0_comesFirst_19 : decode cX0_comesFirst 19 = .ok (.aload_n 0, 1) := by decide +kernel
theorem dX0_comesFirst_20 : decode cX0_comesFirst 20 = .ok (.getfield 15, 3) := by decide +kernel
theorem dX0_comesFirst_23 : decode cX0_comesFirst 23 = .ok (.iload_n 1, 1) := by decide +kernel
theorem dX0_comesFirst_24 : decode cX0_comesFirst 24 = .ok (.iaload, 1) := by decide +kernel
theorem dX0_comesFirst_25 : decode cX0_comesFirst 25 = .ok (.if_icmp .eq 24, 3) := by decide +kernel
theorem dX0_comesFirst_28 : decode cX0_comesFirst 28 = .ok (.aload_n 0, 1) := by decide +kernel
theorem dX0_comesFirst_29 : decode cX0_comesFirst 29 = .ok (.getfield 9, 3) := by decide +kernel
theorem dX0_comesFirst_32 : decode cX0_comesFirst 32 = .ok (.iload_n 1, 1) := by decide +kernel
theorem dX0_comesFirst_33 : decode cX0_comesFirst 33 = .ok (.iaload, 1) := by decide +kernel
theorem dX0_comesFirst_34 : decode cX0_comesFirst 34 = .ok (.aload_n 0, 1) := by decide +kernel
theorem dX0_comesFirst_35 : decode cX0_comesFirst 35 = .ok (.getfield 15, 3) := by decide +kernel
theorem dX0_comesFirst_38 : decode cX0_comesFirst 38 = .ok (.iload_n 1, 1) := by decide +kernel
theorem dX0_comesFirst_39 : decode cX0_comesFirst 39 = .ok (.iaload, 1) := by decide +kernel
theorem dX0_comesFirst_40 : decode cX0_comesFirst 40 = .ok (.if_icmp .ge 7, 3) := by decide +kernel
theorem dX0_comesFirst_43 : decode cX0_comesFirst 43 = .ok (.iconst 1, 1) := by decide +kernel
theorem dX0_comesFirst_44 : decode cX0_comesFirst 44 = .ok (.goto 4, 3) := by decide +kernel
theorem dX0_comesFirst_47 : decode cX0_comesFirst 47 = .ok (.iconst 0, 1) := by decide +kernel
theorem dX0_comesFirst_48 : decode cX0_comesFirst 48 = .ok (.ireturn, 1) := by decide +kernel
theorem dX0_comesFirst_49 : decode cX0_comesFirst 49 = .ok (.iinc 1 1, 3) := by decide +kernel
theorem dX0_comesFirst_52 : decode cX0_comesFirst 52 = .ok (.goto (-50), 3) := by decide +kernel
theorem dX0_comesFirst_55 : decode cX0_comesFirst 55 = .ok (.iconst 0, 1) := by decide +kernel
theorem dX0_comesFirst_56 : decode cX0_comesFirst 56 = .ok (.ireturn, 1) := by decide +kernel
theorem dX1_init_0 : decode cX1_init 0 = .ok (.aload_n 0, 1) := by decide +kernel
theorem dX1_init_1 : decode cX1_init 1 = .ok (.invokespecial 3, 3) := by decide +kernel
theorem dX1_init_4 : decode cX1_init 4 = .ok (.aload_n 0, 1) := by decide +kernel
theorem dX1_init_5 : decode cX1_init 5 = .ok (.iconst 0, 1) := by decide +kernel
theorem dX1_init_6 : decode cX1_init 6 = .ok (.putfield 9, 3) := by decide +kernel
theorem dX1_init_9 : decode cX1_init 9 = .ok (.aload_n 0, 1) := by decide +kernel
theorem dX1_init_10 : decode cX1_init 10 = .ok (.iconst 0, 1) := by decide +kernel
theorem dX1_init_11 : decode cX1_init 11 = .ok (.putfield 15, 3) := by decide +kernel
theorem dX1_init_14 : decode cX1_init 14 = .ok (.aload_n 0, 1) := by decide +kernel
theorem dX1_init_15 : decode cX1_init 15 = .ok (.iconst 0, 1) := by decide +kernel
theorem dX1_init_16 : decode cX1_init 16 = .ok (.putfield 18, 3) := by decide +kernel
theorem dX1_init_19 : decode cX1_init 19 = .ok (.aload_n 0, 1) := by decide +kernel
theorem dX1_init_20 : decode cX1_init 20 = .ok (.bipush 48, 2) := by decide +kernel
theorem dX1_init_22 : decode cX1_init 22 = .ok (.newarray .int, 2) := by decide +kernel
theorem dX1_init_24 : decode cX1_init 24 = .ok (.putfield 21, 3) := by decide +kernel
theorem dX1_init_27 : decode cX1_init 27 = .ok (.aload_n 0, 1) := by decide +kernel
theorem dX1_init_28 : decode cX1_init 28 = .ok (.bipush 48, 2) := by decide +kernel
theorem dX1_init_30 : decode cX1_init 30 = .ok (.newarray .int, 2) := by decide +kernel
theorem dX1_init_32 : decode cX1_init 32 = .ok (.putfield 25, 3) := by decide +kernel
theorem dX1_init_35 : decode cX1_init 35 = .ok (.aload_n 0, 1) := by decide +kernel
theorem dX1_init_36 : decode cX1_init 36 = .ok (.bipush 48, 2) := by decide +kernel
theorem dX1_init_38 : decode cX1_init 38 = .ok (.newarray .int, 2) := by decide +kernel
theorem dX1_init_40 : decode cX1_init 40 = .ok (.putfield 28, 3) := by decide +kernel
theorem dX1_init_43 : decode cX1_init 43 = .ok (.aload_n 0, 1) := by decide +kernel
theorem dX1_init_44 : decode cX1_init 44 = .ok (.bipush 48, 2) := by decide +kernel
theorem dX1_init_46 : decode cX1_init 46 = .ok (.newarray .int, 2) := by decide +kernel
theorem dX1_init_48 : decode cX1_init 48 = .ok (.putfield 31, 3) := by decide +kernel
theorem dX1_init_51 : decode cX1_init 51 = .ok (.aload_n 0, 1) := by decide +kernel
theorem dX1_init_52 : decode cX1_init 52 = .ok (.bipush 6, 2) := by decide +kernel
theorem dX1_init_54 : decode cX1_init 54 = .ok (.newarray .int, 2) := by decide +kernel
theorem dX1_init_56 : decode cX1_init 56 = .ok (.putfield 34, 3) := by decide +kernel
theorem dX1_init_59 : decode cX1_init 59 = .ok (.aload_n 0, 1) := by decide +kernel
theorem dX1_init_60 : decode cX1_init 60 = .ok (.bipush 36, 2) := by decide +kernel
theorem dX1_init_62 : decode cX1_init 62 = .ok (.newarray .int, 2) := by decide +kernel
theorem dX1_init_64 : decode cX1_init 64 = .ok (.putfield 37, 3) := by decide +kernel
theorem dX1_init_67 : decode cX1_init 67 = .ok (.return_, 1) := by decide +kernel
theorem dX1_startAnew_0 : decode cX1_startAnew 0 = .ok (.aload_n 0, 1) := by decide +kernel
theorem dX1_startAnew_1 : decode cX1_startAnew 1 = .ok (.iconst 0, 1) := by decide +kernel
theorem dX1_startAnew_2 : decode cX1_startAnew 2 = .ok (.putfield 9, 3) := by decide +kernel
theorem dX1_startAnew_5 : decode cX1_startAnew 5 = .ok (.aload_n 0, 1) := by decide +kernel
theorem dX1_startAnew_6 : decode cX1_startAnew 6 = .ok (.iconst 0, 1) := by decide +kernel
theorem dX1_startAnew_7 : decode cX1_startAnew 7 = .ok (.putfield 15, 3) := by decide +kernel
theorem dX1_startAnew_10 : decode cX1_startAnew 10 = .ok (.aload_n 0, 1) := by decide +kernel
theorem dX1_startAnew_11 : decode cX1_startAnew 11 = .ok (.iconst 0, 1) := by decide +kernel
theorem dX1_startAnew_12 : decode cX1_startAnew 12 = .ok (.putfield 18, 3) := by decide +kernel
theorem dX1_startAnew_15 : decode cX1_startAnew 15 = .ok (.return_, 1) := by decide +kernel
theorem dX1_copyFrom_0 : decode cX1_copyFrom 0 = .ok (.aload_n 0, 1) := by decide +kernel
theorem dX1_copyFrom_1 : decode cX1_copyFrom 1 = .ok (.aload_n 1, 1) := by decide +kernel
theorem dX1_copyFrom_2 : decode cX1_copyFrom 2 = .ok (.getfield 9, 3) := by decide +kernel
theorem dX1_copyFrom_5 : decode cX1_copyFrom 5 = .ok (.putfield 9, 3) := by decide +kernel
theorem dX1_copyFrom_8 : decode cX1_copyFrom 8 = .ok (.aload_n 0, 1) := by decide +kernel
theorem dX1_copyFrom_9 : decode cX1_copyFrom 9 = .ok (.aload_n 1, 1) := by decide +kernel
theorem dX1_copyFrom_10 : decode cX1_copyFrom 10 = .ok (.getfield 15, 3) := by decide +kernel
theorem dX1_copyFrom_13 : decode cX1_copyFrom 13 = .ok (.putfield 15, 3) := by decide +kernel
theorem dX1_copyFrom_16 : decode cX1_copyFrom 16 = .ok (.aload_n 0, 1) := by decide +kernel
theorem dX1_copyFrom_17 : decode cX1_copyFrom 17 = .ok (.aload_n 1, 1) := by decide +kernel
theorem dX1_copyFrom_18 : decode cX1_copyFrom 18 = .ok (.getfield 18, 3) := by decide +kernel
theorem dX1_copyFrom_21 : decode cX1_copyFrom 21 = .ok (.putfield 18, 3) := by decide +kernel
theorem dX1_copyFrom_24 : decode cX1_copyFrom 24 = .ok (.aload_n 1, 1) := by decide +kernel
theorem dX1_copyFrom_25 : decode cX1_copyFrom 25 = .ok (.getfield 21, 3) := by decide +kernel
theorem dX1_copyFrom_28 : decode cX1_copyFrom 28 = .ok (.iconst 0, 1) := by decide +kernel
theorem dX1_copyFrom_29 : decode cX1_copyFrom 29 = .ok (.aload_n 0, 1) := by decide +kernel
theorem dX1_copyFrom_30 : decode cX1_copyFrom 30 = .ok (.getfield 21, 3) := by decide +kernel
theorem dX1_copyFrom_33 : decode cX1_copyFrom 33 = .ok (.iconst 0, 1) := by decide +kernel
theorem dX1_copyFrom_34 : decode cX1_copyFrom 34 = .ok (.aload_n 0, 1) := by decide +kernel
theorem dX1_copyFrom_35 : decode cX1_copyFrom 35 = .ok (.getfield 15, 3) := by decide +kernel
theorem dX1_copyFrom_38 : decode cX1_copyFrom 38 = .ok (.invokestatic 40, 3) := by decide +kernel
theorem dX1_copyFrom_41 : decode cX1_copyFrom 41 = .ok (.aload_n 1, 1) := by decide +kernel
theorem dX1_copyFrom_42 : decode cX1_copyFrom 42 = .ok (.getfield 25, 3) := by decide +kernel
theorem dX1_copyFrom_45 : decode cX1_copyFrom 45 = .ok (.iconst 0, 1) := by decide +kernel
theorem dX1_copyFrom_46 : decode cX1_copyFrom 46 = .ok (.aload_n 0, 1) := by decide +kernel
theorem dX1_copyFrom_47 : decode cX1_copyFrom 47 = .ok (.getfield 25, 3) := by decide +kernel
theorem dX1_copyFrom_50 : decode cX1_copyFrom 50 = .ok (.iconst 0, 1) := by decide +kernel
theorem dX1_copyFrom_51 : decode cX1_copyFrom 51 = .ok (.aload_n 0, 1) := by decide +kernel
theorem dX1_copyFrom_52 : decode cX1_copyFrom 52 = .ok (.getfield 15, 3) := by decide +kernel
theorem dX1_copyFrom_55 : decode cX1_copyFrom 55 = .ok (.invokestatic 40, 3) := by decide +kernel
theorem dX1_copyFrom_58 : decode cX1_copyFrom 58 = .ok (.aload_n 1, 1) := by decide +kernel
theorem dX1_copyFrom_59 : decode cX1_copyFrom 59 = .ok (.getfield 28, 3) := by decide +kernel
theorem dX1_copyFrom_62 : decode cX1_copyFrom 62 = .ok (.iconst 0, 1) := by decide +kernel
theorem dX1_copyFrom_63 : decode cX1_copyFrom 63 = .ok (.aload_n 0, 1) := by decide +kernel
theorem dX1_copyFrom_64 : decode cX1_copyFrom 64 = .ok (.getfield 28, 3) := by decide +kernel
theorem dX1_copyFrom_67 : decode cX1_copyFrom 67 = .ok (.iconst 0, 1) := by decide +kernel
theorem dX1_copyFrom_68 : decode cX1_copyFrom 68 = .ok (.aload_n 0, 1) := by decide +kernel
theorem dX1_copyFrom_69 : decode cX1_copyFrom 69 = .ok (.getfield 15, 3) := by decide +kernel
theorem dX1_copyFrom_72 : decode cX1_copyFrom 72 = .ok (.invokestatic 40, 3) := by decide +kernel
theorem dX1_copyFrom_75 : decode cX1_copyFrom 75 = .ok (.aload_n 1, 1) := by decide +kernel
theorem dX1_copyFrom_76 : decode cX1_copyFrom 76 = .ok (.getfield 31, 3) := by decide +kernel
theorem dX1_copyFrom_79 : decode cX1_copyFrom 79 = .ok (.iconst 0, 1) := by decide +kernel
theorem dX1_copyFrom_80 : decode cX1_copyFrom 80 = .ok (.aload_n 0, 1) := by decide +kernel
theorem dX1_copyFrom_81 : decode cX1_copyFrom 81 = .ok (.getfield 31, 3) := by decide +kernel
theorem dX1_copyFrom_84 : decode cX1_copyFrom 84 = .ok (.iconst 0, 1) := by decide +kernel
theorem dX1_copyFrom_85 : decode cX1_copyFrom 85 = .ok (.aload_n 0, 1) := by decide +kernel
theorem dX1_copyFrom_86 : decode cX1_copyFrom 86 = .ok (.getfield 15, 3) := by decide +kernel
theorem dX1_copyFrom_89 : decode cX1_copyFrom 89 = .ok (.invokestatic 40, 3) := by decide +kernel
theorem dX1_copyFrom_92 : decode cX1_copyFrom 92 = .ok (.aload_n 1, 1) := by decide +kernel
theorem dX1_copyFrom_93 : decode cX1_copyFrom 93 = .ok (.getfield 34, 3) := by decide +kernel
theorem dX1_copyFrom_96 : decode cX1_copyFrom 96 = .ok (.iconst 0, 1) := by decide +kernel
theorem dX1_copyFrom_97 : decode cX1_copyFrom 97 = .ok (.aload_n 0, 1) := by decide +kernel
theorem dX1_copyFrom_98 : decode cX1_copyFrom 98 = .ok (.getfield 34, 3) := by decide +kernel
theorem dX1_copyFrom_101 : decode cX1_copyFrom 101 = .ok (.iconst 0, 1) := by decide +kernel
theorem dX1_copyFrom_102 : decode cX1_copyFrom 102 = .ok (.aload_n 0, 1) := by decide +kernel
theorem dX1_copyFrom_103 : decode cX1_copyFrom 103 = .ok (.getfield 18, 3) := by decide +kernel
theorem dX1_copyFrom_106 : decode cX1_copyFrom 106 = .ok (.invokestatic 40, 3) := by decide +kernel
theorem dX1_copyFrom_109 : decode cX1_copyFrom 109 = .ok (.aload_n 1, 1) := by decide +kernel
theorem dX1_copyFrom_110 : decode cX1_copyFrom 110 = .ok (.getfield 37, 3) := by decide +kernel
theorem dX1_copyFrom_113 : decode cX1_copyFrom 113 = .ok (.iconst 0, 1) := by decide +kernel
theorem dX1_copyFrom_114 : decode cX1_copyFrom 114 = .ok (.aload_n 0, 1) := by decide +kernel
theorem dX1_copyFrom_115 : decode cX1_copyFrom 115 = .ok (.getfield 37, 3) := by decide +kernel
theorem dX1_copyFrom_118 : decode cX1_copyFrom 118 = .ok (.iconst 0, 1) := by decide +kernel
theorem dX1_copyFrom_119 : decode cX1_copyFrom 119 = .ok (.aload_n 0, 1) := by decide +kernel
theorem dX1_copyFrom_120 : decode cX1_copyFrom 120 = .ok (.getfield 18, 3) := by decide +kernel
theorem dX1_copyFrom_123 : decode cX1_copyFrom 123 = .ok (.bipush 6, 2) := by decide +kernel
theorem dX1_copyFrom_125 : decode cX1_copyFrom 125 = .ok (.imul, 1) := by decide +kernel
theorem dX1_copyFrom_126 : decode cX1_copyFrom 126 = .ok (.invokestatic 40, 3) := by decide +kernel
theorem dX1_copyFrom_129 : decode cX1_copyFrom 129 = .ok (.return_, 1) := by decide +kernel
theorem dX1_addPart_0 : decode cX1_addPart 0 = .ok (.aload_n 0, 1) := by decide +kernel
theorem dX1_addPart_1 : decode cX1_addPart 1 = .ok (.getfield 15, 3) := by decide +kernel
theorem dX1_addPart_4 : decode cX1_addPart 4 = .ok (.istore 4, 2) := by decide +kernel
theorem dX1_addPart_6 : decode cX1_addPart 6 = .ok (.aload_n 0, 1) := by decide +kernel
theorem dX1_addPart_7 : decode cX1_addPart 7 = .ok (.getfield 21, 3) := by decide +kernel
theorem dX1_addPart_10 : decode cX1_addPart 10 = .ok (.iload 4, 2) := by decide +kernel
theorem dX1_addPart_12 : decode cX1_addPart 12 = .ok (.iload_n 1, 1) := by decide +kernel
theorem dX1_addPart_13 : decode cX1_addPart 13 = .ok (.iastore, 1) := by decide +kernel
theorem dX1_addPart_14 : decode cX1_addPart 14 = .ok (.aload_n 0, 1) := by decide +kernel
theorem dX1_addPart_15 : decode cX1_addPart 15 = .ok (.getfield 25, 3) := by decide +kernel
theorem dX1_addPart_18 : decode cX1_addPart 18 = .ok (.iload 4, 2) := by decide +kernel
theorem dX1_addPart_20 : decode cX1_addPart 20 = .ok (.iload_n 2, 1) := by decide +kernel
theorem dX1_addPart_21 : decode cX1_addPart 21 = .ok (.iastore, 1) := by decide +kernel
theorem dX1_addPart_22 : decode cX1_addPart 22 = .ok (.aload_n 0, 1) := by decide +kernel
theorem dX1_addPart_23 : decode cX1_addPart 23 = .ok (.getfield 28, 3) := by decide +kernel
theorem dX1_addPart_26 : decode cX1_addPart 26 = .ok (.iload 4, 2) := by decide +kernel
theorem dX1_addPart_28 : decode cX1_addPart 28 = .ok (.iload_n 3, 1) := by decide +kernel
theorem dX1_addPart_29 : decode cX1_addPart 29 = .ok (.iastore, 1) := by decide +kernel
theorem dX1_addPart_30 : decode cX1_addPart 30 = .ok (.aload_n 0, 1) := by decide +kernel
theorem dX1_addPart_31 : decode cX1_addPart 31 = .ok (.getfield 31, 3) := by decide +kernel
theorem dX1_addPart_34 : decode cX1_addPart 34 = .ok (.iload 4, 2) := by decide +kernel
theorem dX1_addPart_36 : decode cX1_addPart 36 = .ok (.bipush 8, 2) := by decide +kernel
theorem dX1_addPart_38 : decode cX1_addPart 38 = .ok (.iastore, 1) := by decide +kernel
theorem dX1_addPart_39 : decode cX1_addPart 39 = .ok (.aload_n 0, 1) := by decide +kernel
theorem dX1_addPart_40 : decode cX1_addPart 40 = .ok (.dup, 1) := by decide +kernel
theorem dX1_addPart_41 : decode cX1_addPart 41 = .ok (.getfield 15, 3) := by decide +kernel
theorem dX1_addPart_44 : decode cX1_addPart 44 = .ok (.iconst 1, 1) := by decide +kernel
theorem dX1_addPart_45 : decode cX1_addPart 45 = .ok (.iadd, 1) := by decide +kernel
theorem dX1_addPart_46 : decode cX1_addPart 46 = .ok (.putfield 15, 3) := by decide +kernel
theorem dX1_addPart_49 : decode cX1_addPart 49 = .ok (.iload 4, 2) := by decide +kernel
theorem dX1_addPart_51 : decode cX1_addPart 51 = .ok (.ireturn, 1) := by decide +kernel
theorem dX1_addShip_0 : decode cX1_addShip 0 = .ok (.aload_n 0, 1) := by decide +kernel
theorem dX1_addShip_1 : decode cX1_addShip 1 = .ok (.getfield 18, 3) := by decide +kernel
theorem dX1_addShip_4 : decode cX1_addShip 4 = .ok (.istore_n 2, 1) := by decide +kernel
theorem dX1_addShip_5 : decode cX1_addShip 5 = .ok (.aload_n 0, 1) := by decide +kernel
theorem dX1_addShip_6 : decode cX1_addShip 6 = .ok (.getfield 34, 3) := by decide +kernel
theorem dX1_addShip_9 : decode cX1_addShip 9 = .ok (.iload_n 2, 1) := by decide +kernel
theorem dX1_addShip_10 : decode cX1_addShip 10 = .ok (.iload_n 1, 1) := by decide +kernel
theorem dX1_addShip_11 : decode cX1_addShip 11 = .ok (.iastore, 1) := by decide +kernel
theorem dX1_addShip_12 : decode cX1_addShip 12 = .ok (.aload_n 0, 1) := by decide +kernel
theorem dX1_addShip_13 : decode cX1_addShip 13 = .ok (.dup, 1) := by decide +kernel
theorem dX1_addShip_14 : decode cX1_addShip 14 = .ok (.getfield 18, 3) := by decide +kernel
theorem dX1_addShip_17 : decode cX1_addShip 17 = .ok (.iconst 1, 1) := by decide +kernel
theorem dX1_addShip_18 : decode cX1_addShip 18 = .ok (.iadd, 1) := by decide +kernel
theorem dX1_addShip_19 : decode cX1_addShip 19 = .ok (.putfield 18, 3) := by decide +kernel
theorem dX1_addShip_22 : decode cX1_addShip 22 = .ok (.iload_n 2, 1) := by decide +kernel
theorem dX1_addShip_23 : decode cX1_addShip 23 = .ok (.ireturn, 1) := by decide +kernel
theorem dX1_putIn_0 : decode cX1_putIn 0 = .ok (.aload_n 0, 1) := by decide +kernel
theorem dX1_putIn_1 : decode cX1_putIn 1 = .ok (.getfield 37, 3) := by decide +kernel
theorem dX1_putIn_4 : decode cX1_putIn 4 = .ok (.iload_n 1, 1) := by decide +kernel
theorem dX1_putIn_5 : decode cX1_putIn 5 = .ok (.bipush 6, 2) := by decide +kernel
theorem dX1_putIn_7 : decode cX1_putIn 7 = .ok (.imul, 1) := by decide +kernel
theorem dX1_putIn_8 : decode cX1_putIn 8 = .ok (.aload_n 0, 1) := by decide +kernel
theorem dX1_putIn_9 : decode cX1_putIn 9 = .ok (.getfield 21, 3) := by decide +kernel
theorem dX1_putIn_12 : decode cX1_putIn 12 = .ok (.iload_n 2, 1) := by decide +kernel
theorem dX1_putIn_13 : decode cX1_putIn 13 = .ok (.iaload, 1) := by decide +kernel
theorem dX1_putIn_14 : decode cX1_putIn 14 = .ok (.iadd, 1) := by decide +kernel
theorem dX1_putIn_15 : decode cX1_putIn 15 = .ok (.iload_n 2, 1) := by decide +kernel
theorem dX1_putIn_16 : decode cX1_putIn 16 = .ok (.iastore, 1) := by decide +kernel
theorem dX1_putIn_17 : decode cX1_putIn 17 = .ok (.aload_n 0, 1) := by decide +kernel
theorem dX1_putIn_18 : decode cX1_putIn 18 = .ok (.getfield 31, 3) := by decide +kernel
theorem dX1_putIn_21 : decode cX1_putIn 21 = .ok (.iload_n 2, 1) := by decide +kernel
theorem dX1_putIn_22 : decode cX1_putIn 22 = .ok (.iload_n 1, 1) := by decide +kernel
theorem dX1_putIn_23 : decode cX1_putIn 23 = .ok (.iastore, 1) := by decide +kernel
theorem dX1_putIn_24 : decode cX1_putIn 24 = .ok (.return_, 1) := by decide +kernel
theorem dX1_partAt_0 : decode cX1_partAt 0 = .ok (.aload_n 0, 1) := by decide +kernel
theorem dX1_partAt_1 : decode cX1_partAt 1 = .ok (.getfield 37, 3) := by decide +kernel
theorem dX1_partAt_4 : decode cX1_partAt 4 = .ok (.iload_n 1, 1) := by decide +kernel
theorem dX1_partAt_5 : decode cX1_partAt 5 = .ok (.bipush 6, 2) := by decide +kernel
theorem dX1_partAt_7 : decode cX1_partAt 7 = .ok (.imul, 1) := by decide +kernel
theorem dX1_partAt_8 : decode cX1_partAt 8 = .ok (.iload_n 2, 1) := by decide +kernel
theorem dX1_partAt_9 : decode cX1_partAt 9 = .ok (.iadd, 1) := by decide +kernel
theorem dX1_partAt_10 : decode cX1_partAt 10 = .ok (.iaload, 1) := by decide +kernel
theorem dX1_partAt_11 : decode cX1_partAt 11 = .ok (.ireturn, 1) := by decide +kernel
theorem dX1_liesFor_0 : decode cX1_liesFor 0 = .ok (.aload_n 0, 1) := by decide +kernel
theorem dX1_liesFor_1 : decode cX1_liesFor 1 = .ok (.getfield 31, 3) := by decide +kernel
theorem dX1_liesFor_4 : decode cX1_liesFor 4 = .ok (.iload_n 1, 1) := by decide +kernel
theorem dX1_liesFor_5 : decode cX1_liesFor 5 = .ok (.iaload, 1) := by decide +kernel
theorem dX1_liesFor_6 : decode cX1_liesFor 6 = .ok (.bipush 8, 2) := by decide +kernel
theorem dX1_liesFor_8 : decode cX1_liesFor 8 = .ok (.if_icmp .ne 17, 3) := by decide +kernel
theorem dX1_liesFor_11 : decode cX1_liesFor 11 = .ok (.aload_n 0, 1) := by decide +kernel
theorem dX1_liesFor_12 : decode cX1_liesFor 12 = .ok (.getfield 21, 3) := by decide +kernel
theorem dX1_liesFor_15 : decode cX1_liesFor 15 = .ok (.iload_n 1, 1) := by decide +kernel
theorem dX1_liesFor_16 : decode cX1_liesFor 16 = .ok (.iaload, 1) := by decide +kernel
theorem dX1_liesFor_17 : decode cX1_liesFor 17 = .ok (.iload_n 2, 1) := by decide +kernel
theorem dX1_liesFor_18 : decode cX1_liesFor 18 = .ok (.if_icmp .ne 7, 3) := by decide +kernel
theorem dX1_liesFor_21 : decode cX1_liesFor 21 = .ok (.iconst 1, 1) := by decide +kernel
theorem dX1_liesFor_22 : decode cX1_liesFor 22 = .ok (.goto 4, 3) := by decide +kernel
theorem dX1_liesFor_25 : decode cX1_liesFor 25 = .ok (.iconst 0, 1) := by decide +kernel
theorem dX1_liesFor_26 : decode cX1_liesFor 26 = .ok (.ireturn, 1) := by decide +kernel
theorem dX1_firstLying_0 : decode cX1_firstLying 0 = .ok (.iconst 0, 1) := by decide +kernel
theorem dX1_firstLying_1 : decode cX1_firstLying 1 = .ok (.istore_n 2, 1) := by decide +kernel
theorem dX1_firstLying_2 : decode cX1_firstLying 2 = .ok (.iload_n 2, 1) := by decide +kernel
theorem dX1_firstLying_3 : decode cX1_firstLying 3 = .ok (.aload_n 0, 1) := by decide +kernel
theorem dX1_firstLying_4 : decode cX1_firstLying 4 = .ok (.getfield 15, 3) := by decide +kernel
theorem dX1_firstLying_7 : decode cX1_firstLying 7 = .ok (.if_icmp .ge 20, 3) := by decide +kernel
theorem dX1_firstLying_10 : decode cX1_firstLying 10 = .ok (.aload_n 0, 1) := by decide +kernel
theorem dX1_firstLying_11 : decode cX1_firstLying 11 = .ok (.iload_n 2, 1) := by decide +kernel
theorem dX1_firstLying_12 : decode cX1_firstLying 12 = .ok (.iload_n 1, 1) := by decide +kernel
theorem dX1_firstLying_13 : decode cX1_firstLying 13 = .ok (.invokevirtual 46, 3) := by decide +kernel
theorem dX1_firstLying_16 : decode cX1_firstLying 16 = .ok (.ifCond .eq 5, 3) := by decide +kernel
theorem dX1_firstLying_19 : decode cX1_firstLying 19 = .ok (.iload_n 2, 1) := by decide +kernel
theorem dX1_firstLying_20 : decode cX1_firstLying 20 = .ok (.ireturn, 1) := by decide +kernel
theorem dX1_firstLying_21 : decode cX1_firstLying 21 = .ok (.iinc 2 1, 3) := by decide +kernel
theorem dX1_firstLying_24 : decode cX1_firstLying 24 = .ok (.goto (-22), 3) := by decide +kernel
theorem dX1_firstLying_27 : decode cX1_firstLying 27 = .ok (.iconst (-1), 1) := by decide +kernel
theorem dX1_firstLying_28 : decode cX1_firstLying 28 = .ok (.ireturn, 1) := by decide +kernel
theorem dX1_lyingOf_0 : decode cX1_lyingOf 0 = .ok (.iconst 0, 1) := by decide +kernel
theorem dX1_lyingOf_1 : decode cX1_lyingOf 1 = .ok (.istore_n 2, 1) := by decide +kernel
theorem dX1_lyingOf_2 : decode cX1_lyingOf 2 = .ok (.iconst 0, 1) := by decide +kernel
theorem dX1_lyingOf_3 : decode cX1_lyingOf 3 = .ok (.istore_n 3, 1) := by decide +kernel
theorem dX1_lyingOf_4 : decode cX1_lyingOf 4 = .ok (.iload_n 3, 1) := by decide +kernel
theorem dX1_lyingOf_5 : decode cX1_lyingOf 5 = .ok (.aload_n 0, 1) := by decide +kernel
theorem dX1_lyingOf_6 : decode cX1_lyingOf 6 = .ok (.getfield 15, 3) := by decide +kernel
theorem dX1_lyingOf_9 : decode cX1_lyingOf 9 = .ok (.if_icmp .ge 21, 3) := by decide +kernel
theorem dX1_lyingOf_12 : decode cX1_lyingOf 12 = .ok (.aload_n 0, 1) := by decide +kernel
theorem dX1_lyingOf_13 : decode cX1_lyingOf 13 = .ok (.iload_n 3, 1) := by decide +kernel
theorem dX1_lyingOf_14 : decode cX1_lyingOf 14 = .ok (.iload_n 1, 1) := by decide +kernel
theorem dX1_lyingOf_15 : decode cX1_lyingOf 15 = .ok (.invokevirtual 46, 3) := by decide +kernel
theorem dX1_lyingOf_18 : decode cX1_lyingOf 18 = .ok (.ifCond .eq 6, 3) := by decide +kernel
theorem dX1_lyingOf_21 : decode cX1_lyingOf 21 = .ok (.iinc 2 1, 3) := by decide +kernel
theorem dX1_lyingOf_24 : decode cX1_lyingOf 24 = .ok (.iinc 3 1, 3) := by decide +kernel
theorem dX1_lyingOf_27 : decode cX1_lyingOf 27 = .ok (.goto (-23), 3) := by decide +kernel
theorem dX1_lyingOf_30 : decode cX1_lyingOf 30 = .ok (.iload_n 2, 1) := by decide +kernel
theorem dX1_lyingOf_31 : decode cX1_lyingOf 31 = .ok (.ireturn, 1) := by decide +kernel
theorem dX1_lying_0 : decode cX1_lying 0 = .ok (.iconst 0, 1) := by decide +kernel
theorem dX1_lying_1 : decode cX1_lying 1 = .ok (.istore_n 1, 1) := by decide +kernel
theorem dX1_lying_2 : decode cX1_lying 2 = .ok (.iconst 0, 1) := by decide +kernel
theorem dX1_lying_3 : decode cX1_lying 3 = .ok (.istore_n 2, 1) := by decide +kernel
theorem dX1_lying_4 : decode cX1_lying 4 = .ok (.iload_n 2, 1) := by decide +kernel
theorem dX1_lying_5 : decode cX1_lying 5 = .ok (.aload_n 0, 1) := by decide +kernel
theorem dX1_lying_6 : decode cX1_lying 6 = .ok (.getfield 15, 3) := by decide +kernel
theorem dX1_lying_9 : decode cX1_lying 9 = .ok (.if_icmp .ge 23, 3) := by decide +kernel
theorem dX1_lying_12 : decode cX1_lying 12 = .ok (.aload_n 0, 1) := by decide +kernel
theorem dX1_lying_13 : decode cX1_lying 13 = .ok (.getfield 31, 3) := by decide +kernel
theorem dX1_lying_16 : decode cX1_lying 16 = .ok (.iload_n 2, 1) := by decide +kernel
theorem dX1_lying_17 : decode cX1_lying 17 = .ok (.iaload, 1) := by decide +kernel
theorem dX1_lying_18 : decode cX1_lying 18 = .ok (.bipush 8, 2) := by decide +kernel
theorem dX1_lying_20 : decode cX1_lying 20 = .ok (.if_icmp .ne 6, 3) := by decide +kernel
theorem dX1_lying_23 : decode cX1_lying 23 = .ok (.iinc 1 1, 3) := by decide +kernel
theorem dX1_lying_26 : decode cX1_lying 26 = .ok (.iinc 2 1, 3) := by decide +kernel
theorem dX1_lying_29 : decode cX1_lying 29 = .ok (.goto (-25), 3) := by decide +kernel
theorem dX1_lying_32 : decode cX1_lying 32 = .ok (.iload_n 1, 1) := by decide +kernel
theorem dX1_lying_33 : decode cX1_lying 33 = .ok (.ireturn, 1) := by decide +kernel
theorem dX2_init_0 : decode cX2_init 0 = .ok (.aload_n 0, 1) := by decide +kernel
theorem dX2_init_1 : decode cX2_init 1 = .ok (.invokespecial 3, 3) := by decide +kernel
theorem dX2_init_4 : decode cX2_init 4 = .ok (.aload_n 0, 1) := by decide +kernel
theorem dX2_init_5 : decode cX2_init 5 = .ok (.bipush 6, 2) := by decide +kernel
theorem dX2_init_7 : decode cX2_init 7 = .ok (.newarray .int, 2) := by decide +kernel
theorem dX2_init_9 : decode cX2_init 9 = .ok (.putfield 9, 3) := by decide +kernel
theorem dX2_init_12 : decode cX2_init 12 = .ok (.aload_n 0, 1) := by decide +kernel
theorem dX2_init_13 : decode cX2_init 13 = .ok (.bipush 6, 2) := by decide +kernel
theorem dX2_init_15 : decode cX2_init 15 = .ok (.newarray .int, 2) := by decide +kernel
theorem dX2_init_17 : decode cX2_init 17 = .ok (.putfield 15, 3) := by decide +kernel
theorem dX2_init_20 : decode cX2_init 20 = .ok (.aload_n 0, 1) := by decide +kernel
theorem dX2_init_21 : decode cX2_init 21 = .ok (.bipush 10, 2) := by decide +kernel
theorem dX2_init_23 : decode cX2_init 23 = .ok (.newarray .int, 2) := by decide +kernel
theorem dX2_init_25 : decode cX2_init 25 = .ok (.putfield 18, 3) := by decide +kernel
theorem dX2_init_28 : decode cX2_init 28 = .ok (.aload_n 0, 1) := by decide +kernel
theorem dX2_init_29 : decode cX2_init 29 = .ok (.aload_n 1, 1) := by decide +kernel
theorem dX2_init_30 : decode cX2_init 30 = .ok (.putfield 21, 3) := by decide +kernel
theorem dX2_init_33 : decode cX2_init 33 = .ok (.aload_n 0, 1) := by decide +kernel
theorem dX2_init_34 : decode cX2_init 34 = .ok (.aload_n 2, 1) := by decide +kernel
theorem dX2_init_35 : decode cX2_init 35 = .ok (.putfield 25, 3) := by decide +kernel
theorem dX2_init_38 : decode cX2_init 38 = .ok (.return_, 1) := by decide +kernel
theorem dX2_load_0 : decode cX2_load 0 = .ok (.iconst 0, 1) := by decide +kernel
theorem dX2_load_1 : decode cX2_load 1 = .ok (.istore_n 2, 1) := by decide +kernel
theorem dX2_load_2 : decode cX2_load 2 = .ok (.iload_n 2, 1) := by decide +kernel
theorem dX2_load_3 : decode cX2_load 3 = .ok (.aload_n 0, 1) := by decide +kernel
theorem dX2_load_4 : decode cX2_load 4 = .ok (.getfield 21, 3) := by decide +kernel
theorem dX2_load_7 : decode cX2_load 7 = .ok (.getfield 29, 3) := by decide +kernel
theorem dX2_load_10 : decode cX2_load 10 = .ok (.if_icmp .ge 23, 3) := by decide +kernel
theorem dX2_load_13 : decode cX2_load 13 = .ok (.aload_n 0, 1) := by decide +kernel
theorem dX2_load_14 : decode cX2_load 14 = .ok (.iload_n 2, 1) := by decide +kernel
theorem dX2_load_15 : decode cX2_load 15 = .ok (.aload_n 0, 1) := by decide +kernel
theorem dX2_load_16 : decode cX2_load 16 = .ok (.getfield 25, 3) := by decide +kernel
theorem dX2_load_19 : decode cX2_load 19 = .ok (.iload_n 1, 1) := by decide +kernel
theorem dX2_load_20 : decode cX2_load 20 = .ok (.iload_n 2, 1) := by decide +kernel
theorem dX2_load_21 : decode cX2_load 21 = .ok (.invokevirtual 35, 3) := by decide +kernel
theorem dX2_load_24 : decode cX2_load 24 = .ok (.invokevirtual 41, 3) := by decide +kernel
theorem dX2_load_27 : decode cX2_load 27 = .ok (.iinc 2 1, 3) := by decide +kernel
theorem dX2_load_30 : decode cX2_load 30 = .ok (.goto (-28), 3) := by decide +kernel
theorem dX2_load_33 : decode cX2_load 33 = .ok (.return_, 1) := by decide +kernel
theorem dX2_putPart_0 : decode cX2_putPart 0 = .ok (.aload_n 0, 1) := by decide +kernel
theorem dX2_putPart_1 : decode cX2_putPart 1 = .ok (.iload_n 1, 1) := by decide +kernel
theorem dX2_putPart_2 : decode cX2_putPart 2 = .ok (.aload_n 0, 1) := by decide +kernel
theorem dX2_putPart_3 : decode cX2_putPart 3 = .ok (.getfield 25, 3) := by decide +kernel
theorem dX2_putPart_6 : decode cX2_putPart 6 = .ok (.getfield 45, 3) := by decide +kernel
theorem dX2_putPart_9 : decode cX2_putPart 9 = .ok (.iload_n 2, 1) := by decide +kernel
theorem dX2_putPart_10 : decode cX2_putPart 10 = .ok (.iaload, 1) := by decide +kernel
theorem dX2_putPart_11 : decode cX2_putPart 11 = .ok (.aload_n 0, 1) := by decide +kernel
theorem dX2_putPart_12 : decode cX2_putPart 12 = .ok (.getfield 25, 3) := by decide +kernel
theorem dX2_putPart_15 : decode cX2_putPart 15 = .ok (.getfield 46, 3) := by decide +kernel
theorem dX2_putPart_18 : decode cX2_putPart 18 = .ok (.iload_n 2, 1) := by decide +kernel
theorem dX2_putPart_19 : decode cX2_putPart 19 = .ok (.iaload, 1) := by decide +kernel
theorem dX2_putPart_20 : decode cX2_putPart 20 = .ok (.invokevirtual 47, 3) := by decide +kernel
theorem dX2_putPart_23 : decode cX2_putPart 23 = .ok (.return_, 1) := by decide +kernel
theorem dX2_put_0 : decode cX2_put 0 = .ok (.aload_n 0, 1) := by decide +kernel
theorem dX2_put_1 : decode cX2_put 1 = .ok (.getfield 9, 3) := by decide +kernel
theorem dX2_put_4 : decode cX2_put 4 = .ok (.iload_n 1, 1) := by decide +kernel
theorem dX2_put_5 : decode cX2_put 5 = .ok (.iload_n 2, 1) := by decide +kernel
theorem dX2_put_6 : decode cX2_put 6 = .ok (.iastore, 1) := by decide +kernel
theorem dX2_put_7 : decode cX2_put 7 = .ok (.aload_n 0, 1) := by decide +kernel
theorem dX2_put_8 : decode cX2_put 8 = .ok (.getfield 15, 3) := by decide +kernel
theorem dX2_put_11 : decode cX2_put 11 = .ok (.iload_n 1, 1) := by decide +kernel
theorem dX2_put_12 : decode cX2_put 12 = .ok (.iload_n 3, 1) := by decide +kernel
theorem dX2_put_13 : decode cX2_put 13 = .ok (.iastore, 1) := by decide +kernel
theorem dX2_put_14 : decode cX2_put 14 = .ok (.return_, 1) := by decide +kernel
theorem dX2_ageAndRenew_0 : decode cX2_ageAndRenew 0 = .ok (.iconst 0, 1) := by decide +kernel
theorem dX2_ageAndRenew_1 : decode cX2_ageAndRenew 1 = .ok (.istore_n 1, 1) := by decide +kernel
theorem dX2_ageAndRenew_2 : decode cX2_ageAndRenew 2 = .ok (.iconst 0, 1) := by decide +kernel
theorem dX2_ageAndRenew_3 : decode cX2_ageAndRenew 3 = .ok (.istore_n 2, 1) := by decide +kernel
theorem dX2_ageAndRenew_4 : decode cX2_ageAndRenew 4 = .ok (.iload_n 2, 1) := by decide +kernel
theorem dX2_ageAndRenew_5 : decode cX2_ageAndRenew 5 = .ok (.aload_n 0, 1) := by decide +kernel
theorem dX2_ageAndRenew_6 : decode cX2_ageAndRenew 6 = .ok (.getfield 21, 3) := by decide +kernel
theorem dX2_ageAndRenew_9 : decode cX2_ageAndRenew 9 = .ok (.getfield 29, 3) := by decide +kernel
theorem dX2_ageAndRenew_12 : decode cX2_ageAndRenew 12 = .ok (.if_icmp .ge 48, 3) := by decide +kernel
theorem dX2_ageAndRenew_15 : decode cX2_ageAndRenew 15 = .ok (.aload_n 0, 1) := by decide +kernel
theorem dX2_ageAndRenew_16 : decode cX2_ageAndRenew 16 = .ok (.getfield 15, 3) := by decide +kernel
theorem dX2_ageAndRenew_19 : decode cX2_ageAndRenew 19 = .ok (.iload_n 2, 1) := by decide +kernel
theorem dX2_ageAndRenew_20 : decode cX2_ageAndRenew 20 = .ok (.dup2, 1) := by decide +kernel
theorem dX2_ageAndRenew_21 : decode cX2_ageAndRenew 21 = .ok (.iaload, 1) := by decide +kernel
theorem dX2_ageAndRenew_22 : decode cX2_ageAndRenew 22 = .ok (.iconst 1, 1) := by decide +kernel
theorem dX2_ageAndRenew_23 : decode cX2_ageAndRenew 23 = .ok (.iadd, 1) := by decide +kernel
theorem dX2_ageAndRenew_24 : decode cX2_ageAndRenew 24 = .ok (.iastore, 1) := by decide +kernel
theorem dX2_ageAndRenew_25 : decode cX2_ageAndRenew 25 = .ok (.aload_n 0, 1) := by decide +kernel
theorem dX2_ageAndRenew_26 : decode cX2_ageAndRenew 26 = .ok (.getfield 15, 3) := by decide +kernel
theorem dX2_ageAndRenew_29 : decode cX2_ageAndRenew 29 = .ok (.iload_n 2, 1) := by decide +kernel
theorem dX2_ageAndRenew_30 : decode cX2_ageAndRenew 30 = .ok (.iaload, 1) := by decide +kernel
theorem dX2_ageAndRenew_31 : decode cX2_ageAndRenew 31 = .ok (.aload_n 0, 1) := by decide +kernel
theorem dX2_ageAndRenew_32 : decode cX2_ageAndRenew 32 = .ok (.getfield 21, 3) := by decide +kernel
theorem dX2_ageAndRenew_35 : decode cX2_ageAndRenew 35 = .ok (.getfield 51, 3) := by decide +kernel
theorem dX2_ageAndRenew_38 : decode cX2_ageAndRenew 38 = .ok (.iload_n 2, 1) := by decide +kernel
theorem dX2_ageAndRenew_39 : decode cX2_ageAndRenew 39 = .ok (.iaload, 1) := by decide +kernel
theorem dX2_ageAndRenew_40 : decode cX2_ageAndRenew 40 = .ok (.if_icmp .lt 14, 3) := by decide +kernel
theorem dX2_ageAndRenew_43 : decode cX2_ageAndRenew 43 = .ok (.aload_n 0, 1) := by decide +kernel
theorem dX2_ageAndRenew_44 : decode cX2_ageAndRenew 44 = .ok (.iload_n 2, 1) := by decide +kernel
theorem dX2_ageAndRenew_45 : decode cX2_ageAndRenew 45 = .ok (.bipush 9, 2) := by decide +kernel
theorem dX2_ageAndRenew_47 : decode cX2_ageAndRenew 47 = .ok (.iconst 0, 1) := by decide +kernel
theorem dX2_ageAndRenew_48 : decode cX2_ageAndRenew 48 = .ok (.invokevirtual 47, 3) := by decide +kernel
theorem dX2_ageAndRenew_51 : decode cX2_ageAndRenew 51 = .ok (.iinc 1 1, 3) := by decide +kernel
theorem dX2_ageAndRenew_54 : decode cX2_ageAndRenew 54 = .ok (.iinc 2 1, 3) := by decide +kernel
theorem dX2_ageAndRenew_57 : decode cX2_ageAndRenew 57 = .ok (.goto (-53), 3) := by decide +kernel
theorem dX2_ageAndRenew_60 : decode cX2_ageAndRenew 60 = .ok (.iload_n 1, 1) := by decide +kernel
theorem dX2_ageAndRenew_61 : decode cX2_ageAndRenew 61 = .ok (.ireturn, 1) := by decide +kernel
theorem dX2_weigh_0 : decode cX2_weigh 0 = .ok (.iconst 0, 1) := by decide +kernel
theorem dX2_weigh_1 : decode cX2_weigh 1 = .ok (.istore_n 1, 1) := by decide +kernel
theorem dX2_weigh_2 : decode cX2_weigh 2 = .ok (.iload_n 1, 1) := by decide +kernel
theorem dX2_weigh_3 : decode cX2_weigh 3 = .ok (.bipush 10, 2) := by decide +kernel
theorem dX2_weigh_5 : decode cX2_weigh 5 = .ok (.if_icmp .ge 16, 3) := by decide +kernel
theorem dX2_weigh_8 : decode cX2_weigh 8 = .ok (.aload_n 0, 1) := by decide +kernel
theorem dX2_weigh_9 : decode cX2_weigh 9 = .ok (.getfield 18, 3) := by decide +kernel
theorem dX2_weigh_12 : decode cX2_weigh 12 = .ok (.iload_n 1, 1) := by decide +kernel
theorem dX2_weigh_13 : decode cX2_weigh 13 = .ok (.iconst 0, 1) := by decide +kernel
theorem dX2_weigh_14 : decode cX2_weigh 14 = .ok (.iastore, 1) := by decide +kernel
theorem dX2_weigh_15 : decode cX2_weigh 15 = .ok (.iinc 1 1, 3) := by decide +kernel
theorem dX2_weigh_18 : decode cX2_weigh 18 = .ok (.goto (-16), 3) := by decide +kernel
theorem dX2_weigh_21 : decode cX2_weigh 21 = .ok (.iconst 0, 1) := by decide +kernel
theorem dX2_weigh_22 : decode cX2_weigh 22 = .ok (.istore_n 1, 1) := by decide +kernel
theorem dX2_weigh_23 : decode cX2_weigh 23 = .ok (.iload_n 1, 1) := by decide +kernel
theorem dX2_weigh_24 : decode cX2_weigh 24 = .ok (.aload_n 0, 1) := by decide +kernel
theorem dX2_weigh_25 : decode cX2_weigh 25 = .ok (.getfield 21, 3) := by decide +kernel
theorem dX2_weigh_28 : decode cX2_weigh 28 = .ok (.getfield 29, 3) := by decide +kernel
theorem dX2_weigh_31 : decode cX2_weigh 31 = .ok (.if_icmp .ge 32, 3) := by decide +kernel
theorem dX2_weigh_34 : decode cX2_weigh 34 = .ok (.aload_n 0, 1) := by decide +kernel
theorem dX2_weigh_35 : decode cX2_weigh 35 = .ok (.getfield 18, 3) := by decide +kernel
theorem dX2_weigh_38 : decode cX2_weigh 38 = .ok (.aload_n 0, 1) := by decide +kernel
theorem dX2_weigh_39 : decode cX2_weigh 39 = .ok (.getfield 9, 3) := by decide +kernel
theorem dX2_weigh_42 : decode cX2_weigh 42 = .ok (.iload_n 1, 1) := by decide +kernel
theorem dX2_weigh_43 : decode cX2_weigh 43 = .ok (.iaload, 1) := by decide +kernel
theorem dX2_weigh_44 : decode cX2_weigh 44 = .ok (.dup2, 1) := by decide +kernel
theorem dX2_weigh_45 : decode cX2_weigh 45 = .ok (.iaload, 1) := by decide +kernel
theorem dX2_weigh_46 : decode cX2_weigh 46 = .ok (.aload_n 0, 1) := by decide +kernel
theorem dX2_weigh_47 : decode cX2_weigh 47 = .ok (.getfield 21, 3) := by decide +kernel
theorem dX2_weigh_50 : decode cX2_weigh 50 = .ok (.getfield 54, 3) := by decide +kernel
theorem dX2_weigh_53 : decode cX2_weigh 53 = .ok (.iload_n 1, 1) := by decide +kernel
theorem dX2_weigh_54 : decode cX2_weigh 54 = .ok (.iaload, 1) := by decide +kernel
theorem dX2_weigh_55 : decode cX2_weigh 55 = .ok (.iadd, 1) := by decide +kernel
theorem dX2_weigh_56 : decode cX2_weigh 56 = .ok (.iastore, 1) := by decide +kernel
theorem dX2_weigh_57 : decode cX2_weigh 57 = .ok (.iinc 1 1, 3) := by decide +kernel
theorem dX2_weigh_60 : decode cX2_weigh 60 = .ok (.goto (-37), 3) := by decide +kernel
theorem dX2_weigh_63 : decode cX2_weigh 63 = .ok (.return_, 1) := by decide +kernel
theorem dX2_whose_0 : decode cX2_whose 0 = .ok (.iload_n 1, 1) := by decide +kernel
theorem dX2_whose_1 : decode cX2_whose 1 = .ok (.tableswitch 73 0 4 #[35, 45, 50, 55, 68], 35) := by decide +kernel
theorem dX2_whose_36 : decode cX2_whose 36 = .ok (.aload_n 0, 1) := by decide +kernel
theorem dX2_whose_37 : decode cX2_whose 37 = .ok (.getfield 9, 3) := by decide +kernel
theorem dX2_whose_40 : decode cX2_whose 40 = .ok (.iconst 0, 1) := by decide +kernel
theorem dX2_whose_41 : decode cX2_whose 41 = .ok (.iaload, 1) := by decide +kernel
theorem dX2_whose_42 : decode cX2_whose 42 = .ok (.invokestatic 57, 3) := by decide +kernel
theorem dX2_whose_45 : decode cX2_whose 45 = .ok (.ireturn, 1) := by decide +kernel
theorem dX2_whose_46 : decode cX2_whose 46 = .ok (.aload_n 0, 1) := by decide +kernel
theorem dX2_whose_47 : decode cX2_whose 47 = .ok (.invokevirtual 61, 3) := by decide +kernel
theorem dX2_whose_50 : decode cX2_whose 50 = .ok (.ireturn, 1) := by decide +kernel
theorem dX2_whose_51 : decode cX2_whose 51 = .ok (.aload_n 0, 1) := by decide +kernel
theorem dX2_whose_52 : decode cX2_whose 52 = .ok (.invokevirtual 65, 3) := by decide +kernel
theorem dX2_whose_55 : decode cX2_whose 55 = .ok (.ireturn, 1) := by decide +kernel
theorem dX2_whose_56 : decode cX2_whose 56 = .ok (.aload_n 0, 1) := by decide +kernel
theorem dX2_whose_57 : decode cX2_whose 57 = .ok (.getfield 9, 3) := by decide +kernel
theorem dX2_whose_60 : decode cX2_whose 60 = .ok (.aload_n 0, 1) := by decide +kernel
theorem dX2_whose_61 : decode cX2_whose 61 = .ok (.invokevirtual 68, 3) := by decide +kernel
theorem dX2_whose_64 : decode cX2_whose 64 = .ok (.iaload, 1) := by decide +kernel
theorem dX2_whose_65 : decode cX2_whose 65 = .ok (.invokestatic 57, 3) := by decide +kernel
theorem dX2_whose_68 : decode cX2_whose 68 = .ok (.ireturn, 1) := by decide +kernel
theorem dX2_whose_69 : decode cX2_whose 69 = .ok (.aload_n 0, 1) := by decide +kernel
theorem dX2_whose_70 : decode cX2_whose 70 = .ok (.invokevirtual 71, 3) := by decide +kernel
theorem dX2_whose_73 : decode cX2_whose 73 = .ok (.ireturn, 1) := by decide +kernel
theorem dX2_whose_74 : decode cX2_whose 74 = .ok (.bipush (-9), 2) := by decide +kernel
theorem dX2_whose_76 : decode cX2_whose 76 = .ok (.ireturn, 1) := by decide +kernel
theorem dX2_shipOf_0 : decode cX2_shipOf 0 = .ok (.iload_n 0, 1) := by decide +kernel
theorem dX2_shipOf_1 : decode cX2_shipOf 1 = .ok (.bipush 9, 2) := by decide +kernel
theorem dX2_shipOf_3 : decode cX2_shipOf 3 = .ok (.if_icmp .ne 8, 3) := by decide +kernel
theorem dX2_shipOf_6 : decode cX2_shipOf 6 = .ok (.bipush (-9), 2) := by decide +kernel
theorem dX2_shipOf_8 : decode cX2_shipOf 8 = .ok (.goto 4, 3) := by decide +kernel
theorem dX2_shipOf_11 : decode cX2_shipOf 11 = .ok (.iload_n 0, 1) := by decide +kernel
theorem dX2_shipOf_12 : decode cX2_shipOf 12 = .ok (.ireturn, 1) := by decide +kernel
theorem dX2_byMost_0 : decode cX2_byMost 0 = .ok (.aload_n 0, 1) := by decide +kernel
theorem dX2_byMost_1 : decode cX2_byMost 1 = .ok (.invokevirtual 74, 3) := by decide +kernel
theorem dX2_byMost_4 : decode cX2_byMost 4 = .ok (.aload_n 0, 1) := by decide +kernel
theorem dX2_byMost_5 : decode cX2_byMost 5 = .ok (.getfield 21, 3) := by decide +kernel
theorem dX2_byMost_8 : decode cX2_byMost 8 = .ok (.invokevirtual 77, 3) := by decide +kernel
theorem dX2_byMost_11 : decode cX2_byMost 11 = .ok (.istore_n 1, 1) := by decide +kernel
theorem dX2_byMost_12 : decode cX2_byMost 12 = .ok (.iconst 0, 1) := by decide +kernel
theorem dX2_byMost_13 : decode cX2_byMost 13 = .ok (.istore_n 2, 1) := by decide +kernel
theorem dX2_byMost_14 : decode cX2_byMost 14 = .ok (.iload_n 2, 1) := by decide +kernel
theorem dX2_byMost_15 : decode cX2_byMost 15 = .ok (.iconst 4, 1) := by decide +kernel
theorem dX2_byMost_16 : decode cX2_byMost 16 = .ok (.if_icmp .ge 23, 3) := by decide +kernel
theorem dX2_byMost_19 : decode cX2_byMost 19 = .ok (.iconst 2, 1) := by decide +kernel
theorem dX2_byMost_20 : decode cX2_byMost 20 = .ok (.aload_n 0, 1) := by decide +kernel
theorem dX2_byMost_21 : decode cX2_byMost 21 = .ok (.getfield 18, 3) := by decide +kernel
theorem dX2_byMost_24 : decode cX2_byMost 24 = .ok (.iload_n 2, 1) := by decide +kernel
theorem dX2_byMost_25 : decode cX2_byMost 25 = .ok (.iaload, 1) := by decide +kernel
theorem dX2_byMost_26 : decode cX2_byMost 26 = .ok (.imul, 1) := by decide +kernel
theorem dX2_byMost_27 : decode cX2_byMost 27 = .ok (.iload_n 1, 1) := by decide +kernel
theorem dX2_byMost_28 : decode cX2_byMost 28 = .ok (.if_icmp .le 5, 3) := by decide +kernel
theorem dX2_byMost_31 : decode cX2_byMost 31 = .ok (.iload_n 2, 1) := by decide +kernel
theorem dX2_byMost_32 : decode cX2_byMost 32 = .ok (.ireturn, 1) := by decide +kernel
theorem dX2_byMost_33 : decode cX2_byMost 33 = .ok (.iinc 2 1, 3) := by decide +kernel
theorem dX2_byMost_36 : decode cX2_byMost 36 = .ok (.goto (-22), 3) := by decide +kernel
theorem dX2_byMost_39 : decode cX2_byMost 39 = .ok (.bipush (-9), 2) := by decide +kernel
theorem dX2_byMost_41 : decode cX2_byMost 41 = .ok (.ireturn, 1) := by decide +kernel
theorem dX2_byMore_0 : decode cX2_byMore 0 = .ok (.aload_n 0, 1) := by decide +kernel
theorem dX2_byMore_1 : decode cX2_byMore 1 = .ok (.invokevirtual 74, 3) := by decide +kernel
theorem dX2_byMore_4 : decode cX2_byMore 4 = .ok (.iconst 0, 1) := by decide +kernel
theorem dX2_byMore_5 : decode cX2_byMore 5 = .ok (.istore_n 1, 1) := by decide +kernel
theorem dX2_byMore_6 : decode cX2_byMore 6 = .ok (.iconst 1, 1) := by decide +kernel
theorem dX2_byMore_7 : decode cX2_byMore 7 = .ok (.istore_n 2, 1) := by decide +kernel
theorem dX2_byMore_8 : decode cX2_byMore 8 = .ok (.iconst 1, 1) := by decide +kernel
theorem dX2_byMore_9 : decode cX2_byMore 9 = .ok (.istore_n 3, 1) := by decide +kernel
theorem dX2_byMore_10 : decode cX2_byMore 10 = .ok (.iload_n 3, 1) := by decide +kernel
theorem dX2_byMore_11 : decode cX2_byMore 11 = .ok (.bipush 10, 2) := by decide +kernel
theorem dX2_byMore_13 : decode cX2_byMore 13 = .ok (.if_icmp .ge 48, 3) := by decide +kernel
theorem dX2_byMore_16 : decode cX2_byMore 16 = .ok (.aload_n 0, 1) := by decide +kernel
theorem dX2_byMore_17 : decode cX2_byMore 17 = .ok (.getfield 18, 3) := by decide +kernel
theorem dX2_byMore_20 : decode cX2_byMore 20 = .ok (.iload_n 3, 1) := by decide +kernel
theorem dX2_byMore_21 : decode cX2_byMore 21 = .ok (.iaload, 1) := by decide +kernel
theorem dX2_byMore_22 : decode cX2_byMore 22 = .ok (.aload_n 0, 1) := by decide +kernel
theorem dX2_byMore_23 : decode cX2_byMore 23 = .ok (.getfield 18, 3) := by decide +kernel
theorem dX2_byMore_26 : decode cX2_byMore 26 = .ok (.iload_n 1, 1) := by decide +kernel
theorem dX2_byMore_27 : decode cX2_byMore 27 = .ok (.iaload, 1) := by decide +kernel
theorem dX2_byMore_28 : decode cX2_byMore 28 = .ok (.if_icmp .le 10, 3) := by decide +kernel
theorem dX2_byMore_31 : decode cX2_byMore 31 = .ok (.iload_n 3, 1) := by decide +kernel
theorem dX2_byMore_32 : decode cX2_byMore 32 = .ok (.istore_n 1, 1) := by decide +kernel
theorem dX2_byMore_33 : decode cX2_byMore 33 = .ok (.iconst 1, 1) := by decide +kernel
theorem dX2_byMore_34 : decode cX2_byMore 34 = .ok (.istore_n 2, 1) := by decide +kernel
theorem dX2_byMore_35 : decode cX2_byMore 35 = .ok (.goto 20, 3) := by decide +kernel
theorem dX2_byMore_38 : decode cX2_byMore 38 = .ok (.aload_n 0, 1) := by decide +kernel
theorem dX2_byMore_39 : decode cX2_byMore 39 = .ok (.getfield 18, 3) := by decide +kernel
theorem dX2_byMore_42 : decode cX2_byMore 42 = .ok (.iload_n 3, 1) := by decide +kernel
theorem dX2_byMore_43 : decode cX2_byMore 43 = .ok (.iaload, 1) := by decide +kernel
theorem dX2_byMore_44 : decode cX2_byMore 44 = .ok (.aload_n 0, 1) := by decide +kernel
theorem dX2_byMore_45 : decode cX2_byMore 45 = .ok (.getfield 18, 3) := by decide +kernel
theorem dX2_byMore_48 : decode cX2_byMore 48 = .ok (.iload_n 1, 1) := by decide +kernel
theorem dX2_byMore_49 : decode cX2_byMore 49 = .ok (.iaload, 1) := by decide +kernel
theorem dX2_byMore_50 : decode cX2_byMore 50 = .ok (.if_icmp .ne 5, 3) := by decide +kernel
theorem dX2_byMore_53 : decode cX2_byMore 53 = .ok (.iconst 0, 1) := by decide +kernel
theorem dX2_byMore_54 : decode cX2_byMore 54 = .ok (.istore_n 2, 1) := by decide +kernel
theorem dX2_byMore_55 : decode cX2_byMore 55 = .ok (.iinc 3 1, 3) := by decide +kernel
theorem dX2_byMore_58 : decode cX2_byMore 58 = .ok (.goto (-48), 3) := by decide +kernel
theorem dX2_byMore_61 : decode cX2_byMore 61 = .ok (.iload_n 2, 1) := by decide +kernel
theorem dX2_byMore_62 : decode cX2_byMore 62 = .ok (.ifCond .eq 10, 3) := by decide +kernel
theorem dX2_byMore_65 : decode cX2_byMore 65 = .ok (.iload_n 1, 1) := by decide +kernel
theorem dX2_byMore_66 : decode cX2_byMore 66 = .ok (.invokestatic 57, 3) := by decide +kernel
theorem dX2_byMore_69 : decode cX2_byMore 69 = .ok (.goto 5, 3) := by decide +kernel
theorem dX2_byMore_72 : decode cX2_byMore 72 = .ok (.bipush (-9), 2) := by decide +kernel
theorem dX2_byMore_74 : decode cX2_byMore 74 = .ok (.ireturn, 1) := by decide +kernel
theorem dX2_oldest_0 : decode cX2_oldest 0 = .ok (.iconst 0, 1) := by decide +kernel
theorem dX2_oldest_1 : decode cX2_oldest 1 = .ok (.istore_n 1, 1) := by decide +kernel
theorem dX2_oldest_2 : decode cX2_oldest 2 = .ok (.iconst 1, 1) := by decide +kernel
theorem dX2_oldest_3 : decode cX2_oldest 3 = .ok (.istore_n 2, 1) := by decide +kernel
theorem dX2_oldest_4 : decode cX2_oldest 4 = .ok (.iload_n 2, 1) := by decide +kernel
theorem dX2_oldest_5 : decode cX2_oldest 5 = .ok (.aload_n 0, 1) := by decide +kernel
theorem dX2_oldest_6 : decode cX2_oldest 6 = .ok (.getfield 21, 3) := by decide +kernel
theorem dX2_oldest_9 : decode cX2_oldest 9 = .ok (.getfield 29, 3) := by decide +kernel
theorem dX2_oldest_12 : decode cX2_oldest 12 = .ok (.if_icmp .ge 26, 3) := by decide +kernel
theorem dX2_oldest_15 : decode cX2_oldest 15 = .ok (.aload_n 0, 1) := by decide +kernel
theorem dX2_oldest_16 : decode cX2_oldest 16 = .ok (.getfield 15, 3) := by decide +kernel
theorem dX2_oldest_19 : decode cX2_oldest 19 = .ok (.iload_n 2, 1) := by decide +kernel
theorem dX2_oldest_20 : decode cX2_oldest 20 = .ok (.iaload, 1) := by decide +kernel
theorem dX2_oldest_21 : decode cX2_oldest 21 = .ok (.aload_n 0, 1) := by decide +kernel
theorem dX2_oldest_22 : decode cX2_oldest 22 = .ok (.getfield 15, 3) := by decide +kernel
theorem dX2_oldest_25 : decode cX2_oldest 25 = .ok (.iload_n 1, 1) := by decide +kernel
theorem dX2_oldest_26 : decode cX2_oldest 26 = .ok (.iaload, 1) := by decide +kernel
theorem dX2_oldest_27 : decode cX2_oldest 27 = .ok (.if_icmp .le 5, 3) := by decide +kernel
theorem dX2_oldest_30 : decode cX2_oldest 30 = .ok (.iload_n 2, 1) := by decide +kernel
theorem dX2_oldest_31 : decode cX2_oldest 31 = .ok (.istore_n 1, 1) := by decide +kernel
theorem dX2_oldest_32 : decode cX2_oldest 32 = .ok (.iinc 2 1, 3) := by decide +kernel
theorem dX2_oldest_35 : decode cX2_oldest 35 = .ok (.goto (-31), 3) := by decide +kernel
theorem dX2_oldest_38 : decode cX2_oldest 38 = .ok (.iload_n 1, 1) := by decide +kernel
theorem dX2_oldest_39 : decode cX2_oldest 39 = .ok (.ireturn, 1) := by decide +kernel
theorem dX2_byHalf_0 : decode cX2_byHalf 0 = .ok (.iconst 0, 1) := by decide +kernel
theorem dX2_byHalf_1 : decode cX2_byHalf 1 = .ok (.istore_n 1, 1) := by decide +kernel
theorem dX2_byHalf_2 : decode cX2_byHalf 2 = .ok (.iload_n 1, 1) := by decide +kernel
theorem dX2_byHalf_3 : decode cX2_byHalf 3 = .ok (.iconst 4, 1) := by decide +kernel
theorem dX2_byHalf_4 : decode cX2_byHalf 4 = .ok (.if_icmp .ge 58, 3) := by decide +kernel
theorem dX2_byHalf_7 : decode cX2_byHalf 7 = .ok (.iconst 0, 1) := by decide +kernel
theorem dX2_byHalf_8 : decode cX2_byHalf 8 = .ok (.istore_n 2, 1) := by decide +kernel
theorem dX2_byHalf_9 : decode cX2_byHalf 9 = .ok (.iconst 0, 1) := by decide +kernel
theorem dX2_byHalf_10 : decode cX2_byHalf 10 = .ok (.istore_n 3, 1) := by decide +kernel
theorem dX2_byHalf_11 : decode cX2_byHalf 11 = .ok (.iload_n 3, 1) := by decide +kernel
theorem dX2_byHalf_12 : decode cX2_byHalf 12 = .ok (.aload_n 0, 1) := by decide +kernel
theorem dX2_byHalf_13 : decode cX2_byHalf 13 = .ok (.getfield 21, 3) := by decide +kernel
theorem dX2_byHalf_16 : decode cX2_byHalf 16 = .ok (.getfield 29, 3) := by decide +kernel
theorem dX2_byHalf_19 : decode cX2_byHalf 19 = .ok (.if_icmp .ge 22, 3) := by decide +kernel
theorem dX2_byHalf_22 : decode cX2_byHalf 22 = .ok (.aload_n 0, 1) := by decide +kernel
theorem dX2_byHalf_23 : decode cX2_byHalf 23 = .ok (.getfield 9, 3) := by decide +kernel
theorem dX2_byHalf_26 : decode cX2_byHalf 26 = .ok (.iload_n 3, 1) := by decide +kernel
theorem dX2_byHalf_27 : decode cX2_byHalf 27 = .ok (.iaload, 1) := by decide +kernel
theorem dX2_byHalf_28 : decode cX2_byHalf 28 = .ok (.iload_n 1, 1) := by decide +kernel
theorem dX2_byHalf_29 : decode cX2_byHalf 29 = .ok (.if_icmp .ne 6, 3) := by decide +kernel
theorem dX2_byHalf_32 : decode cX2_byHalf 32 = .ok (.iinc 2 1, 3) := by decide +kernel
theorem dX2_byHalf_35 : decode cX2_byHalf 35 = .ok (.iinc 3 1, 3) := by decide +kernel
theorem dX2_byHalf_38 : decode cX2_byHalf 38 = .ok (.goto (-27), 3) := by decide +kernel
theorem dX2_byHalf_41 : decode cX2_byHalf 41 = .ok (.iconst 2, 1) := by decide +kernel
theorem dX2_byHalf_42 : decode cX2_byHalf 42 = .ok (.iload_n 2, 1) := by decide +kernel
theorem dX2_byHalf_43 : decode cX2_byHalf 43 = .ok (.imul, 1) := by decide +kernel
theorem dX2_byHalf_44 : decode cX2_byHalf 44 = .ok (.aload_n 0, 1) := by decide +kernel
theorem dX2_byHalf_45 : decode cX2_byHalf 45 = .ok (.getfield 21, 3) := by decide +kernel
theorem dX2_byHalf_48 : decode cX2_byHalf 48 = .ok (.getfield 29, 3) := by decide +kernel
theorem dX2_byHalf_51 : decode cX2_byHalf 51 = .ok (.if_icmp .lt 5, 3) := by decide +kernel
theorem dX2_byHalf_54 : decode cX2_byHalf 54 = .ok (.iload_n 1, 1) := by decide +kernel
theorem dX2_byHalf_55 : decode cX2_byHalf 55 = .ok (.ireturn, 1) := by decide +kernel
theorem dX2_byHalf_56 : decode cX2_byHalf 56 = .ok (.iinc 1 1, 3) := by decide +kernel
theorem dX2_byHalf_59 : decode cX2_byHalf 59 = .ok (.goto (-57), 3) := by decide +kernel
theorem dX2_byHalf_62 : decode cX2_byHalf 62 = .ok (.bipush (-9), 2) := by decide +kernel
theorem dX2_byHalf_64 : decode cX2_byHalf 64 = .ok (.ireturn, 1) := by decide +kernel
theorem dX3_init_0 : decode cX3_init 0 = .ok (.aload_n 0, 1) := by decide +kernel
theorem dX3_init_1 : decode cX3_init 1 = .ok (.invokespecial 3, 3) := by decide +kernel
theorem dX3_init_4 : decode cX3_init 4 = .ok (.aload_n 0, 1) := by decide +kernel
theorem dX3_init_5 : decode cX3_init 5 = .ok (.lconst 0, 1) := by decide +kernel
theorem dX3_init_6 : decode cX3_init 6 = .ok (.putfield 9, 3) := by decide +kernel
theorem dX3_init_9 : decode cX3_init 9 = .ok (.aload_n 0, 1) := by decide +kernel
theorem dX3_init_10 : decode cX3_init 10 = .ok (.aload_n 1, 1) := by decide +kernel
theorem dX3_init_11 : decode cX3_init 11 = .ok (.putfield 15, 3) := by decide +kernel
theorem dX3_init_14 : decode cX3_init 14 = .ok (.aload_n 0, 1) := by decide +kernel
theorem dX3_init_15 : decode cX3_init 15 = .ok (.aload_n 2, 1) := by decide +kernel
theorem dX3_init_16 : decode cX3_init 16 = .ok (.putfield 19, 3) := by decide +kernel
theorem dX3_init_19 : decode cX3_init 19 = .ok (.return_, 1) := by decide +kernel
theorem dX3_rateAs_0 : decode cX3_rateAs 0 = .ok (.iload_n 1, 1) := by decide +kernel
theorem dX3_rateAs_1 : decode cX3_rateAs 1 = .ok (.tableswitch 75 0 5 #[39, 45, 51, 57, 63, 69], 39) := by decide +kernel
theorem dX3_rateAs_40 : decode cX3_rateAs 40 = .ok (.aload_n 0, 1) := by decide +kernel
theorem dX3_rateAs_41 : decode cX3_rateAs 41 = .ok (.iload_n 2, 1) := by decide +kernel
theorem dX3_rateAs_42 : decode cX3_rateAs 42 = .ok (.invokevirtual 23, 3) := by decide +kernel
theorem dX3_rateAs_45 : decode cX3_rateAs 45 = .ok (.ireturn, 1) := by decide +kernel
theorem dX3_rateAs_46 : decode cX3_rateAs 46 = .ok (.aload_n 0, 1) := by decide +kernel
theorem dX3_rateAs_47 : decode cX3_rateAs 47 = .ok (.iload_n 2, 1) := by decide +kernel
theorem dX3_rateAs_48 : decode cX3_rateAs 48 = .ok (.invokevirtual 27, 3) := by decide +kernel
theorem dX3_rateAs_51 : decode cX3_rateAs 51 = .ok (.ireturn, 1) := by decide +kernel
theorem dX3_rateAs_52 : decode cX3_rateAs 52 = .ok (.aload_n 0, 1) := by decide +kernel
theorem dX3_rateAs_53 : decode cX3_rateAs 53 = .ok (.iload_n 2, 1) := by decide +kernel
theorem dX3_rateAs_54 : decode cX3_rateAs 54 = .ok (.invokevirtual 30, 3) := by decide +kernel
theorem dX3_rateAs_57 : decode cX3_rateAs 57 = .ok (.ireturn, 1) := by decide +kernel
theorem dX3_rateAs_58 : decode cX3_rateAs 58 = .ok (.aload_n 0, 1) := by decide +kernel
theorem dX3_rateAs_59 : decode cX3_rateAs 59 = .ok (.iload_n 2, 1) := by decide +kernel
theorem dX3_rateAs_60 : decode cX3_rateAs 60 = .ok (.invokevirtual 33, 3) := by decide +kernel
theorem dX3_rateAs_63 : decode cX3_rateAs 63 = .ok (.ireturn, 1) := by decide +kernel
theorem dX3_rateAs_64 : decode cX3_rateAs 64 = .ok (.aload_n 0, 1) := by decide +kernel
theorem dX3_rateAs_65 : decode cX3_rateAs 65 = .ok (.iload_n 2, 1) := by decide +kernel
theorem dX3_rateAs_66 : decode cX3_rateAs 66 = .ok (.invokevirtual 36, 3) := by decide +kernel
theorem dX3_rateAs_69 : decode cX3_rateAs 69 = .ok (.ireturn, 1) := by decide +kernel
theorem dX3_rateAs_70 : decode cX3_rateAs 70 = .ok (.aload_n 0, 1) := by decide +kernel
theorem dX3_rateAs_71 : decode cX3_rateAs 71 = .ok (.iload_n 2, 1) := by decide +kernel
theorem dX3_rateAs_72 : decode cX3_rateAs 72 = .ok (.invokevirtual 39, 3) := by decide +kernel
theorem dX3_rateAs_75 : decode cX3_rateAs 75 = .ok (.ireturn, 1) := by decide +kernel
theorem dX3_rateAs_76 : decode cX3_rateAs 76 = .ok (.ldc 42, 2) := by decide +kernel
theorem dX3_rateAs_78 : decode cX3_rateAs 78 = .ok (.ireturn, 1) := by decide +kernel
theorem dX3_asPart_0 : decode cX3_asPart 0 = .ok (.aload_n 0, 1) := by decide +kernel
theorem dX3_asPart_1 : decode cX3_asPart 1 = .ok (.dup, 1) := by decide +kernel
theorem dX3_asPart_2 : decode cX3_asPart 2 = .ok (.getfield 9, 3) := by decide +kernel
theorem dX3_asPart_5 : decode cX3_asPart 5 = .ok (.lconst 1, 1) := by decide +kernel
theorem dX3_asPart_6 : decode cX3_asPart 6 = .ok (.ladd, 1) := by decide +kernel
theorem dX3_asPart_7 : decode cX3_asPart 7 = .ok (.putfield 9, 3) := by decide +kernel
theorem dX3_asPart_10 : decode cX3_asPart 10 = .ok (.aload_n 0, 1) := by decide +kernel
theorem dX3_asPart_11 : decode cX3_asPart 11 = .ok (.getfield 19, 3) := by decide +kernel
theorem dX3_asPart_14 : decode cX3_asPart 14 = .ok (.getfield 43, 3) := by decide +kernel
theorem dX3_asPart_17 : decode cX3_asPart 17 = .ok (.iload_n 1, 1) := by decide +kernel
theorem dX3_asPart_18 : decode cX3_asPart 18 = .ok (.iaload, 1) := by decide +kernel
theorem dX3_asPart_19 : decode cX3_asPart 19 = .ok (.ireturn, 1) := by decide +kernel
theorem dX3_asKeel_0 : decode cX3_asKeel 0 = .ok (.aload_n 0, 1) := by decide +kernel
theorem dX3_asKeel_1 : decode cX3_asKeel 1 = .ok (.dup, 1) := by decide +kernel
theorem dX3_asKeel_2 : decode cX3_asKeel 2 = .ok (.getfield 9, 3) := by decide +kernel
theorem dX3_asKeel_5 : decode cX3_asKeel 5 = .ok (.ldc2_w 49, 3) := by decide +kernel
theorem dX3_asKeel_8 : decode cX3_asKeel 8 = .ok (.ladd, 1) := by decide +kernel
theorem dX3_asKeel_9 : decode cX3_asKeel 9 = .ok (.putfield 9, 3) := by decide +kernel
theorem dX3_asKeel_12 : decode cX3_asKeel 12 = .ok (.aload_n 0, 1) := by decide +kernel
theorem dX3_asKeel_13 : decode cX3_asKeel 13 = .ok (.iload_n 1, 1) := by decide +kernel
theorem dX3_asKeel_14 : decode cX3_asKeel 14 = .ok (.invokevirtual 23, 3) := by decide +kernel
theorem dX3_asKeel_17 : decode cX3_asKeel 17 = .ok (.aload_n 0, 1) := by decide +kernel
theorem dX3_asKeel_18 : decode cX3_asKeel 18 = .ok (.getfield 15, 3) := by decide +kernel
theorem dX3_asKeel_21 : decode cX3_asKeel 21 = .ok (.getfield 51, 3) := by decide +kernel
theorem dX3_asKeel_24 : decode cX3_asKeel 24 = .ok (.aload_n 0, 1) := by decide +kernel
theorem dX3_asKeel_25 : decode cX3_asKeel 25 = .ok (.getfield 19, 3) := by decide +kernel
theorem dX3_asKeel_28 : decode cX3_asKeel 28 = .ok (.getfield 56, 3) := by decide +kernel
theorem dX3_asKeel_31 : decode cX3_asKeel 31 = .ok (.iload_n 1, 1) := by decide +kernel
theorem dX3_asKeel_32 : decode cX3_asKeel 32 = .ok (.iaload, 1) := by decide +kernel
theorem dX3_asKeel_33 : decode cX3_asKeel 33 = .ok (.iaload, 1) := by decide +kernel
theorem dX3_asKeel_34 : decode cX3_asKeel 34 = .ok (.iadd, 1) := by decide +kernel
theorem dX3_asKeel_35 : decode cX3_asKeel 35 = .ok (.ireturn, 1) := by decide +kernel
theorem dX3_asBorrowed_0 : decode cX3_asBorrowed 0 = .ok (.aload_n 0, 1) := by decide +kernel
theorem dX3_asBorrowed_1 : decode cX3_asBorrowed 1 = .ok (.dup, 1) := by decide +kernel
theorem dX3_asBorrowed_2 : decode cX3_asBorrowed 2 = .ok (.getfield 9, 3) := by decide +kernel
theorem dX3_asBorrowed_5 : decode cX3_asBorrowed 5 = .ok (.ldc2_w 59, 3) := by decide +kernel
theorem dX3_asBorrowed_8 : decode cX3_asBorrowed 8 = .ok (.ladd, 1) := by decide +kernel
theorem dX3_asBorrowed_9 : decode cX3_asBorrowed 9 = .ok (.putfield 9, 3) := by decide +kernel
theorem dX3_asBorrowed_12 : decode cX3_asBorrowed 12 = .ok (.aload_n 0, 1) := by decide +kernel
theorem dX3_asBorrowed_13 : decode cX3_asBorrowed 13 = .ok (.iload_n 1, 1) := by decide +kernel
theorem dX3_asBorrowed_14 : decode cX3_asBorrowed 14 = .ok (.invokevirtual 23, 3) := by decide +kernel
theorem dX3_asBorrowed_17 : decode cX3_asBorrowed 17 = .ok (.aload_n 0, 1) := by decide +kernel
theorem dX3_asBorrowed_18 : decode cX3_asBorrowed 18 = .ok (.getfield 15, 3) := by decide +kernel
theorem dX3_asBorrowed_21 : decode cX3_asBorrowed 21 = .ok (.getfield 61, 3) := by decide +kernel
theorem dX3_asBorrowed_24 : decode cX3_asBorrowed 24 = .ok (.aload_n 0, 1) := by decide +kernel
theorem dX3_asBorrowed_25 : decode cX3_asBorrowed 25 = .ok (.getfield 19, 3) := by decide +kernel
theorem dX3_asBorrowed_28 : decode cX3_asBorrowed 28 = .ok (.getfield 56, 3) := by decide +kernel
theorem dX3_asBorrowed_31 : decode cX3_asBorrowed 31 = .ok (.iload_n 1, 1) := by decide +kernel
theorem dX3_asBorrowed_32 : decode cX3_asBorrowed 32 = .ok (.iaload, 1) := by decide +kernel
theorem dX3_asBorrowed_33 : decode cX3_asBorrowed 33 = .ok (.iaload, 1) := by decide +kernel
theorem dX3_asBorrowed_34 : decode cX3_asBorrowed 34 = .ok (.isub, 1) := by decide +kernel
theorem dX3_asBorrowed_35 : decode cX3_asBorrowed 35 = .ok (.ireturn, 1) := by decide +kernel
theorem dX3_asMast_0 : decode cX3_asMast 0 = .ok (.aload_n 0, 1) := by decide +kernel
theorem dX3_asMast_1 : decode cX3_asMast 1 = .ok (.dup, 1) := by decide +kernel
theorem dX3_asMast_2 : decode cX3_asMast 2 = .ok (.getfield 9, 3) := by decide +kernel
theorem dX3_asMast_5 : decode cX3_asMast 5 = .ok (.ldc2_w 64, 3) := by decide +kernel
theorem dX3_asMast_8 : decode cX3_asMast 8 = .ok (.ladd, 1) := by decide +kernel
theorem dX3_asMast_9 : decode cX3_asMast 9 = .ok (.putfield 9, 3) := by decide +kernel
theorem dX3_asMast_12 : decode cX3_asMast 12 = .ok (.iconst 2, 1) := by decide +kernel
theorem dX3_asMast_13 : decode cX3_asMast 13 = .ok (.aload_n 0, 1) := by decide +kernel
theorem dX3_asMast_14 : decode cX3_asMast 14 = .ok (.iload_n 1, 1) := by decide +kernel
theorem dX3_asMast_15 : decode cX3_asMast 15 = .ok (.invokevirtual 27, 3) := by decide +kernel
theorem dX3_asMast_18 : decode cX3_asMast 18 = .ok (.imul, 1) := by decide +kernel
theorem dX3_asMast_19 : decode cX3_asMast 19 = .ok (.ireturn, 1) := by decide +kernel
theorem dX3_asShared_0 : decode cX3_asShared 0 = .ok (.aload_n 0, 1) := by decide +kernel
theorem dX3_asShared_1 : decode cX3_asShared 1 = .ok (.dup, 1) := by decide +kernel
theorem dX3_asShared_2 : decode cX3_asShared 2 = .ok (.getfield 9, 3) := by decide +kernel
theorem dX3_asShared_5 : decode cX3_asShared 5 = .ok (.ldc2_w 66, 3) := by decide +kernel
theorem dX3_asShared_8 : decode cX3_asShared 8 = .ok (.ladd, 1) := by decide +kernel
theorem dX3_asShared_9 : decode cX3_asShared 9 = .ok (.putfield 9, 3) := by decide +kernel
theorem dX3_asShared_12 : decode cX3_asShared 12 = .ok (.aload_n 0, 1) := by decide +kernel
theorem dX3_asShared_13 : decode cX3_asShared 13 = .ok (.iload_n 1, 1) := by decide +kernel
theorem dX3_asShared_14 : decode cX3_asShared 14 = .ok (.invokevirtual 30, 3) := by decide +kernel
theorem dX3_asShared_17 : decode cX3_asShared 17 = .ok (.aload_n 0, 1) := by decide +kernel
theorem dX3_asShared_18 : decode cX3_asShared 18 = .ok (.getfield 19, 3) := by decide +kernel
theorem dX3_asShared_21 : decode cX3_asShared 21 = .ok (.getfield 68, 3) := by decide +kernel
theorem dX3_asShared_24 : decode cX3_asShared 24 = .ok (.iload_n 1, 1) := by decide +kernel
theorem dX3_asShared_25 : decode cX3_asShared 25 = .ok (.iaload, 1) := by decide +kernel
theorem dX3_asShared_26 : decode cX3_asShared 26 = .ok (.iadd, 1) := by decide +kernel
theorem dX3_asShared_27 : decode cX3_asShared 27 = .ok (.ireturn, 1) := by decide +kernel
theorem dX3_asForged_0 : decode cX3_asForged 0 = .ok (.aload_n 0, 1) := by decide +kernel
theorem dX3_asForged_1 : decode cX3_asForged 1 = .ok (.dup, 1) := by decide +kernel
theorem dX3_asForged_2 : decode cX3_asForged 2 = .ok (.getfield 9, 3) := by decide +kernel
theorem dX3_asForged_5 : decode cX3_asForged 5 = .ok (.ldc2_w 71, 3) := by decide +kernel
theorem dX3_asForged_8 : decode cX3_asForged 8 = .ok (.ladd, 1) := by decide +kernel
theorem dX3_asForged_9 : decode cX3_asForged 9 = .ok (.putfield 9, 3) := by decide +kernel
theorem dX3_asForged_12 : decode cX3_asForged 12 = .ok (.aload_n 0, 1) := by decide +kernel
theorem dX3_asForged_13 : decode cX3_asForged 13 = .ok (.iload_n 1, 1) := by decide +kernel
theorem dX3_asForged_14 : decode cX3_asForged 14 = .ok (.invokevirtual 23, 3) := by decide +kernel
theorem dX3_asForged_17 : decode cX3_asForged 17 = .ok (.aload_n 0, 1) := by decide +kernel
theorem dX3_asForged_18 : decode cX3_asForged 18 = .ok (.getfield 19, 3) := by decide +kernel
theorem dX3_asForged_21 : decode cX3_asForged 21 = .ok (.invokevirtual 73, 3) := by decide +kernel
theorem dX3_asForged_24 : decode cX3_asForged 24 = .ok (.iadd, 1) := by decide +kernel
theorem dX3_asForged_25 : decode cX3_asForged 25 = .ok (.ireturn, 1) := by decide +kernel
theorem dX4_init_0 : decode cX4_init 0 = .ok (.aload_n 0, 1) := by decide +kernel
theorem dX4_init_1 : decode cX4_init 1 = .ok (.invokespecial 3, 3) := by decide +kernel
theorem dX4_init_4 : decode cX4_init 4 = .ok (.aload_n 0, 1) := by decide +kernel
theorem dX4_init_5 : decode cX4_init 5 = .ok (.bipush 10, 2) := by decide +kernel
theorem dX4_init_7 : decode cX4_init 7 = .ok (.anewarray 9, 3) := by decide +kernel
theorem dX4_init_10 : decode cX4_init 10 = .ok (.putfield 11, 3) := by decide +kernel
theorem dX4_init_13 : decode cX4_init 13 = .ok (.aload_n 0, 1) := by decide +kernel
theorem dX4_init_14 : decode cX4_init 14 = .ok (.iconst 0, 1) := by decide +kernel
theorem dX4_init_15 : decode cX4_init 15 = .ok (.putfield 17, 3) := by decide +kernel
theorem dX4_init_18 : decode cX4_init 18 = .ok (.aload_n 0, 1) := by decide +kernel
theorem dX4_init_19 : decode cX4_init 19 = .ok (.iconst 0, 1) := by decide +kernel
theorem dX4_init_20 : decode cX4_init 20 = .ok (.putfield 21, 3) := by decide +kernel
theorem dX4_init_23 : decode cX4_init 23 = .ok (.iconst 0, 1) := by decide +kernel
theorem dX4_init_24 : decode cX4_init 24 = .ok (.istore_n 1, 1) := by decide +kernel
theorem dX4_init_25 : decode cX4_init 25 = .ok (.iload_n 1, 1) := by decide +kernel
theorem dX4_init_26 : decode cX4_init 26 = .ok (.bipush 10, 2) := by decide +kernel
theorem dX4_init_28 : decode cX4_init 28 = .ok (.if_icmp .ge 22, 3) := by decide +kernel
theorem dX4_init_31 : decode cX4_init 31 = .ok (.aload_n 0, 1) := by decide +kernel
theorem dX4_init_32 : decode cX4_init 32 = .ok (.getfield 11, 3) := by decide +kernel
theorem dX4_init_35 : decode cX4_init 35 = .ok (.iload_n 1, 1) := by decide +kernel
theorem dX4_init_36 : decode cX4_init 36 = .ok (.new 9, 3) := by decide +kernel
theorem dX4_init_39 : decode cX4_init 39 = .ok (.dup, 1) := by decide +kernel
theorem dX4_init_40 : decode cX4_init 40 = .ok (.invokespecial 24, 3) := by decide +kernel
theorem dX4_init_43 : decode cX4_init 43 = .ok (.aastore, 1) := by decide +kernel
theorem dX4_init_44 : decode cX4_init 44 = .ok (.iinc 1 1, 3) := by decide +kernel
theorem dX4_init_47 : decode cX4_init 47 = .ok (.goto (-22), 3) := by decide +kernel
theorem dX4_init_50 : decode cX4_init 50 = .ok (.return_, 1) := by decide +kernel
theorem dX4_remember_0 : decode cX4_remember 0 = .ok (.aload_n 0, 1) := by decide +kernel
theorem dX4_remember_1 : decode cX4_remember 1 = .ok (.getfield 11, 3) := by decide +kernel
theorem dX4_remember_4 : decode cX4_remember 4 = .ok (.aload_n 0, 1) := by decide +kernel
theorem dX4_remember_5 : decode cX4_remember 5 = .ok (.getfield 17, 3) := by decide +kernel
theorem dX4_remember_8 : decode cX4_remember 8 = .ok (.aaload, 1) := by decide +kernel
theorem dX4_remember_9 : decode cX4_remember 9 = .ok (.aload_n 1, 1) := by decide +kernel
theorem dX4_remember_10 : decode cX4_remember 10 = .ok (.invokevirtual 25, 3) := by decide +kernel
theorem dX4_remember_13 : decode cX4_remember 13 = .ok (.aload_n 0, 1) := by decide +kernel
theorem dX4_remember_14 : decode cX4_remember 14 = .ok (.aload_n 0, 1) := by decide +kernel
theorem dX4_remember_15 : decode cX4_remember 15 = .ok (.getfield 17, 3) := by decide +kernel
theorem dX4_remember_18 : decode cX4_remember 18 = .ok (.iconst 1, 1) := by decide +kernel
theorem dX4_remember_19 : decode cX4_remember 19 = .ok (.iadd, 1) := by decide +kernel
theorem dX4_remember_20 : decode cX4_remember 20 = .ok (.bipush 10, 2) := by decide +kernel
theorem dX4_remember_22 : decode cX4_remember 22 = .ok (.irem, 1) := by decide +kernel
theorem dX4_remember_23 : decode cX4_remember 23 = .ok (.putfield 17, 3) := by decide +kernel
theorem dX4_remember_26 : decode cX4_remember 26 = .ok (.aload_n 0, 1) := by decide +kernel
theorem dX4_remember_27 : decode cX4_remember 27 = .ok (.bipush 10, 2) := by decide +kernel
theorem dX4_remember_29 : decode cX4_remember 29 = .ok (.aload_n 0, 1) := by decide +kernel
theorem dX4_remember_30 : decode cX4_remember 30 = .ok (.getfield 21, 3) := by decide +kernel
theorem dX4_remember_33 : decode cX4_remember 33 = .ok (.iconst 1, 1) := by decide +kernel
theorem dX4_remember_34 : decode cX4_remember 34 = .ok (.iadd, 1) := by decide +kernel
theorem dX4_remember_35 : decode cX4_remember 35 = .ok (.invokestatic 29, 3) := by decide +kernel
theorem dX4_remember_38 : decode cX4_remember 38 = .ok (.putfield 21, 3) := by decide +kernel
theorem dX4_remember_41 : decode cX4_remember 41 = .ok (.return_, 1) := by decide +kernel
theorem dX4_restore_0 : decode cX4_restore 0 = .ok (.aload_n 0, 1) := by decide +kernel
theorem dX4_restore_1 : decode cX4_restore 1 = .ok (.aload_n 0, 1) := by decide +kernel
theorem dX4_restore_2 : decode cX4_restore 2 = .ok (.getfield 17, 3) := by decide +kernel
theorem dX4_restore_5 : decode cX4_restore 5 = .ok (.bipush 10, 2) := by decide +kernel
theorem dX4_restore_7 : decode cX4_restore 7 = .ok (.iadd, 1) := by decide +kernel
theorem dX4_restore_8 : decode cX4_restore 8 = .ok (.iconst 1, 1) := by decide +kernel
theorem dX4_restore_9 : decode cX4_restore 9 = .ok (.isub, 1) := by decide +kernel
theorem dX4_restore_10 : decode cX4_restore 10 = .ok (.bipush 10, 2) := by decide +kernel
theorem dX4_restore_12 : decode cX4_restore 12 = .ok (.irem, 1) := by decide +kernel
theorem dX4_restore_13 : decode cX4_restore 13 = .ok (.putfield 17, 3) := by decide +kernel
theorem dX4_restore_16 : decode cX4_restore 16 = .ok (.aload_n 0, 1) := by decide +kernel
theorem dX4_restore_17 : decode cX4_restore 17 = .ok (.dup, 1) := by decide +kernel
theorem dX4_restore_18 : decode cX4_restore 18 = .ok (.getfield 21, 3) := by decide +kernel
theorem dX4_restore_21 : decode cX4_restore 21 = .ok (.iconst 1, 1) := by decide +kernel
theorem dX4_restore_22 : decode cX4_restore 22 = .ok (.isub, 1) := by decide +kernel
theorem dX4_restore_23 : decode cX4_restore 23 = .ok (.putfield 21, 3) := by decide +kernel
theorem dX4_restore_26 : decode cX4_restore 26 = .ok (.aload_n 1, 1) := by decide +kernel
theorem dX4_restore_27 : decode cX4_restore 27 = .ok (.aload_n 0, 1) := by decide +kernel
theorem dX4_restore_28 : decode cX4_restore 28 = .ok (.getfield 11, 3) := by decide +kernel
theorem dX4_restore_31 : decode cX4_restore 31 = .ok (.aload_n 0, 1) := by decide +kernel
theorem dX4_restore_32 : decode cX4_restore 32 = .ok (.getfield 17, 3) := by decide +kernel
theorem dX4_restore_35 : decode cX4_restore 35 = .ok (.aaload, 1) := by decide +kernel
theorem dX4_restore_36 : decode cX4_restore 36 = .ok (.invokevirtual 25, 3) := by decide +kernel
theorem dX4_restore_39 : decode cX4_restore 39 = .ok (.return_, 1) := by decide +kernel
theorem dX4_forgetAll_0 : decode cX4_forgetAll 0 = .ok (.aload_n 0, 1) := by decide +kernel
theorem dX4_forgetAll_1 : decode cX4_forgetAll 1 = .ok (.iconst 0, 1) := by decide +kernel
theorem dX4_forgetAll_2 : decode cX4_forgetAll 2 = .ok (.putfield 21, 3) := by decide +kernel
theorem dX4_forgetAll_5 : decode cX4_forgetAll 5 = .ok (.return_, 1) := by decide +kernel
theorem dX5_init_0 : decode cX5_init 0 = .ok (.aload_n 0, 1) := by decide +kernel
theorem dX5_init_1 : decode cX5_init 1 = .ok (.invokespecial 3, 3) := by decide +kernel
theorem dX5_init_4 : decode cX5_init 4 = .ok (.aload_n 0, 1) := by decide +kernel
theorem dX5_init_5 : decode cX5_init 5 = .ok (.bipush 6, 2) := by decide +kernel
theorem dX5_init_7 : decode cX5_init 7 = .ok (.newarray .int, 2) := by decide +kernel
theorem dX5_init_9 : decode cX5_init 9 = .ok (.putfield 9, 3) := by decide +kernel
theorem dX5_init_12 : decode cX5_init 12 = .ok (.aload_n 0, 1) := by decide +kernel
theorem dX5_init_13 : decode cX5_init 13 = .ok (.bipush 6, 2) := by decide +kernel
theorem dX5_init_15 : decode cX5_init 15 = .ok (.newarray .int, 2) := by decide +kernel
theorem dX5_init_17 : decode cX5_init 17 = .ok (.putfield 15, 3) := by decide +kernel
theorem dX5_init_20 : decode cX5_init 20 = .ok (.aload_n 0, 1) := by decide +kernel
theorem dX5_init_21 : decode cX5_init 21 = .ok (.invokevirtual 18, 3) := by decide +kernel
theorem dX5_init_24 : decode cX5_init 24 = .ok (.return_, 1) := by decide +kernel
theorem dX5_startAnew_0 : decode cX5_startAnew 0 = .ok (.aload_n 0, 1) := by decide +kernel
theorem dX5_startAnew_1 : decode cX5_startAnew 1 = .ok (.iconst 3, 1) := by decide +kernel
theorem dX5_startAnew_2 : decode cX5_startAnew 2 = .ok (.putfield 21, 3) := by decide +kernel
theorem dX5_startAnew_5 : decode cX5_startAnew 5 = .ok (.iconst 0, 1) := by decide +kernel
theorem dX5_startAnew_6 : decode cX5_startAnew 6 = .ok (.istore_n 1, 1) := by decide +kernel
theorem dX5_startAnew_7 : decode cX5_startAnew 7 = .ok (.iload_n 1, 1) := by decide +kernel
theorem dX5_startAnew_8 : decode cX5_startAnew 8 = .ok (.bipush 6, 2) := by decide +kernel
theorem dX5_startAnew_10 : decode cX5_startAnew 10 = .ok (.if_icmp .ge 24, 3) := by decide +kernel
theorem dX5_startAnew_13 : decode cX5_startAnew 13 = .ok (.aload_n 0, 1) := by decide +kernel
theorem dX5_startAnew_14 : decode cX5_startAnew 14 = .ok (.getfield 9, 3) := by decide +kernel
theorem dX5_startAnew_17 : decode cX5_startAnew 17 = .ok (.iload_n 1, 1) := by decide +kernel
theorem dX5_startAnew_18 : decode cX5_startAnew 18 = .ok (.iconst 1, 1) := by decide +kernel
theorem dX5_startAnew_19 : decode cX5_startAnew 19 = .ok (.iastore, 1) := by decide +kernel
theorem dX5_startAnew_20 : decode cX5_startAnew 20 = .ok (.aload_n 0, 1) := by decide +kernel
theorem dX5_startAnew_21 : decode cX5_startAnew 21 = .ok (.getfield 15, 3) := by decide +kernel
theorem dX5_startAnew_24 : decode cX5_startAnew 24 = .ok (.iload_n 1, 1) := by decide +kernel
theorem dX5_startAnew_25 : decode cX5_startAnew 25 = .ok (.bipush 9, 2) := by decide +kernel
theorem dX5_startAnew_27 : decode cX5_startAnew 27 = .ok (.iastore, 1) := by decide +kernel
theorem dX5_startAnew_28 : decode cX5_startAnew 28 = .ok (.iinc 1 1, 3) := by decide +kernel
theorem dX5_startAnew_31 : decode cX5_startAnew 31 = .ok (.goto (-24), 3) := by decide +kernel
theorem dX5_startAnew_34 : decode cX5_startAnew 34 = .ok (.return_, 1) := by decide +kernel
theorem dX5_copyFrom_0 : decode cX5_copyFrom 0 = .ok (.aload_n 0, 1) := by decide +kernel
theorem dX5_copyFrom_1 : decode cX5_copyFrom 1 = .ok (.aload_n 1, 1) := by decide +kernel
theorem dX5_copyFrom_2 : decode cX5_copyFrom 2 = .ok (.getfield 21, 3) := by decide +kernel
theorem dX5_copyFrom_5 : decode cX5_copyFrom 5 = .ok (.putfield 21, 3) := by decide +kernel
theorem dX5_copyFrom_8 : decode cX5_copyFrom 8 = .ok (.aload_n 1, 1) := by decide +kernel
theorem dX5_copyFrom_9 : decode cX5_copyFrom 9 = .ok (.getfield 9, 3) := by decide +kernel
theorem dX5_copyFrom_12 : decode cX5_copyFrom 12 = .ok (.iconst 0, 1) := by decide +kernel
theorem dX5_copyFrom_13 : decode cX5_copyFrom 13 = .ok (.aload_n 0, 1) := by decide +kernel
theorem dX5_copyFrom_14 : decode cX5_copyFrom 14 = .ok (.getfield 9, 3) := by decide +kernel
theorem dX5_copyFrom_17 : decode cX5_copyFrom 17 = .ok (.iconst 0, 1) := by decide +kernel
theorem dX5_copyFrom_18 : decode cX5_copyFrom 18 = .ok (.bipush 6, 2) := by decide +kernel
theorem dX5_copyFrom_20 : decode cX5_copyFrom 20 = .ok (.invokestatic 25, 3) := by decide +kernel
theorem dX5_copyFrom_23 : decode cX5_copyFrom 23 = .ok (.aload_n 1, 1) := by decide +kernel
theorem dX5_copyFrom_24 : decode cX5_copyFrom 24 = .ok (.getfield 15, 3) := by decide +kernel
theorem dX5_copyFrom_27 : decode cX5_copyFrom 27 = .ok (.iconst 0, 1) := by decide +kernel
theorem dX5_copyFrom_28 : decode cX5_copyFrom 28 = .ok (.aload_n 0, 1) := by decide +kernel
theorem dX5_copyFrom_29 : decode cX5_copyFrom 29 = .ok (.getfield 15, 3) := by decide +kernel
theorem dX5_copyFrom_32 : decode cX5_copyFrom 32 = .ok (.iconst 0, 1) := by decide +kernel
theorem dX5_copyFrom_33 : decode cX5_copyFrom 33 = .ok (.bipush 6, 2) := by decide +kernel
theorem dX5_copyFrom_35 : decode cX5_copyFrom 35 = .ok (.invokestatic 25, 3) := by decide +kernel
theorem dX5_copyFrom_38 : decode cX5_copyFrom 38 = .ok (.return_, 1) := by decide +kernel
theorem dX5_allWeights_0 : decode cX5_allWeights 0 = .ok (.iconst 0, 1) := by decide +kernel
theorem dX5_allWeights_1 : decode cX5_allWeights 1 = .ok (.istore_n 1, 1) := by decide +kernel
theorem dX5_allWeights_2 : decode cX5_allWeights 2 = .ok (.iconst 0, 1) := by decide +kernel
theorem dX5_allWeights_3 : decode cX5_allWeights 3 = .ok (.istore_n 2, 1) := by decide +kernel
theorem dX5_allWeights_4 : decode cX5_allWeights 4 = .ok (.iload_n 2, 1) := by decide +kernel
theorem dX5_allWeights_5 : decode cX5_allWeights 5 = .ok (.aload_n 0, 1) := by decide +kernel
theorem dX5_allWeights_6 : decode cX5_allWeights 6 = .ok (.getfield 21, 3) := by decide +kernel
theorem dX5_allWeights_9 : decode cX5_allWeights 9 = .ok (.if_icmp .ge 18, 3) := by decide +kernel
theorem dX5_allWeights_12 : decode cX5_allWeights 12 = .ok (.iload_n 1, 1) := by decide +kernel
theorem dX5_allWeights_13 : decode cX5_allWeights 13 = .ok (.aload_n 0, 1) := by decide +kernel
theorem dX5_allWeights_14 : decode cX5_allWeights 14 = .ok (.getfield 9, 3) := by decide +kernel
theorem dX5_allWeights_17 : decode cX5_allWeights 17 = .ok (.iload_n 2, 1) := by decide +kernel
theorem dX5_allWeights_18 : decode cX5_allWeights 18 = .ok (.iaload, 1) := by decide +kernel
theorem dX5_allWeights_19 : decode cX5_allWeights 19 = .ok (.iadd, 1) := by decide +kernel
theorem dX5_allWeights_20 : decode cX5_allWeights 20 = .ok (.istore_n 1, 1) := by decide +kernel
theorem dX5_allWeights_21 : decode cX5_allWeights 21 = .ok (.iinc 2 1, 3) := by decide +kernel
theorem dX5_allWeights_24 : decode cX5_allWeights 24 = .ok (.goto (-20), 3) := by decide +kernel
theorem dX5_allWeights_27 : decode cX5_allWeights 27 = .ok (.iload_n 1, 1) := by decide +kernel
theorem dX5_allWeights_28 : decode cX5_allWeights 28 = .ok (.ireturn, 1) := by decide +kernel
theorem dX6_init_0 : decode cX6_init 0 = .ok (.aload_n 0, 1) := by decide +kernel
theorem dX6_init_1 : decode cX6_init 1 = .ok (.invokespecial 3, 3) := by decide +kernel
theorem dX6_init_4 : decode cX6_init 4 = .ok (.aload_n 0, 1) := by decide +kernel
theorem dX6_init_5 : decode cX6_init 5 = .ok (.new 9, 3) := by decide +kernel
theorem dX6_init_8 : decode cX6_init 8 = .ok (.dup, 1) := by decide +kernel
theorem dX6_init_9 : decode cX6_init 9 = .ok (.invokespecial 11, 3) := by decide +kernel
theorem dX6_init_12 : decode cX6_init 12 = .ok (.putfield 12, 3) := by decide +kernel
theorem dX6_init_15 : decode cX6_init 15 = .ok (.aload_n 0, 1) := by decide +kernel
theorem dX6_init_16 : decode cX6_init 16 = .ok (.iconst 4, 1) := by decide +kernel
theorem dX6_init_17 : decode cX6_init 17 = .ok (.newarray .int, 2) := by decide +kernel
theorem dX6_init_19 : decode cX6_init 19 = .ok (.putfield 18, 3) := by decide +kernel
theorem dX6_init_22 : decode cX6_init 22 = .ok (.aload_n 0, 1) := by decide +kernel
theorem dX6_init_23 : decode cX6_init 23 = .ok (.bipush 6, 2) := by decide +kernel
theorem dX6_init_25 : decode cX6_init 25 = .ok (.newarray .int, 2) := by decide +kernel
theorem dX6_init_27 : decode cX6_init 27 = .ok (.putfield 22, 3) := by decide +kernel
theorem dX6_init_30 : decode cX6_init 30 = .ok (.aload_n 0, 1) := by decide +kernel
theorem dX6_init_31 : decode cX6_init 31 = .ok (.bipush 6, 2) := by decide +kernel
theorem dX6_init_33 : decode cX6_init 33 = .ok (.newarray .int, 2) := by decide +kernel
theorem dX6_init_35 : decode cX6_init 35 = .ok (.putfield 25, 3) := by decide +kernel
theorem dX6_init_38 : decode cX6_init 38 = .ok (.aload_n 0, 1) := by decide +kernel
theorem dX6_init_39 : decode cX6_init 39 = .ok (.bipush 6, 2) := by decide +kernel
theorem dX6_init_41 : decode cX6_init 41 = .ok (.newarray .int, 2) := by decide +kernel
theorem dX6_init_43 : decode cX6_init 43 = .ok (.putfield 28, 3) := by decide +kernel
theorem dX6_init_46 : decode cX6_init 46 = .ok (.aload_n 0, 1) := by decide +kernel
theorem dX6_init_47 : decode cX6_init 47 = .ok (.iconst 0, 1) := by decide +kernel
theorem dX6_init_48 : decode cX6_init 48 = .ok (.putfield 31, 3) := by decide +kernel
theorem dX6_init_51 : decode cX6_init 51 = .ok (.aload_n 0, 1) := by decide +kernel
theorem dX6_init_52 : decode cX6_init 52 = .ok (.iconst 0, 1) := by decide +kernel
theorem dX6_init_53 : decode cX6_init 53 = .ok (.putfield 35, 3) := by decide +kernel
theorem dX6_init_56 : decode cX6_init 56 = .ok (.aload_n 0, 1) := by decide +kernel
theorem dX6_init_57 : decode cX6_init 57 = .ok (.iconst 0, 1) := by decide +kernel
theorem dX6_init_58 : decode cX6_init 58 = .ok (.putfield 38, 3) := by decide +kernel
theorem dX6_init_61 : decode cX6_init 61 = .ok (.aload_n 0, 1) := by decide +kernel
theorem dX6_init_62 : decode cX6_init 62 = .ok (.iconst 0, 1) := by decide +kernel
theorem dX6_init_63 : decode cX6_init 63 = .ok (.putfield 41, 3) := by decide +kernel
theorem dX6_init_66 : decode cX6_init 66 = .ok (.aload_n 0, 1) := by decide +kernel
theorem dX6_init_67 : decode cX6_init 67 = .ok (.iconst (-1), 1) := by decide +kernel
theorem dX6_init_68 : decode cX6_init 68 = .ok (.putfield 44, 3) := by decide +kernel
theorem dX6_init_71 : decode cX6_init 71 = .ok (.aload_n 0, 1) := by decide +kernel
theorem dX6_init_72 : decode cX6_init 72 = .ok (.iconst 0, 1) := by decide +kernel
theorem dX6_init_73 : decode cX6_init 73 = .ok (.putfield 47, 3) := by decide +kernel
theorem dX6_init_76 : decode cX6_init 76 = .ok (.aload_n 0, 1) := by decide +kernel
theorem dX6_init_77 : decode cX6_init 77 = .ok (.iconst (-1), 1) := by decide +kernel
theorem dX6_init_78 : decode cX6_init 78 = .ok (.putfield 50, 3) := by decide +kernel
theorem dX6_init_81 : decode cX6_init 81 = .ok (.aload_n 0, 1) := by decide +kernel
theorem dX6_init_82 : decode cX6_init 82 = .ok (.iconst 0, 1) := by decide +kernel
theorem dX6_init_83 : decode cX6_init 83 = .ok (.putfield 53, 3) := by decide +kernel
theorem dX6_init_86 : decode cX6_init 86 = .ok (.aload_n 0, 1) := by decide +kernel
theorem dX6_init_87 : decode cX6_init 87 = .ok (.iconst 0, 1) := by decide +kernel
theorem dX6_init_88 : decode cX6_init 88 = .ok (.putfield 56, 3) := by decide +kernel
theorem dX6_init_91 : decode cX6_init 91 = .ok (.aload_n 0, 1) := by decide +kernel
theorem dX6_init_92 : decode cX6_init 92 = .ok (.aload_n 1, 1) := by decide +kernel
theorem dX6_init_93 : decode cX6_init 93 = .ok (.putfield 59, 3) := by decide +kernel
theorem dX6_init_96 : decode cX6_init 96 = .ok (.return_, 1) := by decide +kernel
theorem dX6_readAll_0 : decode cX6_readAll 0 = .ok (.aload_n 0, 1) := by decide +kernel
theorem dX6_readAll_1 : decode cX6_readAll 1 = .ok (.iload_n 1, 1) := by decide +kernel
theorem dX6_readAll_2 : decode cX6_readAll 2 = .ok (.invokevirtual 62, 3) := by decide +kernel
theorem dX6_readAll_5 : decode cX6_readAll 5 = .ok (.aload_n 0, 1) := by decide +kernel
theorem dX6_readAll_6 : decode cX6_readAll 6 = .ok (.getfield 31, 3) := by decide +kernel
theorem dX6_readAll_9 : decode cX6_readAll 9 = .ok (.istore_n 2, 1) := by decide +kernel
theorem dX6_readAll_10 : decode cX6_readAll 10 = .ok (.iload_n 2, 1) := by decide +kernel
theorem dX6_readAll_11 : decode cX6_readAll 11 = .ok (.ifCond .le 131, 3) := by decide +kernel
theorem dX6_readAll_14 : decode cX6_readAll 14 = .ok (.aload_n 0, 1) := by decide +kernel
theorem dX6_readAll_15 : decode cX6_readAll 15 = .ok (.getfield 44, 3) := by decide +kernel
theorem dX6_readAll_18 : decode cX6_readAll 18 = .ok (.iconst (-1), 1) := by decide +kernel
theorem dX6_readAll_19 : decode cX6_readAll 19 = .ok (.if_icmp .ne 123, 3) := by decide +kernel
theorem dX6_readAll_22 : decode cX6_readAll 22 = .ok (.aload_n 0, 1) := by decide +kernel
theorem dX6_readAll_23 : decode cX6_readAll 23 = .ok (.invokevirtual 66, 3) := by decide +kernel
theorem dX6_readAll_26 : decode cX6_readAll 26 = .ok (.aload_n 0, 1) := by decide +kernel
theorem dX6_readAll_27 : decode cX6_readAll 27 = .ok (.getfield 50, 3) := by decide +kernel
theorem dX6_readAll_30 : decode cX6_readAll 30 = .ok (.lookupswitch 98 #[(-1, 58), (108, 77), (110, 63), (115, 84), (119, 70), (121, 91)], 58) := by decide +kernel
theorem dX6_readAll_88 : decode cX6_readAll 88 = .ok (.aload_n 0, 1) := by decide +kernel
theorem dX6_readAll_89 : decode cX6_readAll 89 = .ok (.getfield 44, 3) := by decide +kernel
theorem dX6_readAll_92 : decode cX6_readAll 92 = .ok (.ireturn, 1) := by decide +kernel
theorem dX6_readAll_93 : decode cX6_readAll 93 = .ok (.aload_n 0, 1) := by decide +kernel
theorem dX6_readAll_94 : decode cX6_readAll 94 = .ok (.invokevirtual 69, 3) := by decide +kernel
theorem dX6_readAll_97 : decode cX6_readAll 97 = .ok (.goto 35, 3) := by decide +kernel
theorem dX6_readAll_100 : decode cX6_readAll 100 = .ok (.aload_n 0, 1) := by decide +kernel
theorem dX6_readAll_101 : decode cX6_readAll 101 = .ok (.invokevirtual 72, 3) := by decide +kernel
theorem dX6_readAll_104 : decode cX6_readAll 104 = .ok (.goto 28, 3) := by decide +kernel
theorem dX6_readAll_107 : decode cX6_readAll 107 = .ok (.aload_n 0, 1) := by decide +kernel
theorem dX6_readAll_108 : decode cX6_readAll 108 = .ok (.invokevirtual 75, 3) := by decide +kernel
theorem dX6_readAll_111 : decode cX6_readAll 111 = .ok (.goto 21, 3) := by decide +kernel
theorem dX6_readAll_114 : decode cX6_readAll 114 = .ok (.aload_n 0, 1) := by decide +kernel
theorem dX6_readAll_115 : decode cX6_readAll 115 = .ok (.invokevirtual 78, 3) := by decide +kernel
theorem dX6_readAll_118 : decode cX6_readAll 118 = .ok (.goto 14, 3) := by decide +kernel
theorem dX6_readAll_121 : decode cX6_readAll 121 = .ok (.aload_n 0, 1) := by decide +kernel
theorem dX6_readAll_122 : decode cX6_readAll 122 = .ok (.invokevirtual 81, 3) := by decide +kernel
theorem dX6_readAll_125 : decode cX6_readAll 125 = .ok (.goto 7, 3) := by decide +kernel
theorem dX6_readAll_128 : decode cX6_readAll 128 = .ok (.aload_n 0, 1) := by decide +kernel
theorem dX6_readAll_129 : decode cX6_readAll 129 = .ok (.invokevirtual 84, 3) := by decide +kernel
theorem dX6_readAll_132 : decode cX6_readAll 132 = .ok (.aload_n 0, 1) := by decide +kernel
theorem dX6_readAll_133 : decode cX6_readAll 133 = .ok (.invokevirtual 87, 3) := by decide +kernel
theorem dX6_readAll_136 : decode cX6_readAll 136 = .ok (.iinc 2 (-1), 3) := by decide +kernel
theorem dX6_readAll_139 : decode cX6_readAll 139 = .ok (.goto (-129), 3) := by decide +kernel
theorem dX6_readAll_142 : decode cX6_readAll 142 = .ok (.aload_n 0, 1) := by decide +kernel
theorem dX6_readAll_143 : decode cX6_readAll 143 = .ok (.getfield 44, 3) := by decide +kernel
theorem dX6_readAll_146 : decode cX6_readAll 146 = .ok (.ireturn, 1) := by decide +kernel
theorem dX6_startAnew_0 : decode cX6_startAnew 0 = .ok (.aload_n 0, 1) := by decide +kernel
theorem dX6_startAnew_1 : decode cX6_startAnew 1 = .ok (.getfield 12, 3) := by decide +kernel
theorem dX6_startAnew_4 : decode cX6_startAnew 4 = .ok (.invokevirtual 90, 3) := by decide +kernel
theorem dX6_startAnew_7 : decode cX6_startAnew 7 = .ok (.aload_n 0, 1) := by decide +kernel
theorem dX6_startAnew_8 : decode cX6_startAnew 8 = .ok (.iload_n 1, 1) := by decide +kernel
theorem dX6_startAnew_9 : decode cX6_startAnew 9 = .ok (.putfield 31, 3) := by decide +kernel
theorem dX6_startAnew_12 : decode cX6_startAnew 12 = .ok (.aload_n 0, 1) := by decide +kernel
theorem dX6_startAnew_13 : decode cX6_startAnew 13 = .ok (.iconst 0, 1) := by decide +kernel
theorem dX6_startAnew_14 : decode cX6_startAnew 14 = .ok (.putfield 35, 3) := by decide +kernel
theorem dX6_startAnew_17 : decode cX6_startAnew 17 = .ok (.aload_n 0, 1) := by decide +kernel
theorem dX6_startAnew_18 : decode cX6_startAnew 18 = .ok (.iconst 0, 1) := by decide +kernel
theorem dX6_startAnew_19 : decode cX6_startAnew 19 = .ok (.putfield 38, 3) := by decide +kernel
theorem dX6_startAnew_22 : decode cX6_startAnew 22 = .ok (.aload_n 0, 1) := by decide +kernel
theorem dX6_startAnew_23 : decode cX6_startAnew 23 = .ok (.iconst 0, 1) := by decide +kernel
theorem dX6_startAnew_24 : decode cX6_startAnew 24 = .ok (.putfield 41, 3) := by decide +kernel
theorem dX6_startAnew_27 : decode cX6_startAnew 27 = .ok (.aload_n 0, 1) := by decide +kernel
theorem dX6_startAnew_28 : decode cX6_startAnew 28 = .ok (.iconst (-1), 1) := by decide +kernel
theorem dX6_startAnew_29 : decode cX6_startAnew 29 = .ok (.putfield 44, 3) := by decide +kernel
theorem dX6_startAnew_32 : decode cX6_startAnew 32 = .ok (.aload_n 0, 1) := by decide +kernel
theorem dX6_startAnew_33 : decode cX6_startAnew 33 = .ok (.iconst 0, 1) := by decide +kernel
theorem dX6_startAnew_34 : decode cX6_startAnew 34 = .ok (.putfield 47, 3) := by decide +kernel
theorem dX6_startAnew_37 : decode cX6_startAnew 37 = .ok (.return_, 1) := by decide +kernel
theorem dX6_readPlaces_0 : decode cX6_readPlaces 0 = .ok (.aload_n 0, 1) := by decide +kernel
theorem dX6_readPlaces_1 : decode cX6_readPlaces 1 = .ok (.getfield 41, 3) := by decide +kernel
theorem dX6_readPlaces_4 : decode cX6_readPlaces 4 = .ok (.ifCond .le 7, 3) := by decide +kernel
theorem dX6_readPlaces_7 : decode cX6_readPlaces 7 = .ok (.aload_n 0, 1) := by decide +kernel
theorem dX6_readPlaces_8 : decode cX6_readPlaces 8 = .ok (.invokevirtual 84, 3) := by decide +kernel
theorem dX6_readPlaces_11 : decode cX6_readPlaces 11 = .ok (.aload_n 0, 1) := by decide +kernel
theorem dX6_readPlaces_12 : decode cX6_readPlaces 12 = .ok (.getfield 12, 3) := by decide +kernel
theorem dX6_readPlaces_15 : decode cX6_readPlaces 15 = .ok (.aload_n 0, 1) := by decide +kernel
theorem dX6_readPlaces_16 : decode cX6_readPlaces 16 = .ok (.iconst 2, 1) := by decide +kernel
theorem dX6_readPlaces_17 : decode cX6_readPlaces 17 = .ok (.bipush 6, 2) := by decide +kernel
theorem dX6_readPlaces_19 : decode cX6_readPlaces 19 = .ok (.invokevirtual 92, 3) := by decide +kernel
theorem dX6_readPlaces_22 : decode cX6_readPlaces 22 = .ok (.putfield 96, 3) := by decide +kernel
theorem dX6_readPlaces_25 : decode cX6_readPlaces 25 = .ok (.return_, 1) := by decide +kernel
theorem dX6_readWeight_0 : decode cX6_readWeight 0 = .ok (.aload_n 0, 1) := by decide +kernel
theorem dX6_readWeight_1 : decode cX6_readWeight 1 = .ok (.iconst 0, 1) := by decide +kernel
theorem dX6_readWeight_2 : decode cX6_readWeight 2 = .ok (.aload_n 0, 1) := by decide +kernel
theorem dX6_readWeight_3 : decode cX6_readWeight 3 = .ok (.getfield 12, 3) := by decide +kernel
theorem dX6_readWeight_6 : decode cX6_readWeight 6 = .ok (.getfield 96, 3) := by decide +kernel
theorem dX6_readWeight_9 : decode cX6_readWeight 9 = .ok (.iconst 1, 1) := by decide +kernel
theorem dX6_readWeight_10 : decode cX6_readWeight 10 = .ok (.isub, 1) := by decide +kernel
theorem dX6_readWeight_11 : decode cX6_readWeight 11 = .ok (.invokevirtual 92, 3) := by decide +kernel
theorem dX6_readWeight_14 : decode cX6_readWeight 14 = .ok (.istore_n 1, 1) := by decide +kernel
theorem dX6_readWeight_15 : decode cX6_readWeight 15 = .ok (.aload_n 0, 1) := by decide +kernel
theorem dX6_readWeight_16 : decode cX6_readWeight 16 = .ok (.getfield 12, 3) := by decide +kernel
theorem dX6_readWeight_19 : decode cX6_readWeight 19 = .ok (.getfield 99, 3) := by decide +kernel
theorem dX6_readWeight_22 : decode cX6_readWeight 22 = .ok (.iload_n 1, 1) := by decide +kernel
theorem dX6_readWeight_23 : decode cX6_readWeight 23 = .ok (.aload_n 0, 1) := by decide +kernel
theorem dX6_readWeight_24 : decode cX6_readWeight 24 = .ok (.iconst 1, 1) := by decide +kernel
theorem dX6_readWeight_25 : decode cX6_readWeight 25 = .ok (.bipush 9, 2) := by decide +kernel
theorem dX6_readWeight_27 : decode cX6_readWeight 27 = .ok (.invokevirtual 92, 3) := by decide +kernel
theorem dX6_readWeight_30 : decode cX6_readWeight 30 = .ok (.iastore, 1) := by decide +kernel
theorem dX6_readWeight_31 : decode cX6_readWeight 31 = .ok (.return_, 1) := by decide +kernel
theorem dX6_readLife_0 : decode cX6_readLife 0 = .ok (.aload_n 0, 1) := by decide +kernel
theorem dX6_readLife_1 : decode cX6_readLife 1 = .ok (.iconst 0, 1) := by decide +kernel
theorem dX6_readLife_2 : decode cX6_readLife 2 = .ok (.aload_n 0, 1) := by decide +kernel
theorem dX6_readLife_3 : decode cX6_readLife 3 = .ok (.getfield 12, 3) := by decide +kernel
theorem dX6_readLife_6 : decode cX6_readLife 6 = .ok (.getfield 96, 3) := by decide +kernel
theorem dX6_readLife_9 : decode cX6_readLife 9 = .ok (.iconst 1, 1) := by decide +kernel
theorem dX6_readLife_10 : decode cX6_readLife 10 = .ok (.isub, 1) := by decide +kernel
theorem dX6_readLife_11 : decode cX6_readLife 11 = .ok (.invokevirtual 92, 3) := by decide +kernel
theorem dX6_readLife_14 : decode cX6_readLife 14 = .ok (.istore_n 1, 1) := by decide +kernel
theorem dX6_readLife_15 : decode cX6_readLife 15 = .ok (.aload_n 0, 1) := by decide +kernel
theorem dX6_readLife_16 : decode cX6_readLife 16 = .ok (.getfield 12, 3) := by decide +kernel
theorem dX6_readLife_19 : decode cX6_readLife 19 = .ok (.getfield 102, 3) := by decide +kernel
theorem dX6_readLife_22 : decode cX6_readLife 22 = .ok (.iload_n 1, 1) := by decide +kernel
theorem dX6_readLife_23 : decode cX6_readLife 23 = .ok (.aload_n 0, 1) := by decide +kernel
theorem dX6_readLife_24 : decode cX6_readLife 24 = .ok (.iconst 1, 1) := by decide +kernel
theorem dX6_readLife_25 : decode cX6_readLife 25 = .ok (.bipush 30, 2) := by decide +kernel
theorem dX6_readLife_27 : decode cX6_readLife 27 = .ok (.invokevirtual 92, 3) := by decide +kernel
theorem dX6_readLife_30 : decode cX6_readLife 30 = .ok (.iastore, 1) := by decide +kernel
theorem dX6_readLife_31 : decode cX6_readLife 31 = .ok (.return_, 1) := by decide +kernel
theorem dX6_readShip_0 : decode cX6_readShip 0 = .ok (.aload_n 0, 1) := by decide +kernel
theorem dX6_readShip_1 : decode cX6_readShip 1 = .ok (.getfield 35, 3) := by decide +kernel
theorem dX6_readShip_4 : decode cX6_readShip 4 = .ok (.iconst 4, 1) := by decide +kernel
theorem dX6_readShip_5 : decode cX6_readShip 5 = .ok (.if_icmp .lt 8, 3) := by decide +kernel
theorem dX6_readShip_8 : decode cX6_readShip 8 = .ok (.aload_n 0, 1) := by decide +kernel
theorem dX6_readShip_9 : decode cX6_readShip 9 = .ok (.invokevirtual 84, 3) := by decide +kernel
theorem dX6_readShip_12 : decode cX6_readShip 12 = .ok (.return_, 1) := by decide +kernel
theorem dX6_readShip_13 : decode cX6_readShip 13 = .ok (.aload_n 0, 1) := by decide +kernel
theorem dX6_readShip_14 : decode cX6_readShip 14 = .ok (.getfield 18, 3) := by decide +kernel
theorem dX6_readShip_17 : decode cX6_readShip 17 = .ok (.aload_n 0, 1) := by decide +kernel
theorem dX6_readShip_18 : decode cX6_readShip 18 = .ok (.getfield 35, 3) := by decide +kernel
theorem dX6_readShip_21 : decode cX6_readShip 21 = .ok (.aload_n 0, 1) := by decide +kernel
theorem dX6_readShip_22 : decode cX6_readShip 22 = .ok (.iconst 0, 1) := by decide +kernel
theorem dX6_readShip_23 : decode cX6_readShip 23 = .ok (.bipush 9, 2) := by decide +kernel
theorem dX6_readShip_25 : decode cX6_readShip 25 = .ok (.invokevirtual 92, 3) := by decide +kernel
theorem dX6_readShip_28 : decode cX6_readShip 28 = .ok (.iastore, 1) := by decide +kernel
theorem dX6_readShip_29 : decode cX6_readShip 29 = .ok (.aload_n 0, 1) := by decide +kernel
theorem dX6_readShip_30 : decode cX6_readShip 30 = .ok (.dup, 1) := by decide +kernel
theorem dX6_readShip_31 : decode cX6_readShip 31 = .ok (.getfield 35, 3) := by decide +kernel
theorem dX6_readShip_34 : decode cX6_readShip 34 = .ok (.iconst 1, 1) := by decide +kernel
theorem dX6_readShip_35 : decode cX6_readShip 35 = .ok (.iadd, 1) := by decide +kernel
theorem dX6_readShip_36 : decode cX6_readShip 36 = .ok (.putfield 35, 3) := by decide +kernel
theorem dX6_readShip_39 : decode cX6_readShip 39 = .ok (.return_, 1) := by decide +kernel
theorem dX6_readSpare_0 : decode cX6_readSpare 0 = .ok (.aload_n 0, 1) := by decide +kernel
theorem dX6_readSpare_1 : decode cX6_readSpare 1 = .ok (.getfield 38, 3) := by decide +kernel
theorem dX6_readSpare_4 : decode cX6_readSpare 4 = .ok (.bipush 6, 2) := by decide +kernel
theorem dX6_readSpare_6 : decode cX6_readSpare 6 = .ok (.if_icmp .lt 8, 3) := by decide +kernel
theorem dX6_readSpare_9 : decode cX6_readSpare 9 = .ok (.aload_n 0, 1) := by decide +kernel
theorem dX6_readSpare_10 : decode cX6_readSpare 10 = .ok (.invokevirtual 84, 3) := by decide +kernel
theorem dX6_readSpare_13 : decode cX6_readSpare 13 = .ok (.return_, 1) := by decide +kernel
theorem dX6_readSpare_14 : decode cX6_readSpare 14 = .ok (.aload_n 0, 1) := by decide +kernel
theorem dX6_readSpare_15 : decode cX6_readSpare 15 = .ok (.getfield 22, 3) := by decide +kernel
theorem dX6_readSpare_18 : decode cX6_readSpare 18 = .ok (.aload_n 0, 1) := by decide +kernel
theorem dX6_readSpare_19 : decode cX6_readSpare 19 = .ok (.getfield 38, 3) := by decide +kernel
theorem dX6_readSpare_22 : decode cX6_readSpare 22 = .ok (.aload_n 0, 1) := by decide +kernel
theorem dX6_readSpare_23 : decode cX6_readSpare 23 = .ok (.iconst 0, 1) := by decide +kernel
theorem dX6_readSpare_24 : decode cX6_readSpare 24 = .ok (.aload_n 0, 1) := by decide +kernel
theorem dX6_readSpare_25 : decode cX6_readSpare 25 = .ok (.getfield 12, 3) := by decide +kernel
theorem dX6_readSpare_28 : decode cX6_readSpare 28 = .ok (.getfield 96, 3) := by decide +kernel
theorem dX6_readSpare_31 : decode cX6_readSpare 31 = .ok (.iconst 1, 1) := by decide +kernel
theorem dX6_readSpare_32 : decode cX6_readSpare 32 = .ok (.isub, 1) := by decide +kernel
theorem dX6_readSpare_33 : decode cX6_readSpare 33 = .ok (.invokevirtual 92, 3) := by decide +kernel
theorem dX6_readSpare_36 : decode cX6_readSpare 36 = .ok (.iastore, 1) := by decide +kernel
theorem dX6_readSpare_37 : decode cX6_readSpare 37 = .ok (.aload_n 0, 1) := by decide +kernel
theorem dX6_readSpare_38 : decode cX6_readSpare 38 = .ok (.getfield 25, 3) := by decide +kernel
theorem dX6_readSpare_41 : decode cX6_readSpare 41 = .ok (.aload_n 0, 1) := by decide +kernel
theorem dX6_readSpare_42 : decode cX6_readSpare 42 = .ok (.getfield 38, 3) := by decide +kernel
theorem dX6_readSpare_45 : decode cX6_readSpare 45 = .ok (.aload_n 0, 1) := by decide +kernel
theorem dX6_readSpare_46 : decode cX6_readSpare 46 = .ok (.iconst 0, 1) := by decide +kernel
theorem dX6_readSpare_47 : decode cX6_readSpare 47 = .ok (.bipush 9, 2) := by decide +kernel
theorem dX6_readSpare_49 : decode cX6_readSpare 49 = .ok (.invokevirtual 92, 3) := by decide +kernel
theorem dX6_readSpare_52 : decode cX6_readSpare 52 = .ok (.iastore, 1) := by decide +kernel
theorem dX6_readSpare_53 : decode cX6_readSpare 53 = .ok (.aload_n 0, 1) := by decide +kernel
theorem dX6_readSpare_54 : decode cX6_readSpare 54 = .ok (.getfield 25, 3) := by decide +kernel
theorem dX6_readSpare_57 : decode cX6_readSpare 57 = .ok (.aload_n 0, 1) := by decide +kernel
theorem dX6_readSpare_58 : decode cX6_readSpare 58 = .ok (.getfield 38, 3) := by decide +kernel
theorem dX6_readSpare_61 : decode cX6_readSpare 61 = .ok (.iaload, 1) := by decide +kernel
theorem dX6_readSpare_62 : decode cX6_readSpare 62 = .ok (.invokestatic 105, 3) := by decide +kernel
theorem dX6_readSpare_65 : decode cX6_readSpare 65 = .ok (.ifCond .ne 7, 3) := by decide +kernel
theorem dX6_readSpare_68 : decode cX6_readSpare 68 = .ok (.aload_n 0, 1) := by decide +kernel
theorem dX6_readSpare_69 : decode cX6_readSpare 69 = .ok (.invokevirtual 84, 3) := by decide +kernel
theorem dX6_readSpare_72 : decode cX6_readSpare 72 = .ok (.aload_n 0, 1) := by decide +kernel
theorem dX6_readSpare_73 : decode cX6_readSpare 73 = .ok (.getfield 28, 3) := by decide +kernel
theorem dX6_readSpare_76 : decode cX6_readSpare 76 = .ok (.aload_n 0, 1) := by decide +kernel
theorem dX6_readSpare_77 : decode cX6_readSpare 77 = .ok (.getfield 38, 3) := by decide +kernel
theorem dX6_readSpare_80 : decode cX6_readSpare 80 = .ok (.aload_n 0, 1) := by decide +kernel
theorem dX6_readSpare_81 : decode cX6_readSpare 81 = .ok (.iconst 0, 1) := by decide +kernel
theorem dX6_readSpare_82 : decode cX6_readSpare 82 = .ok (.bipush 30, 2) := by decide +kernel
theorem dX6_readSpare_84 : decode cX6_readSpare 84 = .ok (.invokevirtual 92, 3) := by decide +kernel
theorem dX6_readSpare_87 : decode cX6_readSpare 87 = .ok (.iastore, 1) := by decide +kernel
theorem dX6_readSpare_88 : decode cX6_readSpare 88 = .ok (.aload_n 0, 1) := by decide +kernel
theorem dX6_readSpare_89 : decode cX6_readSpare 89 = .ok (.dup, 1) := by decide +kernel
theorem dX6_readSpare_90 : decode cX6_readSpare 90 = .ok (.getfield 38, 3) := by decide +kernel
theorem dX6_readSpare_93 : decode cX6_readSpare 93 = .ok (.iconst 1, 1) := by decide +kernel
theorem dX6_readSpare_94 : decode cX6_readSpare 94 = .ok (.iadd, 1) := by decide +kernel
theorem dX6_readSpare_95 : decode cX6_readSpare 95 = .ok (.putfield 38, 3) := by decide +kernel
theorem dX6_readSpare_98 : decode cX6_readSpare 98 = .ok (.return_, 1) := by decide +kernel
theorem dX6_readEnd_0 : decode cX6_readEnd 0 = .ok (.aload_n 0, 1) := by decide +kernel
theorem dX6_readEnd_1 : decode cX6_readEnd 1 = .ok (.getfield 44, 3) := by decide +kernel
theorem dX6_readEnd_4 : decode cX6_readEnd 4 = .ok (.iconst (-1), 1) := by decide +kernel
theorem dX6_readEnd_5 : decode cX6_readEnd 5 = .ok (.if_icmp .eq 4, 3) := by decide +kernel
theorem dX6_readEnd_8 : decode cX6_readEnd 8 = .ok (.return_, 1) := by decide +kernel
theorem dX6_readEnd_9 : decode cX6_readEnd 9 = .ok (.aload_n 0, 1) := by decide +kernel
theorem dX6_readEnd_10 : decode cX6_readEnd 10 = .ok (.invokevirtual 66, 3) := by decide +kernel
theorem dX6_readEnd_13 : decode cX6_readEnd 13 = .ok (.aload_n 0, 1) := by decide +kernel
theorem dX6_readEnd_14 : decode cX6_readEnd 14 = .ok (.getfield 50, 3) := by decide +kernel
theorem dX6_readEnd_17 : decode cX6_readEnd 17 = .ok (.bipush 59, 2) := by decide +kernel
theorem dX6_readEnd_19 : decode cX6_readEnd 19 = .ok (.if_icmp .eq 7, 3) := by decide +kernel
theorem dX6_readEnd_22 : decode cX6_readEnd 22 = .ok (.aload_n 0, 1) := by decide +kernel
theorem dX6_readEnd_23 : decode cX6_readEnd 23 = .ok (.invokevirtual 84, 3) := by decide +kernel
theorem dX6_readEnd_26 : decode cX6_readEnd 26 = .ok (.aload_n 0, 1) := by decide +kernel
theorem dX6_readEnd_27 : decode cX6_readEnd 27 = .ok (.dup, 1) := by decide +kernel
theorem dX6_readEnd_28 : decode cX6_readEnd 28 = .ok (.getfield 41, 3) := by decide +kernel
theorem dX6_readEnd_31 : decode cX6_readEnd 31 = .ok (.iconst 1, 1) := by decide +kernel
theorem dX6_readEnd_32 : decode cX6_readEnd 32 = .ok (.iadd, 1) := by decide +kernel
theorem dX6_readEnd_33 : decode cX6_readEnd 33 = .ok (.putfield 41, 3) := by decide +kernel
theorem dX6_readEnd_36 : decode cX6_readEnd 36 = .ok (.return_, 1) := by decide +kernel
