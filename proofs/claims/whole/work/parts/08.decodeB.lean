theorem dM_init_0 : decode mM_init.2.1 0 = .ok (.aload_n 0, 1) := by decide +kernel
theorem dM_init_1 : decode mM_init.2.1 1 = .ok (.invokespecial 1, 3) := by decide +kernel
theorem dM_init_4 : decode mM_init.2.1 4 = .ok (.aload_n 0, 1) := by decide +kernel
theorem dM_init_5 : decode mM_init.2.1 5 = .ok (.sipush 320, 3) := by decide +kernel
theorem dM_init_8 : decode mM_init.2.1 8 = .ok (.newarray .int, 2) := by decide +kernel
theorem dM_init_10 : decode mM_init.2.1 10 = .ok (.putfield 7, 3) := by decide +kernel
theorem dM_init_13 : decode mM_init.2.1 13 = .ok (.aload_n 0, 1) := by decide +kernel
theorem dM_init_14 : decode mM_init.2.1 14 = .ok (.iconst 4, 1) := by decide +kernel
theorem dM_init_15 : decode mM_init.2.1 15 = .ok (.newarray .int, 2) := by decide +kernel
theorem dM_init_17 : decode mM_init.2.1 17 = .ok (.putfield 13, 3) := by decide +kernel
theorem dM_init_20 : decode mM_init.2.1 20 = .ok (.aload_n 0, 1) := by decide +kernel
theorem dM_init_21 : decode mM_init.2.1 21 = .ok (.bipush 64, 2) := by decide +kernel
theorem dM_init_23 : decode mM_init.2.1 23 = .ok (.newarray .int, 2) := by decide +kernel
theorem dM_init_25 : decode mM_init.2.1 25 = .ok (.putfield 16, 3) := by decide +kernel
theorem dM_init_28 : decode mM_init.2.1 28 = .ok (.aload_n 0, 1) := by decide +kernel
theorem dM_init_29 : decode mM_init.2.1 29 = .ok (.sipush 176, 3) := by decide +kernel
theorem dM_init_32 : decode mM_init.2.1 32 = .ok (.newarray .int, 2) := by decide +kernel
theorem dM_init_34 : decode mM_init.2.1 34 = .ok (.putfield 19, 3) := by decide +kernel
theorem dM_init_37 : decode mM_init.2.1 37 = .ok (.aload_n 0, 1) := by decide +kernel
theorem dM_init_38 : decode mM_init.2.1 38 = .ok (.bipush 16, 2) := by decide +kernel
theorem dM_init_40 : decode mM_init.2.1 40 = .ok (.newarray .int, 2) := by decide +kernel
theorem dM_init_42 : decode mM_init.2.1 42 = .ok (.putfield 22, 3) := by decide +kernel
theorem dM_init_45 : decode mM_init.2.1 45 = .ok (.aload_n 0, 1) := by decide +kernel
theorem dM_init_46 : decode mM_init.2.1 46 = .ok (.bipush 16, 2) := by decide +kernel
theorem dM_init_48 : decode mM_init.2.1 48 = .ok (.newarray .int, 2) := by decide +kernel
theorem dM_init_50 : decode mM_init.2.1 50 = .ok (.putfield 25, 3) := by decide +kernel
theorem dM_init_53 : decode mM_init.2.1 53 = .ok (.aload_n 0, 1) := by decide +kernel
theorem dM_init_54 : decode mM_init.2.1 54 = .ok (.sipush 256, 3) := by decide +kernel
theorem dM_init_57 : decode mM_init.2.1 57 = .ok (.newarray .int, 2) := by decide +kernel
theorem dM_init_59 : decode mM_init.2.1 59 = .ok (.putfield 28, 3) := by decide +kernel
theorem dM_init_62 : decode mM_init.2.1 62 = .ok (.aload_n 0, 1) := by decide +kernel
theorem dM_init_63 : decode mM_init.2.1 63 = .ok (.bipush 16, 2) := by decide +kernel
theorem dM_init_65 : decode mM_init.2.1 65 = .ok (.newarray .int, 2) := by decide +kernel
theorem dM_init_67 : decode mM_init.2.1 67 = .ok (.putfield 31, 3) := by decide +kernel
theorem dM_init_70 : decode mM_init.2.1 70 = .ok (.aload_n 0, 1) := by decide +kernel
theorem dM_init_71 : decode mM_init.2.1 71 = .ok (.bipush 16, 2) := by decide +kernel
theorem dM_init_73 : decode mM_init.2.1 73 = .ok (.newarray .int, 2) := by decide +kernel
theorem dM_init_75 : decode mM_init.2.1 75 = .ok (.putfield 34, 3) := by decide +kernel
theorem dM_init_78 : decode mM_init.2.1 78 = .ok (.aload_n 0, 1) := by decide +kernel
theorem dM_init_79 : decode mM_init.2.1 79 = .ok (.sipush 128, 3) := by decide +kernel
theorem dM_init_82 : decode mM_init.2.1 82 = .ok (.newarray .int, 2) := by decide +kernel
theorem dM_init_84 : decode mM_init.2.1 84 = .ok (.putfield 37, 3) := by decide +kernel
theorem dM_init_87 : decode mM_init.2.1 87 = .ok (.aload_n 0, 1) := by decide +kernel
theorem dM_init_88 : decode mM_init.2.1 88 = .ok (.sipush 128, 3) := by decide +kernel
theorem dM_init_91 : decode mM_init.2.1 91 = .ok (.newarray .int, 2) := by decide +kernel
theorem dM_init_93 : decode mM_init.2.1 93 = .ok (.putfield 40, 3) := by decide +kernel
theorem dM_init_96 : decode mM_init.2.1 96 = .ok (.aload_n 0, 1) := by decide +kernel
theorem dM_init_97 : decode mM_init.2.1 97 = .ok (.sipush 256, 3) := by decide +kernel
theorem dM_init_100 : decode mM_init.2.1 100 = .ok (.newarray .int, 2) := by decide +kernel
theorem dM_init_102 : decode mM_init.2.1 102 = .ok (.putfield 43, 3) := by decide +kernel
theorem dM_init_105 : decode mM_init.2.1 105 = .ok (.aload_n 0, 1) := by decide +kernel
theorem dM_init_106 : decode mM_init.2.1 106 = .ok (.bipush 16, 2) := by decide +kernel
theorem dM_init_108 : decode mM_init.2.1 108 = .ok (.newarray .int, 2) := by decide +kernel
theorem dM_init_110 : decode mM_init.2.1 110 = .ok (.putfield 46, 3) := by decide +kernel
theorem dM_init_113 : decode mM_init.2.1 113 = .ok (.aload_n 0, 1) := by decide +kernel
theorem dM_init_114 : decode mM_init.2.1 114 = .ok (.bipush 16, 2) := by decide +kernel
theorem dM_init_116 : decode mM_init.2.1 116 = .ok (.newarray .int, 2) := by decide +kernel
theorem dM_init_118 : decode mM_init.2.1 118 = .ok (.putfield 49, 3) := by decide +kernel
theorem dM_init_121 : decode mM_init.2.1 121 = .ok (.iconst 0, 1) := by decide +kernel
theorem dM_init_122 : decode mM_init.2.1 122 = .ok (.istore_n 1, 1) := by decide +kernel
theorem dM_init_123 : decode mM_init.2.1 123 = .ok (.iload_n 1, 1) := by decide +kernel
theorem dM_init_124 : decode mM_init.2.1 124 = .ok (.sipush 256, 3) := by decide +kernel
theorem dM_init_127 : decode mM_init.2.1 127 = .ok (.if_icmp .ge 64, 3) := by decide +kernel
theorem dM_init_130 : decode mM_init.2.1 130 = .ok (.iconst 0, 1) := by decide +kernel
theorem dM_init_131 : decode mM_init.2.1 131 = .ok (.istore_n 2, 1) := by decide +kernel
theorem dM_init_132 : decode mM_init.2.1 132 = .ok (.iload_n 1, 1) := by decide +kernel
theorem dM_init_133 : decode mM_init.2.1 133 = .ok (.ifCond .le 18, 3) := by decide +kernel
theorem dM_init_136 : decode mM_init.2.1 136 = .ok (.iload_n 1, 1) := by decide +kernel
theorem dM_init_137 : decode mM_init.2.1 137 = .ok (.iload_n 2, 1) := by decide +kernel
theorem dM_init_138 : decode mM_init.2.1 138 = .ok (.invokestatic 52, 3) := by decide +kernel
theorem dM_init_141 : decode mM_init.2.1 141 = .ok (.iconst 1, 1) := by decide +kernel
theorem dM_init_142 : decode mM_init.2.1 142 = .ok (.if_icmp .eq 9, 3) := by decide +kernel
theorem dM_init_145 : decode mM_init.2.1 145 = .ok (.iinc 2 1, 3) := by decide +kernel
theorem dM_init_148 : decode mM_init.2.1 148 = .ok (.goto (-16), 3) := by decide +kernel
theorem dM_init_151 : decode mM_init.2.1 151 = .ok (.aload_n 0, 1) := by decide +kernel
theorem dM_init_152 : decode mM_init.2.1 152 = .ok (.getfield 28, 3) := by decide +kernel
theorem dM_init_155 : decode mM_init.2.1 155 = .ok (.iload_n 1, 1) := by decide +kernel
theorem dM_init_156 : decode mM_init.2.1 156 = .ok (.iload_n 2, 1) := by decide +kernel
theorem dM_init_157 : decode mM_init.2.1 157 = .ok (.iload_n 2, 1) := by decide +kernel
theorem dM_init_158 : decode mM_init.2.1 158 = .ok (.iconst 1, 1) := by decide +kernel
theorem dM_init_159 : decode mM_init.2.1 159 = .ok (.invokestatic 56, 3) := by decide +kernel
theorem dM_init_162 : decode mM_init.2.1 162 = .ok (.ixor, 1) := by decide +kernel
theorem dM_init_163 : decode mM_init.2.1 163 = .ok (.iload_n 2, 1) := by decide +kernel
theorem dM_init_164 : decode mM_init.2.1 164 = .ok (.iconst 2, 1) := by decide +kernel
theorem dM_init_165 : decode mM_init.2.1 165 = .ok (.invokestatic 56, 3) := by decide +kernel
theorem dM_init_168 : decode mM_init.2.1 168 = .ok (.ixor, 1) := by decide +kernel
theorem dM_init_169 : decode mM_init.2.1 169 = .ok (.iload_n 2, 1) := by decide +kernel
theorem dM_init_170 : decode mM_init.2.1 170 = .ok (.iconst 3, 1) := by decide +kernel
theorem dM_init_171 : decode mM_init.2.1 171 = .ok (.invokestatic 56, 3) := by decide +kernel
theorem dM_init_174 : decode mM_init.2.1 174 = .ok (.ixor, 1) := by decide +kernel
theorem dM_init_175 : decode mM_init.2.1 175 = .ok (.iload_n 2, 1) := by decide +kernel
theorem dM_init_176 : decode mM_init.2.1 176 = .ok (.iconst 4, 1) := by decide +kernel
theorem dM_init_177 : decode mM_init.2.1 177 = .ok (.invokestatic 56, 3) := by decide +kernel
theorem dM_init_180 : decode mM_init.2.1 180 = .ok (.ixor, 1) := by decide +kernel
theorem dM_init_181 : decode mM_init.2.1 181 = .ok (.bipush 99, 2) := by decide +kernel
theorem dM_init_183 : decode mM_init.2.1 183 = .ok (.ixor, 1) := by decide +kernel
theorem dM_init_184 : decode mM_init.2.1 184 = .ok (.iastore, 1) := by decide +kernel
theorem dM_init_185 : decode mM_init.2.1 185 = .ok (.iinc 1 1, 3) := by decide +kernel
theorem dM_init_188 : decode mM_init.2.1 188 = .ok (.goto (-65), 3) := by decide +kernel
theorem dM_init_191 : decode mM_init.2.1 191 = .ok (.return_, 1) := by decide +kernel
theorem dM_thrown_0 : decode mM_thrown.2.1 0 = .ok (.aload_n 0, 1) := by decide +kernel
theorem dM_thrown_1 : decode mM_thrown.2.1 1 = .ok (.getfield 59, 3) := by decide +kernel
theorem dM_thrown_4 : decode mM_thrown.2.1 4 = .ok (.ireturn, 1) := by decide +kernel
theorem dM_doubled_0 : decode mM_doubled.2.1 0 = .ok (.iload_n 0, 1) := by decide +kernel
theorem dM_doubled_1 : decode mM_doubled.2.1 1 = .ok (.bipush 127, 2) := by decide +kernel
theorem dM_doubled_3 : decode mM_doubled.2.1 3 = .ok (.if_icmp .le 13, 3) := by decide +kernel
theorem dM_doubled_6 : decode mM_doubled.2.1 6 = .ok (.iconst 2, 1) := by decide +kernel
theorem dM_doubled_7 : decode mM_doubled.2.1 7 = .ok (.iload_n 0, 1) := by decide +kernel
theorem dM_doubled_8 : decode mM_doubled.2.1 8 = .ok (.imul, 1) := by decide +kernel
theorem dM_doubled_9 : decode mM_doubled.2.1 9 = .ok (.sipush 283, 3) := by decide +kernel
theorem dM_doubled_12 : decode mM_doubled.2.1 12 = .ok (.ixor, 1) := by decide +kernel
theorem dM_doubled_13 : decode mM_doubled.2.1 13 = .ok (.goto 6, 3) := by decide +kernel
theorem dM_doubled_16 : decode mM_doubled.2.1 16 = .ok (.iconst 2, 1) := by decide +kernel
theorem dM_doubled_17 : decode mM_doubled.2.1 17 = .ok (.iload_n 0, 1) := by decide +kernel
theorem dM_doubled_18 : decode mM_doubled.2.1 18 = .ok (.imul, 1) := by decide +kernel
theorem dM_doubled_19 : decode mM_doubled.2.1 19 = .ok (.ireturn, 1) := by decide +kernel
theorem dM_times_0 : decode mM_times.2.1 0 = .ok (.iconst 0, 1) := by decide +kernel
theorem dM_times_1 : decode mM_times.2.1 1 = .ok (.istore_n 2, 1) := by decide +kernel
theorem dM_times_2 : decode mM_times.2.1 2 = .ok (.iload_n 0, 1) := by decide +kernel
theorem dM_times_3 : decode mM_times.2.1 3 = .ok (.istore_n 3, 1) := by decide +kernel
theorem dM_times_4 : decode mM_times.2.1 4 = .ok (.iconst 0, 1) := by decide +kernel
theorem dM_times_5 : decode mM_times.2.1 5 = .ok (.istore 4, 2) := by decide +kernel
theorem dM_times_7 : decode mM_times.2.1 7 = .ok (.iload 4, 2) := by decide +kernel
theorem dM_times_9 : decode mM_times.2.1 9 = .ok (.bipush 8, 2) := by decide +kernel
theorem dM_times_11 : decode mM_times.2.1 11 = .ok (.if_icmp .ge 32, 3) := by decide +kernel
theorem dM_times_14 : decode mM_times.2.1 14 = .ok (.iload_n 1, 1) := by decide +kernel
theorem dM_times_15 : decode mM_times.2.1 15 = .ok (.iload 4, 2) := by decide +kernel
theorem dM_times_17 : decode mM_times.2.1 17 = .ok (.ishr, 1) := by decide +kernel
theorem dM_times_18 : decode mM_times.2.1 18 = .ok (.iconst 1, 1) := by decide +kernel
theorem dM_times_19 : decode mM_times.2.1 19 = .ok (.iand, 1) := by decide +kernel
theorem dM_times_20 : decode mM_times.2.1 20 = .ok (.iconst 1, 1) := by decide +kernel
theorem dM_times_21 : decode mM_times.2.1 21 = .ok (.if_icmp .ne 9, 3) := by decide +kernel
theorem dM_times_24 : decode mM_times.2.1 24 = .ok (.iload_n 2, 1) := by decide +kernel
theorem dM_times_25 : decode mM_times.2.1 25 = .ok (.iload_n 3, 1) := by decide +kernel
theorem dM_times_26 : decode mM_times.2.1 26 = .ok (.ixor, 1) := by decide +kernel
theorem dM_times_27 : decode mM_times.2.1 27 = .ok (.goto 4, 3) := by decide +kernel
theorem dM_times_30 : decode mM_times.2.1 30 = .ok (.iload_n 2, 1) := by decide +kernel
theorem dM_times_31 : decode mM_times.2.1 31 = .ok (.istore_n 2, 1) := by decide +kernel
theorem dM_times_32 : decode mM_times.2.1 32 = .ok (.iload_n 3, 1) := by decide +kernel
theorem dM_times_33 : decode mM_times.2.1 33 = .ok (.invokestatic 63, 3) := by decide +kernel
theorem dM_times_36 : decode mM_times.2.1 36 = .ok (.istore_n 3, 1) := by decide +kernel
theorem dM_times_37 : decode mM_times.2.1 37 = .ok (.iinc 4 1, 3) := by decide +kernel
theorem dM_times_40 : decode mM_times.2.1 40 = .ok (.goto (-33), 3) := by decide +kernel
theorem dM_times_43 : decode mM_times.2.1 43 = .ok (.iload_n 2, 1) := by decide +kernel
theorem dM_times_44 : decode mM_times.2.1 44 = .ok (.ireturn, 1) := by decide +kernel
theorem dM_turned_0 : decode mM_turned.2.1 0 = .ok (.iload_n 0, 1) := by decide +kernel
theorem dM_turned_1 : decode mM_turned.2.1 1 = .ok (.iload_n 1, 1) := by decide +kernel
theorem dM_turned_2 : decode mM_turned.2.1 2 = .ok (.ishl, 1) := by decide +kernel
theorem dM_turned_3 : decode mM_turned.2.1 3 = .ok (.iload_n 0, 1) := by decide +kernel
theorem dM_turned_4 : decode mM_turned.2.1 4 = .ok (.bipush 8, 2) := by decide +kernel
theorem dM_turned_6 : decode mM_turned.2.1 6 = .ok (.iload_n 1, 1) := by decide +kernel
theorem dM_turned_7 : decode mM_turned.2.1 7 = .ok (.isub, 1) := by decide +kernel
theorem dM_turned_8 : decode mM_turned.2.1 8 = .ok (.ishr, 1) := by decide +kernel
theorem dM_turned_9 : decode mM_turned.2.1 9 = .ok (.ior, 1) := by decide +kernel
theorem dM_turned_10 : decode mM_turned.2.1 10 = .ok (.sipush 255, 3) := by decide +kernel
theorem dM_turned_13 : decode mM_turned.2.1 13 = .ok (.iand, 1) := by decide +kernel
theorem dM_turned_14 : decode mM_turned.2.1 14 = .ok (.ireturn, 1) := by decide +kernel
theorem dM_expand_0 : decode mM_expand.2.1 0 = .ok (.iconst 0, 1) := by decide +kernel
theorem dM_expand_1 : decode mM_expand.2.1 1 = .ok (.istore_n 1, 1) := by decide +kernel
theorem dM_expand_2 : decode mM_expand.2.1 2 = .ok (.iload_n 1, 1) := by decide +kernel
theorem dM_expand_3 : decode mM_expand.2.1 3 = .ok (.bipush 16, 2) := by decide +kernel
theorem dM_expand_5 : decode mM_expand.2.1 5 = .ok (.if_icmp .ge 21, 3) := by decide +kernel
theorem dM_expand_8 : decode mM_expand.2.1 8 = .ok (.aload_n 0, 1) := by decide +kernel
theorem dM_expand_9 : decode mM_expand.2.1 9 = .ok (.getfield 19, 3) := by decide +kernel
theorem dM_expand_12 : decode mM_expand.2.1 12 = .ok (.iload_n 1, 1) := by decide +kernel
theorem dM_expand_13 : decode mM_expand.2.1 13 = .ok (.aload_n 0, 1) := by decide +kernel
theorem dM_expand_14 : decode mM_expand.2.1 14 = .ok (.getfield 31, 3) := by decide +kernel
theorem dM_expand_17 : decode mM_expand.2.1 17 = .ok (.iload_n 1, 1) := by decide +kernel
theorem dM_expand_18 : decode mM_expand.2.1 18 = .ok (.iaload, 1) := by decide +kernel
theorem dM_expand_19 : decode mM_expand.2.1 19 = .ok (.iastore, 1) := by decide +kernel
theorem dM_expand_20 : decode mM_expand.2.1 20 = .ok (.iinc 1 1, 3) := by decide +kernel
theorem dM_expand_23 : decode mM_expand.2.1 23 = .ok (.goto (-21), 3) := by decide +kernel
theorem dM_expand_26 : decode mM_expand.2.1 26 = .ok (.iconst 1, 1) := by decide +kernel
theorem dM_expand_27 : decode mM_expand.2.1 27 = .ok (.istore_n 1, 1) := by decide +kernel
theorem dM_expand_28 : decode mM_expand.2.1 28 = .ok (.iconst 4, 1) := by decide +kernel
theorem dM_expand_29 : decode mM_expand.2.1 29 = .ok (.istore_n 2, 1) := by decide +kernel
theorem dM_expand_30 : decode mM_expand.2.1 30 = .ok (.iload_n 2, 1) := by decide +kernel
theorem dM_expand_31 : decode mM_expand.2.1 31 = .ok (.bipush 44, 2) := by decide +kernel
theorem dM_expand_33 : decode mM_expand.2.1 33 = .ok (.if_icmp .ge 121, 3) := by decide +kernel
theorem dM_expand_36 : decode mM_expand.2.1 36 = .ok (.iconst 0, 1) := by decide +kernel
theorem dM_expand_37 : decode mM_expand.2.1 37 = .ok (.istore_n 3, 1) := by decide +kernel
theorem dM_expand_38 : decode mM_expand.2.1 38 = .ok (.iload_n 3, 1) := by decide +kernel
theorem dM_expand_39 : decode mM_expand.2.1 39 = .ok (.iconst 4, 1) := by decide +kernel
theorem dM_expand_40 : decode mM_expand.2.1 40 = .ok (.if_icmp .ge 79, 3) := by decide +kernel
theorem dM_expand_43 : decode mM_expand.2.1 43 = .ok (.iload_n 2, 1) := by decide +kernel
theorem dM_expand_44 : decode mM_expand.2.1 44 = .ok (.iconst 4, 1) := by decide +kernel
theorem dM_expand_45 : decode mM_expand.2.1 45 = .ok (.irem, 1) := by decide +kernel
theorem dM_expand_46 : decode mM_expand.2.1 46 = .ok (.ifCond .ne 27, 3) := by decide +kernel
theorem dM_expand_49 : decode mM_expand.2.1 49 = .ok (.aload_n 0, 1) := by decide +kernel
theorem dM_expand_50 : decode mM_expand.2.1 50 = .ok (.getfield 28, 3) := by decide +kernel
theorem dM_expand_53 : decode mM_expand.2.1 53 = .ok (.aload_n 0, 1) := by decide +kernel
theorem dM_expand_54 : decode mM_expand.2.1 54 = .ok (.getfield 19, 3) := by decide +kernel
theorem dM_expand_57 : decode mM_expand.2.1 57 = .ok (.iconst 4, 1) := by decide +kernel
theorem dM_expand_58 : decode mM_expand.2.1 58 = .ok (.iload_n 2, 1) := by decide +kernel
theorem dM_expand_59 : decode mM_expand.2.1 59 = .ok (.imul, 1) := by decide +kernel
theorem dM_expand_60 : decode mM_expand.2.1 60 = .ok (.iconst 4, 1) := by decide +kernel
theorem dM_expand_61 : decode mM_expand.2.1 61 = .ok (.isub, 1) := by decide +kernel
theorem dM_expand_62 : decode mM_expand.2.1 62 = .ok (.iload_n 3, 1) := by decide +kernel
theorem dM_expand_63 : decode mM_expand.2.1 63 = .ok (.iconst 1, 1) := by decide +kernel
theorem dM_expand_64 : decode mM_expand.2.1 64 = .ok (.iadd, 1) := by decide +kernel
theorem dM_expand_65 : decode mM_expand.2.1 65 = .ok (.iconst 4, 1) := by decide +kernel
theorem dM_expand_66 : decode mM_expand.2.1 66 = .ok (.irem, 1) := by decide +kernel
theorem dM_expand_67 : decode mM_expand.2.1 67 = .ok (.iadd, 1) := by decide +kernel
theorem dM_expand_68 : decode mM_expand.2.1 68 = .ok (.iaload, 1) := by decide +kernel
theorem dM_expand_69 : decode mM_expand.2.1 69 = .ok (.iaload, 1) := by decide +kernel
theorem dM_expand_70 : decode mM_expand.2.1 70 = .ok (.goto 15, 3) := by decide +kernel
theorem dM_expand_73 : decode mM_expand.2.1 73 = .ok (.aload_n 0, 1) := by decide +kernel
theorem dM_expand_74 : decode mM_expand.2.1 74 = .ok (.getfield 19, 3) := by decide +kernel
theorem dM_expand_77 : decode mM_expand.2.1 77 = .ok (.iconst 4, 1) := by decide +kernel
theorem dM_expand_78 : decode mM_expand.2.1 78 = .ok (.iload_n 2, 1) := by decide +kernel
theorem dM_expand_79 : decode mM_expand.2.1 79 = .ok (.imul, 1) := by decide +kernel
theorem dM_expand_80 : decode mM_expand.2.1 80 = .ok (.iconst 4, 1) := by decide +kernel
theorem dM_expand_81 : decode mM_expand.2.1 81 = .ok (.isub, 1) := by decide +kernel
theorem dM_expand_82 : decode mM_expand.2.1 82 = .ok (.iload_n 3, 1) := by decide +kernel
theorem dM_expand_83 : decode mM_expand.2.1 83 = .ok (.iadd, 1) := by decide +kernel
theorem dM_expand_84 : decode mM_expand.2.1 84 = .ok (.iaload, 1) := by decide +kernel
theorem dM_expand_85 : decode mM_expand.2.1 85 = .ok (.istore 4, 2) := by decide +kernel
theorem dM_expand_87 : decode mM_expand.2.1 87 = .ok (.aload_n 0, 1) := by decide +kernel
theorem dM_expand_88 : decode mM_expand.2.1 88 = .ok (.getfield 19, 3) := by decide +kernel
theorem dM_expand_91 : decode mM_expand.2.1 91 = .ok (.iconst 4, 1) := by decide +kernel
theorem dM_expand_92 : decode mM_expand.2.1 92 = .ok (.iload_n 2, 1) := by decide +kernel
theorem dM_expand_93 : decode mM_expand.2.1 93 = .ok (.imul, 1) := by decide +kernel
theorem dM_expand_94 : decode mM_expand.2.1 94 = .ok (.iload_n 3, 1) := by decide +kernel
theorem dM_expand_95 : decode mM_expand.2.1 95 = .ok (.iadd, 1) := by decide +kernel
theorem dM_expand_96 : decode mM_expand.2.1 96 = .ok (.aload_n 0, 1) := by decide +kernel
theorem dM_expand_97 : decode mM_expand.2.1 97 = .ok (.getfield 19, 3) := by decide +kernel
theorem dM_expand_100 : decode mM_expand.2.1 100 = .ok (.iconst 4, 1) := by decide +kernel
theorem dM_expand_101 : decode mM_expand.2.1 101 = .ok (.iload_n 2, 1) := by decide +kernel
theorem dM_expand_102 : decode mM_expand.2.1 102 = .ok (.imul, 1) := by decide +kernel
theorem dM_expand_103 : decode mM_expand.2.1 103 = .ok (.bipush 16, 2) := by decide +kernel
theorem dM_expand_105 : decode mM_expand.2.1 105 = .ok (.isub, 1) := by decide +kernel
theorem dM_expand_106 : decode mM_expand.2.1 106 = .ok (.iload_n 3, 1) := by decide +kernel
theorem dM_expand_107 : decode mM_expand.2.1 107 = .ok (.iadd, 1) := by decide +kernel
theorem dM_expand_108 : decode mM_expand.2.1 108 = .ok (.iaload, 1) := by decide +kernel
theorem dM_expand_109 : decode mM_expand.2.1 109 = .ok (.iload 4, 2) := by decide +kernel
theorem dM_expand_111 : decode mM_expand.2.1 111 = .ok (.ixor, 1) := by decide +kernel
theorem dM_expand_112 : decode mM_expand.2.1 112 = .ok (.iastore, 1) := by decide +kernel
theorem dM_expand_113 : decode mM_expand.2.1 113 = .ok (.iinc 3 1, 3) := by decide +kernel
theorem dM_expand_116 : decode mM_expand.2.1 116 = .ok (.goto (-78), 3) := by decide +kernel
theorem dM_expand_119 : decode mM_expand.2.1 119 = .ok (.iload_n 2, 1) := by decide +kernel
theorem dM_expand_120 : decode mM_expand.2.1 120 = .ok (.iconst 4, 1) := by decide +kernel
theorem dM_expand_121 : decode mM_expand.2.1 121 = .ok (.irem, 1) := by decide +kernel
theorem dM_expand_122 : decode mM_expand.2.1 122 = .ok (.ifCond .ne 26, 3) := by decide +kernel
theorem dM_expand_125 : decode mM_expand.2.1 125 = .ok (.aload_n 0, 1) := by decide +kernel
theorem dM_expand_126 : decode mM_expand.2.1 126 = .ok (.getfield 19, 3) := by decide +kernel
theorem dM_expand_129 : decode mM_expand.2.1 129 = .ok (.iconst 4, 1) := by decide +kernel
theorem dM_expand_130 : decode mM_expand.2.1 130 = .ok (.iload_n 2, 1) := by decide +kernel
theorem dM_expand_131 : decode mM_expand.2.1 131 = .ok (.imul, 1) := by decide +kernel
theorem dM_expand_132 : decode mM_expand.2.1 132 = .ok (.aload_n 0, 1) := by decide +kernel
theorem dM_expand_133 : decode mM_expand.2.1 133 = .ok (.getfield 19, 3) := by decide +kernel
theorem dM_expand_136 : decode mM_expand.2.1 136 = .ok (.iconst 4, 1) := by decide +kernel
theorem dM_expand_137 : decode mM_expand.2.1 137 = .ok (.iload_n 2, 1) := by decide +kernel
theorem dM_expand_138 : decode mM_expand.2.1 138 = .ok (.imul, 1) := by decide +kernel
theorem dM_expand_139 : decode mM_expand.2.1 139 = .ok (.iaload, 1) := by decide +kernel
theorem dM_expand_140 : decode mM_expand.2.1 140 = .ok (.iload_n 1, 1) := by decide +kernel
theorem dM_expand_141 : decode mM_expand.2.1 141 = .ok (.ixor, 1) := by decide +kernel
theorem dM_expand_142 : decode mM_expand.2.1 142 = .ok (.iastore, 1) := by decide +kernel
theorem dM_expand_143 : decode mM_expand.2.1 143 = .ok (.iload_n 1, 1) := by decide +kernel
theorem dM_expand_144 : decode mM_expand.2.1 144 = .ok (.invokestatic 63, 3) := by decide +kernel
theorem dM_expand_147 : decode mM_expand.2.1 147 = .ok (.istore_n 1, 1) := by decide +kernel
theorem dM_expand_148 : decode mM_expand.2.1 148 = .ok (.iinc 2 1, 3) := by decide +kernel
theorem dM_expand_151 : decode mM_expand.2.1 151 = .ok (.goto (-121), 3) := by decide +kernel
theorem dM_expand_154 : decode mM_expand.2.1 154 = .ok (.return_, 1) := by decide +kernel
theorem dM_addWords_0 : decode mM_addWords.2.1 0 = .ok (.iconst 0, 1) := by decide +kernel
theorem dM_addWords_1 : decode mM_addWords.2.1 1 = .ok (.istore_n 2, 1) := by decide +kernel
theorem dM_addWords_2 : decode mM_addWords.2.1 2 = .ok (.iload_n 2, 1) := by decide +kernel
theorem dM_addWords_3 : decode mM_addWords.2.1 3 = .ok (.bipush 16, 2) := by decide +kernel
theorem dM_addWords_5 : decode mM_addWords.2.1 5 = .ok (.if_icmp .ge 33, 3) := by decide +kernel
theorem dM_addWords_8 : decode mM_addWords.2.1 8 = .ok (.aload_n 0, 1) := by decide +kernel
theorem dM_addWords_9 : decode mM_addWords.2.1 9 = .ok (.getfield 22, 3) := by decide +kernel
theorem dM_addWords_12 : decode mM_addWords.2.1 12 = .ok (.iload_n 2, 1) := by decide +kernel
theorem dM_addWords_13 : decode mM_addWords.2.1 13 = .ok (.aload_n 0, 1) := by decide +kernel
theorem dM_addWords_14 : decode mM_addWords.2.1 14 = .ok (.getfield 22, 3) := by decide +kernel
theorem dM_addWords_17 : decode mM_addWords.2.1 17 = .ok (.iload_n 2, 1) := by decide +kernel
theorem dM_addWords_18 : decode mM_addWords.2.1 18 = .ok (.iaload, 1) := by decide +kernel
theorem dM_addWords_19 : decode mM_addWords.2.1 19 = .ok (.aload_n 0, 1) := by decide +kernel
theorem dM_addWords_20 : decode mM_addWords.2.1 20 = .ok (.getfield 19, 3) := by decide +kernel
theorem dM_addWords_23 : decode mM_addWords.2.1 23 = .ok (.bipush 16, 2) := by decide +kernel
theorem dM_addWords_25 : decode mM_addWords.2.1 25 = .ok (.iload_n 1, 1) := by decide +kernel
theorem dM_addWords_26 : decode mM_addWords.2.1 26 = .ok (.imul, 1) := by decide +kernel
theorem dM_addWords_27 : decode mM_addWords.2.1 27 = .ok (.iload_n 2, 1) := by decide +kernel
theorem dM_addWords_28 : decode mM_addWords.2.1 28 = .ok (.iadd, 1) := by decide +kernel
theorem dM_addWords_29 : decode mM_addWords.2.1 29 = .ok (.iaload, 1) := by decide +kernel
theorem dM_addWords_30 : decode mM_addWords.2.1 30 = .ok (.ixor, 1) := by decide +kernel
theorem dM_addWords_31 : decode mM_addWords.2.1 31 = .ok (.iastore, 1) := by decide +kernel
theorem dM_addWords_32 : decode mM_addWords.2.1 32 = .ok (.iinc 2 1, 3) := by decide +kernel
theorem dM_addWords_35 : decode mM_addWords.2.1 35 = .ok (.goto (-33), 3) := by decide +kernel
theorem dM_addWords_38 : decode mM_addWords.2.1 38 = .ok (.return_, 1) := by decide +kernel
theorem dM_encipher_0 : decode mM_encipher.2.1 0 = .ok (.aload_n 0, 1) := by decide +kernel
theorem dM_encipher_1 : decode mM_encipher.2.1 1 = .ok (.invokevirtual 67, 3) := by decide +kernel
theorem dM_encipher_4 : decode mM_encipher.2.1 4 = .ok (.iconst 0, 1) := by decide +kernel
theorem dM_encipher_5 : decode mM_encipher.2.1 5 = .ok (.istore_n 1, 1) := by decide +kernel
theorem dM_encipher_6 : decode mM_encipher.2.1 6 = .ok (.iload_n 1, 1) := by decide +kernel
theorem dM_encipher_7 : decode mM_encipher.2.1 7 = .ok (.bipush 16, 2) := by decide +kernel
theorem dM_encipher_9 : decode mM_encipher.2.1 9 = .ok (.if_icmp .ge 21, 3) := by decide +kernel
theorem dM_encipher_12 : decode mM_encipher.2.1 12 = .ok (.aload_n 0, 1) := by decide +kernel
theorem dM_encipher_13 : decode mM_encipher.2.1 13 = .ok (.getfield 22, 3) := by decide +kernel
theorem dM_encipher_16 : decode mM_encipher.2.1 16 = .ok (.iload_n 1, 1) := by decide +kernel
theorem dM_encipher_17 : decode mM_encipher.2.1 17 = .ok (.aload_n 0, 1) := by decide +kernel
theorem dM_encipher_18 : decode mM_encipher.2.1 18 = .ok (.getfield 34, 3) := by decide +kernel
theorem dM_encipher_21 : decode mM_encipher.2.1 21 = .ok (.iload_n 1, 1) := by decide +kernel
theorem dM_encipher_22 : decode mM_encipher.2.1 22 = .ok (.iaload, 1) := by decide +kernel
theorem dM_encipher_23 : decode mM_encipher.2.1 23 = .ok (.iastore, 1) := by decide +kernel
theorem dM_encipher_24 : decode mM_encipher.2.1 24 = .ok (.iinc 1 1, 3) := by decide +kernel
theorem dM_encipher_27 : decode mM_encipher.2.1 27 = .ok (.goto (-21), 3) := by decide +kernel
theorem dM_encipher_30 : decode mM_encipher.2.1 30 = .ok (.aload_n 0, 1) := by decide +kernel
theorem dM_encipher_31 : decode mM_encipher.2.1 31 = .ok (.iconst 0, 1) := by decide +kernel
theorem dM_encipher_32 : decode mM_encipher.2.1 32 = .ok (.invokevirtual 70, 3) := by decide +kernel
theorem dM_encipher_35 : decode mM_encipher.2.1 35 = .ok (.iconst 1, 1) := by decide +kernel
theorem dM_encipher_36 : decode mM_encipher.2.1 36 = .ok (.istore_n 1, 1) := by decide +kernel
theorem dM_encipher_37 : decode mM_encipher.2.1 37 = .ok (.iload_n 1, 1) := by decide +kernel
theorem dM_encipher_38 : decode mM_encipher.2.1 38 = .ok (.bipush 10, 2) := by decide +kernel
theorem dM_encipher_40 : decode mM_encipher.2.1 40 = .ok (.if_icmp .gt 130, 3) := by decide +kernel
theorem dM_encipher_43 : decode mM_encipher.2.1 43 = .ok (.iconst 0, 1) := by decide +kernel
theorem dM_encipher_44 : decode mM_encipher.2.1 44 = .ok (.istore_n 2, 1) := by decide +kernel
theorem dM_encipher_45 : decode mM_encipher.2.1 45 = .ok (.iload_n 2, 1) := by decide +kernel
theorem dM_encipher_46 : decode mM_encipher.2.1 46 = .ok (.iconst 4, 1) := by decide +kernel
theorem dM_encipher_47 : decode mM_encipher.2.1 47 = .ok (.if_icmp .ge 51, 3) := by decide +kernel
theorem dM_encipher_50 : decode mM_encipher.2.1 50 = .ok (.iconst 0, 1) := by decide +kernel
theorem dM_encipher_51 : decode mM_encipher.2.1 51 = .ok (.istore_n 3, 1) := by decide +kernel
theorem dM_encipher_52 : decode mM_encipher.2.1 52 = .ok (.iload_n 3, 1) := by decide +kernel
theorem dM_encipher_53 : decode mM_encipher.2.1 53 = .ok (.iconst 4, 1) := by decide +kernel
theorem dM_encipher_54 : decode mM_encipher.2.1 54 = .ok (.if_icmp .ge 38, 3) := by decide +kernel
theorem dM_encipher_57 : decode mM_encipher.2.1 57 = .ok (.aload_n 0, 1) := by decide +kernel
theorem dM_encipher_58 : decode mM_encipher.2.1 58 = .ok (.getfield 25, 3) := by decide +kernel
theorem dM_encipher_61 : decode mM_encipher.2.1 61 = .ok (.iconst 4, 1) := by decide +kernel
theorem dM_encipher_62 : decode mM_encipher.2.1 62 = .ok (.iload_n 2, 1) := by decide +kernel
theorem dM_encipher_63 : decode mM_encipher.2.1 63 = .ok (.imul, 1) := by decide +kernel
theorem dM_encipher_64 : decode mM_encipher.2.1 64 = .ok (.iload_n 3, 1) := by decide +kernel
theorem dM_encipher_65 : decode mM_encipher.2.1 65 = .ok (.iadd, 1) := by decide +kernel
theorem dM_encipher_66 : decode mM_encipher.2.1 66 = .ok (.aload_n 0, 1) := by decide +kernel
theorem dM_encipher_67 : decode mM_encipher.2.1 67 = .ok (.getfield 28, 3) := by decide +kernel
theorem dM_encipher_70 : decode mM_encipher.2.1 70 = .ok (.aload_n 0, 1) := by decide +kernel
theorem dM_encipher_71 : decode mM_encipher.2.1 71 = .ok (.getfield 22, 3) := by decide +kernel
theorem dM_encipher_74 : decode mM_encipher.2.1 74 = .ok (.iconst 4, 1) := by decide +kernel
theorem dM_encipher_75 : decode mM_encipher.2.1 75 = .ok (.iload_n 2, 1) := by decide +kernel
theorem dM_encipher_76 : decode mM_encipher.2.1 76 = .ok (.iload_n 3, 1) := by decide +kernel
theorem dM_encipher_77 : decode mM_encipher.2.1 77 = .ok (.iadd, 1) := by decide +kernel
theorem dM_encipher_78 : decode mM_encipher.2.1 78 = .ok (.iconst 4, 1) := by decide +kernel
theorem dM_encipher_79 : decode mM_encipher.2.1 79 = .ok (.irem, 1) := by decide +kernel
theorem dM_encipher_80 : decode mM_encipher.2.1 80 = .ok (.imul, 1) := by decide +kernel
theorem dM_encipher_81 : decode mM_encipher.2.1 81 = .ok (.iload_n 3, 1) := by decide +kernel
theorem dM_encipher_82 : decode mM_encipher.2.1 82 = .ok (.iadd, 1) := by decide +kernel
theorem dM_encipher_83 : decode mM_encipher.2.1 83 = .ok (.iaload, 1) := by decide +kernel
theorem dM_encipher_84 : decode mM_encipher.2.1 84 = .ok (.iaload, 1) := by decide +kernel
theorem dM_encipher_85 : decode mM_encipher.2.1 85 = .ok (.iastore, 1) := by decide +kernel
theorem dM_encipher_86 : decode mM_encipher.2.1 86 = .ok (.iinc 3 1, 3) := by decide +kernel
theorem dM_encipher_89 : decode mM_encipher.2.1 89 = .ok (.goto (-37), 3) := by decide +kernel
theorem dM_encipher_92 : decode mM_encipher.2.1 92 = .ok (.iinc 2 1, 3) := by decide +kernel
theorem dM_encipher_95 : decode mM_encipher.2.1 95 = .ok (.goto (-50), 3) := by decide +kernel
theorem dM_encipher_98 : decode mM_encipher.2.1 98 = .ok (.iconst 0, 1) := by decide +kernel
theorem dM_encipher_99 : decode mM_encipher.2.1 99 = .ok (.istore_n 2, 1) := by decide +kernel
theorem dM_encipher_100 : decode mM_encipher.2.1 100 = .ok (.iload_n 2, 1) := by decide +kernel
theorem dM_encipher_101 : decode mM_encipher.2.1 101 = .ok (.iconst 4, 1) := by decide +kernel
theorem dM_encipher_102 : decode mM_encipher.2.1 102 = .ok (.if_icmp .ge 57, 3) := by decide +kernel
theorem dM_encipher_105 : decode mM_encipher.2.1 105 = .ok (.iconst 0, 1) := by decide +kernel
theorem dM_encipher_106 : decode mM_encipher.2.1 106 = .ok (.istore_n 3, 1) := by decide +kernel
theorem dM_encipher_107 : decode mM_encipher.2.1 107 = .ok (.iload_n 3, 1) := by decide +kernel
theorem dM_encipher_108 : decode mM_encipher.2.1 108 = .ok (.iconst 4, 1) := by decide +kernel
theorem dM_encipher_109 : decode mM_encipher.2.1 109 = .ok (.if_icmp .ge 44, 3) := by decide +kernel
theorem dM_encipher_112 : decode mM_encipher.2.1 112 = .ok (.aload_n 0, 1) := by decide +kernel
theorem dM_encipher_113 : decode mM_encipher.2.1 113 = .ok (.getfield 22, 3) := by decide +kernel
theorem dM_encipher_116 : decode mM_encipher.2.1 116 = .ok (.iconst 4, 1) := by decide +kernel
theorem dM_encipher_117 : decode mM_encipher.2.1 117 = .ok (.iload_n 2, 1) := by decide +kernel
theorem dM_encipher_118 : decode mM_encipher.2.1 118 = .ok (.imul, 1) := by decide +kernel
theorem dM_encipher_119 : decode mM_encipher.2.1 119 = .ok (.iload_n 3, 1) := by decide +kernel
theorem dM_encipher_120 : decode mM_encipher.2.1 120 = .ok (.iadd, 1) := by decide +kernel
theorem dM_encipher_121 : decode mM_encipher.2.1 121 = .ok (.iload_n 1, 1) := by decide +kernel
theorem dM_encipher_122 : decode mM_encipher.2.1 122 = .ok (.bipush 10, 2) := by decide +kernel
theorem dM_encipher_124 : decode mM_encipher.2.1 124 = .ok (.if_icmp .ne 16, 3) := by decide +kernel
theorem dM_encipher_127 : decode mM_encipher.2.1 127 = .ok (.aload_n 0, 1) := by decide +kernel
theorem dM_encipher_128 : decode mM_encipher.2.1 128 = .ok (.getfield 25, 3) := by decide +kernel
theorem dM_encipher_131 : decode mM_encipher.2.1 131 = .ok (.iconst 4, 1) := by decide +kernel
theorem dM_encipher_132 : decode mM_encipher.2.1 132 = .ok (.iload_n 2, 1) := by decide +kernel
theorem dM_encipher_133 : decode mM_encipher.2.1 133 = .ok (.imul, 1) := by decide +kernel
theorem dM_encipher_134 : decode mM_encipher.2.1 134 = .ok (.iload_n 3, 1) := by decide +kernel
theorem dM_encipher_135 : decode mM_encipher.2.1 135 = .ok (.iadd, 1) := by decide +kernel
theorem dM_encipher_136 : decode mM_encipher.2.1 136 = .ok (.iaload, 1) := by decide +kernel
theorem dM_encipher_137 : decode mM_encipher.2.1 137 = .ok (.goto 9, 3) := by decide +kernel
theorem dM_encipher_140 : decode mM_encipher.2.1 140 = .ok (.aload_n 0, 1) := by decide +kernel
theorem dM_encipher_141 : decode mM_encipher.2.1 141 = .ok (.iload_n 2, 1) := by decide +kernel
theorem dM_encipher_142 : decode mM_encipher.2.1 142 = .ok (.iload_n 3, 1) := by decide +kernel
theorem dM_encipher_143 : decode mM_encipher.2.1 143 = .ok (.invokevirtual 74, 3) := by decide +kernel
theorem dM_encipher_146 : decode mM_encipher.2.1 146 = .ok (.iastore, 1) := by decide +kernel
theorem dM_encipher_147 : decode mM_encipher.2.1 147 = .ok (.iinc 3 1, 3) := by decide +kernel
theorem dM_encipher_150 : decode mM_encipher.2.1 150 = .ok (.goto (-43), 3) := by decide +kernel
theorem dM_encipher_153 : decode mM_encipher.2.1 153 = .ok (.iinc 2 1, 3) := by decide +kernel
theorem dM_encipher_156 : decode mM_encipher.2.1 156 = .ok (.goto (-56), 3) := by decide +kernel
theorem dM_encipher_159 : decode mM_encipher.2.1 159 = .ok (.aload_n 0, 1) := by decide +kernel
theorem dM_encipher_160 : decode mM_encipher.2.1 160 = .ok (.iload_n 1, 1) := by decide +kernel
theorem dM_encipher_161 : decode mM_encipher.2.1 161 = .ok (.invokevirtual 70, 3) := by decide +kernel
theorem dM_encipher_164 : decode mM_encipher.2.1 164 = .ok (.iinc 1 1, 3) := by decide +kernel
theorem dM_encipher_167 : decode mM_encipher.2.1 167 = .ok (.goto (-130), 3) := by decide +kernel
theorem dM_encipher_170 : decode mM_encipher.2.1 170 = .ok (.iconst 0, 1) := by decide +kernel
theorem dM_encipher_171 : decode mM_encipher.2.1 171 = .ok (.istore_n 1, 1) := by decide +kernel
theorem dM_encipher_172 : decode mM_encipher.2.1 172 = .ok (.iload_n 1, 1) := by decide +kernel
theorem dM_encipher_173 : decode mM_encipher.2.1 173 = .ok (.bipush 16, 2) := by decide +kernel
theorem dM_encipher_175 : decode mM_encipher.2.1 175 = .ok (.if_icmp .ge 21, 3) := by decide +kernel
theorem dM_encipher_178 : decode mM_encipher.2.1 178 = .ok (.aload_n 0, 1) := by decide +kernel
theorem dM_encipher_179 : decode mM_encipher.2.1 179 = .ok (.getfield 34, 3) := by decide +kernel
theorem dM_encipher_182 : decode mM_encipher.2.1 182 = .ok (.iload_n 1, 1) := by decide +kernel
theorem dM_encipher_183 : decode mM_encipher.2.1 183 = .ok (.aload_n 0, 1) := by decide +kernel
theorem dM_encipher_184 : decode mM_encipher.2.1 184 = .ok (.getfield 22, 3) := by decide +kernel
theorem dM_encipher_187 : decode mM_encipher.2.1 187 = .ok (.iload_n 1, 1) := by decide +kernel
theorem dM_encipher_188 : decode mM_encipher.2.1 188 = .ok (.iaload, 1) := by decide +kernel
theorem dM_encipher_189 : decode mM_encipher.2.1 189 = .ok (.iastore, 1) := by decide +kernel
theorem dM_encipher_190 : decode mM_encipher.2.1 190 = .ok (.iinc 1 1, 3) := by decide +kernel
theorem dM_encipher_193 : decode mM_encipher.2.1 193 = .ok (.goto (-21), 3) := by decide +kernel
theorem dM_encipher_196 : decode mM_encipher.2.1 196 = .ok (.return_, 1) := by decide +kernel
theorem dM_mixed_0 : decode mM_mixed.2.1 0 = .ok (.aload_n 0, 1) := by decide +kernel
theorem dM_mixed_1 : decode mM_mixed.2.1 1 = .ok (.getfield 25, 3) := by decide +kernel
theorem dM_mixed_4 : decode mM_mixed.2.1 4 = .ok (.iconst 4, 1) := by decide +kernel
theorem dM_mixed_5 : decode mM_mixed.2.1 5 = .ok (.iload_n 1, 1) := by decide +kernel
theorem dM_mixed_6 : decode mM_mixed.2.1 6 = .ok (.imul, 1) := by decide +kernel
theorem dM_mixed_7 : decode mM_mixed.2.1 7 = .ok (.iload_n 2, 1) := by decide +kernel
theorem dM_mixed_8 : decode mM_mixed.2.1 8 = .ok (.iadd, 1) := by decide +kernel
theorem dM_mixed_9 : decode mM_mixed.2.1 9 = .ok (.iaload, 1) := by decide +kernel
theorem dM_mixed_10 : decode mM_mixed.2.1 10 = .ok (.istore_n 3, 1) := by decide +kernel
theorem dM_mixed_11 : decode mM_mixed.2.1 11 = .ok (.aload_n 0, 1) := by decide +kernel
theorem dM_mixed_12 : decode mM_mixed.2.1 12 = .ok (.getfield 25, 3) := by decide +kernel
theorem dM_mixed_15 : decode mM_mixed.2.1 15 = .ok (.iconst 4, 1) := by decide +kernel
theorem dM_mixed_16 : decode mM_mixed.2.1 16 = .ok (.iload_n 1, 1) := by decide +kernel
theorem dM_mixed_17 : decode mM_mixed.2.1 17 = .ok (.imul, 1) := by decide +kernel
theorem dM_mixed_18 : decode mM_mixed.2.1 18 = .ok (.iload_n 2, 1) := by decide +kernel
theorem dM_mixed_19 : decode mM_mixed.2.1 19 = .ok (.iconst 1, 1) := by decide +kernel
theorem dM_mixed_20 : decode mM_mixed.2.1 20 = .ok (.iadd, 1) := by decide +kernel
theorem dM_mixed_21 : decode mM_mixed.2.1 21 = .ok (.iconst 4, 1) := by decide +kernel
theorem dM_mixed_22 : decode mM_mixed.2.1 22 = .ok (.irem, 1) := by decide +kernel
theorem dM_mixed_23 : decode mM_mixed.2.1 23 = .ok (.iadd, 1) := by decide +kernel
theorem dM_mixed_24 : decode mM_mixed.2.1 24 = .ok (.iaload, 1) := by decide +kernel
theorem dM_mixed_25 : decode mM_mixed.2.1 25 = .ok (.istore 4, 2) := by decide +kernel
theorem dM_mixed_27 : decode mM_mixed.2.1 27 = .ok (.iconst 2, 1) := by decide +kernel
theorem dM_mixed_28 : decode mM_mixed.2.1 28 = .ok (.iload_n 3, 1) := by decide +kernel
theorem dM_mixed_29 : decode mM_mixed.2.1 29 = .ok (.invokestatic 52, 3) := by decide +kernel
theorem dM_mixed_32 : decode mM_mixed.2.1 32 = .ok (.iconst 3, 1) := by decide +kernel
theorem dM_mixed_33 : decode mM_mixed.2.1 33 = .ok (.iload 4, 2) := by decide +kernel
theorem dM_mixed_35 : decode mM_mixed.2.1 35 = .ok (.invokestatic 52, 3) := by decide +kernel
theorem dM_mixed_38 : decode mM_mixed.2.1 38 = .ok (.ixor, 1) := by decide +kernel
theorem dM_mixed_39 : decode mM_mixed.2.1 39 = .ok (.aload_n 0, 1) := by decide +kernel
theorem dM_mixed_40 : decode mM_mixed.2.1 40 = .ok (.getfield 25, 3) := by decide +kernel
theorem dM_mixed_43 : decode mM_mixed.2.1 43 = .ok (.iconst 4, 1) := by decide +kernel
theorem dM_mixed_44 : decode mM_mixed.2.1 44 = .ok (.iload_n 1, 1) := by decide +kernel
theorem dM_mixed_45 : decode mM_mixed.2.1 45 = .ok (.imul, 1) := by decide +kernel
theorem dM_mixed_46 : decode mM_mixed.2.1 46 = .ok (.iload_n 2, 1) := by decide +kernel
theorem dM_mixed_47 : decode mM_mixed.2.1 47 = .ok (.iconst 2, 1) := by decide +kernel
theorem dM_mixed_48 : decode mM_mixed.2.1 48 = .ok (.iadd, 1) := by decide +kernel
theorem dM_mixed_49 : decode mM_mixed.2.1 49 = .ok (.iconst 4, 1) := by decide +kernel
theorem dM_mixed_50 : decode mM_mixed.2.1 50 = .ok (.irem, 1) := by decide +kernel
theorem dM_mixed_51 : decode mM_mixed.2.1 51 = .ok (.iadd, 1) := by decide +kernel
theorem dM_mixed_52 : decode mM_mixed.2.1 52 = .ok (.iaload, 1) := by decide +kernel
theorem dM_mixed_53 : decode mM_mixed.2.1 53 = .ok (.ixor, 1) := by decide +kernel
theorem dM_mixed_54 : decode mM_mixed.2.1 54 = .ok (.aload_n 0, 1) := by decide +kernel
theorem dM_mixed_55 : decode mM_mixed.2.1 55 = .ok (.getfield 25, 3) := by decide +kernel
theorem dM_mixed_58 : decode mM_mixed.2.1 58 = .ok (.iconst 4, 1) := by decide +kernel
theorem dM_mixed_59 : decode mM_mixed.2.1 59 = .ok (.iload_n 1, 1) := by decide +kernel
theorem dM_mixed_60 : decode mM_mixed.2.1 60 = .ok (.imul, 1) := by decide +kernel
theorem dM_mixed_61 : decode mM_mixed.2.1 61 = .ok (.iload_n 2, 1) := by decide +kernel
theorem dM_mixed_62 : decode mM_mixed.2.1 62 = .ok (.iconst 3, 1) := by decide +kernel
theorem dM_mixed_63 : decode mM_mixed.2.1 63 = .ok (.iadd, 1) := by decide +kernel
theorem dM_mixed_64 : decode mM_mixed.2.1 64 = .ok (.iconst 4, 1) := by decide +kernel
theorem dM_mixed_65 : decode mM_mixed.2.1 65 = .ok (.irem, 1) := by decide +kernel
theorem dM_mixed_66 : decode mM_mixed.2.1 66 = .ok (.iadd, 1) := by decide +kernel
theorem dM_mixed_67 : decode mM_mixed.2.1 67 = .ok (.iaload, 1) := by decide +kernel
theorem dM_mixed_68 : decode mM_mixed.2.1 68 = .ok (.ixor, 1) := by decide +kernel
theorem dM_mixed_69 : decode mM_mixed.2.1 69 = .ok (.ireturn, 1) := by decide +kernel
theorem dM_bit_0 : decode mM_bit.2.1 0 = .ok (.iload_n 0, 1) := by decide +kernel
theorem dM_bit_1 : decode mM_bit.2.1 1 = .ok (.ifCond .ne 14, 3) := by decide +kernel
theorem dM_bit_4 : decode mM_bit.2.1 4 = .ok (.iload_n 1, 1) := by decide +kernel
theorem dM_bit_5 : decode mM_bit.2.1 5 = .ok (.bipush 7, 2) := by decide +kernel
theorem dM_bit_7 : decode mM_bit.2.1 7 = .ok (.iload_n 2, 1) := by decide +kernel
theorem dM_bit_8 : decode mM_bit.2.1 8 = .ok (.isub, 1) := by decide +kernel
theorem dM_bit_9 : decode mM_bit.2.1 9 = .ok (.ishr, 1) := by decide +kernel
theorem dM_bit_10 : decode mM_bit.2.1 10 = .ok (.iconst 1, 1) := by decide +kernel
theorem dM_bit_11 : decode mM_bit.2.1 11 = .ok (.iand, 1) := by decide +kernel
theorem dM_bit_12 : decode mM_bit.2.1 12 = .ok (.goto 8, 3) := by decide +kernel
theorem dM_bit_15 : decode mM_bit.2.1 15 = .ok (.iload_n 1, 1) := by decide +kernel
theorem dM_bit_16 : decode mM_bit.2.1 16 = .ok (.iload_n 2, 1) := by decide +kernel
theorem dM_bit_17 : decode mM_bit.2.1 17 = .ok (.ishr, 1) := by decide +kernel
theorem dM_bit_18 : decode mM_bit.2.1 18 = .ok (.iconst 1, 1) := by decide +kernel
theorem dM_bit_19 : decode mM_bit.2.1 19 = .ok (.iand, 1) := by decide +kernel
theorem dM_bit_20 : decode mM_bit.2.1 20 = .ok (.ireturn, 1) := by decide +kernel
theorem dM_reduce_0 : decode mM_reduce.2.1 0 = .ok (.sipush 255, 3) := by decide +kernel
theorem dM_reduce_3 : decode mM_reduce.2.1 3 = .ok (.istore_n 2, 1) := by decide +kernel
theorem dM_reduce_4 : decode mM_reduce.2.1 4 = .ok (.iload_n 2, 1) := by decide +kernel
theorem dM_reduce_5 : decode mM_reduce.2.1 5 = .ok (.sipush 128, 3) := by decide +kernel
theorem dM_reduce_8 : decode mM_reduce.2.1 8 = .ok (.if_icmp .lt 169, 3) := by decide +kernel
theorem dM_reduce_11 : decode mM_reduce.2.1 11 = .ok (.aload_n 0, 1) := by decide +kernel
theorem dM_reduce_12 : decode mM_reduce.2.1 12 = .ok (.getfield 43, 3) := by decide +kernel
theorem dM_reduce_15 : decode mM_reduce.2.1 15 = .ok (.iload_n 2, 1) := by decide +kernel
theorem dM_reduce_16 : decode mM_reduce.2.1 16 = .ok (.iaload, 1) := by decide +kernel
theorem dM_reduce_17 : decode mM_reduce.2.1 17 = .ok (.iconst 1, 1) := by decide +kernel
theorem dM_reduce_18 : decode mM_reduce.2.1 18 = .ok (.if_icmp .ne 153, 3) := by decide +kernel
theorem dM_reduce_21 : decode mM_reduce.2.1 21 = .ok (.iload_n 2, 1) := by decide +kernel
theorem dM_reduce_22 : decode mM_reduce.2.1 22 = .ok (.sipush 128, 3) := by decide +kernel
theorem dM_reduce_25 : decode mM_reduce.2.1 25 = .ok (.isub, 1) := by decide +kernel
theorem dM_reduce_26 : decode mM_reduce.2.1 26 = .ok (.istore_n 3, 1) := by decide +kernel
theorem dM_reduce_27 : decode mM_reduce.2.1 27 = .ok (.aload_n 0, 1) := by decide +kernel
theorem dM_reduce_28 : decode mM_reduce.2.1 28 = .ok (.getfield 43, 3) := by decide +kernel
theorem dM_reduce_31 : decode mM_reduce.2.1 31 = .ok (.iload_n 2, 1) := by decide +kernel
theorem dM_reduce_32 : decode mM_reduce.2.1 32 = .ok (.iconst 0, 1) := by decide +kernel
theorem dM_reduce_33 : decode mM_reduce.2.1 33 = .ok (.iastore, 1) := by decide +kernel
theorem dM_reduce_34 : decode mM_reduce.2.1 34 = .ok (.aload_n 0, 1) := by decide +kernel
theorem dM_reduce_35 : decode mM_reduce.2.1 35 = .ok (.getfield 43, 3) := by decide +kernel
theorem dM_reduce_38 : decode mM_reduce.2.1 38 = .ok (.iload_n 3, 1) := by decide +kernel
theorem dM_reduce_39 : decode mM_reduce.2.1 39 = .ok (.aload_n 0, 1) := by decide +kernel
theorem dM_reduce_40 : decode mM_reduce.2.1 40 = .ok (.getfield 43, 3) := by decide +kernel
theorem dM_reduce_43 : decode mM_reduce.2.1 43 = .ok (.iload_n 3, 1) := by decide +kernel
theorem dM_reduce_44 : decode mM_reduce.2.1 44 = .ok (.iaload, 1) := by decide +kernel
theorem dM_reduce_45 : decode mM_reduce.2.1 45 = .ok (.iconst 1, 1) := by decide +kernel
theorem dM_reduce_46 : decode mM_reduce.2.1 46 = .ok (.ixor, 1) := by decide +kernel
theorem dM_reduce_47 : decode mM_reduce.2.1 47 = .ok (.iastore, 1) := by decide +kernel
theorem dM_reduce_48 : decode mM_reduce.2.1 48 = .ok (.iload_n 1, 1) := by decide +kernel
theorem dM_reduce_49 : decode mM_reduce.2.1 49 = .ok (.ifCond .ne 62, 3) := by decide +kernel
theorem dM_reduce_52 : decode mM_reduce.2.1 52 = .ok (.aload_n 0, 1) := by decide +kernel
theorem dM_reduce_53 : decode mM_reduce.2.1 53 = .ok (.getfield 43, 3) := by decide +kernel
theorem dM_reduce_56 : decode mM_reduce.2.1 56 = .ok (.iload_n 3, 1) := by decide +kernel
theorem dM_reduce_57 : decode mM_reduce.2.1 57 = .ok (.bipush 7, 2) := by decide +kernel
theorem dM_reduce_59 : decode mM_reduce.2.1 59 = .ok (.iadd, 1) := by decide +kernel
theorem dM_reduce_60 : decode mM_reduce.2.1 60 = .ok (.aload_n 0, 1) := by decide +kernel
theorem dM_reduce_61 : decode mM_reduce.2.1 61 = .ok (.getfield 43, 3) := by decide +kernel
theorem dM_reduce_64 : decode mM_reduce.2.1 64 = .ok (.iload_n 3, 1) := by decide +kernel
theorem dM_reduce_65 : decode mM_reduce.2.1 65 = .ok (.bipush 7, 2) := by decide +kernel
theorem dM_reduce_67 : decode mM_reduce.2.1 67 = .ok (.iadd, 1) := by decide +kernel
theorem dM_reduce_68 : decode mM_reduce.2.1 68 = .ok (.iaload, 1) := by decide +kernel
theorem dM_reduce_69 : decode mM_reduce.2.1 69 = .ok (.iconst 1, 1) := by decide +kernel
theorem dM_reduce_70 : decode mM_reduce.2.1 70 = .ok (.ixor, 1) := by decide +kernel
theorem dM_reduce_71 : decode mM_reduce.2.1 71 = .ok (.iastore, 1) := by decide +kernel
theorem dM_reduce_72 : decode mM_reduce.2.1 72 = .ok (.aload_n 0, 1) := by decide +kernel
theorem dM_reduce_73 : decode mM_reduce.2.1 73 = .ok (.getfield 43, 3) := by decide +kernel
theorem dM_reduce_76 : decode mM_reduce.2.1 76 = .ok (.iload_n 3, 1) := by decide +kernel
theorem dM_reduce_77 : decode mM_reduce.2.1 77 = .ok (.iconst 2, 1) := by decide +kernel
theorem dM_reduce_78 : decode mM_reduce.2.1 78 = .ok (.iadd, 1) := by decide +kernel
theorem dM_reduce_79 : decode mM_reduce.2.1 79 = .ok (.aload_n 0, 1) := by decide +kernel
theorem dM_reduce_80 : decode mM_reduce.2.1 80 = .ok (.getfield 43, 3) := by decide +kernel
theorem dM_reduce_83 : decode mM_reduce.2.1 83 = .ok (.iload_n 3, 1) := by decide +kernel
theorem dM_reduce_84 : decode mM_reduce.2.1 84 = .ok (.iconst 2, 1) := by decide +kernel
theorem dM_reduce_85 : decode mM_reduce.2.1 85 = .ok (.iadd, 1) := by decide +kernel
theorem dM_reduce_86 : decode mM_reduce.2.1 86 = .ok (.iaload, 1) := by decide +kernel
theorem dM_reduce_87 : decode mM_reduce.2.1 87 = .ok (.iconst 1, 1) := by decide +kernel
theorem dM_reduce_88 : decode mM_reduce.2.1 88 = .ok (.ixor, 1) := by decide +kernel
theorem dM_reduce_89 : decode mM_reduce.2.1 89 = .ok (.iastore, 1) := by decide +kernel
theorem dM_reduce_90 : decode mM_reduce.2.1 90 = .ok (.aload_n 0, 1) := by decide +kernel
theorem dM_reduce_91 : decode mM_reduce.2.1 91 = .ok (.getfield 43, 3) := by decide +kernel
theorem dM_reduce_94 : decode mM_reduce.2.1 94 = .ok (.iload_n 3, 1) := by decide +kernel
theorem dM_reduce_95 : decode mM_reduce.2.1 95 = .ok (.iconst 1, 1) := by decide +kernel
theorem dM_reduce_96 : decode mM_reduce.2.1 96 = .ok (.iadd, 1) := by decide +kernel
theorem dM_reduce_97 : decode mM_reduce.2.1 97 = .ok (.aload_n 0, 1) := by decide +kernel
theorem dM_reduce_98 : decode mM_reduce.2.1 98 = .ok (.getfield 43, 3) := by decide +kernel
theorem dM_reduce_101 : decode mM_reduce.2.1 101 = .ok (.iload_n 3, 1) := by decide +kernel
theorem dM_reduce_102 : decode mM_reduce.2.1 102 = .ok (.iconst 1, 1) := by decide +kernel
theorem dM_reduce_103 : decode mM_reduce.2.1 103 = .ok (.iadd, 1) := by decide +kernel
theorem dM_reduce_104 : decode mM_reduce.2.1 104 = .ok (.iaload, 1) := by decide +kernel
theorem dM_reduce_105 : decode mM_reduce.2.1 105 = .ok (.iconst 1, 1) := by decide +kernel
theorem dM_reduce_106 : decode mM_reduce.2.1 106 = .ok (.ixor, 1) := by decide +kernel
theorem dM_reduce_107 : decode mM_reduce.2.1 107 = .ok (.iastore, 1) := by decide +kernel
theorem dM_reduce_108 : decode mM_reduce.2.1 108 = .ok (.goto 63, 3) := by decide +kernel
theorem dM_reduce_111 : decode mM_reduce.2.1 111 = .ok (.aload_n 0, 1) := by decide +kernel
theorem dM_reduce_112 : decode mM_reduce.2.1 112 = .ok (.getfield 43, 3) := by decide +kernel
theorem dM_reduce_115 : decode mM_reduce.2.1 115 = .ok (.iload_n 3, 1) := by decide +kernel
theorem dM_reduce_116 : decode mM_reduce.2.1 116 = .ok (.bipush 127, 2) := by decide +kernel
theorem dM_reduce_118 : decode mM_reduce.2.1 118 = .ok (.iadd, 1) := by decide +kernel
theorem dM_reduce_119 : decode mM_reduce.2.1 119 = .ok (.aload_n 0, 1) := by decide +kernel
theorem dM_reduce_120 : decode mM_reduce.2.1 120 = .ok (.getfield 43, 3) := by decide +kernel
theorem dM_reduce_123 : decode mM_reduce.2.1 123 = .ok (.iload_n 3, 1) := by decide +kernel
theorem dM_reduce_124 : decode mM_reduce.2.1 124 = .ok (.bipush 127, 2) := by decide +kernel
theorem dM_reduce_126 : decode mM_reduce.2.1 126 = .ok (.iadd, 1) := by decide +kernel
theorem dM_reduce_127 : decode mM_reduce.2.1 127 = .ok (.iaload, 1) := by decide +kernel
theorem dM_reduce_128 : decode mM_reduce.2.1 128 = .ok (.iconst 1, 1) := by decide +kernel
theorem dM_reduce_129 : decode mM_reduce.2.1 129 = .ok (.ixor, 1) := by decide +kernel
theorem dM_reduce_130 : decode mM_reduce.2.1 130 = .ok (.iastore, 1) := by decide +kernel
theorem dM_reduce_131 : decode mM_reduce.2.1 131 = .ok (.aload_n 0, 1) := by decide +kernel
theorem dM_reduce_132 : decode mM_reduce.2.1 132 = .ok (.getfield 43, 3) := by decide +kernel
theorem dM_reduce_135 : decode mM_reduce.2.1 135 = .ok (.iload_n 3, 1) := by decide +kernel
theorem dM_reduce_136 : decode mM_reduce.2.1 136 = .ok (.bipush 126, 2) := by decide +kernel
theorem dM_reduce_138 : decode mM_reduce.2.1 138 = .ok (.iadd, 1) := by decide +kernel
theorem dM_reduce_139 : decode mM_reduce.2.1 139 = .ok (.aload_n 0, 1) := by decide +kernel
theorem dM_reduce_140 : decode mM_reduce.2.1 140 = .ok (.getfield 43, 3) := by decide +kernel
theorem dM_reduce_143 : decode mM_reduce.2.1 143 = .ok (.iload_n 3, 1) := by decide +kernel
theorem dM_reduce_144 : decode mM_reduce.2.1 144 = .ok (.bipush 126, 2) := by decide +kernel
theorem dM_reduce_146 : decode mM_reduce.2.1 146 = .ok (.iadd, 1) := by decide +kernel
theorem dM_reduce_147 : decode mM_reduce.2.1 147 = .ok (.iaload, 1) := by decide +kernel
theorem dM_reduce_148 : decode mM_reduce.2.1 148 = .ok (.iconst 1, 1) := by decide +kernel
theorem dM_reduce_149 : decode mM_reduce.2.1 149 = .ok (.ixor, 1) := by decide +kernel
theorem dM_reduce_150 : decode mM_reduce.2.1 150 = .ok (.iastore, 1) := by decide +kernel
theorem dM_reduce_151 : decode mM_reduce.2.1 151 = .ok (.aload_n 0, 1) := by decide +kernel
theorem dM_reduce_152 : decode mM_reduce.2.1 152 = .ok (.getfield 43, 3) := by decide +kernel
theorem dM_reduce_155 : decode mM_reduce.2.1 155 = .ok (.iload_n 3, 1) := by decide +kernel
theorem dM_reduce_156 : decode mM_reduce.2.1 156 = .ok (.bipush 121, 2) := by decide +kernel
theorem dM_reduce_158 : decode mM_reduce.2.1 158 = .ok (.iadd, 1) := by decide +kernel
theorem dM_reduce_159 : decode mM_reduce.2.1 159 = .ok (.aload_n 0, 1) := by decide +kernel
theorem dM_reduce_160 : decode mM_reduce.2.1 160 = .ok (.getfield 43, 3) := by decide +kernel
theorem dM_reduce_163 : decode mM_reduce.2.1 163 = .ok (.iload_n 3, 1) := by decide +kernel
theorem dM_reduce_164 : decode mM_reduce.2.1 164 = .ok (.bipush 121, 2) := by decide +kernel
theorem dM_reduce_166 : decode mM_reduce.2.1 166 = .ok (.iadd, 1) := by decide +kernel
theorem dM_reduce_167 : decode mM_reduce.2.1 167 = .ok (.iaload, 1) := by decide +kernel
theorem dM_reduce_168 : decode mM_reduce.2.1 168 = .ok (.iconst 1, 1) := by decide +kernel
theorem dM_reduce_169 : decode mM_reduce.2.1 169 = .ok (.ixor, 1) := by decide +kernel
theorem dM_reduce_170 : decode mM_reduce.2.1 170 = .ok (.iastore, 1) := by decide +kernel
theorem dM_reduce_171 : decode mM_reduce.2.1 171 = .ok (.iinc 2 (-1), 3) := by decide +kernel
theorem dM_reduce_174 : decode mM_reduce.2.1 174 = .ok (.goto (-170), 3) := by decide +kernel
theorem dM_reduce_177 : decode mM_reduce.2.1 177 = .ok (.return_, 1) := by decide +kernel
theorem dM_clearProduct_0 : decode mM_clearProduct.2.1 0 = .ok (.iconst 0, 1) := by decide +kernel
theorem dM_clearProduct_1 : decode mM_clearProduct.2.1 1 = .ok (.istore_n 1, 1) := by decide +kernel
theorem dM_clearProduct_2 : decode mM_clearProduct.2.1 2 = .ok (.iload_n 1, 1) := by decide +kernel
theorem dM_clearProduct_3 : decode mM_clearProduct.2.1 3 = .ok (.sipush 256, 3) := by decide +kernel
theorem dM_clearProduct_6 : decode mM_clearProduct.2.1 6 = .ok (.if_icmp .ge 16, 3) := by decide +kernel
theorem dM_clearProduct_9 : decode mM_clearProduct.2.1 9 = .ok (.aload_n 0, 1) := by decide +kernel
theorem dM_clearProduct_10 : decode mM_clearProduct.2.1 10 = .ok (.getfield 43, 3) := by decide +kernel
theorem dM_clearProduct_13 : decode mM_clearProduct.2.1 13 = .ok (.iload_n 1, 1) := by decide +kernel
theorem dM_clearProduct_14 : decode mM_clearProduct.2.1 14 = .ok (.iconst 0, 1) := by decide +kernel
theorem dM_clearProduct_15 : decode mM_clearProduct.2.1 15 = .ok (.iastore, 1) := by decide +kernel
theorem dM_clearProduct_16 : decode mM_clearProduct.2.1 16 = .ok (.iinc 1 1, 3) := by decide +kernel
theorem dM_clearProduct_19 : decode mM_clearProduct.2.1 19 = .ok (.goto (-17), 3) := by decide +kernel
theorem dM_clearProduct_22 : decode mM_clearProduct.2.1 22 = .ok (.return_, 1) := by decide +kernel
theorem dM_multiply_0 : decode mM_multiply.2.1 0 = .ok (.aload_n 0, 1) := by decide +kernel
theorem dM_multiply_1 : decode mM_multiply.2.1 1 = .ok (.invokevirtual 77, 3) := by decide +kernel
theorem dM_multiply_4 : decode mM_multiply.2.1 4 = .ok (.iconst 0, 1) := by decide +kernel
theorem dM_multiply_5 : decode mM_multiply.2.1 5 = .ok (.istore_n 2, 1) := by decide +kernel
theorem dM_multiply_6 : decode mM_multiply.2.1 6 = .ok (.iload_n 2, 1) := by decide +kernel
theorem dM_multiply_7 : decode mM_multiply.2.1 7 = .ok (.sipush 128, 3) := by decide +kernel
theorem dM_multiply_10 : decode mM_multiply.2.1 10 = .ok (.if_icmp .ge 57, 3) := by decide +kernel
theorem dM_multiply_13 : decode mM_multiply.2.1 13 = .ok (.iconst 0, 1) := by decide +kernel
theorem dM_multiply_14 : decode mM_multiply.2.1 14 = .ok (.istore_n 3, 1) := by decide +kernel
theorem dM_multiply_15 : decode mM_multiply.2.1 15 = .ok (.iload_n 3, 1) := by decide +kernel
theorem dM_multiply_16 : decode mM_multiply.2.1 16 = .ok (.sipush 128, 3) := by decide +kernel
theorem dM_multiply_19 : decode mM_multiply.2.1 19 = .ok (.if_icmp .ge 42, 3) := by decide +kernel
theorem dM_multiply_22 : decode mM_multiply.2.1 22 = .ok (.aload_n 0, 1) := by decide +kernel
theorem dM_multiply_23 : decode mM_multiply.2.1 23 = .ok (.getfield 37, 3) := by decide +kernel
theorem dM_multiply_26 : decode mM_multiply.2.1 26 = .ok (.iload_n 2, 1) := by decide +kernel
theorem dM_multiply_27 : decode mM_multiply.2.1 27 = .ok (.iaload, 1) := by decide +kernel
theorem dM_multiply_28 : decode mM_multiply.2.1 28 = .ok (.iconst 1, 1) := by decide +kernel
theorem dM_multiply_29 : decode mM_multiply.2.1 29 = .ok (.if_icmp .ne 32, 3) := by decide +kernel
theorem dM_multiply_32 : decode mM_multiply.2.1 32 = .ok (.aload_n 0, 1) := by decide +kernel
theorem dM_multiply_33 : decode mM_multiply.2.1 33 = .ok (.getfield 43, 3) := by decide +kernel
theorem dM_multiply_36 : decode mM_multiply.2.1 36 = .ok (.iload_n 2, 1) := by decide +kernel
theorem dM_multiply_37 : decode mM_multiply.2.1 37 = .ok (.iload_n 3, 1) := by decide +kernel
theorem dM_multiply_38 : decode mM_multiply.2.1 38 = .ok (.iadd, 1) := by decide +kernel
theorem dM_multiply_39 : decode mM_multiply.2.1 39 = .ok (.aload_n 0, 1) := by decide +kernel
theorem dM_multiply_40 : decode mM_multiply.2.1 40 = .ok (.getfield 43, 3) := by decide +kernel
theorem dM_multiply_43 : decode mM_multiply.2.1 43 = .ok (.iload_n 2, 1) := by decide +kernel
theorem dM_multiply_44 : decode mM_multiply.2.1 44 = .ok (.iload_n 3, 1) := by decide +kernel
theorem dM_multiply_45 : decode mM_multiply.2.1 45 = .ok (.iadd, 1) := by decide +kernel
theorem dM_multiply_46 : decode mM_multiply.2.1 46 = .ok (.iaload, 1) := by decide +kernel
theorem dM_multiply_47 : decode mM_multiply.2.1 47 = .ok (.aload_n 0, 1) := by decide +kernel
theorem dM_multiply_48 : decode mM_multiply.2.1 48 = .ok (.getfield 40, 3) := by decide +kernel
theorem dM_multiply_51 : decode mM_multiply.2.1 51 = .ok (.iload_n 3, 1) := by decide +kernel
theorem dM_multiply_52 : decode mM_multiply.2.1 52 = .ok (.iaload, 1) := by decide +kernel
theorem dM_multiply_53 : decode mM_multiply.2.1 53 = .ok (.ixor, 1) := by decide +kernel
theorem dM_multiply_54 : decode mM_multiply.2.1 54 = .ok (.iastore, 1) := by decide +kernel
theorem dM_multiply_55 : decode mM_multiply.2.1 55 = .ok (.iinc 3 1, 3) := by decide +kernel
theorem dM_multiply_58 : decode mM_multiply.2.1 58 = .ok (.goto (-43), 3) := by decide +kernel
theorem dM_multiply_61 : decode mM_multiply.2.1 61 = .ok (.iinc 2 1, 3) := by decide +kernel
theorem dM_multiply_64 : decode mM_multiply.2.1 64 = .ok (.goto (-58), 3) := by decide +kernel
theorem dM_multiply_67 : decode mM_multiply.2.1 67 = .ok (.aload_n 0, 1) := by decide +kernel
theorem dM_multiply_68 : decode mM_multiply.2.1 68 = .ok (.iload_n 1, 1) := by decide +kernel
theorem dM_multiply_69 : decode mM_multiply.2.1 69 = .ok (.invokevirtual 80, 3) := by decide +kernel
theorem dM_multiply_72 : decode mM_multiply.2.1 72 = .ok (.iconst 0, 1) := by decide +kernel
theorem dM_multiply_73 : decode mM_multiply.2.1 73 = .ok (.istore_n 2, 1) := by decide +kernel
theorem dM_multiply_74 : decode mM_multiply.2.1 74 = .ok (.iload_n 2, 1) := by decide +kernel
theorem dM_multiply_75 : decode mM_multiply.2.1 75 = .ok (.sipush 128, 3) := by decide +kernel
theorem dM_multiply_78 : decode mM_multiply.2.1 78 = .ok (.if_icmp .ge 21, 3) := by decide +kernel
theorem dM_multiply_81 : decode mM_multiply.2.1 81 = .ok (.aload_n 0, 1) := by decide +kernel
theorem dM_multiply_82 : decode mM_multiply.2.1 82 = .ok (.getfield 37, 3) := by decide +kernel
theorem dM_multiply_85 : decode mM_multiply.2.1 85 = .ok (.iload_n 2, 1) := by decide +kernel
theorem dM_multiply_86 : decode mM_multiply.2.1 86 = .ok (.aload_n 0, 1) := by decide +kernel
theorem dM_multiply_87 : decode mM_multiply.2.1 87 = .ok (.getfield 43, 3) := by decide +kernel
theorem dM_multiply_90 : decode mM_multiply.2.1 90 = .ok (.iload_n 2, 1) := by decide +kernel
theorem dM_multiply_91 : decode mM_multiply.2.1 91 = .ok (.iaload, 1) := by decide +kernel
theorem dM_multiply_92 : decode mM_multiply.2.1 92 = .ok (.iastore, 1) := by decide +kernel
theorem dM_multiply_93 : decode mM_multiply.2.1 93 = .ok (.iinc 2 1, 3) := by decide +kernel
theorem dM_multiply_96 : decode mM_multiply.2.1 96 = .ok (.goto (-22), 3) := by decide +kernel
theorem dM_multiply_99 : decode mM_multiply.2.1 99 = .ok (.return_, 1) := by decide +kernel
theorem dM_addShifted_0 : decode mM_addShifted.2.1 0 = .ok (.iconst 0, 1) := by decide +kernel
theorem dM_addShifted_1 : decode mM_addShifted.2.1 1 = .ok (.istore_n 2, 1) := by decide +kernel
theorem dM_addShifted_2 : decode mM_addShifted.2.1 2 = .ok (.iload_n 2, 1) := by decide +kernel
theorem dM_addShifted_3 : decode mM_addShifted.2.1 3 = .ok (.sipush 128, 3) := by decide +kernel
theorem dM_addShifted_6 : decode mM_addShifted.2.1 6 = .ok (.if_icmp .ge 32, 3) := by decide +kernel
theorem dM_addShifted_9 : decode mM_addShifted.2.1 9 = .ok (.aload_n 0, 1) := by decide +kernel
theorem dM_addShifted_10 : decode mM_addShifted.2.1 10 = .ok (.getfield 43, 3) := by decide +kernel
theorem dM_addShifted_13 : decode mM_addShifted.2.1 13 = .ok (.iload_n 2, 1) := by decide +kernel
theorem dM_addShifted_14 : decode mM_addShifted.2.1 14 = .ok (.iload_n 1, 1) := by decide +kernel
theorem dM_addShifted_15 : decode mM_addShifted.2.1 15 = .ok (.iadd, 1) := by decide +kernel
theorem dM_addShifted_16 : decode mM_addShifted.2.1 16 = .ok (.aload_n 0, 1) := by decide +kernel
theorem dM_addShifted_17 : decode mM_addShifted.2.1 17 = .ok (.getfield 43, 3) := by decide +kernel
theorem dM_addShifted_20 : decode mM_addShifted.2.1 20 = .ok (.iload_n 2, 1) := by decide +kernel
theorem dM_addShifted_21 : decode mM_addShifted.2.1 21 = .ok (.iload_n 1, 1) := by decide +kernel
theorem dM_addShifted_22 : decode mM_addShifted.2.1 22 = .ok (.iadd, 1) := by decide +kernel
theorem dM_addShifted_23 : decode mM_addShifted.2.1 23 = .ok (.iaload, 1) := by decide +kernel
theorem dM_addShifted_24 : decode mM_addShifted.2.1 24 = .ok (.aload_n 0, 1) := by decide +kernel
theorem dM_addShifted_25 : decode mM_addShifted.2.1 25 = .ok (.getfield 40, 3) := by decide +kernel
theorem dM_addShifted_28 : decode mM_addShifted.2.1 28 = .ok (.iload_n 2, 1) := by decide +kernel
theorem dM_addShifted_29 : decode mM_addShifted.2.1 29 = .ok (.iaload, 1) := by decide +kernel
theorem dM_addShifted_30 : decode mM_addShifted.2.1 30 = .ok (.ixor, 1) := by decide +kernel
theorem dM_addShifted_31 : decode mM_addShifted.2.1 31 = .ok (.iastore, 1) := by decide +kernel
theorem dM_addShifted_32 : decode mM_addShifted.2.1 32 = .ok (.iinc 2 1, 3) := by decide +kernel
theorem dM_addShifted_35 : decode mM_addShifted.2.1 35 = .ok (.goto (-33), 3) := by decide +kernel
theorem dM_addShifted_38 : decode mM_addShifted.2.1 38 = .ok (.return_, 1) := by decide +kernel
theorem dM_beginHash_0 : decode mM_beginHash.2.1 0 = .ok (.iconst 0, 1) := by decide +kernel
theorem dM_beginHash_1 : decode mM_beginHash.2.1 1 = .ok (.istore_n 2, 1) := by decide +kernel
theorem dM_beginHash_2 : decode mM_beginHash.2.1 2 = .ok (.iload_n 2, 1) := by decide +kernel
theorem dM_beginHash_3 : decode mM_beginHash.2.1 3 = .ok (.sipush 128, 3) := by decide +kernel
theorem dM_beginHash_6 : decode mM_beginHash.2.1 6 = .ok (.if_icmp .ge 39, 3) := by decide +kernel
theorem dM_beginHash_9 : decode mM_beginHash.2.1 9 = .ok (.aload_n 0, 1) := by decide +kernel
theorem dM_beginHash_10 : decode mM_beginHash.2.1 10 = .ok (.getfield 37, 3) := by decide +kernel
theorem dM_beginHash_13 : decode mM_beginHash.2.1 13 = .ok (.iload_n 2, 1) := by decide +kernel
theorem dM_beginHash_14 : decode mM_beginHash.2.1 14 = .ok (.iconst 0, 1) := by decide +kernel
theorem dM_beginHash_15 : decode mM_beginHash.2.1 15 = .ok (.iastore, 1) := by decide +kernel
theorem dM_beginHash_16 : decode mM_beginHash.2.1 16 = .ok (.aload_n 0, 1) := by decide +kernel
theorem dM_beginHash_17 : decode mM_beginHash.2.1 17 = .ok (.getfield 40, 3) := by decide +kernel
theorem dM_beginHash_20 : decode mM_beginHash.2.1 20 = .ok (.iload_n 2, 1) := by decide +kernel
theorem dM_beginHash_21 : decode mM_beginHash.2.1 21 = .ok (.iload_n 1, 1) := by decide +kernel
theorem dM_beginHash_22 : decode mM_beginHash.2.1 22 = .ok (.aload_n 0, 1) := by decide +kernel
theorem dM_beginHash_23 : decode mM_beginHash.2.1 23 = .ok (.getfield 34, 3) := by decide +kernel
theorem dM_beginHash_26 : decode mM_beginHash.2.1 26 = .ok (.iload_n 2, 1) := by decide +kernel
theorem dM_beginHash_27 : decode mM_beginHash.2.1 27 = .ok (.bipush 8, 2) := by decide +kernel
theorem dM_beginHash_29 : decode mM_beginHash.2.1 29 = .ok (.idiv, 1) := by decide +kernel
theorem dM_beginHash_30 : decode mM_beginHash.2.1 30 = .ok (.iaload, 1) := by decide +kernel
theorem dM_beginHash_31 : decode mM_beginHash.2.1 31 = .ok (.iload_n 2, 1) := by decide +kernel
theorem dM_beginHash_32 : decode mM_beginHash.2.1 32 = .ok (.bipush 8, 2) := by decide +kernel
theorem dM_beginHash_34 : decode mM_beginHash.2.1 34 = .ok (.irem, 1) := by decide +kernel
theorem dM_beginHash_35 : decode mM_beginHash.2.1 35 = .ok (.invokestatic 83, 3) := by decide +kernel
theorem dM_beginHash_38 : decode mM_beginHash.2.1 38 = .ok (.iastore, 1) := by decide +kernel
theorem dM_beginHash_39 : decode mM_beginHash.2.1 39 = .ok (.iinc 2 1, 3) := by decide +kernel
theorem dM_beginHash_42 : decode mM_beginHash.2.1 42 = .ok (.goto (-40), 3) := by decide +kernel
theorem dM_beginHash_45 : decode mM_beginHash.2.1 45 = .ok (.iload_n 1, 1) := by decide +kernel
theorem dM_beginHash_46 : decode mM_beginHash.2.1 46 = .ok (.ifCond .ne 4, 3) := by decide +kernel
theorem dM_beginHash_49 : decode mM_beginHash.2.1 49 = .ok (.return_, 1) := by decide +kernel
theorem dM_beginHash_50 : decode mM_beginHash.2.1 50 = .ok (.aload_n 0, 1) := by decide +kernel
theorem dM_beginHash_51 : decode mM_beginHash.2.1 51 = .ok (.invokevirtual 77, 3) := by decide +kernel
theorem dM_beginHash_54 : decode mM_beginHash.2.1 54 = .ok (.aload_n 0, 1) := by decide +kernel
theorem dM_beginHash_55 : decode mM_beginHash.2.1 55 = .ok (.bipush 127, 2) := by decide +kernel
theorem dM_beginHash_57 : decode mM_beginHash.2.1 57 = .ok (.invokevirtual 87, 3) := by decide +kernel
theorem dM_beginHash_60 : decode mM_beginHash.2.1 60 = .ok (.aload_n 0, 1) := by decide +kernel
theorem dM_beginHash_61 : decode mM_beginHash.2.1 61 = .ok (.bipush 124, 2) := by decide +kernel
theorem dM_beginHash_63 : decode mM_beginHash.2.1 63 = .ok (.invokevirtual 87, 3) := by decide +kernel
theorem dM_beginHash_66 : decode mM_beginHash.2.1 66 = .ok (.aload_n 0, 1) := by decide +kernel
theorem dM_beginHash_67 : decode mM_beginHash.2.1 67 = .ok (.bipush 121, 2) := by decide +kernel
theorem dM_beginHash_69 : decode mM_beginHash.2.1 69 = .ok (.invokevirtual 87, 3) := by decide +kernel
theorem dM_beginHash_72 : decode mM_beginHash.2.1 72 = .ok (.aload_n 0, 1) := by decide +kernel
theorem dM_beginHash_73 : decode mM_beginHash.2.1 73 = .ok (.bipush 114, 2) := by decide +kernel
theorem dM_beginHash_75 : decode mM_beginHash.2.1 75 = .ok (.invokevirtual 87, 3) := by decide +kernel
theorem dM_beginHash_78 : decode mM_beginHash.2.1 78 = .ok (.aload_n 0, 1) := by decide +kernel
theorem dM_beginHash_79 : decode mM_beginHash.2.1 79 = .ok (.iconst 0, 1) := by decide +kernel
theorem dM_beginHash_80 : decode mM_beginHash.2.1 80 = .ok (.invokevirtual 87, 3) := by decide +kernel
theorem dM_beginHash_83 : decode mM_beginHash.2.1 83 = .ok (.aload_n 0, 1) := by decide +kernel
theorem dM_beginHash_84 : decode mM_beginHash.2.1 84 = .ok (.iconst 1, 1) := by decide +kernel
theorem dM_beginHash_85 : decode mM_beginHash.2.1 85 = .ok (.invokevirtual 80, 3) := by decide +kernel
theorem dM_beginHash_88 : decode mM_beginHash.2.1 88 = .ok (.iconst 0, 1) := by decide +kernel
theorem dM_beginHash_89 : decode mM_beginHash.2.1 89 = .ok (.istore_n 2, 1) := by decide +kernel
theorem dM_beginHash_90 : decode mM_beginHash.2.1 90 = .ok (.iload_n 2, 1) := by decide +kernel
theorem dM_beginHash_91 : decode mM_beginHash.2.1 91 = .ok (.sipush 128, 3) := by decide +kernel
theorem dM_beginHash_94 : decode mM_beginHash.2.1 94 = .ok (.if_icmp .ge 21, 3) := by decide +kernel
theorem dM_beginHash_97 : decode mM_beginHash.2.1 97 = .ok (.aload_n 0, 1) := by decide +kernel
theorem dM_beginHash_98 : decode mM_beginHash.2.1 98 = .ok (.getfield 40, 3) := by decide +kernel
theorem dM_beginHash_101 : decode mM_beginHash.2.1 101 = .ok (.iload_n 2, 1) := by decide +kernel
theorem dM_beginHash_102 : decode mM_beginHash.2.1 102 = .ok (.aload_n 0, 1) := by decide +kernel
theorem dM_beginHash_103 : decode mM_beginHash.2.1 103 = .ok (.getfield 43, 3) := by decide +kernel
theorem dM_beginHash_106 : decode mM_beginHash.2.1 106 = .ok (.iload_n 2, 1) := by decide +kernel
theorem dM_beginHash_107 : decode mM_beginHash.2.1 107 = .ok (.iaload, 1) := by decide +kernel
theorem dM_beginHash_108 : decode mM_beginHash.2.1 108 = .ok (.iastore, 1) := by decide +kernel
theorem dM_beginHash_109 : decode mM_beginHash.2.1 109 = .ok (.iinc 2 1, 3) := by decide +kernel
theorem dM_beginHash_112 : decode mM_beginHash.2.1 112 = .ok (.goto (-22), 3) := by decide +kernel
theorem dM_beginHash_115 : decode mM_beginHash.2.1 115 = .ok (.return_, 1) := by decide +kernel
theorem dM_feed_0 : decode mM_feed.2.1 0 = .ok (.iconst 0, 1) := by decide +kernel
theorem dM_feed_1 : decode mM_feed.2.1 1 = .ok (.istore_n 2, 1) := by decide +kernel
theorem dM_feed_2 : decode mM_feed.2.1 2 = .ok (.iload_n 2, 1) := by decide +kernel
theorem dM_feed_3 : decode mM_feed.2.1 3 = .ok (.sipush 128, 3) := by decide +kernel
theorem dM_feed_6 : decode mM_feed.2.1 6 = .ok (.if_icmp .ge 39, 3) := by decide +kernel
theorem dM_feed_9 : decode mM_feed.2.1 9 = .ok (.aload_n 0, 1) := by decide +kernel
theorem dM_feed_10 : decode mM_feed.2.1 10 = .ok (.getfield 37, 3) := by decide +kernel
theorem dM_feed_13 : decode mM_feed.2.1 13 = .ok (.iload_n 2, 1) := by decide +kernel
theorem dM_feed_14 : decode mM_feed.2.1 14 = .ok (.aload_n 0, 1) := by decide +kernel
theorem dM_feed_15 : decode mM_feed.2.1 15 = .ok (.getfield 37, 3) := by decide +kernel
theorem dM_feed_18 : decode mM_feed.2.1 18 = .ok (.iload_n 2, 1) := by decide +kernel
theorem dM_feed_19 : decode mM_feed.2.1 19 = .ok (.iaload, 1) := by decide +kernel
theorem dM_feed_20 : decode mM_feed.2.1 20 = .ok (.iload_n 1, 1) := by decide +kernel
theorem dM_feed_21 : decode mM_feed.2.1 21 = .ok (.aload_n 0, 1) := by decide +kernel
theorem dM_feed_22 : decode mM_feed.2.1 22 = .ok (.getfield 34, 3) := by decide +kernel
theorem dM_feed_25 : decode mM_feed.2.1 25 = .ok (.iload_n 2, 1) := by decide +kernel
theorem dM_feed_26 : decode mM_feed.2.1 26 = .ok (.bipush 8, 2) := by decide +kernel
theorem dM_feed_28 : decode mM_feed.2.1 28 = .ok (.idiv, 1) := by decide +kernel
theorem dM_feed_29 : decode mM_feed.2.1 29 = .ok (.iaload, 1) := by decide +kernel
theorem dM_feed_30 : decode mM_feed.2.1 30 = .ok (.iload_n 2, 1) := by decide +kernel
theorem dM_feed_31 : decode mM_feed.2.1 31 = .ok (.bipush 8, 2) := by decide +kernel
theorem dM_feed_33 : decode mM_feed.2.1 33 = .ok (.irem, 1) := by decide +kernel
theorem dM_feed_34 : decode mM_feed.2.1 34 = .ok (.invokestatic 83, 3) := by decide +kernel
theorem dM_feed_37 : decode mM_feed.2.1 37 = .ok (.ixor, 1) := by decide +kernel
theorem dM_feed_38 : decode mM_feed.2.1 38 = .ok (.iastore, 1) := by decide +kernel
theorem dM_feed_39 : decode mM_feed.2.1 39 = .ok (.iinc 2 1, 3) := by decide +kernel
theorem dM_feed_42 : decode mM_feed.2.1 42 = .ok (.goto (-40), 3) := by decide +kernel
theorem dM_feed_45 : decode mM_feed.2.1 45 = .ok (.aload_n 0, 1) := by decide +kernel
theorem dM_feed_46 : decode mM_feed.2.1 46 = .ok (.iload_n 1, 1) := by decide +kernel
theorem dM_feed_47 : decode mM_feed.2.1 47 = .ok (.invokevirtual 90, 3) := by decide +kernel
theorem dM_feed_50 : decode mM_feed.2.1 50 = .ok (.return_, 1) := by decide +kernel
theorem dM_feedRow_0 : decode mM_feedRow.2.1 0 = .ok (.iconst 0, 1) := by decide +kernel
theorem dM_feedRow_1 : decode mM_feedRow.2.1 1 = .ok (.istore 4, 2) := by decide +kernel
theorem dM_feedRow_3 : decode mM_feedRow.2.1 3 = .ok (.iload 4, 2) := by decide +kernel
theorem dM_feedRow_5 : decode mM_feedRow.2.1 5 = .ok (.iload_n 3, 1) := by decide +kernel
theorem dM_feedRow_6 : decode mM_feedRow.2.1 6 = .ok (.if_icmp .ge 62, 3) := by decide +kernel
theorem dM_feedRow_9 : decode mM_feedRow.2.1 9 = .ok (.iconst 0, 1) := by decide +kernel
theorem dM_feedRow_10 : decode mM_feedRow.2.1 10 = .ok (.istore 5, 2) := by decide +kernel
theorem dM_feedRow_12 : decode mM_feedRow.2.1 12 = .ok (.iload 5, 2) := by decide +kernel
theorem dM_feedRow_14 : decode mM_feedRow.2.1 14 = .ok (.bipush 16, 2) := by decide +kernel
theorem dM_feedRow_16 : decode mM_feedRow.2.1 16 = .ok (.if_icmp .ge 41, 3) := by decide +kernel
theorem dM_feedRow_19 : decode mM_feedRow.2.1 19 = .ok (.aload_n 0, 1) := by decide +kernel
theorem dM_feedRow_20 : decode mM_feedRow.2.1 20 = .ok (.getfield 34, 3) := by decide +kernel
theorem dM_feedRow_23 : decode mM_feedRow.2.1 23 = .ok (.iload 5, 2) := by decide +kernel
theorem dM_feedRow_25 : decode mM_feedRow.2.1 25 = .ok (.iload 4, 2) := by decide +kernel
theorem dM_feedRow_27 : decode mM_feedRow.2.1 27 = .ok (.iload 5, 2) := by decide +kernel
theorem dM_feedRow_29 : decode mM_feedRow.2.1 29 = .ok (.iadd, 1) := by decide +kernel
theorem dM_feedRow_30 : decode mM_feedRow.2.1 30 = .ok (.iload_n 3, 1) := by decide +kernel
theorem dM_feedRow_31 : decode mM_feedRow.2.1 31 = .ok (.if_icmp .ge 18, 3) := by decide +kernel
theorem dM_feedRow_34 : decode mM_feedRow.2.1 34 = .ok (.aload_n 0, 1) := by decide +kernel
theorem dM_feedRow_35 : decode mM_feedRow.2.1 35 = .ok (.getfield 7, 3) := by decide +kernel
theorem dM_feedRow_38 : decode mM_feedRow.2.1 38 = .ok (.iload_n 2, 1) := by decide +kernel
theorem dM_feedRow_39 : decode mM_feedRow.2.1 39 = .ok (.iload 4, 2) := by decide +kernel
theorem dM_feedRow_41 : decode mM_feedRow.2.1 41 = .ok (.iadd, 1) := by decide +kernel
theorem dM_feedRow_42 : decode mM_feedRow.2.1 42 = .ok (.iload 5, 2) := by decide +kernel
theorem dM_feedRow_44 : decode mM_feedRow.2.1 44 = .ok (.iadd, 1) := by decide +kernel
theorem dM_feedRow_45 : decode mM_feedRow.2.1 45 = .ok (.iaload, 1) := by decide +kernel
theorem dM_feedRow_46 : decode mM_feedRow.2.1 46 = .ok (.goto 4, 3) := by decide +kernel
theorem dM_feedRow_49 : decode mM_feedRow.2.1 49 = .ok (.iconst 0, 1) := by decide +kernel
theorem dM_feedRow_50 : decode mM_feedRow.2.1 50 = .ok (.iastore, 1) := by decide +kernel
theorem dM_feedRow_51 : decode mM_feedRow.2.1 51 = .ok (.iinc 5 1, 3) := by decide +kernel
theorem dM_feedRow_54 : decode mM_feedRow.2.1 54 = .ok (.goto (-42), 3) := by decide +kernel
theorem dM_feedRow_57 : decode mM_feedRow.2.1 57 = .ok (.aload_n 0, 1) := by decide +kernel
theorem dM_feedRow_58 : decode mM_feedRow.2.1 58 = .ok (.iload_n 1, 1) := by decide +kernel
theorem dM_feedRow_59 : decode mM_feedRow.2.1 59 = .ok (.invokevirtual 93, 3) := by decide +kernel
theorem dM_feedRow_62 : decode mM_feedRow.2.1 62 = .ok (.iinc 4 16, 3) := by decide +kernel
theorem dM_feedRow_65 : decode mM_feedRow.2.1 65 = .ok (.goto (-62), 3) := by decide +kernel
theorem dM_feedRow_68 : decode mM_feedRow.2.1 68 = .ok (.return_, 1) := by decide +kernel
theorem dM_feedLengths_0 : decode mM_feedLengths.2.1 0 = .ok (.iconst 0, 1) := by decide +kernel
theorem dM_feedLengths_1 : decode mM_feedLengths.2.1 1 = .ok (.istore 4, 2) := by decide +kernel
theorem dM_feedLengths_3 : decode mM_feedLengths.2.1 3 = .ok (.iload 4, 2) := by decide +kernel
theorem dM_feedLengths_5 : decode mM_feedLengths.2.1 5 = .ok (.bipush 16, 2) := by decide +kernel
theorem dM_feedLengths_7 : decode mM_feedLengths.2.1 7 = .ok (.if_icmp .ge 17, 3) := by decide +kernel
theorem dM_feedLengths_10 : decode mM_feedLengths.2.1 10 = .ok (.aload_n 0, 1) := by decide +kernel
theorem dM_feedLengths_11 : decode mM_feedLengths.2.1 11 = .ok (.getfield 34, 3) := by decide +kernel
theorem dM_feedLengths_14 : decode mM_feedLengths.2.1 14 = .ok (.iload 4, 2) := by decide +kernel
theorem dM_feedLengths_16 : decode mM_feedLengths.2.1 16 = .ok (.iconst 0, 1) := by decide +kernel
theorem dM_feedLengths_17 : decode mM_feedLengths.2.1 17 = .ok (.iastore, 1) := by decide +kernel
theorem dM_feedLengths_18 : decode mM_feedLengths.2.1 18 = .ok (.iinc 4 1, 3) := by decide +kernel
theorem dM_feedLengths_21 : decode mM_feedLengths.2.1 21 = .ok (.goto (-18), 3) := by decide +kernel
theorem dM_feedLengths_24 : decode mM_feedLengths.2.1 24 = .ok (.iconst 0, 1) := by decide +kernel
theorem dM_feedLengths_25 : decode mM_feedLengths.2.1 25 = .ok (.istore 4, 2) := by decide +kernel
theorem dM_feedLengths_27 : decode mM_feedLengths.2.1 27 = .ok (.iload 4, 2) := by decide +kernel
theorem dM_feedLengths_29 : decode mM_feedLengths.2.1 29 = .ok (.iconst 2, 1) := by decide +kernel
theorem dM_feedLengths_30 : decode mM_feedLengths.2.1 30 = .ok (.if_icmp .ge 78, 3) := by decide +kernel
theorem dM_feedLengths_33 : decode mM_feedLengths.2.1 33 = .ok (.aload_n 0, 1) := by decide +kernel
theorem dM_feedLengths_34 : decode mM_feedLengths.2.1 34 = .ok (.getfield 34, 3) := by decide +kernel
theorem dM_feedLengths_37 : decode mM_feedLengths.2.1 37 = .ok (.iload_n 1, 1) := by decide +kernel
theorem dM_feedLengths_38 : decode mM_feedLengths.2.1 38 = .ok (.ifCond .ne 11, 3) := by decide +kernel
theorem dM_feedLengths_41 : decode mM_feedLengths.2.1 41 = .ok (.bipush 7, 2) := by decide +kernel
theorem dM_feedLengths_43 : decode mM_feedLengths.2.1 43 = .ok (.iload 4, 2) := by decide +kernel
theorem dM_feedLengths_45 : decode mM_feedLengths.2.1 45 = .ok (.isub, 1) := by decide +kernel
theorem dM_feedLengths_46 : decode mM_feedLengths.2.1 46 = .ok (.goto 5, 3) := by decide +kernel
theorem dM_feedLengths_49 : decode mM_feedLengths.2.1 49 = .ok (.iload 4, 2) := by decide +kernel
theorem dM_feedLengths_51 : decode mM_feedLengths.2.1 51 = .ok (.bipush 8, 2) := by decide +kernel
theorem dM_feedLengths_53 : decode mM_feedLengths.2.1 53 = .ok (.iload_n 2, 1) := by decide +kernel
theorem dM_feedLengths_54 : decode mM_feedLengths.2.1 54 = .ok (.imul, 1) := by decide +kernel
theorem dM_feedLengths_55 : decode mM_feedLengths.2.1 55 = .ok (.bipush 8, 2) := by decide +kernel
theorem dM_feedLengths_57 : decode mM_feedLengths.2.1 57 = .ok (.iload 4, 2) := by decide +kernel
theorem dM_feedLengths_59 : decode mM_feedLengths.2.1 59 = .ok (.imul, 1) := by decide +kernel
theorem dM_feedLengths_60 : decode mM_feedLengths.2.1 60 = .ok (.ishr, 1) := by decide +kernel
theorem dM_feedLengths_61 : decode mM_feedLengths.2.1 61 = .ok (.sipush 255, 3) := by decide +kernel
theorem dM_feedLengths_64 : decode mM_feedLengths.2.1 64 = .ok (.iand, 1) := by decide +kernel
theorem dM_feedLengths_65 : decode mM_feedLengths.2.1 65 = .ok (.iastore, 1) := by decide +kernel
theorem dM_feedLengths_66 : decode mM_feedLengths.2.1 66 = .ok (.aload_n 0, 1) := by decide +kernel
theorem dM_feedLengths_67 : decode mM_feedLengths.2.1 67 = .ok (.getfield 34, 3) := by decide +kernel
theorem dM_feedLengths_70 : decode mM_feedLengths.2.1 70 = .ok (.iload_n 1, 1) := by decide +kernel
theorem dM_feedLengths_71 : decode mM_feedLengths.2.1 71 = .ok (.ifCond .ne 11, 3) := by decide +kernel
theorem dM_feedLengths_74 : decode mM_feedLengths.2.1 74 = .ok (.bipush 15, 2) := by decide +kernel
theorem dM_feedLengths_76 : decode mM_feedLengths.2.1 76 = .ok (.iload 4, 2) := by decide +kernel
theorem dM_feedLengths_78 : decode mM_feedLengths.2.1 78 = .ok (.isub, 1) := by decide +kernel
theorem dM_feedLengths_79 : decode mM_feedLengths.2.1 79 = .ok (.goto 8, 3) := by decide +kernel
theorem dM_feedLengths_82 : decode mM_feedLengths.2.1 82 = .ok (.bipush 8, 2) := by decide +kernel
theorem dM_feedLengths_84 : decode mM_feedLengths.2.1 84 = .ok (.iload 4, 2) := by decide +kernel
theorem dM_feedLengths_86 : decode mM_feedLengths.2.1 86 = .ok (.iadd, 1) := by decide +kernel
theorem dM_feedLengths_87 : decode mM_feedLengths.2.1 87 = .ok (.bipush 8, 2) := by decide +kernel
theorem dM_feedLengths_89 : decode mM_feedLengths.2.1 89 = .ok (.iload_n 3, 1) := by decide +kernel
theorem dM_feedLengths_90 : decode mM_feedLengths.2.1 90 = .ok (.imul, 1) := by decide +kernel
theorem dM_feedLengths_91 : decode mM_feedLengths.2.1 91 = .ok (.bipush 8, 2) := by decide +kernel
theorem dM_feedLengths_93 : decode mM_feedLengths.2.1 93 = .ok (.iload 4, 2) := by decide +kernel
theorem dM_feedLengths_95 : decode mM_feedLengths.2.1 95 = .ok (.imul, 1) := by decide +kernel
theorem dM_feedLengths_96 : decode mM_feedLengths.2.1 96 = .ok (.ishr, 1) := by decide +kernel
theorem dM_feedLengths_97 : decode mM_feedLengths.2.1 97 = .ok (.sipush 255, 3) := by decide +kernel
theorem dM_feedLengths_100 : decode mM_feedLengths.2.1 100 = .ok (.iand, 1) := by decide +kernel
theorem dM_feedLengths_101 : decode mM_feedLengths.2.1 101 = .ok (.iastore, 1) := by decide +kernel
theorem dM_feedLengths_102 : decode mM_feedLengths.2.1 102 = .ok (.iinc 4 1, 3) := by decide +kernel
theorem dM_feedLengths_105 : decode mM_feedLengths.2.1 105 = .ok (.goto (-78), 3) := by decide +kernel
theorem dM_feedLengths_108 : decode mM_feedLengths.2.1 108 = .ok (.aload_n 0, 1) := by decide +kernel
theorem dM_feedLengths_109 : decode mM_feedLengths.2.1 109 = .ok (.iload_n 1, 1) := by decide +kernel
theorem dM_feedLengths_110 : decode mM_feedLengths.2.1 110 = .ok (.invokevirtual 93, 3) := by decide +kernel
theorem dM_feedLengths_113 : decode mM_feedLengths.2.1 113 = .ok (.return_, 1) := by decide +kernel
theorem dM_endHash_0 : decode mM_endHash.2.1 0 = .ok (.iconst 0, 1) := by decide +kernel
theorem dM_endHash_1 : decode mM_endHash.2.1 1 = .ok (.istore_n 2, 1) := by decide +kernel
theorem dM_endHash_2 : decode mM_endHash.2.1 2 = .ok (.iload_n 2, 1) := by decide +kernel
theorem dM_endHash_3 : decode mM_endHash.2.1 3 = .ok (.bipush 16, 2) := by decide +kernel
theorem dM_endHash_5 : decode mM_endHash.2.1 5 = .ok (.if_icmp .ge 16, 3) := by decide +kernel
theorem dM_endHash_8 : decode mM_endHash.2.1 8 = .ok (.aload_n 0, 1) := by decide +kernel
theorem dM_endHash_9 : decode mM_endHash.2.1 9 = .ok (.getfield 34, 3) := by decide +kernel
theorem dM_endHash_12 : decode mM_endHash.2.1 12 = .ok (.iload_n 2, 1) := by decide +kernel
theorem dM_endHash_13 : decode mM_endHash.2.1 13 = .ok (.iconst 0, 1) := by decide +kernel
theorem dM_endHash_14 : decode mM_endHash.2.1 14 = .ok (.iastore, 1) := by decide +kernel
theorem dM_endHash_15 : decode mM_endHash.2.1 15 = .ok (.iinc 2 1, 3) := by decide +kernel
theorem dM_endHash_18 : decode mM_endHash.2.1 18 = .ok (.goto (-16), 3) := by decide +kernel
theorem dM_endHash_21 : decode mM_endHash.2.1 21 = .ok (.iconst 0, 1) := by decide +kernel
theorem dM_endHash_22 : decode mM_endHash.2.1 22 = .ok (.istore_n 2, 1) := by decide +kernel
theorem dM_endHash_23 : decode mM_endHash.2.1 23 = .ok (.iload_n 2, 1) := by decide +kernel
theorem dM_endHash_24 : decode mM_endHash.2.1 24 = .ok (.sipush 128, 3) := by decide +kernel
theorem dM_endHash_27 : decode mM_endHash.2.1 27 = .ok (.if_icmp .ge 53, 3) := by decide +kernel
theorem dM_endHash_30 : decode mM_endHash.2.1 30 = .ok (.aload_n 0, 1) := by decide +kernel
theorem dM_endHash_31 : decode mM_endHash.2.1 31 = .ok (.getfield 34, 3) := by decide +kernel
theorem dM_endHash_34 : decode mM_endHash.2.1 34 = .ok (.iload_n 2, 1) := by decide +kernel
theorem dM_endHash_35 : decode mM_endHash.2.1 35 = .ok (.bipush 8, 2) := by decide +kernel
theorem dM_endHash_37 : decode mM_endHash.2.1 37 = .ok (.idiv, 1) := by decide +kernel
theorem dM_endHash_38 : decode mM_endHash.2.1 38 = .ok (.aload_n 0, 1) := by decide +kernel
theorem dM_endHash_39 : decode mM_endHash.2.1 39 = .ok (.getfield 34, 3) := by decide +kernel
theorem dM_endHash_42 : decode mM_endHash.2.1 42 = .ok (.iload_n 2, 1) := by decide +kernel
theorem dM_endHash_43 : decode mM_endHash.2.1 43 = .ok (.bipush 8, 2) := by decide +kernel
theorem dM_endHash_45 : decode mM_endHash.2.1 45 = .ok (.idiv, 1) := by decide +kernel
theorem dM_endHash_46 : decode mM_endHash.2.1 46 = .ok (.iaload, 1) := by decide +kernel
theorem dM_endHash_47 : decode mM_endHash.2.1 47 = .ok (.aload_n 0, 1) := by decide +kernel
theorem dM_endHash_48 : decode mM_endHash.2.1 48 = .ok (.getfield 37, 3) := by decide +kernel
theorem dM_endHash_51 : decode mM_endHash.2.1 51 = .ok (.iload_n 2, 1) := by decide +kernel
theorem dM_endHash_52 : decode mM_endHash.2.1 52 = .ok (.iaload, 1) := by decide +kernel
theorem dM_endHash_53 : decode mM_endHash.2.1 53 = .ok (.iload_n 1, 1) := by decide +kernel
theorem dM_endHash_54 : decode mM_endHash.2.1 54 = .ok (.ifCond .ne 13, 3) := by decide +kernel
theorem dM_endHash_57 : decode mM_endHash.2.1 57 = .ok (.bipush 7, 2) := by decide +kernel
theorem dM_endHash_59 : decode mM_endHash.2.1 59 = .ok (.iload_n 2, 1) := by decide +kernel
theorem dM_endHash_60 : decode mM_endHash.2.1 60 = .ok (.bipush 8, 2) := by decide +kernel
theorem dM_endHash_62 : decode mM_endHash.2.1 62 = .ok (.irem, 1) := by decide +kernel
theorem dM_endHash_63 : decode mM_endHash.2.1 63 = .ok (.isub, 1) := by decide +kernel
theorem dM_endHash_64 : decode mM_endHash.2.1 64 = .ok (.goto 7, 3) := by decide +kernel
theorem dM_endHash_67 : decode mM_endHash.2.1 67 = .ok (.iload_n 2, 1) := by decide +kernel
theorem dM_endHash_68 : decode mM_endHash.2.1 68 = .ok (.bipush 8, 2) := by decide +kernel
theorem dM_endHash_70 : decode mM_endHash.2.1 70 = .ok (.irem, 1) := by decide +kernel
theorem dM_endHash_71 : decode mM_endHash.2.1 71 = .ok (.ishl, 1) := by decide +kernel
theorem dM_endHash_72 : decode mM_endHash.2.1 72 = .ok (.ior, 1) := by decide +kernel
theorem dM_endHash_73 : decode mM_endHash.2.1 73 = .ok (.iastore, 1) := by decide +kernel
theorem dM_endHash_74 : decode mM_endHash.2.1 74 = .ok (.iinc 2 1, 3) := by decide +kernel
theorem dM_endHash_77 : decode mM_endHash.2.1 77 = .ok (.goto (-54), 3) := by decide +kernel
theorem dM_endHash_80 : decode mM_endHash.2.1 80 = .ok (.return_, 1) := by decide +kernel
theorem dM_isRow_0 : decode mM_isRow.2.1 0 = .ok (.iload_n 0, 1) := by decide +kernel
theorem dM_isRow_1 : decode mM_isRow.2.1 1 = .ok (.ifCond .lt 12, 3) := by decide +kernel
theorem dM_isRow_4 : decode mM_isRow.2.1 4 = .ok (.iload_n 0, 1) := by decide +kernel
theorem dM_isRow_5 : decode mM_isRow.2.1 5 = .ok (.iconst 4, 1) := by decide +kernel
theorem dM_isRow_6 : decode mM_isRow.2.1 6 = .ok (.if_icmp .ge 7, 3) := by decide +kernel
theorem dM_isRow_9 : decode mM_isRow.2.1 9 = .ok (.iconst 1, 1) := by decide +kernel
theorem dM_isRow_10 : decode mM_isRow.2.1 10 = .ok (.goto 4, 3) := by decide +kernel
theorem dM_isRow_13 : decode mM_isRow.2.1 13 = .ok (.iconst 0, 1) := by decide +kernel
theorem dM_isRow_14 : decode mM_isRow.2.1 14 = .ok (.ireturn, 1) := by decide +kernel
theorem dM_most_0 : decode mM_most.2.1 0 = .ok (.iload_n 0, 1) := by decide +kernel
theorem dM_most_1 : decode mM_most.2.1 1 = .ok (.ifCond .ne 8, 3) := by decide +kernel
theorem dM_most_4 : decode mM_most.2.1 4 = .ok (.bipush 16, 2) := by decide +kernel
theorem dM_most_6 : decode mM_most.2.1 6 = .ok (.goto 25, 3) := by decide +kernel
theorem dM_most_9 : decode mM_most.2.1 9 = .ok (.iload_n 0, 1) := by decide +kernel
theorem dM_most_10 : decode mM_most.2.1 10 = .ok (.iconst 1, 1) := by decide +kernel
theorem dM_most_11 : decode mM_most.2.1 11 = .ok (.if_icmp .ne 8, 3) := by decide +kernel
theorem dM_most_14 : decode mM_most.2.1 14 = .ok (.bipush 24, 2) := by decide +kernel
theorem dM_most_16 : decode mM_most.2.1 16 = .ok (.goto 15, 3) := by decide +kernel
theorem dM_most_19 : decode mM_most.2.1 19 = .ok (.iload_n 0, 1) := by decide +kernel
theorem dM_most_20 : decode mM_most.2.1 20 = .ok (.iconst 2, 1) := by decide +kernel
theorem dM_most_21 : decode mM_most.2.1 21 = .ok (.if_icmp .ne 8, 3) := by decide +kernel
theorem dM_most_24 : decode mM_most.2.1 24 = .ok (.bipush 32, 2) := by decide +kernel
theorem dM_most_26 : decode mM_most.2.1 26 = .ok (.goto 5, 3) := by decide +kernel
theorem dM_most_29 : decode mM_most.2.1 29 = .ok (.bipush 64, 2) := by decide +kernel
theorem dM_most_31 : decode mM_most.2.1 31 = .ok (.ireturn, 1) := by decide +kernel
theorem dM_type_0 : decode mM_type.2.1 0 = .ok (.aload_n 0, 1) := by decide +kernel
theorem dM_type_1 : decode mM_type.2.1 1 = .ok (.iload_n 1, 1) := by decide +kernel
theorem dM_type_2 : decode mM_type.2.1 2 = .ok (.invokestatic 96, 3) := by decide +kernel
theorem dM_type_5 : decode mM_type.2.1 5 = .ok (.ifCond .eq 16, 3) := by decide +kernel
theorem dM_type_8 : decode mM_type.2.1 8 = .ok (.iload 4, 2) := by decide +kernel
theorem dM_type_10 : decode mM_type.2.1 10 = .ok (.iconst 1, 1) := by decide +kernel
theorem dM_type_11 : decode mM_type.2.1 11 = .ok (.if_icmp .lt 10, 3) := by decide +kernel
theorem dM_type_14 : decode mM_type.2.1 14 = .ok (.iload 4, 2) := by decide +kernel
theorem dM_type_16 : decode mM_type.2.1 16 = .ok (.bipush 8, 2) := by decide +kernel
theorem dM_type_18 : decode mM_type.2.1 18 = .ok (.if_icmp .le 7, 3) := by decide +kernel
theorem dM_type_21 : decode mM_type.2.1 21 = .ok (.iconst 1, 1) := by decide +kernel
theorem dM_type_22 : decode mM_type.2.1 22 = .ok (.goto 24, 3) := by decide +kernel
theorem dM_type_25 : decode mM_type.2.1 25 = .ok (.aload_n 0, 1) := by decide +kernel
theorem dM_type_26 : decode mM_type.2.1 26 = .ok (.getfield 13, 3) := by decide +kernel
theorem dM_type_29 : decode mM_type.2.1 29 = .ok (.iload_n 1, 1) := by decide +kernel
theorem dM_type_30 : decode mM_type.2.1 30 = .ok (.iaload, 1) := by decide +kernel
theorem dM_type_31 : decode mM_type.2.1 31 = .ok (.iload 4, 2) := by decide +kernel
theorem dM_type_33 : decode mM_type.2.1 33 = .ok (.iadd, 1) := by decide +kernel
theorem dM_type_34 : decode mM_type.2.1 34 = .ok (.iload_n 1, 1) := by decide +kernel
theorem dM_type_35 : decode mM_type.2.1 35 = .ok (.invokestatic 100, 3) := by decide +kernel
theorem dM_type_38 : decode mM_type.2.1 38 = .ok (.if_icmp .le 7, 3) := by decide +kernel
theorem dM_type_41 : decode mM_type.2.1 41 = .ok (.iconst 2, 1) := by decide +kernel
theorem dM_type_42 : decode mM_type.2.1 42 = .ok (.goto 4, 3) := by decide +kernel
theorem dM_type_45 : decode mM_type.2.1 45 = .ok (.iconst 0, 1) := by decide +kernel
theorem dM_type_46 : decode mM_type.2.1 46 = .ok (.putfield 59, 3) := by decide +kernel
theorem dM_type_49 : decode mM_type.2.1 49 = .ok (.aload_n 0, 1) := by decide +kernel
theorem dM_type_50 : decode mM_type.2.1 50 = .ok (.getfield 59, 3) := by decide +kernel
theorem dM_type_53 : decode mM_type.2.1 53 = .ok (.ifCond .le 5, 3) := by decide +kernel
theorem dM_type_56 : decode mM_type.2.1 56 = .ok (.iconst 0, 1) := by decide +kernel
theorem dM_type_57 : decode mM_type.2.1 57 = .ok (.ireturn, 1) := by decide +kernel
theorem dM_type_58 : decode mM_type.2.1 58 = .ok (.iload 4, 2) := by decide +kernel
theorem dM_type_60 : decode mM_type.2.1 60 = .ok (.iconst 1, 1) := by decide +kernel
theorem dM_type_61 : decode mM_type.2.1 61 = .ok (.isub, 1) := by decide +kernel
theorem dM_type_62 : decode mM_type.2.1 62 = .ok (.istore 5, 2) := by decide +kernel
theorem dM_type_64 : decode mM_type.2.1 64 = .ok (.iload 5, 2) := by decide +kernel
theorem dM_type_66 : decode mM_type.2.1 66 = .ok (.ifCond .lt 47, 3) := by decide +kernel
theorem dM_type_69 : decode mM_type.2.1 69 = .ok (.aload_n 0, 1) := by decide +kernel
theorem dM_type_70 : decode mM_type.2.1 70 = .ok (.getfield 7, 3) := by decide +kernel
theorem dM_type_73 : decode mM_type.2.1 73 = .ok (.bipush 64, 2) := by decide +kernel
theorem dM_type_75 : decode mM_type.2.1 75 = .ok (.iload_n 1, 1) := by decide +kernel
theorem dM_type_76 : decode mM_type.2.1 76 = .ok (.imul, 1) := by decide +kernel
theorem dM_type_77 : decode mM_type.2.1 77 = .ok (.aload_n 0, 1) := by decide +kernel
theorem dM_type_78 : decode mM_type.2.1 78 = .ok (.getfield 13, 3) := by decide +kernel
theorem dM_type_81 : decode mM_type.2.1 81 = .ok (.iload_n 1, 1) := by decide +kernel
theorem dM_type_82 : decode mM_type.2.1 82 = .ok (.iaload, 1) := by decide +kernel
theorem dM_type_83 : decode mM_type.2.1 83 = .ok (.iadd, 1) := by decide +kernel
theorem dM_type_84 : decode mM_type.2.1 84 = .ok (.lload_n 2, 1) := by decide +kernel
theorem dM_type_85 : decode mM_type.2.1 85 = .ok (.bipush 8, 2) := by decide +kernel
theorem dM_type_87 : decode mM_type.2.1 87 = .ok (.iload 5, 2) := by decide +kernel
theorem dM_type_89 : decode mM_type.2.1 89 = .ok (.imul, 1) := by decide +kernel
theorem dM_type_90 : decode mM_type.2.1 90 = .ok (.lshr, 1) := by decide +kernel
theorem dM_type_91 : decode mM_type.2.1 91 = .ok (.ldc2_w 103, 3) := by decide +kernel
theorem dM_type_94 : decode mM_type.2.1 94 = .ok (.land, 1) := by decide +kernel
theorem dM_type_95 : decode mM_type.2.1 95 = .ok (.l2i, 1) := by decide +kernel
theorem dM_type_96 : decode mM_type.2.1 96 = .ok (.iastore, 1) := by decide +kernel
theorem dM_type_97 : decode mM_type.2.1 97 = .ok (.aload_n 0, 1) := by decide +kernel
theorem dM_type_98 : decode mM_type.2.1 98 = .ok (.getfield 13, 3) := by decide +kernel
theorem dM_type_101 : decode mM_type.2.1 101 = .ok (.iload_n 1, 1) := by decide +kernel
theorem dM_type_102 : decode mM_type.2.1 102 = .ok (.dup2, 1) := by decide +kernel
theorem dM_type_103 : decode mM_type.2.1 103 = .ok (.iaload, 1) := by decide +kernel
theorem dM_type_104 : decode mM_type.2.1 104 = .ok (.iconst 1, 1) := by decide +kernel
theorem dM_type_105 : decode mM_type.2.1 105 = .ok (.iadd, 1) := by decide +kernel
theorem dM_type_106 : decode mM_type.2.1 106 = .ok (.iastore, 1) := by decide +kernel
theorem dM_type_107 : decode mM_type.2.1 107 = .ok (.iinc 5 (-1), 3) := by decide +kernel
theorem dM_type_110 : decode mM_type.2.1 110 = .ok (.goto (-46), 3) := by decide +kernel
theorem dM_type_113 : decode mM_type.2.1 113 = .ok (.aload_n 0, 1) := by decide +kernel
theorem dM_type_114 : decode mM_type.2.1 114 = .ok (.getfield 13, 3) := by decide +kernel
theorem dM_type_117 : decode mM_type.2.1 117 = .ok (.iload_n 1, 1) := by decide +kernel
theorem dM_type_118 : decode mM_type.2.1 118 = .ok (.iaload, 1) := by decide +kernel
theorem dM_type_119 : decode mM_type.2.1 119 = .ok (.ireturn, 1) := by decide +kernel
