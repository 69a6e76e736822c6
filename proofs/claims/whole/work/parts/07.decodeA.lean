theorem dS_init_0 : decode mS_init.2.1 0 = .ok (.aload_n 0, 1) := by decide +kernel
theorem dS_init_1 : decode mS_init.2.1 1 = .ok (.invokespecial 1, 3) := by decide +kernel
theorem dS_init_4 : decode mS_init.2.1 4 = .ok (.aload_n 0, 1) := by decide +kernel
theorem dS_init_5 : decode mS_init.2.1 5 = .ok (.iconst 4, 1) := by decide +kernel
theorem dS_init_6 : decode mS_init.2.1 6 = .ok (.anewarray 9, 3) := by decide +kernel
theorem dS_init_9 : decode mS_init.2.1 9 = .ok (.putfield 11, 3) := by decide +kernel
theorem dS_init_12 : decode mS_init.2.1 12 = .ok (.aload_n 0, 1) := by decide +kernel
theorem dS_init_13 : decode mS_init.2.1 13 = .ok (.getfield 11, 3) := by decide +kernel
theorem dS_init_16 : decode mS_init.2.1 16 = .ok (.iconst 0, 1) := by decide +kernel
theorem dS_init_17 : decode mS_init.2.1 17 = .ok (.new 9, 3) := by decide +kernel
theorem dS_init_20 : decode mS_init.2.1 20 = .ok (.dup, 1) := by decide +kernel
theorem dS_init_21 : decode mS_init.2.1 21 = .ok (.bipush 16, 2) := by decide +kernel
theorem dS_init_23 : decode mS_init.2.1 23 = .ok (.invokespecial 15, 3) := by decide +kernel
theorem dS_init_26 : decode mS_init.2.1 26 = .ok (.aastore, 1) := by decide +kernel
theorem dS_init_27 : decode mS_init.2.1 27 = .ok (.aload_n 0, 1) := by decide +kernel
theorem dS_init_28 : decode mS_init.2.1 28 = .ok (.getfield 11, 3) := by decide +kernel
theorem dS_init_31 : decode mS_init.2.1 31 = .ok (.iconst 1, 1) := by decide +kernel
theorem dS_init_32 : decode mS_init.2.1 32 = .ok (.new 9, 3) := by decide +kernel
theorem dS_init_35 : decode mS_init.2.1 35 = .ok (.dup, 1) := by decide +kernel
theorem dS_init_36 : decode mS_init.2.1 36 = .ok (.bipush 24, 2) := by decide +kernel
theorem dS_init_38 : decode mS_init.2.1 38 = .ok (.invokespecial 15, 3) := by decide +kernel
theorem dS_init_41 : decode mS_init.2.1 41 = .ok (.aastore, 1) := by decide +kernel
theorem dS_init_42 : decode mS_init.2.1 42 = .ok (.aload_n 0, 1) := by decide +kernel
theorem dS_init_43 : decode mS_init.2.1 43 = .ok (.getfield 11, 3) := by decide +kernel
theorem dS_init_46 : decode mS_init.2.1 46 = .ok (.iconst 2, 1) := by decide +kernel
theorem dS_init_47 : decode mS_init.2.1 47 = .ok (.new 9, 3) := by decide +kernel
theorem dS_init_50 : decode mS_init.2.1 50 = .ok (.dup, 1) := by decide +kernel
theorem dS_init_51 : decode mS_init.2.1 51 = .ok (.bipush 32, 2) := by decide +kernel
theorem dS_init_53 : decode mS_init.2.1 53 = .ok (.invokespecial 15, 3) := by decide +kernel
theorem dS_init_56 : decode mS_init.2.1 56 = .ok (.aastore, 1) := by decide +kernel
theorem dS_init_57 : decode mS_init.2.1 57 = .ok (.aload_n 0, 1) := by decide +kernel
theorem dS_init_58 : decode mS_init.2.1 58 = .ok (.getfield 11, 3) := by decide +kernel
theorem dS_init_61 : decode mS_init.2.1 61 = .ok (.iconst 3, 1) := by decide +kernel
theorem dS_init_62 : decode mS_init.2.1 62 = .ok (.new 9, 3) := by decide +kernel
theorem dS_init_65 : decode mS_init.2.1 65 = .ok (.dup, 1) := by decide +kernel
theorem dS_init_66 : decode mS_init.2.1 66 = .ok (.bipush 64, 2) := by decide +kernel
theorem dS_init_68 : decode mS_init.2.1 68 = .ok (.invokespecial 15, 3) := by decide +kernel
theorem dS_init_71 : decode mS_init.2.1 71 = .ok (.aastore, 1) := by decide +kernel
theorem dS_init_72 : decode mS_init.2.1 72 = .ok (.aload_n 0, 1) := by decide +kernel
theorem dS_init_73 : decode mS_init.2.1 73 = .ok (.new 9, 3) := by decide +kernel
theorem dS_init_76 : decode mS_init.2.1 76 = .ok (.dup, 1) := by decide +kernel
theorem dS_init_77 : decode mS_init.2.1 77 = .ok (.bipush 64, 2) := by decide +kernel
theorem dS_init_79 : decode mS_init.2.1 79 = .ok (.invokespecial 15, 3) := by decide +kernel
theorem dS_init_82 : decode mS_init.2.1 82 = .ok (.putfield 18, 3) := by decide +kernel
theorem dS_init_85 : decode mS_init.2.1 85 = .ok (.aload_n 0, 1) := by decide +kernel
theorem dS_init_86 : decode mS_init.2.1 86 = .ok (.new 9, 3) := by decide +kernel
theorem dS_init_89 : decode mS_init.2.1 89 = .ok (.dup, 1) := by decide +kernel
theorem dS_init_90 : decode mS_init.2.1 90 = .ok (.bipush 64, 2) := by decide +kernel
theorem dS_init_92 : decode mS_init.2.1 92 = .ok (.invokespecial 15, 3) := by decide +kernel
theorem dS_init_95 : decode mS_init.2.1 95 = .ok (.putfield 22, 3) := by decide +kernel
theorem dS_init_98 : decode mS_init.2.1 98 = .ok (.aload_n 0, 1) := by decide +kernel
theorem dS_init_99 : decode mS_init.2.1 99 = .ok (.new 25, 3) := by decide +kernel
theorem dS_init_102 : decode mS_init.2.1 102 = .ok (.dup, 1) := by decide +kernel
theorem dS_init_103 : decode mS_init.2.1 103 = .ok (.invokespecial 27, 3) := by decide +kernel
theorem dS_init_106 : decode mS_init.2.1 106 = .ok (.putfield 28, 3) := by decide +kernel
theorem dS_init_109 : decode mS_init.2.1 109 = .ok (.aload_n 0, 1) := by decide +kernel
theorem dS_init_110 : decode mS_init.2.1 110 = .ok (.iconst 2, 1) := by decide +kernel
theorem dS_init_111 : decode mS_init.2.1 111 = .ok (.anewarray 32, 3) := by decide +kernel
theorem dS_init_114 : decode mS_init.2.1 114 = .ok (.putfield 34, 3) := by decide +kernel
theorem dS_init_117 : decode mS_init.2.1 117 = .ok (.aload_n 0, 1) := by decide +kernel
theorem dS_init_118 : decode mS_init.2.1 118 = .ok (.getfield 34, 3) := by decide +kernel
theorem dS_init_121 : decode mS_init.2.1 121 = .ok (.iconst 0, 1) := by decide +kernel
theorem dS_init_122 : decode mS_init.2.1 122 = .ok (.new 32, 3) := by decide +kernel
theorem dS_init_125 : decode mS_init.2.1 125 = .ok (.dup, 1) := by decide +kernel
theorem dS_init_126 : decode mS_init.2.1 126 = .ok (.iconst 1, 1) := by decide +kernel
theorem dS_init_127 : decode mS_init.2.1 127 = .ok (.invokespecial 38, 3) := by decide +kernel
theorem dS_init_130 : decode mS_init.2.1 130 = .ok (.aastore, 1) := by decide +kernel
theorem dS_init_131 : decode mS_init.2.1 131 = .ok (.aload_n 0, 1) := by decide +kernel
theorem dS_init_132 : decode mS_init.2.1 132 = .ok (.getfield 34, 3) := by decide +kernel
theorem dS_init_135 : decode mS_init.2.1 135 = .ok (.iconst 1, 1) := by decide +kernel
theorem dS_init_136 : decode mS_init.2.1 136 = .ok (.new 32, 3) := by decide +kernel
theorem dS_init_139 : decode mS_init.2.1 139 = .ok (.dup, 1) := by decide +kernel
theorem dS_init_140 : decode mS_init.2.1 140 = .ok (.iconst 0, 1) := by decide +kernel
theorem dS_init_141 : decode mS_init.2.1 141 = .ok (.invokespecial 38, 3) := by decide +kernel
theorem dS_init_144 : decode mS_init.2.1 144 = .ok (.aastore, 1) := by decide +kernel
theorem dS_init_145 : decode mS_init.2.1 145 = .ok (.aload_n 0, 1) := by decide +kernel
theorem dS_init_146 : decode mS_init.2.1 146 = .ok (.iconst 2, 1) := by decide +kernel
theorem dS_init_147 : decode mS_init.2.1 147 = .ok (.anewarray 41, 3) := by decide +kernel
theorem dS_init_150 : decode mS_init.2.1 150 = .ok (.putfield 43, 3) := by decide +kernel
theorem dS_init_153 : decode mS_init.2.1 153 = .ok (.aload_n 0, 1) := by decide +kernel
theorem dS_init_154 : decode mS_init.2.1 154 = .ok (.getfield 43, 3) := by decide +kernel
theorem dS_init_157 : decode mS_init.2.1 157 = .ok (.iconst 0, 1) := by decide +kernel
theorem dS_init_158 : decode mS_init.2.1 158 = .ok (.new 47, 3) := by decide +kernel
theorem dS_init_161 : decode mS_init.2.1 161 = .ok (.dup, 1) := by decide +kernel
theorem dS_init_162 : decode mS_init.2.1 162 = .ok (.aload_n 0, 1) := by decide +kernel
theorem dS_init_163 : decode mS_init.2.1 163 = .ok (.getfield 28, 3) := by decide +kernel
theorem dS_init_166 : decode mS_init.2.1 166 = .ok (.aload_n 0, 1) := by decide +kernel
theorem dS_init_167 : decode mS_init.2.1 167 = .ok (.getfield 34, 3) := by decide +kernel
theorem dS_init_170 : decode mS_init.2.1 170 = .ok (.iconst 0, 1) := by decide +kernel
theorem dS_init_171 : decode mS_init.2.1 171 = .ok (.aaload, 1) := by decide +kernel
theorem dS_init_172 : decode mS_init.2.1 172 = .ok (.invokespecial 49, 3) := by decide +kernel
theorem dS_init_175 : decode mS_init.2.1 175 = .ok (.aastore, 1) := by decide +kernel
theorem dS_init_176 : decode mS_init.2.1 176 = .ok (.aload_n 0, 1) := by decide +kernel
theorem dS_init_177 : decode mS_init.2.1 177 = .ok (.getfield 43, 3) := by decide +kernel
theorem dS_init_180 : decode mS_init.2.1 180 = .ok (.iconst 1, 1) := by decide +kernel
theorem dS_init_181 : decode mS_init.2.1 181 = .ok (.new 52, 3) := by decide +kernel
theorem dS_init_184 : decode mS_init.2.1 184 = .ok (.dup, 1) := by decide +kernel
theorem dS_init_185 : decode mS_init.2.1 185 = .ok (.aload_n 0, 1) := by decide +kernel
theorem dS_init_186 : decode mS_init.2.1 186 = .ok (.getfield 28, 3) := by decide +kernel
theorem dS_init_189 : decode mS_init.2.1 189 = .ok (.aload_n 0, 1) := by decide +kernel
theorem dS_init_190 : decode mS_init.2.1 190 = .ok (.getfield 34, 3) := by decide +kernel
theorem dS_init_193 : decode mS_init.2.1 193 = .ok (.iconst 1, 1) := by decide +kernel
theorem dS_init_194 : decode mS_init.2.1 194 = .ok (.aaload, 1) := by decide +kernel
theorem dS_init_195 : decode mS_init.2.1 195 = .ok (.invokespecial 54, 3) := by decide +kernel
theorem dS_init_198 : decode mS_init.2.1 198 = .ok (.aastore, 1) := by decide +kernel
theorem dS_init_199 : decode mS_init.2.1 199 = .ok (.return_, 1) := by decide +kernel
theorem dS_type_0 : decode mS_type.2.1 0 = .ok (.iload_n 1, 1) := by decide +kernel
theorem dS_type_1 : decode mS_type.2.1 1 = .ok (.invokestatic 55, 3) := by decide +kernel
theorem dS_type_4 : decode mS_type.2.1 4 = .ok (.iload 4, 2) := by decide +kernel
theorem dS_type_6 : decode mS_type.2.1 6 = .ok (.iconst 1, 1) := by decide +kernel
theorem dS_type_7 : decode mS_type.2.1 7 = .ok (.if_icmp .lt 10, 3) := by decide +kernel
theorem dS_type_10 : decode mS_type.2.1 10 = .ok (.iload 4, 2) := by decide +kernel
theorem dS_type_12 : decode mS_type.2.1 12 = .ok (.bipush 8, 2) := by decide +kernel
theorem dS_type_14 : decode mS_type.2.1 14 = .ok (.if_icmp .le 13, 3) := by decide +kernel
theorem dS_type_17 : decode mS_type.2.1 17 = .ok (.new 58, 3) := by decide +kernel
theorem dS_type_20 : decode mS_type.2.1 20 = .ok (.dup, 1) := by decide +kernel
theorem dS_type_21 : decode mS_type.2.1 21 = .ok (.ldc 60, 2) := by decide +kernel
theorem dS_type_23 : decode mS_type.2.1 23 = .ok (.invokespecial 62, 3) := by decide +kernel
theorem dS_type_26 : decode mS_type.2.1 26 = .ok (.athrow, 1) := by decide +kernel
theorem dS_type_27 : decode mS_type.2.1 27 = .ok (.aload_n 0, 1) := by decide +kernel
theorem dS_type_28 : decode mS_type.2.1 28 = .ok (.getfield 11, 3) := by decide +kernel
theorem dS_type_31 : decode mS_type.2.1 31 = .ok (.iload_n 1, 1) := by decide +kernel
theorem dS_type_32 : decode mS_type.2.1 32 = .ok (.aaload, 1) := by decide +kernel
theorem dS_type_33 : decode mS_type.2.1 33 = .ok (.astore 5, 2) := by decide +kernel
theorem dS_type_35 : decode mS_type.2.1 35 = .ok (.aload 5, 2) := by decide +kernel
theorem dS_type_37 : decode mS_type.2.1 37 = .ok (.aload 5, 2) := by decide +kernel
theorem dS_type_39 : decode mS_type.2.1 39 = .ok (.getfield 65, 3) := by decide +kernel
theorem dS_type_42 : decode mS_type.2.1 42 = .ok (.iload 4, 2) := by decide +kernel
theorem dS_type_44 : decode mS_type.2.1 44 = .ok (.iadd, 1) := by decide +kernel
theorem dS_type_45 : decode mS_type.2.1 45 = .ok (.invokevirtual 69, 3) := by decide +kernel
theorem dS_type_48 : decode mS_type.2.1 48 = .ok (.ifCond .ne 13, 3) := by decide +kernel
theorem dS_type_51 : decode mS_type.2.1 51 = .ok (.new 73, 3) := by decide +kernel
theorem dS_type_54 : decode mS_type.2.1 54 = .ok (.dup, 1) := by decide +kernel
theorem dS_type_55 : decode mS_type.2.1 55 = .ok (.ldc 75, 2) := by decide +kernel
theorem dS_type_57 : decode mS_type.2.1 57 = .ok (.invokespecial 77, 3) := by decide +kernel
theorem dS_type_60 : decode mS_type.2.1 60 = .ok (.athrow, 1) := by decide +kernel
theorem dS_type_61 : decode mS_type.2.1 61 = .ok (.iload 4, 2) := by decide +kernel
theorem dS_type_63 : decode mS_type.2.1 63 = .ok (.iconst 1, 1) := by decide +kernel
theorem dS_type_64 : decode mS_type.2.1 64 = .ok (.isub, 1) := by decide +kernel
theorem dS_type_65 : decode mS_type.2.1 65 = .ok (.istore 6, 2) := by decide +kernel
theorem dS_type_67 : decode mS_type.2.1 67 = .ok (.iload 6, 2) := by decide +kernel
theorem dS_type_69 : decode mS_type.2.1 69 = .ok (.ifCond .lt 26, 3) := by decide +kernel
theorem dS_type_72 : decode mS_type.2.1 72 = .ok (.aload 5, 2) := by decide +kernel
theorem dS_type_74 : decode mS_type.2.1 74 = .ok (.lload_n 2, 1) := by decide +kernel
theorem dS_type_75 : decode mS_type.2.1 75 = .ok (.bipush 8, 2) := by decide +kernel
theorem dS_type_77 : decode mS_type.2.1 77 = .ok (.iload 6, 2) := by decide +kernel
theorem dS_type_79 : decode mS_type.2.1 79 = .ok (.imul, 1) := by decide +kernel
theorem dS_type_80 : decode mS_type.2.1 80 = .ok (.lushr, 1) := by decide +kernel
theorem dS_type_81 : decode mS_type.2.1 81 = .ok (.l2i, 1) := by decide +kernel
theorem dS_type_82 : decode mS_type.2.1 82 = .ok (.sipush 255, 3) := by decide +kernel
theorem dS_type_85 : decode mS_type.2.1 85 = .ok (.iand, 1) := by decide +kernel
theorem dS_type_86 : decode mS_type.2.1 86 = .ok (.invokevirtual 78, 3) := by decide +kernel
theorem dS_type_89 : decode mS_type.2.1 89 = .ok (.iinc 6 (-1), 3) := by decide +kernel
theorem dS_type_92 : decode mS_type.2.1 92 = .ok (.goto (-25), 3) := by decide +kernel
theorem dS_type_95 : decode mS_type.2.1 95 = .ok (.aload 5, 2) := by decide +kernel
theorem dS_type_97 : decode mS_type.2.1 97 = .ok (.getfield 65, 3) := by decide +kernel
theorem dS_type_100 : decode mS_type.2.1 100 = .ok (.ireturn, 1) := by decide +kernel
theorem dS_clear_0 : decode mS_clear.2.1 0 = .ok (.iload_n 1, 1) := by decide +kernel
theorem dS_clear_1 : decode mS_clear.2.1 1 = .ok (.invokestatic 55, 3) := by decide +kernel
theorem dS_clear_4 : decode mS_clear.2.1 4 = .ok (.aload_n 0, 1) := by decide +kernel
theorem dS_clear_5 : decode mS_clear.2.1 5 = .ok (.getfield 11, 3) := by decide +kernel
theorem dS_clear_8 : decode mS_clear.2.1 8 = .ok (.iload_n 1, 1) := by decide +kernel
theorem dS_clear_9 : decode mS_clear.2.1 9 = .ok (.aaload, 1) := by decide +kernel
theorem dS_clear_10 : decode mS_clear.2.1 10 = .ok (.getfield 65, 3) := by decide +kernel
theorem dS_clear_13 : decode mS_clear.2.1 13 = .ok (.istore_n 2, 1) := by decide +kernel
theorem dS_clear_14 : decode mS_clear.2.1 14 = .ok (.aload_n 0, 1) := by decide +kernel
theorem dS_clear_15 : decode mS_clear.2.1 15 = .ok (.getfield 11, 3) := by decide +kernel
theorem dS_clear_18 : decode mS_clear.2.1 18 = .ok (.iload_n 1, 1) := by decide +kernel
theorem dS_clear_19 : decode mS_clear.2.1 19 = .ok (.aaload, 1) := by decide +kernel
theorem dS_clear_20 : decode mS_clear.2.1 20 = .ok (.iconst 0, 1) := by decide +kernel
theorem dS_clear_21 : decode mS_clear.2.1 21 = .ok (.putfield 65, 3) := by decide +kernel
theorem dS_clear_24 : decode mS_clear.2.1 24 = .ok (.iload_n 2, 1) := by decide +kernel
theorem dS_clear_25 : decode mS_clear.2.1 25 = .ok (.ireturn, 1) := by decide +kernel
theorem dS_poke_0 : decode mS_poke.2.1 0 = .ok (.iload_n 1, 1) := by decide +kernel
theorem dS_poke_1 : decode mS_poke.2.1 1 = .ok (.invokestatic 55, 3) := by decide +kernel
theorem dS_poke_4 : decode mS_poke.2.1 4 = .ok (.iload_n 3, 1) := by decide +kernel
theorem dS_poke_5 : decode mS_poke.2.1 5 = .ok (.ifCond .lt 10, 3) := by decide +kernel
theorem dS_poke_8 : decode mS_poke.2.1 8 = .ok (.iload_n 3, 1) := by decide +kernel
theorem dS_poke_9 : decode mS_poke.2.1 9 = .ok (.sipush 255, 3) := by decide +kernel
theorem dS_poke_12 : decode mS_poke.2.1 12 = .ok (.if_icmp .le 13, 3) := by decide +kernel
theorem dS_poke_15 : decode mS_poke.2.1 15 = .ok (.new 58, 3) := by decide +kernel
theorem dS_poke_18 : decode mS_poke.2.1 18 = .ok (.dup, 1) := by decide +kernel
theorem dS_poke_19 : decode mS_poke.2.1 19 = .ok (.ldc 81, 2) := by decide +kernel
theorem dS_poke_21 : decode mS_poke.2.1 21 = .ok (.invokespecial 62, 3) := by decide +kernel
theorem dS_poke_24 : decode mS_poke.2.1 24 = .ok (.athrow, 1) := by decide +kernel
theorem dS_poke_25 : decode mS_poke.2.1 25 = .ok (.aload_n 0, 1) := by decide +kernel
theorem dS_poke_26 : decode mS_poke.2.1 26 = .ok (.getfield 11, 3) := by decide +kernel
theorem dS_poke_29 : decode mS_poke.2.1 29 = .ok (.iload_n 1, 1) := by decide +kernel
theorem dS_poke_30 : decode mS_poke.2.1 30 = .ok (.aaload, 1) := by decide +kernel
theorem dS_poke_31 : decode mS_poke.2.1 31 = .ok (.iload_n 2, 1) := by decide +kernel
theorem dS_poke_32 : decode mS_poke.2.1 32 = .ok (.invokevirtual 83, 3) := by decide +kernel
theorem dS_poke_35 : decode mS_poke.2.1 35 = .ok (.ifCond .ne 13, 3) := by decide +kernel
theorem dS_poke_38 : decode mS_poke.2.1 38 = .ok (.new 86, 3) := by decide +kernel
theorem dS_poke_41 : decode mS_poke.2.1 41 = .ok (.dup, 1) := by decide +kernel
theorem dS_poke_42 : decode mS_poke.2.1 42 = .ok (.ldc 88, 2) := by decide +kernel
theorem dS_poke_44 : decode mS_poke.2.1 44 = .ok (.invokespecial 90, 3) := by decide +kernel
theorem dS_poke_47 : decode mS_poke.2.1 47 = .ok (.athrow, 1) := by decide +kernel
theorem dS_poke_48 : decode mS_poke.2.1 48 = .ok (.aload_n 0, 1) := by decide +kernel
theorem dS_poke_49 : decode mS_poke.2.1 49 = .ok (.getfield 11, 3) := by decide +kernel
theorem dS_poke_52 : decode mS_poke.2.1 52 = .ok (.iload_n 1, 1) := by decide +kernel
theorem dS_poke_53 : decode mS_poke.2.1 53 = .ok (.aaload, 1) := by decide +kernel
theorem dS_poke_54 : decode mS_poke.2.1 54 = .ok (.getfield 91, 3) := by decide +kernel
theorem dS_poke_57 : decode mS_poke.2.1 57 = .ok (.iload_n 2, 1) := by decide +kernel
theorem dS_poke_58 : decode mS_poke.2.1 58 = .ok (.iload_n 3, 1) := by decide +kernel
theorem dS_poke_59 : decode mS_poke.2.1 59 = .ok (.iastore, 1) := by decide +kernel
theorem dS_poke_60 : decode mS_poke.2.1 60 = .ok (.return_, 1) := by decide +kernel
theorem dS_take_0 : decode mS_take.2.1 0 = .ok (.iload_n 1, 1) := by decide +kernel
theorem dS_take_1 : decode mS_take.2.1 1 = .ok (.invokestatic 55, 3) := by decide +kernel
theorem dS_take_4 : decode mS_take.2.1 4 = .ok (.aload_n 0, 1) := by decide +kernel
theorem dS_take_5 : decode mS_take.2.1 5 = .ok (.getfield 11, 3) := by decide +kernel
theorem dS_take_8 : decode mS_take.2.1 8 = .ok (.iload_n 1, 1) := by decide +kernel
theorem dS_take_9 : decode mS_take.2.1 9 = .ok (.aaload, 1) := by decide +kernel
theorem dS_take_10 : decode mS_take.2.1 10 = .ok (.aload_n 0, 1) := by decide +kernel
theorem dS_take_11 : decode mS_take.2.1 11 = .ok (.getfield 18, 3) := by decide +kernel
theorem dS_take_14 : decode mS_take.2.1 14 = .ok (.getfield 65, 3) := by decide +kernel
theorem dS_take_17 : decode mS_take.2.1 17 = .ok (.invokevirtual 69, 3) := by decide +kernel
theorem dS_take_20 : decode mS_take.2.1 20 = .ok (.ifCond .ne 13, 3) := by decide +kernel
theorem dS_take_23 : decode mS_take.2.1 23 = .ok (.new 73, 3) := by decide +kernel
theorem dS_take_26 : decode mS_take.2.1 26 = .ok (.dup, 1) := by decide +kernel
theorem dS_take_27 : decode mS_take.2.1 27 = .ok (.ldc 95, 2) := by decide +kernel
theorem dS_take_29 : decode mS_take.2.1 29 = .ok (.invokespecial 77, 3) := by decide +kernel
theorem dS_take_32 : decode mS_take.2.1 32 = .ok (.athrow, 1) := by decide +kernel
theorem dS_take_33 : decode mS_take.2.1 33 = .ok (.aload_n 0, 1) := by decide +kernel
theorem dS_take_34 : decode mS_take.2.1 34 = .ok (.getfield 11, 3) := by decide +kernel
theorem dS_take_37 : decode mS_take.2.1 37 = .ok (.iload_n 1, 1) := by decide +kernel
theorem dS_take_38 : decode mS_take.2.1 38 = .ok (.aaload, 1) := by decide +kernel
theorem dS_take_39 : decode mS_take.2.1 39 = .ok (.aload_n 0, 1) := by decide +kernel
theorem dS_take_40 : decode mS_take.2.1 40 = .ok (.getfield 18, 3) := by decide +kernel
theorem dS_take_43 : decode mS_take.2.1 43 = .ok (.invokevirtual 97, 3) := by decide +kernel
theorem dS_take_46 : decode mS_take.2.1 46 = .ok (.aload_n 0, 1) := by decide +kernel
theorem dS_take_47 : decode mS_take.2.1 47 = .ok (.getfield 18, 3) := by decide +kernel
theorem dS_take_50 : decode mS_take.2.1 50 = .ok (.getfield 65, 3) := by decide +kernel
theorem dS_take_53 : decode mS_take.2.1 53 = .ok (.ireturn, 1) := by decide +kernel
theorem dS_block_0 : decode mS_block.2.1 0 = .ok (.aload_n 0, 1) := by decide +kernel
theorem dS_block_1 : decode mS_block.2.1 1 = .ok (.getfield 11, 3) := by decide +kernel
theorem dS_block_4 : decode mS_block.2.1 4 = .ok (.iconst 0, 1) := by decide +kernel
theorem dS_block_5 : decode mS_block.2.1 5 = .ok (.aaload, 1) := by decide +kernel
theorem dS_block_6 : decode mS_block.2.1 6 = .ok (.getfield 65, 3) := by decide +kernel
theorem dS_block_9 : decode mS_block.2.1 9 = .ok (.bipush 16, 2) := by decide +kernel
theorem dS_block_11 : decode mS_block.2.1 11 = .ok (.if_icmp .ne 17, 3) := by decide +kernel
theorem dS_block_14 : decode mS_block.2.1 14 = .ok (.aload_n 0, 1) := by decide +kernel
theorem dS_block_15 : decode mS_block.2.1 15 = .ok (.getfield 11, 3) := by decide +kernel
theorem dS_block_18 : decode mS_block.2.1 18 = .ok (.iconst 3, 1) := by decide +kernel
theorem dS_block_19 : decode mS_block.2.1 19 = .ok (.aaload, 1) := by decide +kernel
theorem dS_block_20 : decode mS_block.2.1 20 = .ok (.getfield 65, 3) := by decide +kernel
theorem dS_block_23 : decode mS_block.2.1 23 = .ok (.bipush 16, 2) := by decide +kernel
theorem dS_block_25 : decode mS_block.2.1 25 = .ok (.if_icmp .eq 13, 3) := by decide +kernel
theorem dS_block_28 : decode mS_block.2.1 28 = .ok (.new 73, 3) := by decide +kernel
theorem dS_block_31 : decode mS_block.2.1 31 = .ok (.dup, 1) := by decide +kernel
theorem dS_block_32 : decode mS_block.2.1 32 = .ok (.ldc 101, 2) := by decide +kernel
theorem dS_block_34 : decode mS_block.2.1 34 = .ok (.invokespecial 77, 3) := by decide +kernel
theorem dS_block_37 : decode mS_block.2.1 37 = .ok (.athrow, 1) := by decide +kernel
theorem dS_block_38 : decode mS_block.2.1 38 = .ok (.aload_n 0, 1) := by decide +kernel
theorem dS_block_39 : decode mS_block.2.1 39 = .ok (.getfield 28, 3) := by decide +kernel
theorem dS_block_42 : decode mS_block.2.1 42 = .ok (.aload_n 0, 1) := by decide +kernel
theorem dS_block_43 : decode mS_block.2.1 43 = .ok (.getfield 11, 3) := by decide +kernel
theorem dS_block_46 : decode mS_block.2.1 46 = .ok (.iconst 0, 1) := by decide +kernel
theorem dS_block_47 : decode mS_block.2.1 47 = .ok (.aaload, 1) := by decide +kernel
theorem dS_block_48 : decode mS_block.2.1 48 = .ok (.getfield 91, 3) := by decide +kernel
theorem dS_block_51 : decode mS_block.2.1 51 = .ok (.invokevirtual 103, 3) := by decide +kernel
theorem dS_block_54 : decode mS_block.2.1 54 = .ok (.aload_n 0, 1) := by decide +kernel
theorem dS_block_55 : decode mS_block.2.1 55 = .ok (.getfield 28, 3) := by decide +kernel
theorem dS_block_58 : decode mS_block.2.1 58 = .ok (.aload_n 0, 1) := by decide +kernel
theorem dS_block_59 : decode mS_block.2.1 59 = .ok (.getfield 11, 3) := by decide +kernel
theorem dS_block_62 : decode mS_block.2.1 62 = .ok (.iconst 3, 1) := by decide +kernel
theorem dS_block_63 : decode mS_block.2.1 63 = .ok (.aaload, 1) := by decide +kernel
theorem dS_block_64 : decode mS_block.2.1 64 = .ok (.getfield 91, 3) := by decide +kernel
theorem dS_block_67 : decode mS_block.2.1 67 = .ok (.aload_n 0, 1) := by decide +kernel
theorem dS_block_68 : decode mS_block.2.1 68 = .ok (.getfield 18, 3) := by decide +kernel
theorem dS_block_71 : decode mS_block.2.1 71 = .ok (.getfield 91, 3) := by decide +kernel
theorem dS_block_74 : decode mS_block.2.1 74 = .ok (.invokevirtual 107, 3) := by decide +kernel
theorem dS_block_77 : decode mS_block.2.1 77 = .ok (.aload_n 0, 1) := by decide +kernel
theorem dS_block_78 : decode mS_block.2.1 78 = .ok (.getfield 18, 3) := by decide +kernel
theorem dS_block_81 : decode mS_block.2.1 81 = .ok (.bipush 16, 2) := by decide +kernel
theorem dS_block_83 : decode mS_block.2.1 83 = .ok (.putfield 65, 3) := by decide +kernel
theorem dS_block_86 : decode mS_block.2.1 86 = .ok (.return_, 1) := by decide +kernel
theorem dS_hash_0 : decode mS_hash.2.1 0 = .ok (.iload_n 1, 1) := by decide +kernel
theorem dS_hash_1 : decode mS_hash.2.1 1 = .ok (.invokestatic 111, 3) := by decide +kernel
theorem dS_hash_4 : decode mS_hash.2.1 4 = .ok (.aload_n 0, 1) := by decide +kernel
theorem dS_hash_5 : decode mS_hash.2.1 5 = .ok (.getfield 11, 3) := by decide +kernel
theorem dS_hash_8 : decode mS_hash.2.1 8 = .ok (.iconst 0, 1) := by decide +kernel
theorem dS_hash_9 : decode mS_hash.2.1 9 = .ok (.aaload, 1) := by decide +kernel
theorem dS_hash_10 : decode mS_hash.2.1 10 = .ok (.getfield 65, 3) := by decide +kernel
theorem dS_hash_13 : decode mS_hash.2.1 13 = .ok (.bipush 16, 2) := by decide +kernel
theorem dS_hash_15 : decode mS_hash.2.1 15 = .ok (.if_icmp .eq 13, 3) := by decide +kernel
theorem dS_hash_18 : decode mS_hash.2.1 18 = .ok (.new 73, 3) := by decide +kernel
theorem dS_hash_21 : decode mS_hash.2.1 21 = .ok (.dup, 1) := by decide +kernel
theorem dS_hash_22 : decode mS_hash.2.1 22 = .ok (.ldc 114, 2) := by decide +kernel
theorem dS_hash_24 : decode mS_hash.2.1 24 = .ok (.invokespecial 77, 3) := by decide +kernel
theorem dS_hash_27 : decode mS_hash.2.1 27 = .ok (.athrow, 1) := by decide +kernel
theorem dS_hash_28 : decode mS_hash.2.1 28 = .ok (.aload_n 0, 1) := by decide +kernel
theorem dS_hash_29 : decode mS_hash.2.1 29 = .ok (.getfield 34, 3) := by decide +kernel
theorem dS_hash_32 : decode mS_hash.2.1 32 = .ok (.iload_n 1, 1) := by decide +kernel
theorem dS_hash_33 : decode mS_hash.2.1 33 = .ok (.aaload, 1) := by decide +kernel
theorem dS_hash_34 : decode mS_hash.2.1 34 = .ok (.astore_n 2, 1) := by decide +kernel
theorem dS_hash_35 : decode mS_hash.2.1 35 = .ok (.aload_n 2, 1) := by decide +kernel
theorem dS_hash_36 : decode mS_hash.2.1 36 = .ok (.aload_n 0, 1) := by decide +kernel
theorem dS_hash_37 : decode mS_hash.2.1 37 = .ok (.getfield 11, 3) := by decide +kernel
theorem dS_hash_40 : decode mS_hash.2.1 40 = .ok (.iconst 0, 1) := by decide +kernel
theorem dS_hash_41 : decode mS_hash.2.1 41 = .ok (.aaload, 1) := by decide +kernel
theorem dS_hash_42 : decode mS_hash.2.1 42 = .ok (.getfield 91, 3) := by decide +kernel
theorem dS_hash_45 : decode mS_hash.2.1 45 = .ok (.invokevirtual 116, 3) := by decide +kernel
theorem dS_hash_48 : decode mS_hash.2.1 48 = .ok (.aload_n 2, 1) := by decide +kernel
theorem dS_hash_49 : decode mS_hash.2.1 49 = .ok (.aload_n 0, 1) := by decide +kernel
theorem dS_hash_50 : decode mS_hash.2.1 50 = .ok (.getfield 11, 3) := by decide +kernel
theorem dS_hash_53 : decode mS_hash.2.1 53 = .ok (.iconst 3, 1) := by decide +kernel
theorem dS_hash_54 : decode mS_hash.2.1 54 = .ok (.aaload, 1) := by decide +kernel
theorem dS_hash_55 : decode mS_hash.2.1 55 = .ok (.getfield 91, 3) := by decide +kernel
theorem dS_hash_58 : decode mS_hash.2.1 58 = .ok (.aload_n 0, 1) := by decide +kernel
theorem dS_hash_59 : decode mS_hash.2.1 59 = .ok (.getfield 11, 3) := by decide +kernel
theorem dS_hash_62 : decode mS_hash.2.1 62 = .ok (.iconst 3, 1) := by decide +kernel
theorem dS_hash_63 : decode mS_hash.2.1 63 = .ok (.aaload, 1) := by decide +kernel
theorem dS_hash_64 : decode mS_hash.2.1 64 = .ok (.getfield 65, 3) := by decide +kernel
theorem dS_hash_67 : decode mS_hash.2.1 67 = .ok (.invokevirtual 119, 3) := by decide +kernel
theorem dS_hash_70 : decode mS_hash.2.1 70 = .ok (.aload_n 2, 1) := by decide +kernel
theorem dS_hash_71 : decode mS_hash.2.1 71 = .ok (.aload_n 0, 1) := by decide +kernel
theorem dS_hash_72 : decode mS_hash.2.1 72 = .ok (.getfield 18, 3) := by decide +kernel
theorem dS_hash_75 : decode mS_hash.2.1 75 = .ok (.getfield 91, 3) := by decide +kernel
theorem dS_hash_78 : decode mS_hash.2.1 78 = .ok (.invokevirtual 123, 3) := by decide +kernel
theorem dS_hash_81 : decode mS_hash.2.1 81 = .ok (.aload_n 0, 1) := by decide +kernel
theorem dS_hash_82 : decode mS_hash.2.1 82 = .ok (.getfield 18, 3) := by decide +kernel
theorem dS_hash_85 : decode mS_hash.2.1 85 = .ok (.bipush 16, 2) := by decide +kernel
theorem dS_hash_87 : decode mS_hash.2.1 87 = .ok (.putfield 65, 3) := by decide +kernel
theorem dS_hash_90 : decode mS_hash.2.1 90 = .ok (.return_, 1) := by decide +kernel
theorem dS_seal_0 : decode mS_seal.2.1 0 = .ok (.iload_n 1, 1) := by decide +kernel
theorem dS_seal_1 : decode mS_seal.2.1 1 = .ok (.invokestatic 111, 3) := by decide +kernel
theorem dS_seal_4 : decode mS_seal.2.1 4 = .ok (.aload_n 0, 1) := by decide +kernel
theorem dS_seal_5 : decode mS_seal.2.1 5 = .ok (.iload_n 1, 1) := by decide +kernel
theorem dS_seal_6 : decode mS_seal.2.1 6 = .ok (.invokevirtual 126, 3) := by decide +kernel
theorem dS_seal_9 : decode mS_seal.2.1 9 = .ok (.aload_n 0, 1) := by decide +kernel
theorem dS_seal_10 : decode mS_seal.2.1 10 = .ok (.getfield 11, 3) := by decide +kernel
theorem dS_seal_13 : decode mS_seal.2.1 13 = .ok (.iconst 3, 1) := by decide +kernel
theorem dS_seal_14 : decode mS_seal.2.1 14 = .ok (.aaload, 1) := by decide +kernel
theorem dS_seal_15 : decode mS_seal.2.1 15 = .ok (.getfield 65, 3) := by decide +kernel
theorem dS_seal_18 : decode mS_seal.2.1 18 = .ok (.bipush 48, 2) := by decide +kernel
theorem dS_seal_20 : decode mS_seal.2.1 20 = .ok (.if_icmp .le 13, 3) := by decide +kernel
theorem dS_seal_23 : decode mS_seal.2.1 23 = .ok (.new 73, 3) := by decide +kernel
theorem dS_seal_26 : decode mS_seal.2.1 26 = .ok (.dup, 1) := by decide +kernel
theorem dS_seal_27 : decode mS_seal.2.1 27 = .ok (.ldc 129, 2) := by decide +kernel
theorem dS_seal_29 : decode mS_seal.2.1 29 = .ok (.invokespecial 77, 3) := by decide +kernel
theorem dS_seal_32 : decode mS_seal.2.1 32 = .ok (.athrow, 1) := by decide +kernel
theorem dS_seal_33 : decode mS_seal.2.1 33 = .ok (.aload_n 0, 1) := by decide +kernel
theorem dS_seal_34 : decode mS_seal.2.1 34 = .ok (.getfield 43, 3) := by decide +kernel
theorem dS_seal_37 : decode mS_seal.2.1 37 = .ok (.iload_n 1, 1) := by decide +kernel
theorem dS_seal_38 : decode mS_seal.2.1 38 = .ok (.aaload, 1) := by decide +kernel
theorem dS_seal_39 : decode mS_seal.2.1 39 = .ok (.aload_n 0, 1) := by decide +kernel
theorem dS_seal_40 : decode mS_seal.2.1 40 = .ok (.getfield 11, 3) := by decide +kernel
theorem dS_seal_43 : decode mS_seal.2.1 43 = .ok (.iconst 0, 1) := by decide +kernel
theorem dS_seal_44 : decode mS_seal.2.1 44 = .ok (.aaload, 1) := by decide +kernel
theorem dS_seal_45 : decode mS_seal.2.1 45 = .ok (.aload_n 0, 1) := by decide +kernel
theorem dS_seal_46 : decode mS_seal.2.1 46 = .ok (.getfield 11, 3) := by decide +kernel
theorem dS_seal_49 : decode mS_seal.2.1 49 = .ok (.iconst 1, 1) := by decide +kernel
theorem dS_seal_50 : decode mS_seal.2.1 50 = .ok (.aaload, 1) := by decide +kernel
theorem dS_seal_51 : decode mS_seal.2.1 51 = .ok (.invokevirtual 131, 3) := by decide +kernel
theorem dS_seal_54 : decode mS_seal.2.1 54 = .ok (.aload_n 0, 1) := by decide +kernel
theorem dS_seal_55 : decode mS_seal.2.1 55 = .ok (.getfield 43, 3) := by decide +kernel
theorem dS_seal_58 : decode mS_seal.2.1 58 = .ok (.iload_n 1, 1) := by decide +kernel
theorem dS_seal_59 : decode mS_seal.2.1 59 = .ok (.aaload, 1) := by decide +kernel
theorem dS_seal_60 : decode mS_seal.2.1 60 = .ok (.aload_n 0, 1) := by decide +kernel
theorem dS_seal_61 : decode mS_seal.2.1 61 = .ok (.getfield 11, 3) := by decide +kernel
theorem dS_seal_64 : decode mS_seal.2.1 64 = .ok (.aload_n 0, 1) := by decide +kernel
theorem dS_seal_65 : decode mS_seal.2.1 65 = .ok (.getfield 18, 3) := by decide +kernel
theorem dS_seal_68 : decode mS_seal.2.1 68 = .ok (.invokevirtual 134, 3) := by decide +kernel
theorem dS_seal_71 : decode mS_seal.2.1 71 = .ok (.aload_n 0, 1) := by decide +kernel
theorem dS_seal_72 : decode mS_seal.2.1 72 = .ok (.getfield 18, 3) := by decide +kernel
theorem dS_seal_75 : decode mS_seal.2.1 75 = .ok (.getfield 65, 3) := by decide +kernel
theorem dS_seal_78 : decode mS_seal.2.1 78 = .ok (.ireturn, 1) := by decide +kernel
theorem dS_open_0 : decode mS_open.2.1 0 = .ok (.iload_n 1, 1) := by decide +kernel
theorem dS_open_1 : decode mS_open.2.1 1 = .ok (.invokestatic 111, 3) := by decide +kernel
theorem dS_open_4 : decode mS_open.2.1 4 = .ok (.aload_n 0, 1) := by decide +kernel
theorem dS_open_5 : decode mS_open.2.1 5 = .ok (.iload_n 1, 1) := by decide +kernel
theorem dS_open_6 : decode mS_open.2.1 6 = .ok (.invokevirtual 126, 3) := by decide +kernel
theorem dS_open_9 : decode mS_open.2.1 9 = .ok (.aload_n 0, 1) := by decide +kernel
theorem dS_open_10 : decode mS_open.2.1 10 = .ok (.getfield 11, 3) := by decide +kernel
theorem dS_open_13 : decode mS_open.2.1 13 = .ok (.iconst 3, 1) := by decide +kernel
theorem dS_open_14 : decode mS_open.2.1 14 = .ok (.aaload, 1) := by decide +kernel
theorem dS_open_15 : decode mS_open.2.1 15 = .ok (.getfield 65, 3) := by decide +kernel
theorem dS_open_18 : decode mS_open.2.1 18 = .ok (.bipush 16, 2) := by decide +kernel
theorem dS_open_20 : decode mS_open.2.1 20 = .ok (.if_icmp .ge 13, 3) := by decide +kernel
theorem dS_open_23 : decode mS_open.2.1 23 = .ok (.new 73, 3) := by decide +kernel
theorem dS_open_26 : decode mS_open.2.1 26 = .ok (.dup, 1) := by decide +kernel
theorem dS_open_27 : decode mS_open.2.1 27 = .ok (.ldc 138, 2) := by decide +kernel
theorem dS_open_29 : decode mS_open.2.1 29 = .ok (.invokespecial 77, 3) := by decide +kernel
theorem dS_open_32 : decode mS_open.2.1 32 = .ok (.athrow, 1) := by decide +kernel
theorem dS_open_33 : decode mS_open.2.1 33 = .ok (.aload_n 0, 1) := by decide +kernel
theorem dS_open_34 : decode mS_open.2.1 34 = .ok (.getfield 43, 3) := by decide +kernel
theorem dS_open_37 : decode mS_open.2.1 37 = .ok (.iload_n 1, 1) := by decide +kernel
theorem dS_open_38 : decode mS_open.2.1 38 = .ok (.aaload, 1) := by decide +kernel
theorem dS_open_39 : decode mS_open.2.1 39 = .ok (.aload_n 0, 1) := by decide +kernel
theorem dS_open_40 : decode mS_open.2.1 40 = .ok (.getfield 11, 3) := by decide +kernel
theorem dS_open_43 : decode mS_open.2.1 43 = .ok (.iconst 0, 1) := by decide +kernel
theorem dS_open_44 : decode mS_open.2.1 44 = .ok (.aaload, 1) := by decide +kernel
theorem dS_open_45 : decode mS_open.2.1 45 = .ok (.aload_n 0, 1) := by decide +kernel
theorem dS_open_46 : decode mS_open.2.1 46 = .ok (.getfield 11, 3) := by decide +kernel
theorem dS_open_49 : decode mS_open.2.1 49 = .ok (.iconst 1, 1) := by decide +kernel
theorem dS_open_50 : decode mS_open.2.1 50 = .ok (.aaload, 1) := by decide +kernel
theorem dS_open_51 : decode mS_open.2.1 51 = .ok (.invokevirtual 131, 3) := by decide +kernel
theorem dS_open_54 : decode mS_open.2.1 54 = .ok (.aload_n 0, 1) := by decide +kernel
theorem dS_open_55 : decode mS_open.2.1 55 = .ok (.getfield 43, 3) := by decide +kernel
theorem dS_open_58 : decode mS_open.2.1 58 = .ok (.iload_n 1, 1) := by decide +kernel
theorem dS_open_59 : decode mS_open.2.1 59 = .ok (.aaload, 1) := by decide +kernel
theorem dS_open_60 : decode mS_open.2.1 60 = .ok (.aload_n 0, 1) := by decide +kernel
theorem dS_open_61 : decode mS_open.2.1 61 = .ok (.getfield 11, 3) := by decide +kernel
theorem dS_open_64 : decode mS_open.2.1 64 = .ok (.aload_n 0, 1) := by decide +kernel
theorem dS_open_65 : decode mS_open.2.1 65 = .ok (.getfield 22, 3) := by decide +kernel
theorem dS_open_68 : decode mS_open.2.1 68 = .ok (.invokevirtual 140, 3) := by decide +kernel
theorem dS_open_71 : decode mS_open.2.1 71 = .ok (.ifCond .ne 13, 3) := by decide +kernel
theorem dS_open_74 : decode mS_open.2.1 74 = .ok (.new 144, 3) := by decide +kernel
theorem dS_open_77 : decode mS_open.2.1 77 = .ok (.dup, 1) := by decide +kernel
theorem dS_open_78 : decode mS_open.2.1 78 = .ok (.ldc 146, 2) := by decide +kernel
theorem dS_open_80 : decode mS_open.2.1 80 = .ok (.invokespecial 148, 3) := by decide +kernel
theorem dS_open_83 : decode mS_open.2.1 83 = .ok (.athrow, 1) := by decide +kernel
theorem dS_open_84 : decode mS_open.2.1 84 = .ok (.aload_n 0, 1) := by decide +kernel
theorem dS_open_85 : decode mS_open.2.1 85 = .ok (.getfield 18, 3) := by decide +kernel
theorem dS_open_88 : decode mS_open.2.1 88 = .ok (.aload_n 0, 1) := by decide +kernel
theorem dS_open_89 : decode mS_open.2.1 89 = .ok (.getfield 22, 3) := by decide +kernel
theorem dS_open_92 : decode mS_open.2.1 92 = .ok (.invokevirtual 97, 3) := by decide +kernel
theorem dS_open_95 : decode mS_open.2.1 95 = .ok (.aload_n 0, 1) := by decide +kernel
theorem dS_open_96 : decode mS_open.2.1 96 = .ok (.getfield 18, 3) := by decide +kernel
theorem dS_open_99 : decode mS_open.2.1 99 = .ok (.getfield 65, 3) := by decide +kernel
theorem dS_open_102 : decode mS_open.2.1 102 = .ok (.ireturn, 1) := by decide +kernel
theorem dS_size_0 : decode mS_size.2.1 0 = .ok (.aload_n 0, 1) := by decide +kernel
theorem dS_size_1 : decode mS_size.2.1 1 = .ok (.getfield 18, 3) := by decide +kernel
theorem dS_size_4 : decode mS_size.2.1 4 = .ok (.getfield 65, 3) := by decide +kernel
theorem dS_size_7 : decode mS_size.2.1 7 = .ok (.ireturn, 1) := by decide +kernel
theorem dS_at_0 : decode mS_at.2.1 0 = .ok (.aload_n 0, 1) := by decide +kernel
theorem dS_at_1 : decode mS_at.2.1 1 = .ok (.getfield 18, 3) := by decide +kernel
theorem dS_at_4 : decode mS_at.2.1 4 = .ok (.iload_n 1, 1) := by decide +kernel
theorem dS_at_5 : decode mS_at.2.1 5 = .ok (.invokevirtual 83, 3) := by decide +kernel
theorem dS_at_8 : decode mS_at.2.1 8 = .ok (.ifCond .ne 13, 3) := by decide +kernel
theorem dS_at_11 : decode mS_at.2.1 11 = .ok (.new 86, 3) := by decide +kernel
theorem dS_at_14 : decode mS_at.2.1 14 = .ok (.dup, 1) := by decide +kernel
theorem dS_at_15 : decode mS_at.2.1 15 = .ok (.ldc 149, 2) := by decide +kernel
theorem dS_at_17 : decode mS_at.2.1 17 = .ok (.invokespecial 90, 3) := by decide +kernel
theorem dS_at_20 : decode mS_at.2.1 20 = .ok (.athrow, 1) := by decide +kernel
theorem dS_at_21 : decode mS_at.2.1 21 = .ok (.aload_n 0, 1) := by decide +kernel
theorem dS_at_22 : decode mS_at.2.1 22 = .ok (.getfield 18, 3) := by decide +kernel
theorem dS_at_25 : decode mS_at.2.1 25 = .ok (.getfield 91, 3) := by decide +kernel
theorem dS_at_28 : decode mS_at.2.1 28 = .ok (.iload_n 1, 1) := by decide +kernel
theorem dS_at_29 : decode mS_at.2.1 29 = .ok (.iaload, 1) := by decide +kernel
theorem dS_at_30 : decode mS_at.2.1 30 = .ok (.ireturn, 1) := by decide +kernel
theorem dS_requireRow_0 : decode mS_requireRow.2.1 0 = .ok (.iload_n 0, 1) := by decide +kernel
theorem dS_requireRow_1 : decode mS_requireRow.2.1 1 = .ok (.ifCond .lt 8, 3) := by decide +kernel
theorem dS_requireRow_4 : decode mS_requireRow.2.1 4 = .ok (.iload_n 0, 1) := by decide +kernel
theorem dS_requireRow_5 : decode mS_requireRow.2.1 5 = .ok (.iconst 4, 1) := by decide +kernel
theorem dS_requireRow_6 : decode mS_requireRow.2.1 6 = .ok (.if_icmp .lt 13, 3) := by decide +kernel
theorem dS_requireRow_9 : decode mS_requireRow.2.1 9 = .ok (.new 58, 3) := by decide +kernel
theorem dS_requireRow_12 : decode mS_requireRow.2.1 12 = .ok (.dup, 1) := by decide +kernel
theorem dS_requireRow_13 : decode mS_requireRow.2.1 13 = .ok (.ldc 151, 2) := by decide +kernel
theorem dS_requireRow_15 : decode mS_requireRow.2.1 15 = .ok (.invokespecial 62, 3) := by decide +kernel
theorem dS_requireRow_18 : decode mS_requireRow.2.1 18 = .ok (.athrow, 1) := by decide +kernel
theorem dS_requireRow_19 : decode mS_requireRow.2.1 19 = .ok (.return_, 1) := by decide +kernel
theorem dS_requireWay_0 : decode mS_requireWay.2.1 0 = .ok (.iload_n 0, 1) := by decide +kernel
theorem dS_requireWay_1 : decode mS_requireWay.2.1 1 = .ok (.ifCond .lt 8, 3) := by decide +kernel
theorem dS_requireWay_4 : decode mS_requireWay.2.1 4 = .ok (.iload_n 0, 1) := by decide +kernel
theorem dS_requireWay_5 : decode mS_requireWay.2.1 5 = .ok (.iconst 2, 1) := by decide +kernel
theorem dS_requireWay_6 : decode mS_requireWay.2.1 6 = .ok (.if_icmp .lt 13, 3) := by decide +kernel
theorem dS_requireWay_9 : decode mS_requireWay.2.1 9 = .ok (.new 58, 3) := by decide +kernel
theorem dS_requireWay_12 : decode mS_requireWay.2.1 12 = .ok (.dup, 1) := by decide +kernel
theorem dS_requireWay_13 : decode mS_requireWay.2.1 13 = .ok (.ldc 153, 2) := by decide +kernel
theorem dS_requireWay_15 : decode mS_requireWay.2.1 15 = .ok (.invokespecial 62, 3) := by decide +kernel
theorem dS_requireWay_18 : decode mS_requireWay.2.1 18 = .ok (.athrow, 1) := by decide +kernel
theorem dS_requireWay_19 : decode mS_requireWay.2.1 19 = .ok (.return_, 1) := by decide +kernel
theorem dS_requireKeyAndNonce_0 : decode mS_requireKeyAndNonce.2.1 0 = .ok (.aload_n 0, 1) := by decide +kernel
theorem dS_requireKeyAndNonce_1 : decode mS_requireKeyAndNonce.2.1 1 = .ok (.getfield 11, 3) := by decide +kernel
theorem dS_requireKeyAndNonce_4 : decode mS_requireKeyAndNonce.2.1 4 = .ok (.iconst 0, 1) := by decide +kernel
theorem dS_requireKeyAndNonce_5 : decode mS_requireKeyAndNonce.2.1 5 = .ok (.aaload, 1) := by decide +kernel
theorem dS_requireKeyAndNonce_6 : decode mS_requireKeyAndNonce.2.1 6 = .ok (.getfield 65, 3) := by decide +kernel
theorem dS_requireKeyAndNonce_9 : decode mS_requireKeyAndNonce.2.1 9 = .ok (.bipush 16, 2) := by decide +kernel
theorem dS_requireKeyAndNonce_11 : decode mS_requireKeyAndNonce.2.1 11 = .ok (.if_icmp .ne 24, 3) := by decide +kernel
theorem dS_requireKeyAndNonce_14 : decode mS_requireKeyAndNonce.2.1 14 = .ok (.aload_n 0, 1) := by decide +kernel
theorem dS_requireKeyAndNonce_15 : decode mS_requireKeyAndNonce.2.1 15 = .ok (.getfield 43, 3) := by decide +kernel
theorem dS_requireKeyAndNonce_18 : decode mS_requireKeyAndNonce.2.1 18 = .ok (.iload_n 1, 1) := by decide +kernel
theorem dS_requireKeyAndNonce_19 : decode mS_requireKeyAndNonce.2.1 19 = .ok (.aaload, 1) := by decide +kernel
theorem dS_requireKeyAndNonce_20 : decode mS_requireKeyAndNonce.2.1 20 = .ok (.aload_n 0, 1) := by decide +kernel
theorem dS_requireKeyAndNonce_21 : decode mS_requireKeyAndNonce.2.1 21 = .ok (.getfield 11, 3) := by decide +kernel
theorem dS_requireKeyAndNonce_24 : decode mS_requireKeyAndNonce.2.1 24 = .ok (.iconst 1, 1) := by decide +kernel
theorem dS_requireKeyAndNonce_25 : decode mS_requireKeyAndNonce.2.1 25 = .ok (.aaload, 1) := by decide +kernel
theorem dS_requireKeyAndNonce_26 : decode mS_requireKeyAndNonce.2.1 26 = .ok (.getfield 65, 3) := by decide +kernel
theorem dS_requireKeyAndNonce_29 : decode mS_requireKeyAndNonce.2.1 29 = .ok (.invokevirtual 155, 3) := by decide +kernel
theorem dS_requireKeyAndNonce_32 : decode mS_requireKeyAndNonce.2.1 32 = .ok (.ifCond .ne 13, 3) := by decide +kernel
theorem dS_requireKeyAndNonce_35 : decode mS_requireKeyAndNonce.2.1 35 = .ok (.new 73, 3) := by decide +kernel
theorem dS_requireKeyAndNonce_38 : decode mS_requireKeyAndNonce.2.1 38 = .ok (.dup, 1) := by decide +kernel
theorem dS_requireKeyAndNonce_39 : decode mS_requireKeyAndNonce.2.1 39 = .ok (.ldc 158, 2) := by decide +kernel
theorem dS_requireKeyAndNonce_41 : decode mS_requireKeyAndNonce.2.1 41 = .ok (.invokespecial 77, 3) := by decide +kernel
theorem dS_requireKeyAndNonce_44 : decode mS_requireKeyAndNonce.2.1 44 = .ok (.athrow, 1) := by decide +kernel
theorem dS_requireKeyAndNonce_45 : decode mS_requireKeyAndNonce.2.1 45 = .ok (.return_, 1) := by decide +kernel
theorem dC_init_0 : decode mC_init.2.1 0 = .ok (.aload_n 0, 1) := by decide +kernel
theorem dC_init_1 : decode mC_init.2.1 1 = .ok (.invokespecial 3, 3) := by decide +kernel
theorem dC_init_4 : decode mC_init.2.1 4 = .ok (.aload_n 0, 1) := by decide +kernel
theorem dC_init_5 : decode mC_init.2.1 5 = .ok (.invokestatic 9, 3) := by decide +kernel
theorem dC_init_8 : decode mC_init.2.1 8 = .ok (.putfield 15, 3) := by decide +kernel
theorem dC_init_11 : decode mC_init.2.1 11 = .ok (.aload_n 0, 1) := by decide +kernel
theorem dC_init_12 : decode mC_init.2.1 12 = .ok (.sipush 176, 3) := by decide +kernel
theorem dC_init_15 : decode mC_init.2.1 15 = .ok (.newarray .int, 2) := by decide +kernel
theorem dC_init_17 : decode mC_init.2.1 17 = .ok (.putfield 19, 3) := by decide +kernel
theorem dC_init_20 : decode mC_init.2.1 20 = .ok (.aload_n 0, 1) := by decide +kernel
theorem dC_init_21 : decode mC_init.2.1 21 = .ok (.bipush 16, 2) := by decide +kernel
theorem dC_init_23 : decode mC_init.2.1 23 = .ok (.newarray .int, 2) := by decide +kernel
theorem dC_init_25 : decode mC_init.2.1 25 = .ok (.putfield 22, 3) := by decide +kernel
theorem dC_init_28 : decode mC_init.2.1 28 = .ok (.aload_n 0, 1) := by decide +kernel
theorem dC_init_29 : decode mC_init.2.1 29 = .ok (.bipush 16, 2) := by decide +kernel
theorem dC_init_31 : decode mC_init.2.1 31 = .ok (.newarray .int, 2) := by decide +kernel
theorem dC_init_33 : decode mC_init.2.1 33 = .ok (.putfield 25, 3) := by decide +kernel
theorem dC_init_36 : decode mC_init.2.1 36 = .ok (.return_, 1) := by decide +kernel
theorem dC_makeBox_0 : decode mC_makeBox.2.1 0 = .ok (.sipush 256, 3) := by decide +kernel
theorem dC_makeBox_3 : decode mC_makeBox.2.1 3 = .ok (.newarray .int, 2) := by decide +kernel
theorem dC_makeBox_5 : decode mC_makeBox.2.1 5 = .ok (.astore_n 0, 1) := by decide +kernel
theorem dC_makeBox_6 : decode mC_makeBox.2.1 6 = .ok (.sipush 256, 3) := by decide +kernel
theorem dC_makeBox_9 : decode mC_makeBox.2.1 9 = .ok (.newarray .int, 2) := by decide +kernel
theorem dC_makeBox_11 : decode mC_makeBox.2.1 11 = .ok (.astore_n 1, 1) := by decide +kernel
theorem dC_makeBox_12 : decode mC_makeBox.2.1 12 = .ok (.aload_n 1, 1) := by decide +kernel
theorem dC_makeBox_13 : decode mC_makeBox.2.1 13 = .ok (.iconst 0, 1) := by decide +kernel
theorem dC_makeBox_14 : decode mC_makeBox.2.1 14 = .ok (.iconst 1, 1) := by decide +kernel
theorem dC_makeBox_15 : decode mC_makeBox.2.1 15 = .ok (.iastore, 1) := by decide +kernel
theorem dC_makeBox_16 : decode mC_makeBox.2.1 16 = .ok (.iconst 1, 1) := by decide +kernel
theorem dC_makeBox_17 : decode mC_makeBox.2.1 17 = .ok (.istore_n 2, 1) := by decide +kernel
theorem dC_makeBox_18 : decode mC_makeBox.2.1 18 = .ok (.iload_n 2, 1) := by decide +kernel
theorem dC_makeBox_19 : decode mC_makeBox.2.1 19 = .ok (.sipush 256, 3) := by decide +kernel
theorem dC_makeBox_22 : decode mC_makeBox.2.1 22 = .ok (.if_icmp .ge 20, 3) := by decide +kernel
theorem dC_makeBox_25 : decode mC_makeBox.2.1 25 = .ok (.aload_n 1, 1) := by decide +kernel
theorem dC_makeBox_26 : decode mC_makeBox.2.1 26 = .ok (.iload_n 2, 1) := by decide +kernel
theorem dC_makeBox_27 : decode mC_makeBox.2.1 27 = .ok (.aload_n 1, 1) := by decide +kernel
theorem dC_makeBox_28 : decode mC_makeBox.2.1 28 = .ok (.iload_n 2, 1) := by decide +kernel
theorem dC_makeBox_29 : decode mC_makeBox.2.1 29 = .ok (.iconst 1, 1) := by decide +kernel
theorem dC_makeBox_30 : decode mC_makeBox.2.1 30 = .ok (.isub, 1) := by decide +kernel
theorem dC_makeBox_31 : decode mC_makeBox.2.1 31 = .ok (.iaload, 1) := by decide +kernel
theorem dC_makeBox_32 : decode mC_makeBox.2.1 32 = .ok (.invokestatic 28, 3) := by decide +kernel
theorem dC_makeBox_35 : decode mC_makeBox.2.1 35 = .ok (.iastore, 1) := by decide +kernel
theorem dC_makeBox_36 : decode mC_makeBox.2.1 36 = .ok (.iinc 2 1, 3) := by decide +kernel
theorem dC_makeBox_39 : decode mC_makeBox.2.1 39 = .ok (.goto (-21), 3) := by decide +kernel
theorem dC_makeBox_42 : decode mC_makeBox.2.1 42 = .ok (.iconst 0, 1) := by decide +kernel
theorem dC_makeBox_43 : decode mC_makeBox.2.1 43 = .ok (.istore_n 2, 1) := by decide +kernel
theorem dC_makeBox_44 : decode mC_makeBox.2.1 44 = .ok (.iload_n 2, 1) := by decide +kernel
theorem dC_makeBox_45 : decode mC_makeBox.2.1 45 = .ok (.sipush 255, 3) := by decide +kernel
theorem dC_makeBox_48 : decode mC_makeBox.2.1 48 = .ok (.if_icmp .ge 24, 3) := by decide +kernel
theorem dC_makeBox_51 : decode mC_makeBox.2.1 51 = .ok (.aload_n 0, 1) := by decide +kernel
theorem dC_makeBox_52 : decode mC_makeBox.2.1 52 = .ok (.aload_n 1, 1) := by decide +kernel
theorem dC_makeBox_53 : decode mC_makeBox.2.1 53 = .ok (.iload_n 2, 1) := by decide +kernel
theorem dC_makeBox_54 : decode mC_makeBox.2.1 54 = .ok (.iaload, 1) := by decide +kernel
theorem dC_makeBox_55 : decode mC_makeBox.2.1 55 = .ok (.aload_n 1, 1) := by decide +kernel
theorem dC_makeBox_56 : decode mC_makeBox.2.1 56 = .ok (.sipush 255, 3) := by decide +kernel
theorem dC_makeBox_59 : decode mC_makeBox.2.1 59 = .ok (.iload_n 2, 1) := by decide +kernel
theorem dC_makeBox_60 : decode mC_makeBox.2.1 60 = .ok (.isub, 1) := by decide +kernel
theorem dC_makeBox_61 : decode mC_makeBox.2.1 61 = .ok (.iaload, 1) := by decide +kernel
theorem dC_makeBox_62 : decode mC_makeBox.2.1 62 = .ok (.invokestatic 32, 3) := by decide +kernel
theorem dC_makeBox_65 : decode mC_makeBox.2.1 65 = .ok (.iastore, 1) := by decide +kernel
theorem dC_makeBox_66 : decode mC_makeBox.2.1 66 = .ok (.iinc 2 1, 3) := by decide +kernel
theorem dC_makeBox_69 : decode mC_makeBox.2.1 69 = .ok (.goto (-25), 3) := by decide +kernel
theorem dC_makeBox_72 : decode mC_makeBox.2.1 72 = .ok (.aload_n 0, 1) := by decide +kernel
theorem dC_makeBox_73 : decode mC_makeBox.2.1 73 = .ok (.iconst 0, 1) := by decide +kernel
theorem dC_makeBox_74 : decode mC_makeBox.2.1 74 = .ok (.iconst 0, 1) := by decide +kernel
theorem dC_makeBox_75 : decode mC_makeBox.2.1 75 = .ok (.invokestatic 32, 3) := by decide +kernel
theorem dC_makeBox_78 : decode mC_makeBox.2.1 78 = .ok (.iastore, 1) := by decide +kernel
theorem dC_makeBox_79 : decode mC_makeBox.2.1 79 = .ok (.aload_n 0, 1) := by decide +kernel
theorem dC_makeBox_80 : decode mC_makeBox.2.1 80 = .ok (.areturn, 1) := by decide +kernel
theorem dC_spread_0 : decode mC_spread.2.1 0 = .ok (.iload_n 0, 1) := by decide +kernel
theorem dC_spread_1 : decode mC_spread.2.1 1 = .ok (.iload_n 0, 1) := by decide +kernel
theorem dC_spread_2 : decode mC_spread.2.1 2 = .ok (.iconst 1, 1) := by decide +kernel
theorem dC_spread_3 : decode mC_spread.2.1 3 = .ok (.invokestatic 35, 3) := by decide +kernel
theorem dC_spread_6 : decode mC_spread.2.1 6 = .ok (.ixor, 1) := by decide +kernel
theorem dC_spread_7 : decode mC_spread.2.1 7 = .ok (.iload_n 0, 1) := by decide +kernel
theorem dC_spread_8 : decode mC_spread.2.1 8 = .ok (.iconst 2, 1) := by decide +kernel
theorem dC_spread_9 : decode mC_spread.2.1 9 = .ok (.invokestatic 35, 3) := by decide +kernel
theorem dC_spread_12 : decode mC_spread.2.1 12 = .ok (.ixor, 1) := by decide +kernel
theorem dC_spread_13 : decode mC_spread.2.1 13 = .ok (.iload_n 0, 1) := by decide +kernel
theorem dC_spread_14 : decode mC_spread.2.1 14 = .ok (.iconst 3, 1) := by decide +kernel
theorem dC_spread_15 : decode mC_spread.2.1 15 = .ok (.invokestatic 35, 3) := by decide +kernel
theorem dC_spread_18 : decode mC_spread.2.1 18 = .ok (.ixor, 1) := by decide +kernel
theorem dC_spread_19 : decode mC_spread.2.1 19 = .ok (.iload_n 0, 1) := by decide +kernel
theorem dC_spread_20 : decode mC_spread.2.1 20 = .ok (.iconst 4, 1) := by decide +kernel
theorem dC_spread_21 : decode mC_spread.2.1 21 = .ok (.invokestatic 35, 3) := by decide +kernel
theorem dC_spread_24 : decode mC_spread.2.1 24 = .ok (.ixor, 1) := by decide +kernel
theorem dC_spread_25 : decode mC_spread.2.1 25 = .ok (.bipush 99, 2) := by decide +kernel
theorem dC_spread_27 : decode mC_spread.2.1 27 = .ok (.ixor, 1) := by decide +kernel
theorem dC_spread_28 : decode mC_spread.2.1 28 = .ok (.ireturn, 1) := by decide +kernel
theorem dC_turned_0 : decode mC_turned.2.1 0 = .ok (.iload_n 0, 1) := by decide +kernel
theorem dC_turned_1 : decode mC_turned.2.1 1 = .ok (.iload_n 1, 1) := by decide +kernel
theorem dC_turned_2 : decode mC_turned.2.1 2 = .ok (.ishl, 1) := by decide +kernel
theorem dC_turned_3 : decode mC_turned.2.1 3 = .ok (.iload_n 0, 1) := by decide +kernel
theorem dC_turned_4 : decode mC_turned.2.1 4 = .ok (.bipush 8, 2) := by decide +kernel
theorem dC_turned_6 : decode mC_turned.2.1 6 = .ok (.iload_n 1, 1) := by decide +kernel
theorem dC_turned_7 : decode mC_turned.2.1 7 = .ok (.isub, 1) := by decide +kernel
theorem dC_turned_8 : decode mC_turned.2.1 8 = .ok (.ishr, 1) := by decide +kernel
theorem dC_turned_9 : decode mC_turned.2.1 9 = .ok (.ior, 1) := by decide +kernel
theorem dC_turned_10 : decode mC_turned.2.1 10 = .ok (.sipush 255, 3) := by decide +kernel
theorem dC_turned_13 : decode mC_turned.2.1 13 = .ok (.iand, 1) := by decide +kernel
theorem dC_turned_14 : decode mC_turned.2.1 14 = .ok (.ireturn, 1) := by decide +kernel
theorem dC_doubled_0 : decode mC_doubled.2.1 0 = .ok (.iconst 2, 1) := by decide +kernel
theorem dC_doubled_1 : decode mC_doubled.2.1 1 = .ok (.iload_n 0, 1) := by decide +kernel
theorem dC_doubled_2 : decode mC_doubled.2.1 2 = .ok (.imul, 1) := by decide +kernel
theorem dC_doubled_3 : decode mC_doubled.2.1 3 = .ok (.istore_n 1, 1) := by decide +kernel
theorem dC_doubled_4 : decode mC_doubled.2.1 4 = .ok (.iload_n 1, 1) := by decide +kernel
theorem dC_doubled_5 : decode mC_doubled.2.1 5 = .ok (.sipush 255, 3) := by decide +kernel
theorem dC_doubled_8 : decode mC_doubled.2.1 8 = .ok (.if_icmp .le 11, 3) := by decide +kernel
theorem dC_doubled_11 : decode mC_doubled.2.1 11 = .ok (.iload_n 1, 1) := by decide +kernel
theorem dC_doubled_12 : decode mC_doubled.2.1 12 = .ok (.sipush 283, 3) := by decide +kernel
theorem dC_doubled_15 : decode mC_doubled.2.1 15 = .ok (.ixor, 1) := by decide +kernel
theorem dC_doubled_16 : decode mC_doubled.2.1 16 = .ok (.goto 4, 3) := by decide +kernel
theorem dC_doubled_19 : decode mC_doubled.2.1 19 = .ok (.iload_n 1, 1) := by decide +kernel
theorem dC_doubled_20 : decode mC_doubled.2.1 20 = .ok (.ireturn, 1) := by decide +kernel
theorem dC_tripled_0 : decode mC_tripled.2.1 0 = .ok (.iload_n 0, 1) := by decide +kernel
theorem dC_tripled_1 : decode mC_tripled.2.1 1 = .ok (.invokestatic 39, 3) := by decide +kernel
theorem dC_tripled_4 : decode mC_tripled.2.1 4 = .ok (.iload_n 0, 1) := by decide +kernel
theorem dC_tripled_5 : decode mC_tripled.2.1 5 = .ok (.ixor, 1) := by decide +kernel
theorem dC_tripled_6 : decode mC_tripled.2.1 6 = .ok (.ireturn, 1) := by decide +kernel
theorem dC_useKey_0 : decode mC_useKey.2.1 0 = .ok (.aload_n 1, 1) := by decide +kernel
theorem dC_useKey_1 : decode mC_useKey.2.1 1 = .ok (.iconst 0, 1) := by decide +kernel
theorem dC_useKey_2 : decode mC_useKey.2.1 2 = .ok (.aload_n 0, 1) := by decide +kernel
theorem dC_useKey_3 : decode mC_useKey.2.1 3 = .ok (.getfield 19, 3) := by decide +kernel
theorem dC_useKey_6 : decode mC_useKey.2.1 6 = .ok (.iconst 0, 1) := by decide +kernel
theorem dC_useKey_7 : decode mC_useKey.2.1 7 = .ok (.bipush 16, 2) := by decide +kernel
theorem dC_useKey_9 : decode mC_useKey.2.1 9 = .ok (.invokestatic 42, 3) := by decide +kernel
theorem dC_useKey_12 : decode mC_useKey.2.1 12 = .ok (.iconst 1, 1) := by decide +kernel
theorem dC_useKey_13 : decode mC_useKey.2.1 13 = .ok (.istore_n 2, 1) := by decide +kernel
theorem dC_useKey_14 : decode mC_useKey.2.1 14 = .ok (.iconst 4, 1) := by decide +kernel
theorem dC_useKey_15 : decode mC_useKey.2.1 15 = .ok (.istore_n 3, 1) := by decide +kernel
theorem dC_useKey_16 : decode mC_useKey.2.1 16 = .ok (.iload_n 3, 1) := by decide +kernel
theorem dC_useKey_17 : decode mC_useKey.2.1 17 = .ok (.bipush 44, 2) := by decide +kernel
theorem dC_useKey_19 : decode mC_useKey.2.1 19 = .ok (.if_icmp .ge 34, 3) := by decide +kernel
theorem dC_useKey_22 : decode mC_useKey.2.1 22 = .ok (.iload_n 3, 1) := by decide +kernel
theorem dC_useKey_23 : decode mC_useKey.2.1 23 = .ok (.iconst 4, 1) := by decide +kernel
theorem dC_useKey_24 : decode mC_useKey.2.1 24 = .ok (.irem, 1) := by decide +kernel
theorem dC_useKey_25 : decode mC_useKey.2.1 25 = .ok (.ifCond .ne 17, 3) := by decide +kernel
theorem dC_useKey_28 : decode mC_useKey.2.1 28 = .ok (.aload_n 0, 1) := by decide +kernel
theorem dC_useKey_29 : decode mC_useKey.2.1 29 = .ok (.iload_n 3, 1) := by decide +kernel
theorem dC_useKey_30 : decode mC_useKey.2.1 30 = .ok (.iload_n 2, 1) := by decide +kernel
theorem dC_useKey_31 : decode mC_useKey.2.1 31 = .ok (.invokevirtual 48, 3) := by decide +kernel
theorem dC_useKey_34 : decode mC_useKey.2.1 34 = .ok (.iload_n 2, 1) := by decide +kernel
theorem dC_useKey_35 : decode mC_useKey.2.1 35 = .ok (.invokestatic 39, 3) := by decide +kernel
theorem dC_useKey_38 : decode mC_useKey.2.1 38 = .ok (.istore_n 2, 1) := by decide +kernel
theorem dC_useKey_39 : decode mC_useKey.2.1 39 = .ok (.goto 8, 3) := by decide +kernel
theorem dC_useKey_42 : decode mC_useKey.2.1 42 = .ok (.aload_n 0, 1) := by decide +kernel
theorem dC_useKey_43 : decode mC_useKey.2.1 43 = .ok (.iload_n 3, 1) := by decide +kernel
theorem dC_useKey_44 : decode mC_useKey.2.1 44 = .ok (.invokevirtual 52, 3) := by decide +kernel
theorem dC_useKey_47 : decode mC_useKey.2.1 47 = .ok (.iinc 3 1, 3) := by decide +kernel
theorem dC_useKey_50 : decode mC_useKey.2.1 50 = .ok (.goto (-34), 3) := by decide +kernel
theorem dC_useKey_53 : decode mC_useKey.2.1 53 = .ok (.return_, 1) := by decide +kernel
theorem dC_makeWord_0 : decode mC_makeWord.2.1 0 = .ok (.iconst 0, 1) := by decide +kernel
theorem dC_makeWord_1 : decode mC_makeWord.2.1 1 = .ok (.istore_n 2, 1) := by decide +kernel
theorem dC_makeWord_2 : decode mC_makeWord.2.1 2 = .ok (.iload_n 2, 1) := by decide +kernel
theorem dC_makeWord_3 : decode mC_makeWord.2.1 3 = .ok (.iconst 4, 1) := by decide +kernel
theorem dC_makeWord_4 : decode mC_makeWord.2.1 4 = .ok (.if_icmp .ge 44, 3) := by decide +kernel
theorem dC_makeWord_7 : decode mC_makeWord.2.1 7 = .ok (.aload_n 0, 1) := by decide +kernel
theorem dC_makeWord_8 : decode mC_makeWord.2.1 8 = .ok (.getfield 19, 3) := by decide +kernel
theorem dC_makeWord_11 : decode mC_makeWord.2.1 11 = .ok (.iconst 4, 1) := by decide +kernel
theorem dC_makeWord_12 : decode mC_makeWord.2.1 12 = .ok (.iload_n 1, 1) := by decide +kernel
theorem dC_makeWord_13 : decode mC_makeWord.2.1 13 = .ok (.imul, 1) := by decide +kernel
theorem dC_makeWord_14 : decode mC_makeWord.2.1 14 = .ok (.iload_n 2, 1) := by decide +kernel
theorem dC_makeWord_15 : decode mC_makeWord.2.1 15 = .ok (.iadd, 1) := by decide +kernel
theorem dC_makeWord_16 : decode mC_makeWord.2.1 16 = .ok (.aload_n 0, 1) := by decide +kernel
theorem dC_makeWord_17 : decode mC_makeWord.2.1 17 = .ok (.getfield 19, 3) := by decide +kernel
theorem dC_makeWord_20 : decode mC_makeWord.2.1 20 = .ok (.iconst 4, 1) := by decide +kernel
theorem dC_makeWord_21 : decode mC_makeWord.2.1 21 = .ok (.iload_n 1, 1) := by decide +kernel
theorem dC_makeWord_22 : decode mC_makeWord.2.1 22 = .ok (.iconst 4, 1) := by decide +kernel
theorem dC_makeWord_23 : decode mC_makeWord.2.1 23 = .ok (.isub, 1) := by decide +kernel
theorem dC_makeWord_24 : decode mC_makeWord.2.1 24 = .ok (.imul, 1) := by decide +kernel
theorem dC_makeWord_25 : decode mC_makeWord.2.1 25 = .ok (.iload_n 2, 1) := by decide +kernel
theorem dC_makeWord_26 : decode mC_makeWord.2.1 26 = .ok (.iadd, 1) := by decide +kernel
theorem dC_makeWord_27 : decode mC_makeWord.2.1 27 = .ok (.iaload, 1) := by decide +kernel
theorem dC_makeWord_28 : decode mC_makeWord.2.1 28 = .ok (.aload_n 0, 1) := by decide +kernel
theorem dC_makeWord_29 : decode mC_makeWord.2.1 29 = .ok (.getfield 19, 3) := by decide +kernel
theorem dC_makeWord_32 : decode mC_makeWord.2.1 32 = .ok (.iconst 4, 1) := by decide +kernel
theorem dC_makeWord_33 : decode mC_makeWord.2.1 33 = .ok (.iload_n 1, 1) := by decide +kernel
theorem dC_makeWord_34 : decode mC_makeWord.2.1 34 = .ok (.iconst 1, 1) := by decide +kernel
theorem dC_makeWord_35 : decode mC_makeWord.2.1 35 = .ok (.isub, 1) := by decide +kernel
theorem dC_makeWord_36 : decode mC_makeWord.2.1 36 = .ok (.imul, 1) := by decide +kernel
theorem dC_makeWord_37 : decode mC_makeWord.2.1 37 = .ok (.iload_n 2, 1) := by decide +kernel
theorem dC_makeWord_38 : decode mC_makeWord.2.1 38 = .ok (.iadd, 1) := by decide +kernel
theorem dC_makeWord_39 : decode mC_makeWord.2.1 39 = .ok (.iaload, 1) := by decide +kernel
theorem dC_makeWord_40 : decode mC_makeWord.2.1 40 = .ok (.ixor, 1) := by decide +kernel
theorem dC_makeWord_41 : decode mC_makeWord.2.1 41 = .ok (.iastore, 1) := by decide +kernel
theorem dC_makeWord_42 : decode mC_makeWord.2.1 42 = .ok (.iinc 2 1, 3) := by decide +kernel
theorem dC_makeWord_45 : decode mC_makeWord.2.1 45 = .ok (.goto (-43), 3) := by decide +kernel
theorem dC_makeWord_48 : decode mC_makeWord.2.1 48 = .ok (.return_, 1) := by decide +kernel
theorem dC_makeBoxedWord_0 : decode mC_makeBoxedWord.2.1 0 = .ok (.iconst 0, 1) := by decide +kernel
theorem dC_makeBoxedWord_1 : decode mC_makeBoxedWord.2.1 1 = .ok (.istore_n 3, 1) := by decide +kernel
theorem dC_makeBoxedWord_2 : decode mC_makeBoxedWord.2.1 2 = .ok (.iload_n 3, 1) := by decide +kernel
theorem dC_makeBoxedWord_3 : decode mC_makeBoxedWord.2.1 3 = .ok (.iconst 4, 1) := by decide +kernel
theorem dC_makeBoxedWord_4 : decode mC_makeBoxedWord.2.1 4 = .ok (.if_icmp .ge 53, 3) := by decide +kernel
theorem dC_makeBoxedWord_7 : decode mC_makeBoxedWord.2.1 7 = .ok (.aload_n 0, 1) := by decide +kernel
theorem dC_makeBoxedWord_8 : decode mC_makeBoxedWord.2.1 8 = .ok (.getfield 19, 3) := by decide +kernel
theorem dC_makeBoxedWord_11 : decode mC_makeBoxedWord.2.1 11 = .ok (.iconst 4, 1) := by decide +kernel
theorem dC_makeBoxedWord_12 : decode mC_makeBoxedWord.2.1 12 = .ok (.iload_n 1, 1) := by decide +kernel
theorem dC_makeBoxedWord_13 : decode mC_makeBoxedWord.2.1 13 = .ok (.imul, 1) := by decide +kernel
theorem dC_makeBoxedWord_14 : decode mC_makeBoxedWord.2.1 14 = .ok (.iload_n 3, 1) := by decide +kernel
theorem dC_makeBoxedWord_15 : decode mC_makeBoxedWord.2.1 15 = .ok (.iadd, 1) := by decide +kernel
theorem dC_makeBoxedWord_16 : decode mC_makeBoxedWord.2.1 16 = .ok (.aload_n 0, 1) := by decide +kernel
theorem dC_makeBoxedWord_17 : decode mC_makeBoxedWord.2.1 17 = .ok (.getfield 19, 3) := by decide +kernel
theorem dC_makeBoxedWord_20 : decode mC_makeBoxedWord.2.1 20 = .ok (.iconst 4, 1) := by decide +kernel
theorem dC_makeBoxedWord_21 : decode mC_makeBoxedWord.2.1 21 = .ok (.iload_n 1, 1) := by decide +kernel
theorem dC_makeBoxedWord_22 : decode mC_makeBoxedWord.2.1 22 = .ok (.iconst 4, 1) := by decide +kernel
theorem dC_makeBoxedWord_23 : decode mC_makeBoxedWord.2.1 23 = .ok (.isub, 1) := by decide +kernel
theorem dC_makeBoxedWord_24 : decode mC_makeBoxedWord.2.1 24 = .ok (.imul, 1) := by decide +kernel
theorem dC_makeBoxedWord_25 : decode mC_makeBoxedWord.2.1 25 = .ok (.iload_n 3, 1) := by decide +kernel
theorem dC_makeBoxedWord_26 : decode mC_makeBoxedWord.2.1 26 = .ok (.iadd, 1) := by decide +kernel
theorem dC_makeBoxedWord_27 : decode mC_makeBoxedWord.2.1 27 = .ok (.iaload, 1) := by decide +kernel
theorem dC_makeBoxedWord_28 : decode mC_makeBoxedWord.2.1 28 = .ok (.aload_n 0, 1) := by decide +kernel
theorem dC_makeBoxedWord_29 : decode mC_makeBoxedWord.2.1 29 = .ok (.getfield 15, 3) := by decide +kernel
theorem dC_makeBoxedWord_32 : decode mC_makeBoxedWord.2.1 32 = .ok (.aload_n 0, 1) := by decide +kernel
theorem dC_makeBoxedWord_33 : decode mC_makeBoxedWord.2.1 33 = .ok (.getfield 19, 3) := by decide +kernel
theorem dC_makeBoxedWord_36 : decode mC_makeBoxedWord.2.1 36 = .ok (.iconst 4, 1) := by decide +kernel
theorem dC_makeBoxedWord_37 : decode mC_makeBoxedWord.2.1 37 = .ok (.iload_n 1, 1) := by decide +kernel
theorem dC_makeBoxedWord_38 : decode mC_makeBoxedWord.2.1 38 = .ok (.iconst 1, 1) := by decide +kernel
theorem dC_makeBoxedWord_39 : decode mC_makeBoxedWord.2.1 39 = .ok (.isub, 1) := by decide +kernel
theorem dC_makeBoxedWord_40 : decode mC_makeBoxedWord.2.1 40 = .ok (.imul, 1) := by decide +kernel
theorem dC_makeBoxedWord_41 : decode mC_makeBoxedWord.2.1 41 = .ok (.iload_n 3, 1) := by decide +kernel
theorem dC_makeBoxedWord_42 : decode mC_makeBoxedWord.2.1 42 = .ok (.iconst 1, 1) := by decide +kernel
theorem dC_makeBoxedWord_43 : decode mC_makeBoxedWord.2.1 43 = .ok (.iadd, 1) := by decide +kernel
theorem dC_makeBoxedWord_44 : decode mC_makeBoxedWord.2.1 44 = .ok (.iconst 4, 1) := by decide +kernel
theorem dC_makeBoxedWord_45 : decode mC_makeBoxedWord.2.1 45 = .ok (.irem, 1) := by decide +kernel
theorem dC_makeBoxedWord_46 : decode mC_makeBoxedWord.2.1 46 = .ok (.iadd, 1) := by decide +kernel
theorem dC_makeBoxedWord_47 : decode mC_makeBoxedWord.2.1 47 = .ok (.iaload, 1) := by decide +kernel
theorem dC_makeBoxedWord_48 : decode mC_makeBoxedWord.2.1 48 = .ok (.iaload, 1) := by decide +kernel
theorem dC_makeBoxedWord_49 : decode mC_makeBoxedWord.2.1 49 = .ok (.ixor, 1) := by decide +kernel
theorem dC_makeBoxedWord_50 : decode mC_makeBoxedWord.2.1 50 = .ok (.iastore, 1) := by decide +kernel
theorem dC_makeBoxedWord_51 : decode mC_makeBoxedWord.2.1 51 = .ok (.iinc 3 1, 3) := by decide +kernel
theorem dC_makeBoxedWord_54 : decode mC_makeBoxedWord.2.1 54 = .ok (.goto (-52), 3) := by decide +kernel
theorem dC_makeBoxedWord_57 : decode mC_makeBoxedWord.2.1 57 = .ok (.aload_n 0, 1) := by decide +kernel
theorem dC_makeBoxedWord_58 : decode mC_makeBoxedWord.2.1 58 = .ok (.getfield 19, 3) := by decide +kernel
theorem dC_makeBoxedWord_61 : decode mC_makeBoxedWord.2.1 61 = .ok (.iconst 4, 1) := by decide +kernel
theorem dC_makeBoxedWord_62 : decode mC_makeBoxedWord.2.1 62 = .ok (.iload_n 1, 1) := by decide +kernel
theorem dC_makeBoxedWord_63 : decode mC_makeBoxedWord.2.1 63 = .ok (.imul, 1) := by decide +kernel
theorem dC_makeBoxedWord_64 : decode mC_makeBoxedWord.2.1 64 = .ok (.dup2, 1) := by decide +kernel
theorem dC_makeBoxedWord_65 : decode mC_makeBoxedWord.2.1 65 = .ok (.iaload, 1) := by decide +kernel
theorem dC_makeBoxedWord_66 : decode mC_makeBoxedWord.2.1 66 = .ok (.iload_n 2, 1) := by decide +kernel
theorem dC_makeBoxedWord_67 : decode mC_makeBoxedWord.2.1 67 = .ok (.ixor, 1) := by decide +kernel
theorem dC_makeBoxedWord_68 : decode mC_makeBoxedWord.2.1 68 = .ok (.iastore, 1) := by decide +kernel
theorem dC_makeBoxedWord_69 : decode mC_makeBoxedWord.2.1 69 = .ok (.return_, 1) := by decide +kernel
theorem dC_encipher_0 : decode mC_encipher.2.1 0 = .ok (.aload_n 1, 1) := by decide +kernel
theorem dC_encipher_1 : decode mC_encipher.2.1 1 = .ok (.iconst 0, 1) := by decide +kernel
theorem dC_encipher_2 : decode mC_encipher.2.1 2 = .ok (.aload_n 0, 1) := by decide +kernel
theorem dC_encipher_3 : decode mC_encipher.2.1 3 = .ok (.getfield 22, 3) := by decide +kernel
theorem dC_encipher_6 : decode mC_encipher.2.1 6 = .ok (.iconst 0, 1) := by decide +kernel
theorem dC_encipher_7 : decode mC_encipher.2.1 7 = .ok (.bipush 16, 2) := by decide +kernel
theorem dC_encipher_9 : decode mC_encipher.2.1 9 = .ok (.invokestatic 42, 3) := by decide +kernel
theorem dC_encipher_12 : decode mC_encipher.2.1 12 = .ok (.aload_n 0, 1) := by decide +kernel
theorem dC_encipher_13 : decode mC_encipher.2.1 13 = .ok (.iconst 0, 1) := by decide +kernel
theorem dC_encipher_14 : decode mC_encipher.2.1 14 = .ok (.invokevirtual 56, 3) := by decide +kernel
theorem dC_encipher_17 : decode mC_encipher.2.1 17 = .ok (.iconst 1, 1) := by decide +kernel
theorem dC_encipher_18 : decode mC_encipher.2.1 18 = .ok (.istore_n 3, 1) := by decide +kernel
theorem dC_encipher_19 : decode mC_encipher.2.1 19 = .ok (.iload_n 3, 1) := by decide +kernel
theorem dC_encipher_20 : decode mC_encipher.2.1 20 = .ok (.bipush 10, 2) := by decide +kernel
theorem dC_encipher_22 : decode mC_encipher.2.1 22 = .ok (.if_icmp .gt 46, 3) := by decide +kernel
theorem dC_encipher_25 : decode mC_encipher.2.1 25 = .ok (.aload_n 0, 1) := by decide +kernel
theorem dC_encipher_26 : decode mC_encipher.2.1 26 = .ok (.invokevirtual 59, 3) := by decide +kernel
theorem dC_encipher_29 : decode mC_encipher.2.1 29 = .ok (.iload_n 3, 1) := by decide +kernel
theorem dC_encipher_30 : decode mC_encipher.2.1 30 = .ok (.bipush 10, 2) := by decide +kernel
theorem dC_encipher_32 : decode mC_encipher.2.1 32 = .ok (.if_icmp .ge 10, 3) := by decide +kernel
theorem dC_encipher_35 : decode mC_encipher.2.1 35 = .ok (.aload_n 0, 1) := by decide +kernel
theorem dC_encipher_36 : decode mC_encipher.2.1 36 = .ok (.invokevirtual 62, 3) := by decide +kernel
theorem dC_encipher_39 : decode mC_encipher.2.1 39 = .ok (.goto 18, 3) := by decide +kernel
theorem dC_encipher_42 : decode mC_encipher.2.1 42 = .ok (.aload_n 0, 1) := by decide +kernel
theorem dC_encipher_43 : decode mC_encipher.2.1 43 = .ok (.getfield 25, 3) := by decide +kernel
theorem dC_encipher_46 : decode mC_encipher.2.1 46 = .ok (.iconst 0, 1) := by decide +kernel
theorem dC_encipher_47 : decode mC_encipher.2.1 47 = .ok (.aload_n 0, 1) := by decide +kernel
theorem dC_encipher_48 : decode mC_encipher.2.1 48 = .ok (.getfield 22, 3) := by decide +kernel
theorem dC_encipher_51 : decode mC_encipher.2.1 51 = .ok (.iconst 0, 1) := by decide +kernel
theorem dC_encipher_52 : decode mC_encipher.2.1 52 = .ok (.bipush 16, 2) := by decide +kernel
theorem dC_encipher_54 : decode mC_encipher.2.1 54 = .ok (.invokestatic 42, 3) := by decide +kernel
theorem dC_encipher_57 : decode mC_encipher.2.1 57 = .ok (.aload_n 0, 1) := by decide +kernel
theorem dC_encipher_58 : decode mC_encipher.2.1 58 = .ok (.iload_n 3, 1) := by decide +kernel
theorem dC_encipher_59 : decode mC_encipher.2.1 59 = .ok (.invokevirtual 56, 3) := by decide +kernel
theorem dC_encipher_62 : decode mC_encipher.2.1 62 = .ok (.iinc 3 1, 3) := by decide +kernel
theorem dC_encipher_65 : decode mC_encipher.2.1 65 = .ok (.goto (-46), 3) := by decide +kernel
theorem dC_encipher_68 : decode mC_encipher.2.1 68 = .ok (.aload_n 0, 1) := by decide +kernel
theorem dC_encipher_69 : decode mC_encipher.2.1 69 = .ok (.getfield 22, 3) := by decide +kernel
theorem dC_encipher_72 : decode mC_encipher.2.1 72 = .ok (.iconst 0, 1) := by decide +kernel
theorem dC_encipher_73 : decode mC_encipher.2.1 73 = .ok (.aload_n 2, 1) := by decide +kernel
theorem dC_encipher_74 : decode mC_encipher.2.1 74 = .ok (.iconst 0, 1) := by decide +kernel
theorem dC_encipher_75 : decode mC_encipher.2.1 75 = .ok (.bipush 16, 2) := by decide +kernel
theorem dC_encipher_77 : decode mC_encipher.2.1 77 = .ok (.invokestatic 42, 3) := by decide +kernel
theorem dC_encipher_80 : decode mC_encipher.2.1 80 = .ok (.return_, 1) := by decide +kernel
theorem dC_addWords_0 : decode mC_addWords.2.1 0 = .ok (.iconst 0, 1) := by decide +kernel
theorem dC_addWords_1 : decode mC_addWords.2.1 1 = .ok (.istore_n 2, 1) := by decide +kernel
theorem dC_addWords_2 : decode mC_addWords.2.1 2 = .ok (.iload_n 2, 1) := by decide +kernel
theorem dC_addWords_3 : decode mC_addWords.2.1 3 = .ok (.bipush 16, 2) := by decide +kernel
theorem dC_addWords_5 : decode mC_addWords.2.1 5 = .ok (.if_icmp .ge 29, 3) := by decide +kernel
theorem dC_addWords_8 : decode mC_addWords.2.1 8 = .ok (.aload_n 0, 1) := by decide +kernel
theorem dC_addWords_9 : decode mC_addWords.2.1 9 = .ok (.getfield 22, 3) := by decide +kernel
theorem dC_addWords_12 : decode mC_addWords.2.1 12 = .ok (.iload_n 2, 1) := by decide +kernel
theorem dC_addWords_13 : decode mC_addWords.2.1 13 = .ok (.dup2, 1) := by decide +kernel
theorem dC_addWords_14 : decode mC_addWords.2.1 14 = .ok (.iaload, 1) := by decide +kernel
theorem dC_addWords_15 : decode mC_addWords.2.1 15 = .ok (.aload_n 0, 1) := by decide +kernel
theorem dC_addWords_16 : decode mC_addWords.2.1 16 = .ok (.getfield 19, 3) := by decide +kernel
theorem dC_addWords_19 : decode mC_addWords.2.1 19 = .ok (.bipush 16, 2) := by decide +kernel
theorem dC_addWords_21 : decode mC_addWords.2.1 21 = .ok (.iload_n 1, 1) := by decide +kernel
theorem dC_addWords_22 : decode mC_addWords.2.1 22 = .ok (.imul, 1) := by decide +kernel
theorem dC_addWords_23 : decode mC_addWords.2.1 23 = .ok (.iload_n 2, 1) := by decide +kernel
theorem dC_addWords_24 : decode mC_addWords.2.1 24 = .ok (.iadd, 1) := by decide +kernel
theorem dC_addWords_25 : decode mC_addWords.2.1 25 = .ok (.iaload, 1) := by decide +kernel
theorem dC_addWords_26 : decode mC_addWords.2.1 26 = .ok (.ixor, 1) := by decide +kernel
theorem dC_addWords_27 : decode mC_addWords.2.1 27 = .ok (.iastore, 1) := by decide +kernel
theorem dC_addWords_28 : decode mC_addWords.2.1 28 = .ok (.iinc 2 1, 3) := by decide +kernel
theorem dC_addWords_31 : decode mC_addWords.2.1 31 = .ok (.goto (-29), 3) := by decide +kernel
theorem dC_addWords_34 : decode mC_addWords.2.1 34 = .ok (.return_, 1) := by decide +kernel
theorem dC_boxAndMove_0 : decode mC_boxAndMove.2.1 0 = .ok (.iconst 0, 1) := by decide +kernel
theorem dC_boxAndMove_1 : decode mC_boxAndMove.2.1 1 = .ok (.istore_n 1, 1) := by decide +kernel
theorem dC_boxAndMove_2 : decode mC_boxAndMove.2.1 2 = .ok (.iload_n 1, 1) := by decide +kernel
theorem dC_boxAndMove_3 : decode mC_boxAndMove.2.1 3 = .ok (.iconst 4, 1) := by decide +kernel
theorem dC_boxAndMove_4 : decode mC_boxAndMove.2.1 4 = .ok (.if_icmp .ge 51, 3) := by decide +kernel
theorem dC_boxAndMove_7 : decode mC_boxAndMove.2.1 7 = .ok (.iconst 0, 1) := by decide +kernel
theorem dC_boxAndMove_8 : decode mC_boxAndMove.2.1 8 = .ok (.istore_n 2, 1) := by decide +kernel
theorem dC_boxAndMove_9 : decode mC_boxAndMove.2.1 9 = .ok (.iload_n 2, 1) := by decide +kernel
theorem dC_boxAndMove_10 : decode mC_boxAndMove.2.1 10 = .ok (.iconst 4, 1) := by decide +kernel
theorem dC_boxAndMove_11 : decode mC_boxAndMove.2.1 11 = .ok (.if_icmp .ge 38, 3) := by decide +kernel
theorem dC_boxAndMove_14 : decode mC_boxAndMove.2.1 14 = .ok (.aload_n 0, 1) := by decide +kernel
theorem dC_boxAndMove_15 : decode mC_boxAndMove.2.1 15 = .ok (.getfield 25, 3) := by decide +kernel
theorem dC_boxAndMove_18 : decode mC_boxAndMove.2.1 18 = .ok (.iconst 4, 1) := by decide +kernel
theorem dC_boxAndMove_19 : decode mC_boxAndMove.2.1 19 = .ok (.iload_n 1, 1) := by decide +kernel
theorem dC_boxAndMove_20 : decode mC_boxAndMove.2.1 20 = .ok (.imul, 1) := by decide +kernel
theorem dC_boxAndMove_21 : decode mC_boxAndMove.2.1 21 = .ok (.iload_n 2, 1) := by decide +kernel
theorem dC_boxAndMove_22 : decode mC_boxAndMove.2.1 22 = .ok (.iadd, 1) := by decide +kernel
theorem dC_boxAndMove_23 : decode mC_boxAndMove.2.1 23 = .ok (.aload_n 0, 1) := by decide +kernel
theorem dC_boxAndMove_24 : decode mC_boxAndMove.2.1 24 = .ok (.getfield 15, 3) := by decide +kernel
theorem dC_boxAndMove_27 : decode mC_boxAndMove.2.1 27 = .ok (.aload_n 0, 1) := by decide +kernel
theorem dC_boxAndMove_28 : decode mC_boxAndMove.2.1 28 = .ok (.getfield 22, 3) := by decide +kernel
theorem dC_boxAndMove_31 : decode mC_boxAndMove.2.1 31 = .ok (.iconst 4, 1) := by decide +kernel
theorem dC_boxAndMove_32 : decode mC_boxAndMove.2.1 32 = .ok (.iload_n 1, 1) := by decide +kernel
theorem dC_boxAndMove_33 : decode mC_boxAndMove.2.1 33 = .ok (.iload_n 2, 1) := by decide +kernel
theorem dC_boxAndMove_34 : decode mC_boxAndMove.2.1 34 = .ok (.iadd, 1) := by decide +kernel
theorem dC_boxAndMove_35 : decode mC_boxAndMove.2.1 35 = .ok (.iconst 4, 1) := by decide +kernel
theorem dC_boxAndMove_36 : decode mC_boxAndMove.2.1 36 = .ok (.irem, 1) := by decide +kernel
theorem dC_boxAndMove_37 : decode mC_boxAndMove.2.1 37 = .ok (.imul, 1) := by decide +kernel
theorem dC_boxAndMove_38 : decode mC_boxAndMove.2.1 38 = .ok (.iload_n 2, 1) := by decide +kernel
theorem dC_boxAndMove_39 : decode mC_boxAndMove.2.1 39 = .ok (.iadd, 1) := by decide +kernel
theorem dC_boxAndMove_40 : decode mC_boxAndMove.2.1 40 = .ok (.iaload, 1) := by decide +kernel
theorem dC_boxAndMove_41 : decode mC_boxAndMove.2.1 41 = .ok (.iaload, 1) := by decide +kernel
theorem dC_boxAndMove_42 : decode mC_boxAndMove.2.1 42 = .ok (.iastore, 1) := by decide +kernel
theorem dC_boxAndMove_43 : decode mC_boxAndMove.2.1 43 = .ok (.iinc 2 1, 3) := by decide +kernel
theorem dC_boxAndMove_46 : decode mC_boxAndMove.2.1 46 = .ok (.goto (-37), 3) := by decide +kernel
theorem dC_boxAndMove_49 : decode mC_boxAndMove.2.1 49 = .ok (.iinc 1 1, 3) := by decide +kernel
theorem dC_boxAndMove_52 : decode mC_boxAndMove.2.1 52 = .ok (.goto (-50), 3) := by decide +kernel
theorem dC_boxAndMove_55 : decode mC_boxAndMove.2.1 55 = .ok (.return_, 1) := by decide +kernel
theorem dC_mix_0 : decode mC_mix.2.1 0 = .ok (.iconst 0, 1) := by decide +kernel
theorem dC_mix_1 : decode mC_mix.2.1 1 = .ok (.istore_n 1, 1) := by decide +kernel
theorem dC_mix_2 : decode mC_mix.2.1 2 = .ok (.iload_n 1, 1) := by decide +kernel
theorem dC_mix_3 : decode mC_mix.2.1 3 = .ok (.iconst 4, 1) := by decide +kernel
theorem dC_mix_4 : decode mC_mix.2.1 4 = .ok (.if_icmp .ge 93, 3) := by decide +kernel
theorem dC_mix_7 : decode mC_mix.2.1 7 = .ok (.iconst 0, 1) := by decide +kernel
theorem dC_mix_8 : decode mC_mix.2.1 8 = .ok (.istore_n 2, 1) := by decide +kernel
theorem dC_mix_9 : decode mC_mix.2.1 9 = .ok (.iload_n 2, 1) := by decide +kernel
theorem dC_mix_10 : decode mC_mix.2.1 10 = .ok (.iconst 4, 1) := by decide +kernel
theorem dC_mix_11 : decode mC_mix.2.1 11 = .ok (.if_icmp .ge 80, 3) := by decide +kernel
theorem dC_mix_14 : decode mC_mix.2.1 14 = .ok (.aload_n 0, 1) := by decide +kernel
theorem dC_mix_15 : decode mC_mix.2.1 15 = .ok (.getfield 22, 3) := by decide +kernel
theorem dC_mix_18 : decode mC_mix.2.1 18 = .ok (.iconst 4, 1) := by decide +kernel
theorem dC_mix_19 : decode mC_mix.2.1 19 = .ok (.iload_n 1, 1) := by decide +kernel
theorem dC_mix_20 : decode mC_mix.2.1 20 = .ok (.imul, 1) := by decide +kernel
theorem dC_mix_21 : decode mC_mix.2.1 21 = .ok (.iload_n 2, 1) := by decide +kernel
theorem dC_mix_22 : decode mC_mix.2.1 22 = .ok (.iadd, 1) := by decide +kernel
theorem dC_mix_23 : decode mC_mix.2.1 23 = .ok (.aload_n 0, 1) := by decide +kernel
theorem dC_mix_24 : decode mC_mix.2.1 24 = .ok (.getfield 25, 3) := by decide +kernel
theorem dC_mix_27 : decode mC_mix.2.1 27 = .ok (.iconst 4, 1) := by decide +kernel
theorem dC_mix_28 : decode mC_mix.2.1 28 = .ok (.iload_n 1, 1) := by decide +kernel
theorem dC_mix_29 : decode mC_mix.2.1 29 = .ok (.imul, 1) := by decide +kernel
theorem dC_mix_30 : decode mC_mix.2.1 30 = .ok (.iload_n 2, 1) := by decide +kernel
theorem dC_mix_31 : decode mC_mix.2.1 31 = .ok (.iadd, 1) := by decide +kernel
theorem dC_mix_32 : decode mC_mix.2.1 32 = .ok (.iaload, 1) := by decide +kernel
theorem dC_mix_33 : decode mC_mix.2.1 33 = .ok (.invokestatic 39, 3) := by decide +kernel
theorem dC_mix_36 : decode mC_mix.2.1 36 = .ok (.aload_n 0, 1) := by decide +kernel
theorem dC_mix_37 : decode mC_mix.2.1 37 = .ok (.getfield 25, 3) := by decide +kernel
theorem dC_mix_40 : decode mC_mix.2.1 40 = .ok (.iconst 4, 1) := by decide +kernel
theorem dC_mix_41 : decode mC_mix.2.1 41 = .ok (.iload_n 1, 1) := by decide +kernel
theorem dC_mix_42 : decode mC_mix.2.1 42 = .ok (.imul, 1) := by decide +kernel
theorem dC_mix_43 : decode mC_mix.2.1 43 = .ok (.iload_n 2, 1) := by decide +kernel
theorem dC_mix_44 : decode mC_mix.2.1 44 = .ok (.iconst 1, 1) := by decide +kernel
theorem dC_mix_45 : decode mC_mix.2.1 45 = .ok (.iadd, 1) := by decide +kernel
theorem dC_mix_46 : decode mC_mix.2.1 46 = .ok (.iconst 4, 1) := by decide +kernel
theorem dC_mix_47 : decode mC_mix.2.1 47 = .ok (.irem, 1) := by decide +kernel
theorem dC_mix_48 : decode mC_mix.2.1 48 = .ok (.iadd, 1) := by decide +kernel
theorem dC_mix_49 : decode mC_mix.2.1 49 = .ok (.iaload, 1) := by decide +kernel
theorem dC_mix_50 : decode mC_mix.2.1 50 = .ok (.invokestatic 28, 3) := by decide +kernel
theorem dC_mix_53 : decode mC_mix.2.1 53 = .ok (.ixor, 1) := by decide +kernel
theorem dC_mix_54 : decode mC_mix.2.1 54 = .ok (.aload_n 0, 1) := by decide +kernel
theorem dC_mix_55 : decode mC_mix.2.1 55 = .ok (.getfield 25, 3) := by decide +kernel
theorem dC_mix_58 : decode mC_mix.2.1 58 = .ok (.iconst 4, 1) := by decide +kernel
theorem dC_mix_59 : decode mC_mix.2.1 59 = .ok (.iload_n 1, 1) := by decide +kernel
theorem dC_mix_60 : decode mC_mix.2.1 60 = .ok (.imul, 1) := by decide +kernel
theorem dC_mix_61 : decode mC_mix.2.1 61 = .ok (.iload_n 2, 1) := by decide +kernel
theorem dC_mix_62 : decode mC_mix.2.1 62 = .ok (.iconst 2, 1) := by decide +kernel
theorem dC_mix_63 : decode mC_mix.2.1 63 = .ok (.iadd, 1) := by decide +kernel
theorem dC_mix_64 : decode mC_mix.2.1 64 = .ok (.iconst 4, 1) := by decide +kernel
theorem dC_mix_65 : decode mC_mix.2.1 65 = .ok (.irem, 1) := by decide +kernel
theorem dC_mix_66 : decode mC_mix.2.1 66 = .ok (.iadd, 1) := by decide +kernel
theorem dC_mix_67 : decode mC_mix.2.1 67 = .ok (.iaload, 1) := by decide +kernel
theorem dC_mix_68 : decode mC_mix.2.1 68 = .ok (.ixor, 1) := by decide +kernel
theorem dC_mix_69 : decode mC_mix.2.1 69 = .ok (.aload_n 0, 1) := by decide +kernel
theorem dC_mix_70 : decode mC_mix.2.1 70 = .ok (.getfield 25, 3) := by decide +kernel
theorem dC_mix_73 : decode mC_mix.2.1 73 = .ok (.iconst 4, 1) := by decide +kernel
theorem dC_mix_74 : decode mC_mix.2.1 74 = .ok (.iload_n 1, 1) := by decide +kernel
theorem dC_mix_75 : decode mC_mix.2.1 75 = .ok (.imul, 1) := by decide +kernel
theorem dC_mix_76 : decode mC_mix.2.1 76 = .ok (.iload_n 2, 1) := by decide +kernel
theorem dC_mix_77 : decode mC_mix.2.1 77 = .ok (.iconst 3, 1) := by decide +kernel
theorem dC_mix_78 : decode mC_mix.2.1 78 = .ok (.iadd, 1) := by decide +kernel
theorem dC_mix_79 : decode mC_mix.2.1 79 = .ok (.iconst 4, 1) := by decide +kernel
theorem dC_mix_80 : decode mC_mix.2.1 80 = .ok (.irem, 1) := by decide +kernel
theorem dC_mix_81 : decode mC_mix.2.1 81 = .ok (.iadd, 1) := by decide +kernel
theorem dC_mix_82 : decode mC_mix.2.1 82 = .ok (.iaload, 1) := by decide +kernel
theorem dC_mix_83 : decode mC_mix.2.1 83 = .ok (.ixor, 1) := by decide +kernel
theorem dC_mix_84 : decode mC_mix.2.1 84 = .ok (.iastore, 1) := by decide +kernel
theorem dC_mix_85 : decode mC_mix.2.1 85 = .ok (.iinc 2 1, 3) := by decide +kernel
theorem dC_mix_88 : decode mC_mix.2.1 88 = .ok (.goto (-79), 3) := by decide +kernel
theorem dC_mix_91 : decode mC_mix.2.1 91 = .ok (.iinc 1 1, 3) := by decide +kernel
theorem dC_mix_94 : decode mC_mix.2.1 94 = .ok (.goto (-92), 3) := by decide +kernel
theorem dC_mix_97 : decode mC_mix.2.1 97 = .ok (.return_, 1) := by decide +kernel
theorem dH_init_0 : decode mH_init.2.1 0 = .ok (.aload_n 0, 1) := by decide +kernel
theorem dH_init_1 : decode mH_init.2.1 1 = .ok (.invokespecial 3, 3) := by decide +kernel
theorem dH_init_4 : decode mH_init.2.1 4 = .ok (.aload_n 0, 1) := by decide +kernel
theorem dH_init_5 : decode mH_init.2.1 5 = .ok (.iload_n 1, 1) := by decide +kernel
theorem dH_init_6 : decode mH_init.2.1 6 = .ok (.putfield 9, 3) := by decide +kernel
theorem dH_init_9 : decode mH_init.2.1 9 = .ok (.aload_n 0, 1) := by decide +kernel
theorem dH_init_10 : decode mH_init.2.1 10 = .ok (.iload_n 1, 1) := by decide +kernel
theorem dH_init_11 : decode mH_init.2.1 11 = .ok (.ifCond .eq 8, 3) := by decide +kernel
theorem dH_init_14 : decode mH_init.2.1 14 = .ok (.bipush 7, 2) := by decide +kernel
theorem dH_init_16 : decode mH_init.2.1 16 = .ok (.goto 4, 3) := by decide +kernel
theorem dH_init_19 : decode mH_init.2.1 19 = .ok (.iconst 0, 1) := by decide +kernel
theorem dH_init_20 : decode mH_init.2.1 20 = .ok (.putfield 15, 3) := by decide +kernel
theorem dH_init_23 : decode mH_init.2.1 23 = .ok (.aload_n 0, 1) := by decide +kernel
theorem dH_init_24 : decode mH_init.2.1 24 = .ok (.iload_n 1, 1) := by decide +kernel
theorem dH_init_25 : decode mH_init.2.1 25 = .ok (.ifCond .eq 7, 3) := by decide +kernel
theorem dH_init_28 : decode mH_init.2.1 28 = .ok (.lconst 0, 1) := by decide +kernel
theorem dH_init_29 : decode mH_init.2.1 29 = .ok (.goto 6, 3) := by decide +kernel
theorem dH_init_32 : decode mH_init.2.1 32 = .ok (.ldc2_w 19, 3) := by decide +kernel
theorem dH_init_35 : decode mH_init.2.1 35 = .ok (.putfield 21, 3) := by decide +kernel
theorem dH_init_38 : decode mH_init.2.1 38 = .ok (.aload_n 0, 1) := by decide +kernel
theorem dH_init_39 : decode mH_init.2.1 39 = .ok (.iload_n 1, 1) := by decide +kernel
theorem dH_init_40 : decode mH_init.2.1 40 = .ok (.ifCond .eq 9, 3) := by decide +kernel
theorem dH_init_43 : decode mH_init.2.1 43 = .ok (.ldc2_w 25, 3) := by decide +kernel
theorem dH_init_46 : decode mH_init.2.1 46 = .ok (.goto 4, 3) := by decide +kernel
theorem dH_init_49 : decode mH_init.2.1 49 = .ok (.lconst 1, 1) := by decide +kernel
theorem dH_init_50 : decode mH_init.2.1 50 = .ok (.putfield 27, 3) := by decide +kernel
theorem dH_init_53 : decode mH_init.2.1 53 = .ok (.aload_n 0, 1) := by decide +kernel
theorem dH_init_54 : decode mH_init.2.1 54 = .ok (.bipush 16, 2) := by decide +kernel
theorem dH_init_56 : decode mH_init.2.1 56 = .ok (.newarray .int, 2) := by decide +kernel
theorem dH_init_58 : decode mH_init.2.1 58 = .ok (.putfield 30, 3) := by decide +kernel
theorem dH_init_61 : decode mH_init.2.1 61 = .ok (.return_, 1) := by decide +kernel
theorem dH_begin_0 : decode mH_begin.2.1 0 = .ok (.aload_n 0, 1) := by decide +kernel
theorem dH_begin_1 : decode mH_begin.2.1 1 = .ok (.aload_n 0, 1) := by decide +kernel
theorem dH_begin_2 : decode mH_begin.2.1 2 = .ok (.aload_n 1, 1) := by decide +kernel
theorem dH_begin_3 : decode mH_begin.2.1 3 = .ok (.bipush 8, 2) := by decide +kernel
theorem dH_begin_5 : decode mH_begin.2.1 5 = .ok (.bipush 16, 2) := by decide +kernel
theorem dH_begin_7 : decode mH_begin.2.1 7 = .ok (.invokevirtual 34, 3) := by decide +kernel
theorem dH_begin_10 : decode mH_begin.2.1 10 = .ok (.putfield 38, 3) := by decide +kernel
theorem dH_begin_13 : decode mH_begin.2.1 13 = .ok (.aload_n 0, 1) := by decide +kernel
theorem dH_begin_14 : decode mH_begin.2.1 14 = .ok (.aload_n 0, 1) := by decide +kernel
theorem dH_begin_15 : decode mH_begin.2.1 15 = .ok (.aload_n 1, 1) := by decide +kernel
theorem dH_begin_16 : decode mH_begin.2.1 16 = .ok (.iconst 0, 1) := by decide +kernel
theorem dH_begin_17 : decode mH_begin.2.1 17 = .ok (.bipush 16, 2) := by decide +kernel
theorem dH_begin_19 : decode mH_begin.2.1 19 = .ok (.invokevirtual 34, 3) := by decide +kernel
theorem dH_begin_22 : decode mH_begin.2.1 22 = .ok (.putfield 41, 3) := by decide +kernel
theorem dH_begin_25 : decode mH_begin.2.1 25 = .ok (.aload_n 0, 1) := by decide +kernel
theorem dH_begin_26 : decode mH_begin.2.1 26 = .ok (.getfield 9, 3) := by decide +kernel
theorem dH_begin_29 : decode mH_begin.2.1 29 = .ok (.ifCond .ne 7, 3) := by decide +kernel
theorem dH_begin_32 : decode mH_begin.2.1 32 = .ok (.aload_n 0, 1) := by decide +kernel
theorem dH_begin_33 : decode mH_begin.2.1 33 = .ok (.invokevirtual 44, 3) := by decide +kernel
theorem dH_begin_36 : decode mH_begin.2.1 36 = .ok (.aload_n 0, 1) := by decide +kernel
theorem dH_begin_37 : decode mH_begin.2.1 37 = .ok (.lconst 0, 1) := by decide +kernel
theorem dH_begin_38 : decode mH_begin.2.1 38 = .ok (.putfield 47, 3) := by decide +kernel
theorem dH_begin_41 : decode mH_begin.2.1 41 = .ok (.aload_n 0, 1) := by decide +kernel
theorem dH_begin_42 : decode mH_begin.2.1 42 = .ok (.lconst 0, 1) := by decide +kernel
theorem dH_begin_43 : decode mH_begin.2.1 43 = .ok (.putfield 50, 3) := by decide +kernel
theorem dH_begin_46 : decode mH_begin.2.1 46 = .ok (.return_, 1) := by decide +kernel
theorem dH_putBesidesIntoKey_0 : decode mH_putBesidesIntoKey.2.1 0 = .ok (.aload_n 0, 1) := by decide +kernel
theorem dH_putBesidesIntoKey_1 : decode mH_putBesidesIntoKey.2.1 1 = .ok (.ldc2_w 53, 3) := by decide +kernel
theorem dH_putBesidesIntoKey_4 : decode mH_putBesidesIntoKey.2.1 4 = .ok (.putfield 47, 3) := by decide +kernel
theorem dH_putBesidesIntoKey_7 : decode mH_putBesidesIntoKey.2.1 7 = .ok (.aload_n 0, 1) := by decide +kernel
theorem dH_putBesidesIntoKey_8 : decode mH_putBesidesIntoKey.2.1 8 = .ok (.lconst 1, 1) := by decide +kernel
theorem dH_putBesidesIntoKey_9 : decode mH_putBesidesIntoKey.2.1 9 = .ok (.putfield 50, 3) := by decide +kernel
theorem dH_putBesidesIntoKey_12 : decode mH_putBesidesIntoKey.2.1 12 = .ok (.aload_n 0, 1) := by decide +kernel
theorem dH_putBesidesIntoKey_13 : decode mH_putBesidesIntoKey.2.1 13 = .ok (.invokevirtual 55, 3) := by decide +kernel
theorem dH_putBesidesIntoKey_16 : decode mH_putBesidesIntoKey.2.1 16 = .ok (.aload_n 0, 1) := by decide +kernel
theorem dH_putBesidesIntoKey_17 : decode mH_putBesidesIntoKey.2.1 17 = .ok (.aload_n 0, 1) := by decide +kernel
theorem dH_putBesidesIntoKey_18 : decode mH_putBesidesIntoKey.2.1 18 = .ok (.getfield 47, 3) := by decide +kernel
theorem dH_putBesidesIntoKey_21 : decode mH_putBesidesIntoKey.2.1 21 = .ok (.putfield 38, 3) := by decide +kernel
theorem dH_putBesidesIntoKey_24 : decode mH_putBesidesIntoKey.2.1 24 = .ok (.aload_n 0, 1) := by decide +kernel
theorem dH_putBesidesIntoKey_25 : decode mH_putBesidesIntoKey.2.1 25 = .ok (.aload_n 0, 1) := by decide +kernel
theorem dH_putBesidesIntoKey_26 : decode mH_putBesidesIntoKey.2.1 26 = .ok (.getfield 50, 3) := by decide +kernel
theorem dH_putBesidesIntoKey_29 : decode mH_putBesidesIntoKey.2.1 29 = .ok (.putfield 41, 3) := by decide +kernel
theorem dH_putBesidesIntoKey_32 : decode mH_putBesidesIntoKey.2.1 32 = .ok (.return_, 1) := by decide +kernel
theorem dH_add_0 : decode mH_add.2.1 0 = .ok (.iconst 0, 1) := by decide +kernel
theorem dH_add_1 : decode mH_add.2.1 1 = .ok (.istore_n 3, 1) := by decide +kernel
theorem dH_add_2 : decode mH_add.2.1 2 = .ok (.iload_n 3, 1) := by decide +kernel
theorem dH_add_3 : decode mH_add.2.1 3 = .ok (.iload_n 2, 1) := by decide +kernel
theorem dH_add_4 : decode mH_add.2.1 4 = .ok (.if_icmp .ge 48, 3) := by decide +kernel
theorem dH_add_7 : decode mH_add.2.1 7 = .ok (.aload_n 0, 1) := by decide +kernel
theorem dH_add_8 : decode mH_add.2.1 8 = .ok (.dup, 1) := by decide +kernel
theorem dH_add_9 : decode mH_add.2.1 9 = .ok (.getfield 50, 3) := by decide +kernel
theorem dH_add_12 : decode mH_add.2.1 12 = .ok (.aload_n 0, 1) := by decide +kernel
theorem dH_add_13 : decode mH_add.2.1 13 = .ok (.aload_n 1, 1) := by decide +kernel
theorem dH_add_14 : decode mH_add.2.1 14 = .ok (.iload_n 3, 1) := by decide +kernel
theorem dH_add_15 : decode mH_add.2.1 15 = .ok (.iload_n 2, 1) := by decide +kernel
theorem dH_add_16 : decode mH_add.2.1 16 = .ok (.invokevirtual 34, 3) := by decide +kernel
theorem dH_add_19 : decode mH_add.2.1 19 = .ok (.lxor, 1) := by decide +kernel
theorem dH_add_20 : decode mH_add.2.1 20 = .ok (.putfield 50, 3) := by decide +kernel
theorem dH_add_23 : decode mH_add.2.1 23 = .ok (.aload_n 0, 1) := by decide +kernel
theorem dH_add_24 : decode mH_add.2.1 24 = .ok (.dup, 1) := by decide +kernel
theorem dH_add_25 : decode mH_add.2.1 25 = .ok (.getfield 47, 3) := by decide +kernel
theorem dH_add_28 : decode mH_add.2.1 28 = .ok (.aload_n 0, 1) := by decide +kernel
theorem dH_add_29 : decode mH_add.2.1 29 = .ok (.aload_n 1, 1) := by decide +kernel
theorem dH_add_30 : decode mH_add.2.1 30 = .ok (.iload_n 3, 1) := by decide +kernel
theorem dH_add_31 : decode mH_add.2.1 31 = .ok (.bipush 8, 2) := by decide +kernel
theorem dH_add_33 : decode mH_add.2.1 33 = .ok (.iadd, 1) := by decide +kernel
theorem dH_add_34 : decode mH_add.2.1 34 = .ok (.iload_n 2, 1) := by decide +kernel
theorem dH_add_35 : decode mH_add.2.1 35 = .ok (.invokevirtual 34, 3) := by decide +kernel
theorem dH_add_38 : decode mH_add.2.1 38 = .ok (.lxor, 1) := by decide +kernel
theorem dH_add_39 : decode mH_add.2.1 39 = .ok (.putfield 47, 3) := by decide +kernel
theorem dH_add_42 : decode mH_add.2.1 42 = .ok (.aload_n 0, 1) := by decide +kernel
theorem dH_add_43 : decode mH_add.2.1 43 = .ok (.invokevirtual 55, 3) := by decide +kernel
theorem dH_add_46 : decode mH_add.2.1 46 = .ok (.iinc 3 16, 3) := by decide +kernel
theorem dH_add_49 : decode mH_add.2.1 49 = .ok (.goto (-47), 3) := by decide +kernel
theorem dH_add_52 : decode mH_add.2.1 52 = .ok (.return_, 1) := by decide +kernel
theorem dH_addLengths_0 : decode mH_addLengths.2.1 0 = .ok (.aload_n 0, 1) := by decide +kernel
theorem dH_addLengths_1 : decode mH_addLengths.2.1 1 = .ok (.iconst 0, 1) := by decide +kernel
theorem dH_addLengths_2 : decode mH_addLengths.2.1 2 = .ok (.ldc2_w 58, 3) := by decide +kernel
theorem dH_addLengths_5 : decode mH_addLengths.2.1 5 = .ok (.iload_n 1, 1) := by decide +kernel
theorem dH_addLengths_6 : decode mH_addLengths.2.1 6 = .ok (.i2l, 1) := by decide +kernel
theorem dH_addLengths_7 : decode mH_addLengths.2.1 7 = .ok (.lmul, 1) := by decide +kernel
theorem dH_addLengths_8 : decode mH_addLengths.2.1 8 = .ok (.invokevirtual 60, 3) := by decide +kernel
theorem dH_addLengths_11 : decode mH_addLengths.2.1 11 = .ok (.aload_n 0, 1) := by decide +kernel
theorem dH_addLengths_12 : decode mH_addLengths.2.1 12 = .ok (.bipush 8, 2) := by decide +kernel
theorem dH_addLengths_14 : decode mH_addLengths.2.1 14 = .ok (.ldc2_w 58, 3) := by decide +kernel
theorem dH_addLengths_17 : decode mH_addLengths.2.1 17 = .ok (.iload_n 2, 1) := by decide +kernel
theorem dH_addLengths_18 : decode mH_addLengths.2.1 18 = .ok (.i2l, 1) := by decide +kernel
theorem dH_addLengths_19 : decode mH_addLengths.2.1 19 = .ok (.lmul, 1) := by decide +kernel
theorem dH_addLengths_20 : decode mH_addLengths.2.1 20 = .ok (.invokevirtual 60, 3) := by decide +kernel
theorem dH_addLengths_23 : decode mH_addLengths.2.1 23 = .ok (.aload_n 0, 1) := by decide +kernel
theorem dH_addLengths_24 : decode mH_addLengths.2.1 24 = .ok (.aload_n 0, 1) := by decide +kernel
theorem dH_addLengths_25 : decode mH_addLengths.2.1 25 = .ok (.getfield 30, 3) := by decide +kernel
theorem dH_addLengths_28 : decode mH_addLengths.2.1 28 = .ok (.bipush 16, 2) := by decide +kernel
theorem dH_addLengths_30 : decode mH_addLengths.2.1 30 = .ok (.invokevirtual 64, 3) := by decide +kernel
theorem dH_addLengths_33 : decode mH_addLengths.2.1 33 = .ok (.return_, 1) := by decide +kernel
theorem dH_putLength_0 : decode mH_putLength.2.1 0 = .ok (.iconst 0, 1) := by decide +kernel
theorem dH_putLength_1 : decode mH_putLength.2.1 1 = .ok (.istore 4, 2) := by decide +kernel
theorem dH_putLength_3 : decode mH_putLength.2.1 3 = .ok (.iload 4, 2) := by decide +kernel
theorem dH_putLength_5 : decode mH_putLength.2.1 5 = .ok (.bipush 8, 2) := by decide +kernel
theorem dH_putLength_7 : decode mH_putLength.2.1 7 = .ok (.if_icmp .ge 49, 3) := by decide +kernel
theorem dH_putLength_10 : decode mH_putLength.2.1 10 = .ok (.aload_n 0, 1) := by decide +kernel
theorem dH_putLength_11 : decode mH_putLength.2.1 11 = .ok (.getfield 9, 3) := by decide +kernel
theorem dH_putLength_14 : decode mH_putLength.2.1 14 = .ok (.ifCond .eq 11, 3) := by decide +kernel
theorem dH_putLength_17 : decode mH_putLength.2.1 17 = .ok (.bipush 7, 2) := by decide +kernel
theorem dH_putLength_19 : decode mH_putLength.2.1 19 = .ok (.iload 4, 2) := by decide +kernel
theorem dH_putLength_21 : decode mH_putLength.2.1 21 = .ok (.isub, 1) := by decide +kernel
theorem dH_putLength_22 : decode mH_putLength.2.1 22 = .ok (.goto 5, 3) := by decide +kernel
theorem dH_putLength_25 : decode mH_putLength.2.1 25 = .ok (.iload 4, 2) := by decide +kernel
theorem dH_putLength_27 : decode mH_putLength.2.1 27 = .ok (.istore 5, 2) := by decide +kernel
theorem dH_putLength_29 : decode mH_putLength.2.1 29 = .ok (.aload_n 0, 1) := by decide +kernel
theorem dH_putLength_30 : decode mH_putLength.2.1 30 = .ok (.getfield 30, 3) := by decide +kernel
theorem dH_putLength_33 : decode mH_putLength.2.1 33 = .ok (.iload_n 1, 1) := by decide +kernel
theorem dH_putLength_34 : decode mH_putLength.2.1 34 = .ok (.iload 5, 2) := by decide +kernel
theorem dH_putLength_36 : decode mH_putLength.2.1 36 = .ok (.iadd, 1) := by decide +kernel
theorem dH_putLength_37 : decode mH_putLength.2.1 37 = .ok (.lload_n 2, 1) := by decide +kernel
theorem dH_putLength_38 : decode mH_putLength.2.1 38 = .ok (.bipush 8, 2) := by decide +kernel
theorem dH_putLength_40 : decode mH_putLength.2.1 40 = .ok (.iload 4, 2) := by decide +kernel
theorem dH_putLength_42 : decode mH_putLength.2.1 42 = .ok (.imul, 1) := by decide +kernel
theorem dH_putLength_43 : decode mH_putLength.2.1 43 = .ok (.lushr, 1) := by decide +kernel
theorem dH_putLength_44 : decode mH_putLength.2.1 44 = .ok (.l2i, 1) := by decide +kernel
theorem dH_putLength_45 : decode mH_putLength.2.1 45 = .ok (.sipush 255, 3) := by decide +kernel
theorem dH_putLength_48 : decode mH_putLength.2.1 48 = .ok (.iand, 1) := by decide +kernel
theorem dH_putLength_49 : decode mH_putLength.2.1 49 = .ok (.iastore, 1) := by decide +kernel
theorem dH_putLength_50 : decode mH_putLength.2.1 50 = .ok (.iinc 4 1, 3) := by decide +kernel
theorem dH_putLength_53 : decode mH_putLength.2.1 53 = .ok (.goto (-50), 3) := by decide +kernel
theorem dH_putLength_56 : decode mH_putLength.2.1 56 = .ok (.return_, 1) := by decide +kernel
theorem dH_write_0 : decode mH_write.2.1 0 = .ok (.aload_n 0, 1) := by decide +kernel
theorem dH_write_1 : decode mH_write.2.1 1 = .ok (.aload_n 0, 1) := by decide +kernel
theorem dH_write_2 : decode mH_write.2.1 2 = .ok (.getfield 50, 3) := by decide +kernel
theorem dH_write_5 : decode mH_write.2.1 5 = .ok (.aload_n 1, 1) := by decide +kernel
theorem dH_write_6 : decode mH_write.2.1 6 = .ok (.iconst 0, 1) := by decide +kernel
theorem dH_write_7 : decode mH_write.2.1 7 = .ok (.invokevirtual 68, 3) := by decide +kernel
theorem dH_write_10 : decode mH_write.2.1 10 = .ok (.aload_n 0, 1) := by decide +kernel
theorem dH_write_11 : decode mH_write.2.1 11 = .ok (.aload_n 0, 1) := by decide +kernel
theorem dH_write_12 : decode mH_write.2.1 12 = .ok (.getfield 47, 3) := by decide +kernel
theorem dH_write_15 : decode mH_write.2.1 15 = .ok (.aload_n 1, 1) := by decide +kernel
theorem dH_write_16 : decode mH_write.2.1 16 = .ok (.bipush 8, 2) := by decide +kernel
theorem dH_write_18 : decode mH_write.2.1 18 = .ok (.invokevirtual 68, 3) := by decide +kernel
theorem dH_write_21 : decode mH_write.2.1 21 = .ok (.return_, 1) := by decide +kernel
theorem dH_readHalf_0 : decode mH_readHalf.2.1 0 = .ok (.lconst 0, 1) := by decide +kernel
theorem dH_readHalf_1 : decode mH_readHalf.2.1 1 = .ok (.lstore 4, 2) := by decide +kernel
theorem dH_readHalf_3 : decode mH_readHalf.2.1 3 = .ok (.iconst 0, 1) := by decide +kernel
theorem dH_readHalf_4 : decode mH_readHalf.2.1 4 = .ok (.istore 6, 2) := by decide +kernel
theorem dH_readHalf_6 : decode mH_readHalf.2.1 6 = .ok (.iload 6, 2) := by decide +kernel
theorem dH_readHalf_8 : decode mH_readHalf.2.1 8 = .ok (.bipush 64, 2) := by decide +kernel
theorem dH_readHalf_10 : decode mH_readHalf.2.1 10 = .ok (.if_icmp .ge 55, 3) := by decide +kernel
theorem dH_readHalf_13 : decode mH_readHalf.2.1 13 = .ok (.iload_n 2, 1) := by decide +kernel
theorem dH_readHalf_14 : decode mH_readHalf.2.1 14 = .ok (.iload 6, 2) := by decide +kernel
theorem dH_readHalf_16 : decode mH_readHalf.2.1 16 = .ok (.bipush 8, 2) := by decide +kernel
theorem dH_readHalf_18 : decode mH_readHalf.2.1 18 = .ok (.idiv, 1) := by decide +kernel
theorem dH_readHalf_19 : decode mH_readHalf.2.1 19 = .ok (.iadd, 1) := by decide +kernel
theorem dH_readHalf_20 : decode mH_readHalf.2.1 20 = .ok (.iload_n 3, 1) := by decide +kernel
theorem dH_readHalf_21 : decode mH_readHalf.2.1 21 = .ok (.if_icmp .ge 44, 3) := by decide +kernel
theorem dH_readHalf_24 : decode mH_readHalf.2.1 24 = .ok (.aload_n 1, 1) := by decide +kernel
theorem dH_readHalf_25 : decode mH_readHalf.2.1 25 = .ok (.iload_n 2, 1) := by decide +kernel
theorem dH_readHalf_26 : decode mH_readHalf.2.1 26 = .ok (.iload 6, 2) := by decide +kernel
theorem dH_readHalf_28 : decode mH_readHalf.2.1 28 = .ok (.bipush 8, 2) := by decide +kernel
theorem dH_readHalf_30 : decode mH_readHalf.2.1 30 = .ok (.idiv, 1) := by decide +kernel
theorem dH_readHalf_31 : decode mH_readHalf.2.1 31 = .ok (.iadd, 1) := by decide +kernel
theorem dH_readHalf_32 : decode mH_readHalf.2.1 32 = .ok (.iaload, 1) := by decide +kernel
theorem dH_readHalf_33 : decode mH_readHalf.2.1 33 = .ok (.iload 6, 2) := by decide +kernel
theorem dH_readHalf_35 : decode mH_readHalf.2.1 35 = .ok (.bipush 8, 2) := by decide +kernel
theorem dH_readHalf_37 : decode mH_readHalf.2.1 37 = .ok (.irem, 1) := by decide +kernel
theorem dH_readHalf_38 : decode mH_readHalf.2.1 38 = .ok (.aload_n 0, 1) := by decide +kernel
theorem dH_readHalf_39 : decode mH_readHalf.2.1 39 = .ok (.getfield 15, 3) := by decide +kernel
theorem dH_readHalf_42 : decode mH_readHalf.2.1 42 = .ok (.ixor, 1) := by decide +kernel
theorem dH_readHalf_43 : decode mH_readHalf.2.1 43 = .ok (.ishr, 1) := by decide +kernel
theorem dH_readHalf_44 : decode mH_readHalf.2.1 44 = .ok (.iconst 1, 1) := by decide +kernel
theorem dH_readHalf_45 : decode mH_readHalf.2.1 45 = .ok (.iand, 1) := by decide +kernel
theorem dH_readHalf_46 : decode mH_readHalf.2.1 46 = .ok (.i2l, 1) := by decide +kernel
theorem dH_readHalf_47 : decode mH_readHalf.2.1 47 = .ok (.lstore 7, 2) := by decide +kernel
theorem dH_readHalf_49 : decode mH_readHalf.2.1 49 = .ok (.lload 4, 2) := by decide +kernel
theorem dH_readHalf_51 : decode mH_readHalf.2.1 51 = .ok (.lload 7, 2) := by decide +kernel
theorem dH_readHalf_53 : decode mH_readHalf.2.1 53 = .ok (.iload 6, 2) := by decide +kernel
theorem dH_readHalf_55 : decode mH_readHalf.2.1 55 = .ok (.lshl, 1) := by decide +kernel
theorem dH_readHalf_56 : decode mH_readHalf.2.1 56 = .ok (.lor, 1) := by decide +kernel
theorem dH_readHalf_57 : decode mH_readHalf.2.1 57 = .ok (.lstore 4, 2) := by decide +kernel
theorem dH_readHalf_59 : decode mH_readHalf.2.1 59 = .ok (.iinc 6 1, 3) := by decide +kernel
theorem dH_readHalf_62 : decode mH_readHalf.2.1 62 = .ok (.goto (-56), 3) := by decide +kernel
theorem dH_readHalf_65 : decode mH_readHalf.2.1 65 = .ok (.lload 4, 2) := by decide +kernel
theorem dH_readHalf_67 : decode mH_readHalf.2.1 67 = .ok (.lreturn, 1) := by decide +kernel
theorem dH_writeHalf_0 : decode mH_writeHalf.2.1 0 = .ok (.iconst 0, 1) := by decide +kernel
theorem dH_writeHalf_1 : decode mH_writeHalf.2.1 1 = .ok (.istore 5, 2) := by decide +kernel
theorem dH_writeHalf_3 : decode mH_writeHalf.2.1 3 = .ok (.iload 5, 2) := by decide +kernel
theorem dH_writeHalf_5 : decode mH_writeHalf.2.1 5 = .ok (.bipush 8, 2) := by decide +kernel
theorem dH_writeHalf_7 : decode mH_writeHalf.2.1 7 = .ok (.if_icmp .ge 17, 3) := by decide +kernel
theorem dH_writeHalf_10 : decode mH_writeHalf.2.1 10 = .ok (.aload_n 3, 1) := by decide +kernel
theorem dH_writeHalf_11 : decode mH_writeHalf.2.1 11 = .ok (.iload 4, 2) := by decide +kernel
theorem dH_writeHalf_13 : decode mH_writeHalf.2.1 13 = .ok (.iload 5, 2) := by decide +kernel
theorem dH_writeHalf_15 : decode mH_writeHalf.2.1 15 = .ok (.iadd, 1) := by decide +kernel
theorem dH_writeHalf_16 : decode mH_writeHalf.2.1 16 = .ok (.iconst 0, 1) := by decide +kernel
theorem dH_writeHalf_17 : decode mH_writeHalf.2.1 17 = .ok (.iastore, 1) := by decide +kernel
theorem dH_writeHalf_18 : decode mH_writeHalf.2.1 18 = .ok (.iinc 5 1, 3) := by decide +kernel
theorem dH_writeHalf_21 : decode mH_writeHalf.2.1 21 = .ok (.goto (-18), 3) := by decide +kernel
theorem dH_writeHalf_24 : decode mH_writeHalf.2.1 24 = .ok (.iconst 0, 1) := by decide +kernel
theorem dH_writeHalf_25 : decode mH_writeHalf.2.1 25 = .ok (.istore 5, 2) := by decide +kernel
theorem dH_writeHalf_27 : decode mH_writeHalf.2.1 27 = .ok (.iload 5, 2) := by decide +kernel
theorem dH_writeHalf_29 : decode mH_writeHalf.2.1 29 = .ok (.bipush 64, 2) := by decide +kernel
theorem dH_writeHalf_31 : decode mH_writeHalf.2.1 31 = .ok (.if_icmp .ge 44, 3) := by decide +kernel
theorem dH_writeHalf_34 : decode mH_writeHalf.2.1 34 = .ok (.lload_n 1, 1) := by decide +kernel
theorem dH_writeHalf_35 : decode mH_writeHalf.2.1 35 = .ok (.iload 5, 2) := by decide +kernel
theorem dH_writeHalf_37 : decode mH_writeHalf.2.1 37 = .ok (.lushr, 1) := by decide +kernel
theorem dH_writeHalf_38 : decode mH_writeHalf.2.1 38 = .ok (.l2i, 1) := by decide +kernel
theorem dH_writeHalf_39 : decode mH_writeHalf.2.1 39 = .ok (.iconst 1, 1) := by decide +kernel
theorem dH_writeHalf_40 : decode mH_writeHalf.2.1 40 = .ok (.iand, 1) := by decide +kernel
theorem dH_writeHalf_41 : decode mH_writeHalf.2.1 41 = .ok (.istore 6, 2) := by decide +kernel
theorem dH_writeHalf_43 : decode mH_writeHalf.2.1 43 = .ok (.aload_n 3, 1) := by decide +kernel
theorem dH_writeHalf_44 : decode mH_writeHalf.2.1 44 = .ok (.iload 4, 2) := by decide +kernel
theorem dH_writeHalf_46 : decode mH_writeHalf.2.1 46 = .ok (.iload 5, 2) := by decide +kernel
theorem dH_writeHalf_48 : decode mH_writeHalf.2.1 48 = .ok (.bipush 8, 2) := by decide +kernel
theorem dH_writeHalf_50 : decode mH_writeHalf.2.1 50 = .ok (.idiv, 1) := by decide +kernel
theorem dH_writeHalf_51 : decode mH_writeHalf.2.1 51 = .ok (.iadd, 1) := by decide +kernel
theorem dH_writeHalf_52 : decode mH_writeHalf.2.1 52 = .ok (.dup2, 1) := by decide +kernel
theorem dH_writeHalf_53 : decode mH_writeHalf.2.1 53 = .ok (.iaload, 1) := by decide +kernel
theorem dH_writeHalf_54 : decode mH_writeHalf.2.1 54 = .ok (.iload 6, 2) := by decide +kernel
theorem dH_writeHalf_56 : decode mH_writeHalf.2.1 56 = .ok (.iload 5, 2) := by decide +kernel
theorem dH_writeHalf_58 : decode mH_writeHalf.2.1 58 = .ok (.bipush 8, 2) := by decide +kernel
theorem dH_writeHalf_60 : decode mH_writeHalf.2.1 60 = .ok (.irem, 1) := by decide +kernel
theorem dH_writeHalf_61 : decode mH_writeHalf.2.1 61 = .ok (.aload_n 0, 1) := by decide +kernel
theorem dH_writeHalf_62 : decode mH_writeHalf.2.1 62 = .ok (.getfield 15, 3) := by decide +kernel
theorem dH_writeHalf_65 : decode mH_writeHalf.2.1 65 = .ok (.ixor, 1) := by decide +kernel
theorem dH_writeHalf_66 : decode mH_writeHalf.2.1 66 = .ok (.ishl, 1) := by decide +kernel
theorem dH_writeHalf_67 : decode mH_writeHalf.2.1 67 = .ok (.ior, 1) := by decide +kernel
theorem dH_writeHalf_68 : decode mH_writeHalf.2.1 68 = .ok (.iastore, 1) := by decide +kernel
theorem dH_writeHalf_69 : decode mH_writeHalf.2.1 69 = .ok (.iinc 5 1, 3) := by decide +kernel
theorem dH_writeHalf_72 : decode mH_writeHalf.2.1 72 = .ok (.goto (-45), 3) := by decide +kernel
theorem dH_writeHalf_75 : decode mH_writeHalf.2.1 75 = .ok (.return_, 1) := by decide +kernel
theorem dH_multiplySumByKey_0 : decode mH_multiplySumByKey.2.1 0 = .ok (.aload_n 0, 1) := by decide +kernel
theorem dH_multiplySumByKey_1 : decode mH_multiplySumByKey.2.1 1 = .ok (.getfield 38, 3) := by decide +kernel
theorem dH_multiplySumByKey_4 : decode mH_multiplySumByKey.2.1 4 = .ok (.lstore_n 1, 1) := by decide +kernel
theorem dH_multiplySumByKey_5 : decode mH_multiplySumByKey.2.1 5 = .ok (.aload_n 0, 1) := by decide +kernel
theorem dH_multiplySumByKey_6 : decode mH_multiplySumByKey.2.1 6 = .ok (.getfield 41, 3) := by decide +kernel
theorem dH_multiplySumByKey_9 : decode mH_multiplySumByKey.2.1 9 = .ok (.lstore_n 3, 1) := by decide +kernel
theorem dH_multiplySumByKey_10 : decode mH_multiplySumByKey.2.1 10 = .ok (.lconst 0, 1) := by decide +kernel
theorem dH_multiplySumByKey_11 : decode mH_multiplySumByKey.2.1 11 = .ok (.lstore 5, 2) := by decide +kernel
theorem dH_multiplySumByKey_13 : decode mH_multiplySumByKey.2.1 13 = .ok (.lconst 0, 1) := by decide +kernel
theorem dH_multiplySumByKey_14 : decode mH_multiplySumByKey.2.1 14 = .ok (.lstore 7, 2) := by decide +kernel
theorem dH_multiplySumByKey_16 : decode mH_multiplySumByKey.2.1 16 = .ok (.iconst 0, 1) := by decide +kernel
theorem dH_multiplySumByKey_17 : decode mH_multiplySumByKey.2.1 17 = .ok (.istore 9, 2) := by decide +kernel
theorem dH_multiplySumByKey_19 : decode mH_multiplySumByKey.2.1 19 = .ok (.iload 9, 2) := by decide +kernel
theorem dH_multiplySumByKey_21 : decode mH_multiplySumByKey.2.1 21 = .ok (.sipush 128, 3) := by decide +kernel
theorem dH_multiplySumByKey_24 : decode mH_multiplySumByKey.2.1 24 = .ok (.if_icmp .ge 101, 3) := by decide +kernel
theorem dH_multiplySumByKey_27 : decode mH_multiplySumByKey.2.1 27 = .ok (.iload 9, 2) := by decide +kernel
theorem dH_multiplySumByKey_29 : decode mH_multiplySumByKey.2.1 29 = .ok (.bipush 64, 2) := by decide +kernel
theorem dH_multiplySumByKey_31 : decode mH_multiplySumByKey.2.1 31 = .ok (.if_icmp .ge 10, 3) := by decide +kernel
theorem dH_multiplySumByKey_34 : decode mH_multiplySumByKey.2.1 34 = .ok (.aload_n 0, 1) := by decide +kernel
theorem dH_multiplySumByKey_35 : decode mH_multiplySumByKey.2.1 35 = .ok (.getfield 50, 3) := by decide +kernel
theorem dH_multiplySumByKey_38 : decode mH_multiplySumByKey.2.1 38 = .ok (.goto 7, 3) := by decide +kernel
theorem dH_multiplySumByKey_41 : decode mH_multiplySumByKey.2.1 41 = .ok (.aload_n 0, 1) := by decide +kernel
theorem dH_multiplySumByKey_42 : decode mH_multiplySumByKey.2.1 42 = .ok (.getfield 47, 3) := by decide +kernel
theorem dH_multiplySumByKey_45 : decode mH_multiplySumByKey.2.1 45 = .ok (.lstore 10, 2) := by decide +kernel
theorem dH_multiplySumByKey_47 : decode mH_multiplySumByKey.2.1 47 = .ok (.lload 10, 2) := by decide +kernel
theorem dH_multiplySumByKey_49 : decode mH_multiplySumByKey.2.1 49 = .ok (.iload 9, 2) := by decide +kernel
theorem dH_multiplySumByKey_51 : decode mH_multiplySumByKey.2.1 51 = .ok (.bipush 64, 2) := by decide +kernel
theorem dH_multiplySumByKey_53 : decode mH_multiplySumByKey.2.1 53 = .ok (.irem, 1) := by decide +kernel
theorem dH_multiplySumByKey_54 : decode mH_multiplySumByKey.2.1 54 = .ok (.lushr, 1) := by decide +kernel
theorem dH_multiplySumByKey_55 : decode mH_multiplySumByKey.2.1 55 = .ok (.lconst 1, 1) := by decide +kernel
theorem dH_multiplySumByKey_56 : decode mH_multiplySumByKey.2.1 56 = .ok (.land, 1) := by decide +kernel
theorem dH_multiplySumByKey_57 : decode mH_multiplySumByKey.2.1 57 = .ok (.lconst 0, 1) := by decide +kernel
theorem dH_multiplySumByKey_58 : decode mH_multiplySumByKey.2.1 58 = .ok (.lcmp, 1) := by decide +kernel
theorem dH_multiplySumByKey_59 : decode mH_multiplySumByKey.2.1 59 = .ok (.ifCond .eq 15, 3) := by decide +kernel
theorem dH_multiplySumByKey_62 : decode mH_multiplySumByKey.2.1 62 = .ok (.lload 5, 2) := by decide +kernel
theorem dH_multiplySumByKey_64 : decode mH_multiplySumByKey.2.1 64 = .ok (.lload_n 1, 1) := by decide +kernel
theorem dH_multiplySumByKey_65 : decode mH_multiplySumByKey.2.1 65 = .ok (.lxor, 1) := by decide +kernel
theorem dH_multiplySumByKey_66 : decode mH_multiplySumByKey.2.1 66 = .ok (.lstore 5, 2) := by decide +kernel
theorem dH_multiplySumByKey_68 : decode mH_multiplySumByKey.2.1 68 = .ok (.lload 7, 2) := by decide +kernel
theorem dH_multiplySumByKey_70 : decode mH_multiplySumByKey.2.1 70 = .ok (.lload_n 3, 1) := by decide +kernel
theorem dH_multiplySumByKey_71 : decode mH_multiplySumByKey.2.1 71 = .ok (.lxor, 1) := by decide +kernel
theorem dH_multiplySumByKey_72 : decode mH_multiplySumByKey.2.1 72 = .ok (.lstore 7, 2) := by decide +kernel
theorem dH_multiplySumByKey_74 : decode mH_multiplySumByKey.2.1 74 = .ok (.lload_n 1, 1) := by decide +kernel
theorem dH_multiplySumByKey_75 : decode mH_multiplySumByKey.2.1 75 = .ok (.lconst 0, 1) := by decide +kernel
theorem dH_multiplySumByKey_76 : decode mH_multiplySumByKey.2.1 76 = .ok (.lcmp, 1) := by decide +kernel
theorem dH_multiplySumByKey_77 : decode mH_multiplySumByKey.2.1 77 = .ok (.ifCond .ge 7, 3) := by decide +kernel
theorem dH_multiplySumByKey_80 : decode mH_multiplySumByKey.2.1 80 = .ok (.iconst 1, 1) := by decide +kernel
theorem dH_multiplySumByKey_81 : decode mH_multiplySumByKey.2.1 81 = .ok (.goto 4, 3) := by decide +kernel
theorem dH_multiplySumByKey_84 : decode mH_multiplySumByKey.2.1 84 = .ok (.iconst 0, 1) := by decide +kernel
theorem dH_multiplySumByKey_85 : decode mH_multiplySumByKey.2.1 85 = .ok (.istore 12, 2) := by decide +kernel
theorem dH_multiplySumByKey_87 : decode mH_multiplySumByKey.2.1 87 = .ok (.lload_n 1, 1) := by decide +kernel
theorem dH_multiplySumByKey_88 : decode mH_multiplySumByKey.2.1 88 = .ok (.iconst 1, 1) := by decide +kernel
theorem dH_multiplySumByKey_89 : decode mH_multiplySumByKey.2.1 89 = .ok (.lshl, 1) := by decide +kernel
theorem dH_multiplySumByKey_90 : decode mH_multiplySumByKey.2.1 90 = .ok (.lload_n 3, 1) := by decide +kernel
theorem dH_multiplySumByKey_91 : decode mH_multiplySumByKey.2.1 91 = .ok (.bipush 63, 2) := by decide +kernel
theorem dH_multiplySumByKey_93 : decode mH_multiplySumByKey.2.1 93 = .ok (.lushr, 1) := by decide +kernel
theorem dH_multiplySumByKey_94 : decode mH_multiplySumByKey.2.1 94 = .ok (.lor, 1) := by decide +kernel
theorem dH_multiplySumByKey_95 : decode mH_multiplySumByKey.2.1 95 = .ok (.lstore_n 1, 1) := by decide +kernel
theorem dH_multiplySumByKey_96 : decode mH_multiplySumByKey.2.1 96 = .ok (.lload_n 3, 1) := by decide +kernel
theorem dH_multiplySumByKey_97 : decode mH_multiplySumByKey.2.1 97 = .ok (.iconst 1, 1) := by decide +kernel
theorem dH_multiplySumByKey_98 : decode mH_multiplySumByKey.2.1 98 = .ok (.lshl, 1) := by decide +kernel
theorem dH_multiplySumByKey_99 : decode mH_multiplySumByKey.2.1 99 = .ok (.lstore_n 3, 1) := by decide +kernel
theorem dH_multiplySumByKey_100 : decode mH_multiplySumByKey.2.1 100 = .ok (.iload 12, 2) := by decide +kernel
theorem dH_multiplySumByKey_102 : decode mH_multiplySumByKey.2.1 102 = .ok (.ifCond .eq 17, 3) := by decide +kernel
theorem dH_multiplySumByKey_105 : decode mH_multiplySumByKey.2.1 105 = .ok (.lload_n 1, 1) := by decide +kernel
theorem dH_multiplySumByKey_106 : decode mH_multiplySumByKey.2.1 106 = .ok (.aload_n 0, 1) := by decide +kernel
theorem dH_multiplySumByKey_107 : decode mH_multiplySumByKey.2.1 107 = .ok (.getfield 21, 3) := by decide +kernel
theorem dH_multiplySumByKey_110 : decode mH_multiplySumByKey.2.1 110 = .ok (.lxor, 1) := by decide +kernel
theorem dH_multiplySumByKey_111 : decode mH_multiplySumByKey.2.1 111 = .ok (.lstore_n 1, 1) := by decide +kernel
theorem dH_multiplySumByKey_112 : decode mH_multiplySumByKey.2.1 112 = .ok (.lload_n 3, 1) := by decide +kernel
theorem dH_multiplySumByKey_113 : decode mH_multiplySumByKey.2.1 113 = .ok (.aload_n 0, 1) := by decide +kernel
theorem dH_multiplySumByKey_114 : decode mH_multiplySumByKey.2.1 114 = .ok (.getfield 27, 3) := by decide +kernel
theorem dH_multiplySumByKey_117 : decode mH_multiplySumByKey.2.1 117 = .ok (.lxor, 1) := by decide +kernel
theorem dH_multiplySumByKey_118 : decode mH_multiplySumByKey.2.1 118 = .ok (.lstore_n 3, 1) := by decide +kernel
theorem dH_multiplySumByKey_119 : decode mH_multiplySumByKey.2.1 119 = .ok (.iinc 9 1, 3) := by decide +kernel
theorem dH_multiplySumByKey_122 : decode mH_multiplySumByKey.2.1 122 = .ok (.goto (-103), 3) := by decide +kernel
theorem dH_multiplySumByKey_125 : decode mH_multiplySumByKey.2.1 125 = .ok (.aload_n 0, 1) := by decide +kernel
theorem dH_multiplySumByKey_126 : decode mH_multiplySumByKey.2.1 126 = .ok (.lload 5, 2) := by decide +kernel
theorem dH_multiplySumByKey_128 : decode mH_multiplySumByKey.2.1 128 = .ok (.putfield 47, 3) := by decide +kernel
theorem dH_multiplySumByKey_131 : decode mH_multiplySumByKey.2.1 131 = .ok (.aload_n 0, 1) := by decide +kernel
theorem dH_multiplySumByKey_132 : decode mH_multiplySumByKey.2.1 132 = .ok (.lload 7, 2) := by decide +kernel
theorem dH_multiplySumByKey_134 : decode mH_multiplySumByKey.2.1 134 = .ok (.putfield 50, 3) := by decide +kernel
theorem dH_multiplySumByKey_137 : decode mH_multiplySumByKey.2.1 137 = .ok (.return_, 1) := by decide +kernel
theorem dR_init_0 : decode mR_init.2.1 0 = .ok (.aload_n 0, 1) := by decide +kernel
theorem dR_init_1 : decode mR_init.2.1 1 = .ok (.invokespecial 1, 3) := by decide +kernel
theorem dR_init_4 : decode mR_init.2.1 4 = .ok (.aload_n 0, 1) := by decide +kernel
theorem dR_init_5 : decode mR_init.2.1 5 = .ok (.iload_n 1, 1) := by decide +kernel
theorem dR_init_6 : decode mR_init.2.1 6 = .ok (.newarray .int, 2) := by decide +kernel
theorem dR_init_8 : decode mR_init.2.1 8 = .ok (.putfield 7, 3) := by decide +kernel
theorem dR_init_11 : decode mR_init.2.1 11 = .ok (.aload_n 0, 1) := by decide +kernel
theorem dR_init_12 : decode mR_init.2.1 12 = .ok (.iconst 0, 1) := by decide +kernel
theorem dR_init_13 : decode mR_init.2.1 13 = .ok (.putfield 13, 3) := by decide +kernel
theorem dR_init_16 : decode mR_init.2.1 16 = .ok (.return_, 1) := by decide +kernel
theorem dR_hasRoomFor_0 : decode mR_hasRoomFor.2.1 0 = .ok (.iload_n 1, 1) := by decide +kernel
theorem dR_hasRoomFor_1 : decode mR_hasRoomFor.2.1 1 = .ok (.aload_n 0, 1) := by decide +kernel
theorem dR_hasRoomFor_2 : decode mR_hasRoomFor.2.1 2 = .ok (.getfield 7, 3) := by decide +kernel
theorem dR_hasRoomFor_5 : decode mR_hasRoomFor.2.1 5 = .ok (.arraylength, 1) := by decide +kernel
theorem dR_hasRoomFor_6 : decode mR_hasRoomFor.2.1 6 = .ok (.if_icmp .gt 7, 3) := by decide +kernel
theorem dR_hasRoomFor_9 : decode mR_hasRoomFor.2.1 9 = .ok (.iconst 1, 1) := by decide +kernel
theorem dR_hasRoomFor_10 : decode mR_hasRoomFor.2.1 10 = .ok (.goto 4, 3) := by decide +kernel
theorem dR_hasRoomFor_13 : decode mR_hasRoomFor.2.1 13 = .ok (.iconst 0, 1) := by decide +kernel
theorem dR_hasRoomFor_14 : decode mR_hasRoomFor.2.1 14 = .ok (.ireturn, 1) := by decide +kernel
theorem dR_has_0 : decode mR_has.2.1 0 = .ok (.iload_n 1, 1) := by decide +kernel
theorem dR_has_1 : decode mR_has.2.1 1 = .ok (.ifCond .lt 15, 3) := by decide +kernel
theorem dR_has_4 : decode mR_has.2.1 4 = .ok (.iload_n 1, 1) := by decide +kernel
theorem dR_has_5 : decode mR_has.2.1 5 = .ok (.aload_n 0, 1) := by decide +kernel
theorem dR_has_6 : decode mR_has.2.1 6 = .ok (.getfield 13, 3) := by decide +kernel
theorem dR_has_9 : decode mR_has.2.1 9 = .ok (.if_icmp .ge 7, 3) := by decide +kernel
theorem dR_has_12 : decode mR_has.2.1 12 = .ok (.iconst 1, 1) := by decide +kernel
theorem dR_has_13 : decode mR_has.2.1 13 = .ok (.goto 4, 3) := by decide +kernel
theorem dR_has_16 : decode mR_has.2.1 16 = .ok (.iconst 0, 1) := by decide +kernel
theorem dR_has_17 : decode mR_has.2.1 17 = .ok (.ireturn, 1) := by decide +kernel
theorem dR_append_0 : decode mR_append.2.1 0 = .ok (.aload_n 0, 1) := by decide +kernel
theorem dR_append_1 : decode mR_append.2.1 1 = .ok (.getfield 7, 3) := by decide +kernel
theorem dR_append_4 : decode mR_append.2.1 4 = .ok (.aload_n 0, 1) := by decide +kernel
theorem dR_append_5 : decode mR_append.2.1 5 = .ok (.getfield 13, 3) := by decide +kernel
theorem dR_append_8 : decode mR_append.2.1 8 = .ok (.iload_n 1, 1) := by decide +kernel
theorem dR_append_9 : decode mR_append.2.1 9 = .ok (.iastore, 1) := by decide +kernel
theorem dR_append_10 : decode mR_append.2.1 10 = .ok (.aload_n 0, 1) := by decide +kernel
theorem dR_append_11 : decode mR_append.2.1 11 = .ok (.dup, 1) := by decide +kernel
theorem dR_append_12 : decode mR_append.2.1 12 = .ok (.getfield 13, 3) := by decide +kernel
theorem dR_append_15 : decode mR_append.2.1 15 = .ok (.iconst 1, 1) := by decide +kernel
theorem dR_append_16 : decode mR_append.2.1 16 = .ok (.iadd, 1) := by decide +kernel
theorem dR_append_17 : decode mR_append.2.1 17 = .ok (.putfield 13, 3) := by decide +kernel
theorem dR_append_20 : decode mR_append.2.1 20 = .ok (.return_, 1) := by decide +kernel
theorem dR_become_0 : decode mR_become.2.1 0 = .ok (.aload_n 1, 1) := by decide +kernel
theorem dR_become_1 : decode mR_become.2.1 1 = .ok (.getfield 7, 3) := by decide +kernel
theorem dR_become_4 : decode mR_become.2.1 4 = .ok (.iconst 0, 1) := by decide +kernel
theorem dR_become_5 : decode mR_become.2.1 5 = .ok (.aload_n 0, 1) := by decide +kernel
theorem dR_become_6 : decode mR_become.2.1 6 = .ok (.getfield 7, 3) := by decide +kernel
theorem dR_become_9 : decode mR_become.2.1 9 = .ok (.iconst 0, 1) := by decide +kernel
theorem dR_become_10 : decode mR_become.2.1 10 = .ok (.aload_n 1, 1) := by decide +kernel
theorem dR_become_11 : decode mR_become.2.1 11 = .ok (.getfield 13, 3) := by decide +kernel
theorem dR_become_14 : decode mR_become.2.1 14 = .ok (.invokestatic 17, 3) := by decide +kernel
theorem dR_become_17 : decode mR_become.2.1 17 = .ok (.aload_n 0, 1) := by decide +kernel
theorem dR_become_18 : decode mR_become.2.1 18 = .ok (.aload_n 1, 1) := by decide +kernel
theorem dR_become_19 : decode mR_become.2.1 19 = .ok (.getfield 13, 3) := by decide +kernel
theorem dR_become_22 : decode mR_become.2.1 22 = .ok (.putfield 13, 3) := by decide +kernel
theorem dR_become_25 : decode mR_become.2.1 25 = .ok (.return_, 1) := by decide +kernel
theorem dW_init_0 : decode mW_init.2.1 0 = .ok (.aload_n 0, 1) := by decide +kernel
theorem dW_init_1 : decode mW_init.2.1 1 = .ok (.invokespecial 3, 3) := by decide +kernel
theorem dW_init_4 : decode mW_init.2.1 4 = .ok (.aload_n 0, 1) := by decide +kernel
theorem dW_init_5 : decode mW_init.2.1 5 = .ok (.aload_n 1, 1) := by decide +kernel
theorem dW_init_6 : decode mW_init.2.1 6 = .ok (.putfield 9, 3) := by decide +kernel
theorem dW_init_9 : decode mW_init.2.1 9 = .ok (.aload_n 0, 1) := by decide +kernel
theorem dW_init_10 : decode mW_init.2.1 10 = .ok (.aload_n 2, 1) := by decide +kernel
theorem dW_init_11 : decode mW_init.2.1 11 = .ok (.putfield 15, 3) := by decide +kernel
theorem dW_init_14 : decode mW_init.2.1 14 = .ok (.aload_n 0, 1) := by decide +kernel
theorem dW_init_15 : decode mW_init.2.1 15 = .ok (.bipush 16, 2) := by decide +kernel
theorem dW_init_17 : decode mW_init.2.1 17 = .ok (.newarray .int, 2) := by decide +kernel
theorem dW_init_19 : decode mW_init.2.1 19 = .ok (.putfield 19, 3) := by decide +kernel
theorem dW_init_22 : decode mW_init.2.1 22 = .ok (.aload_n 0, 1) := by decide +kernel
theorem dW_init_23 : decode mW_init.2.1 23 = .ok (.bipush 16, 2) := by decide +kernel
theorem dW_init_25 : decode mW_init.2.1 25 = .ok (.newarray .int, 2) := by decide +kernel
theorem dW_init_27 : decode mW_init.2.1 27 = .ok (.putfield 23, 3) := by decide +kernel
theorem dW_init_30 : decode mW_init.2.1 30 = .ok (.aload_n 0, 1) := by decide +kernel
theorem dW_init_31 : decode mW_init.2.1 31 = .ok (.bipush 16, 2) := by decide +kernel
theorem dW_init_33 : decode mW_init.2.1 33 = .ok (.newarray .int, 2) := by decide +kernel
theorem dW_init_35 : decode mW_init.2.1 35 = .ok (.putfield 26, 3) := by decide +kernel
theorem dW_init_38 : decode mW_init.2.1 38 = .ok (.aload_n 0, 1) := by decide +kernel
theorem dW_init_39 : decode mW_init.2.1 39 = .ok (.bipush 16, 2) := by decide +kernel
theorem dW_init_41 : decode mW_init.2.1 41 = .ok (.newarray .int, 2) := by decide +kernel
theorem dW_init_43 : decode mW_init.2.1 43 = .ok (.putfield 29, 3) := by decide +kernel
theorem dW_init_46 : decode mW_init.2.1 46 = .ok (.aload_n 0, 1) := by decide +kernel
theorem dW_init_47 : decode mW_init.2.1 47 = .ok (.bipush 16, 2) := by decide +kernel
theorem dW_init_49 : decode mW_init.2.1 49 = .ok (.newarray .int, 2) := by decide +kernel
theorem dW_init_51 : decode mW_init.2.1 51 = .ok (.putfield 32, 3) := by decide +kernel
theorem dW_init_54 : decode mW_init.2.1 54 = .ok (.return_, 1) := by decide +kernel
theorem dW_cipherText_0 : decode mW_cipherText.2.1 0 = .ok (.iconst 0, 1) := by decide +kernel
theorem dW_cipherText_1 : decode mW_cipherText.2.1 1 = .ok (.istore 4, 2) := by decide +kernel
theorem dW_cipherText_3 : decode mW_cipherText.2.1 3 = .ok (.iload 4, 2) := by decide +kernel
theorem dW_cipherText_5 : decode mW_cipherText.2.1 5 = .ok (.iload_n 2, 1) := by decide +kernel
theorem dW_cipherText_6 : decode mW_cipherText.2.1 6 = .ok (.if_icmp .ge 80, 3) := by decide +kernel
theorem dW_cipherText_9 : decode mW_cipherText.2.1 9 = .ok (.aload_n 0, 1) := by decide +kernel
theorem dW_cipherText_10 : decode mW_cipherText.2.1 10 = .ok (.iload 4, 2) := by decide +kernel
theorem dW_cipherText_12 : decode mW_cipherText.2.1 12 = .ok (.bipush 16, 2) := by decide +kernel
theorem dW_cipherText_14 : decode mW_cipherText.2.1 14 = .ok (.idiv, 1) := by decide +kernel
theorem dW_cipherText_15 : decode mW_cipherText.2.1 15 = .ok (.invokevirtual 35, 3) := by decide +kernel
theorem dW_cipherText_18 : decode mW_cipherText.2.1 18 = .ok (.aload_n 0, 1) := by decide +kernel
theorem dW_cipherText_19 : decode mW_cipherText.2.1 19 = .ok (.getfield 9, 3) := by decide +kernel
theorem dW_cipherText_22 : decode mW_cipherText.2.1 22 = .ok (.aload_n 0, 1) := by decide +kernel
theorem dW_cipherText_23 : decode mW_cipherText.2.1 23 = .ok (.getfield 26, 3) := by decide +kernel
theorem dW_cipherText_26 : decode mW_cipherText.2.1 26 = .ok (.aload_n 0, 1) := by decide +kernel
theorem dW_cipherText_27 : decode mW_cipherText.2.1 27 = .ok (.getfield 29, 3) := by decide +kernel
theorem dW_cipherText_30 : decode mW_cipherText.2.1 30 = .ok (.invokevirtual 39, 3) := by decide +kernel
theorem dW_cipherText_33 : decode mW_cipherText.2.1 33 = .ok (.iconst 0, 1) := by decide +kernel
theorem dW_cipherText_34 : decode mW_cipherText.2.1 34 = .ok (.istore 5, 2) := by decide +kernel
theorem dW_cipherText_36 : decode mW_cipherText.2.1 36 = .ok (.iload 5, 2) := by decide +kernel
theorem dW_cipherText_38 : decode mW_cipherText.2.1 38 = .ok (.bipush 16, 2) := by decide +kernel
theorem dW_cipherText_40 : decode mW_cipherText.2.1 40 = .ok (.if_icmp .ge 40, 3) := by decide +kernel
theorem dW_cipherText_43 : decode mW_cipherText.2.1 43 = .ok (.iload 4, 2) := by decide +kernel
theorem dW_cipherText_45 : decode mW_cipherText.2.1 45 = .ok (.iload 5, 2) := by decide +kernel
theorem dW_cipherText_47 : decode mW_cipherText.2.1 47 = .ok (.iadd, 1) := by decide +kernel
theorem dW_cipherText_48 : decode mW_cipherText.2.1 48 = .ok (.iload_n 2, 1) := by decide +kernel
theorem dW_cipherText_49 : decode mW_cipherText.2.1 49 = .ok (.if_icmp .ge 31, 3) := by decide +kernel
theorem dW_cipherText_52 : decode mW_cipherText.2.1 52 = .ok (.aload_n 3, 1) := by decide +kernel
theorem dW_cipherText_53 : decode mW_cipherText.2.1 53 = .ok (.iload 4, 2) := by decide +kernel
theorem dW_cipherText_55 : decode mW_cipherText.2.1 55 = .ok (.iload 5, 2) := by decide +kernel
theorem dW_cipherText_57 : decode mW_cipherText.2.1 57 = .ok (.iadd, 1) := by decide +kernel
theorem dW_cipherText_58 : decode mW_cipherText.2.1 58 = .ok (.aload_n 1, 1) := by decide +kernel
theorem dW_cipherText_59 : decode mW_cipherText.2.1 59 = .ok (.iload 4, 2) := by decide +kernel
theorem dW_cipherText_61 : decode mW_cipherText.2.1 61 = .ok (.iload 5, 2) := by decide +kernel
theorem dW_cipherText_63 : decode mW_cipherText.2.1 63 = .ok (.iadd, 1) := by decide +kernel
theorem dW_cipherText_64 : decode mW_cipherText.2.1 64 = .ok (.iaload, 1) := by decide +kernel
theorem dW_cipherText_65 : decode mW_cipherText.2.1 65 = .ok (.aload_n 0, 1) := by decide +kernel
theorem dW_cipherText_66 : decode mW_cipherText.2.1 66 = .ok (.getfield 29, 3) := by decide +kernel
theorem dW_cipherText_69 : decode mW_cipherText.2.1 69 = .ok (.iload 5, 2) := by decide +kernel
theorem dW_cipherText_71 : decode mW_cipherText.2.1 71 = .ok (.iaload, 1) := by decide +kernel
theorem dW_cipherText_72 : decode mW_cipherText.2.1 72 = .ok (.ixor, 1) := by decide +kernel
theorem dW_cipherText_73 : decode mW_cipherText.2.1 73 = .ok (.iastore, 1) := by decide +kernel
theorem dW_cipherText_74 : decode mW_cipherText.2.1 74 = .ok (.iinc 5 1, 3) := by decide +kernel
theorem dW_cipherText_77 : decode mW_cipherText.2.1 77 = .ok (.goto (-41), 3) := by decide +kernel
theorem dW_cipherText_80 : decode mW_cipherText.2.1 80 = .ok (.iinc 4 16, 3) := by decide +kernel
theorem dW_cipherText_83 : decode mW_cipherText.2.1 83 = .ok (.goto (-80), 3) := by decide +kernel
theorem dW_cipherText_86 : decode mW_cipherText.2.1 86 = .ok (.return_, 1) := by decide +kernel
theorem dW_hashWithAside_0 : decode mW_hashWithAside.2.1 0 = .ok (.aload_n 0, 1) := by decide +kernel
theorem dW_hashWithAside_1 : decode mW_hashWithAside.2.1 1 = .ok (.getfield 15, 3) := by decide +kernel
theorem dW_hashWithAside_4 : decode mW_hashWithAside.2.1 4 = .ok (.aload_n 0, 1) := by decide +kernel
theorem dW_hashWithAside_5 : decode mW_hashWithAside.2.1 5 = .ok (.getfield 19, 3) := by decide +kernel
theorem dW_hashWithAside_8 : decode mW_hashWithAside.2.1 8 = .ok (.invokevirtual 45, 3) := by decide +kernel
theorem dW_hashWithAside_11 : decode mW_hashWithAside.2.1 11 = .ok (.aload_n 0, 1) := by decide +kernel
theorem dW_hashWithAside_12 : decode mW_hashWithAside.2.1 12 = .ok (.getfield 15, 3) := by decide +kernel
theorem dW_hashWithAside_15 : decode mW_hashWithAside.2.1 15 = .ok (.aload_n 1, 1) := by decide +kernel
theorem dW_hashWithAside_16 : decode mW_hashWithAside.2.1 16 = .ok (.getfield 51, 3) := by decide +kernel
theorem dW_hashWithAside_19 : decode mW_hashWithAside.2.1 19 = .ok (.aload_n 1, 1) := by decide +kernel
theorem dW_hashWithAside_20 : decode mW_hashWithAside.2.1 20 = .ok (.getfield 56, 3) := by decide +kernel
theorem dW_hashWithAside_23 : decode mW_hashWithAside.2.1 23 = .ok (.invokevirtual 60, 3) := by decide +kernel
theorem dW_hashWithAside_26 : decode mW_hashWithAside.2.1 26 = .ok (.aload_n 0, 1) := by decide +kernel
theorem dW_hashWithAside_27 : decode mW_hashWithAside.2.1 27 = .ok (.getfield 15, 3) := by decide +kernel
theorem dW_hashWithAside_30 : decode mW_hashWithAside.2.1 30 = .ok (.aload_n 2, 1) := by decide +kernel
theorem dW_hashWithAside_31 : decode mW_hashWithAside.2.1 31 = .ok (.iload_n 3, 1) := by decide +kernel
theorem dW_hashWithAside_32 : decode mW_hashWithAside.2.1 32 = .ok (.invokevirtual 60, 3) := by decide +kernel
theorem dW_hashWithAside_35 : decode mW_hashWithAside.2.1 35 = .ok (.aload_n 0, 1) := by decide +kernel
theorem dW_hashWithAside_36 : decode mW_hashWithAside.2.1 36 = .ok (.getfield 15, 3) := by decide +kernel
theorem dW_hashWithAside_39 : decode mW_hashWithAside.2.1 39 = .ok (.aload_n 1, 1) := by decide +kernel
theorem dW_hashWithAside_40 : decode mW_hashWithAside.2.1 40 = .ok (.getfield 56, 3) := by decide +kernel
theorem dW_hashWithAside_43 : decode mW_hashWithAside.2.1 43 = .ok (.iload_n 3, 1) := by decide +kernel
theorem dW_hashWithAside_44 : decode mW_hashWithAside.2.1 44 = .ok (.invokevirtual 64, 3) := by decide +kernel
theorem dW_hashWithAside_47 : decode mW_hashWithAside.2.1 47 = .ok (.aload_n 0, 1) := by decide +kernel
theorem dW_hashWithAside_48 : decode mW_hashWithAside.2.1 48 = .ok (.getfield 15, 3) := by decide +kernel
theorem dW_hashWithAside_51 : decode mW_hashWithAside.2.1 51 = .ok (.aload_n 0, 1) := by decide +kernel
theorem dW_hashWithAside_52 : decode mW_hashWithAside.2.1 52 = .ok (.getfield 32, 3) := by decide +kernel
theorem dW_hashWithAside_55 : decode mW_hashWithAside.2.1 55 = .ok (.invokevirtual 68, 3) := by decide +kernel
theorem dW_hashWithAside_58 : decode mW_hashWithAside.2.1 58 = .ok (.return_, 1) := by decide +kernel
theorem dW_appendDue_0 : decode mW_appendDue.2.1 0 = .ok (.aload_n 0, 1) := by decide +kernel
theorem dW_appendDue_1 : decode mW_appendDue.2.1 1 = .ok (.getfield 32, 3) := by decide +kernel
theorem dW_appendDue_4 : decode mW_appendDue.2.1 4 = .ok (.iconst 0, 1) := by decide +kernel
theorem dW_appendDue_5 : decode mW_appendDue.2.1 5 = .ok (.aload_n 1, 1) := by decide +kernel
theorem dW_appendDue_6 : decode mW_appendDue.2.1 6 = .ok (.getfield 51, 3) := by decide +kernel
theorem dW_appendDue_9 : decode mW_appendDue.2.1 9 = .ok (.iload_n 2, 1) := by decide +kernel
theorem dW_appendDue_10 : decode mW_appendDue.2.1 10 = .ok (.bipush 16, 2) := by decide +kernel
theorem dW_appendDue_12 : decode mW_appendDue.2.1 12 = .ok (.invokestatic 71, 3) := by decide +kernel
theorem dW_appendDue_15 : decode mW_appendDue.2.1 15 = .ok (.aload_n 1, 1) := by decide +kernel
theorem dW_appendDue_16 : decode mW_appendDue.2.1 16 = .ok (.iload_n 2, 1) := by decide +kernel
theorem dW_appendDue_17 : decode mW_appendDue.2.1 17 = .ok (.bipush 16, 2) := by decide +kernel
theorem dW_appendDue_19 : decode mW_appendDue.2.1 19 = .ok (.iadd, 1) := by decide +kernel
theorem dW_appendDue_20 : decode mW_appendDue.2.1 20 = .ok (.putfield 56, 3) := by decide +kernel
theorem dW_appendDue_23 : decode mW_appendDue.2.1 23 = .ok (.return_, 1) := by decide +kernel
theorem dW_endsInDue_0 : decode mW_endsInDue.2.1 0 = .ok (.iconst 0, 1) := by decide +kernel
theorem dW_endsInDue_1 : decode mW_endsInDue.2.1 1 = .ok (.istore_n 2, 1) := by decide +kernel
theorem dW_endsInDue_2 : decode mW_endsInDue.2.1 2 = .ok (.iconst 0, 1) := by decide +kernel
theorem dW_endsInDue_3 : decode mW_endsInDue.2.1 3 = .ok (.istore_n 3, 1) := by decide +kernel
theorem dW_endsInDue_4 : decode mW_endsInDue.2.1 4 = .ok (.iload_n 3, 1) := by decide +kernel
theorem dW_endsInDue_5 : decode mW_endsInDue.2.1 5 = .ok (.bipush 16, 2) := by decide +kernel
theorem dW_endsInDue_7 : decode mW_endsInDue.2.1 7 = .ok (.if_icmp .ge 33, 3) := by decide +kernel
theorem dW_endsInDue_10 : decode mW_endsInDue.2.1 10 = .ok (.iload_n 2, 1) := by decide +kernel
theorem dW_endsInDue_11 : decode mW_endsInDue.2.1 11 = .ok (.aload_n 1, 1) := by decide +kernel
theorem dW_endsInDue_12 : decode mW_endsInDue.2.1 12 = .ok (.getfield 51, 3) := by decide +kernel
theorem dW_endsInDue_15 : decode mW_endsInDue.2.1 15 = .ok (.aload_n 1, 1) := by decide +kernel
theorem dW_endsInDue_16 : decode mW_endsInDue.2.1 16 = .ok (.getfield 56, 3) := by decide +kernel
theorem dW_endsInDue_19 : decode mW_endsInDue.2.1 19 = .ok (.bipush 16, 2) := by decide +kernel
theorem dW_endsInDue_21 : decode mW_endsInDue.2.1 21 = .ok (.isub, 1) := by decide +kernel
theorem dW_endsInDue_22 : decode mW_endsInDue.2.1 22 = .ok (.iload_n 3, 1) := by decide +kernel
theorem dW_endsInDue_23 : decode mW_endsInDue.2.1 23 = .ok (.iadd, 1) := by decide +kernel
theorem dW_endsInDue_24 : decode mW_endsInDue.2.1 24 = .ok (.iaload, 1) := by decide +kernel
theorem dW_endsInDue_25 : decode mW_endsInDue.2.1 25 = .ok (.aload_n 0, 1) := by decide +kernel
theorem dW_endsInDue_26 : decode mW_endsInDue.2.1 26 = .ok (.getfield 32, 3) := by decide +kernel
theorem dW_endsInDue_29 : decode mW_endsInDue.2.1 29 = .ok (.iload_n 3, 1) := by decide +kernel
theorem dW_endsInDue_30 : decode mW_endsInDue.2.1 30 = .ok (.iaload, 1) := by decide +kernel
theorem dW_endsInDue_31 : decode mW_endsInDue.2.1 31 = .ok (.ixor, 1) := by decide +kernel
theorem dW_endsInDue_32 : decode mW_endsInDue.2.1 32 = .ok (.ior, 1) := by decide +kernel
theorem dW_endsInDue_33 : decode mW_endsInDue.2.1 33 = .ok (.istore_n 2, 1) := by decide +kernel
theorem dW_endsInDue_34 : decode mW_endsInDue.2.1 34 = .ok (.iinc 3 1, 3) := by decide +kernel
theorem dW_endsInDue_37 : decode mW_endsInDue.2.1 37 = .ok (.goto (-33), 3) := by decide +kernel
theorem dW_endsInDue_40 : decode mW_endsInDue.2.1 40 = .ok (.iload_n 2, 1) := by decide +kernel
theorem dW_endsInDue_41 : decode mW_endsInDue.2.1 41 = .ok (.ifCond .ne 7, 3) := by decide +kernel
theorem dW_endsInDue_44 : decode mW_endsInDue.2.1 44 = .ok (.iconst 1, 1) := by decide +kernel
theorem dW_endsInDue_45 : decode mW_endsInDue.2.1 45 = .ok (.goto 4, 3) := by decide +kernel
theorem dW_endsInDue_48 : decode mW_endsInDue.2.1 48 = .ok (.iconst 0, 1) := by decide +kernel
theorem dW_endsInDue_49 : decode mW_endsInDue.2.1 49 = .ok (.ireturn, 1) := by decide +kernel
theorem dO_init_0 : decode mO_init.2.1 0 = .ok (.aload_n 0, 1) := by decide +kernel
theorem dO_init_1 : decode mO_init.2.1 1 = .ok (.aload_n 1, 1) := by decide +kernel
theorem dO_init_2 : decode mO_init.2.1 2 = .ok (.aload_n 2, 1) := by decide +kernel
theorem dO_init_3 : decode mO_init.2.1 3 = .ok (.invokespecial 3, 3) := by decide +kernel
theorem dO_init_6 : decode mO_init.2.1 6 = .ok (.aload_n 0, 1) := by decide +kernel
theorem dO_init_7 : decode mO_init.2.1 7 = .ok (.bipush 16, 2) := by decide +kernel
theorem dO_init_9 : decode mO_init.2.1 9 = .ok (.newarray .int, 2) := by decide +kernel
theorem dO_init_11 : decode mO_init.2.1 11 = .ok (.putfield 9, 3) := by decide +kernel
theorem dO_init_14 : decode mO_init.2.1 14 = .ok (.return_, 1) := by decide +kernel
theorem dO_takesNonceOf_0 : decode mO_takesNonceOf.2.1 0 = .ok (.iload_n 1, 1) := by decide +kernel
theorem dO_takesNonceOf_1 : decode mO_takesNonceOf.2.1 1 = .ok (.bipush 12, 2) := by decide +kernel
theorem dO_takesNonceOf_3 : decode mO_takesNonceOf.2.1 3 = .ok (.if_icmp .ne 7, 3) := by decide +kernel
theorem dO_takesNonceOf_6 : decode mO_takesNonceOf.2.1 6 = .ok (.iconst 1, 1) := by decide +kernel
theorem dO_takesNonceOf_7 : decode mO_takesNonceOf.2.1 7 = .ok (.goto 4, 3) := by decide +kernel
theorem dO_takesNonceOf_10 : decode mO_takesNonceOf.2.1 10 = .ok (.iconst 0, 1) := by decide +kernel
theorem dO_takesNonceOf_11 : decode mO_takesNonceOf.2.1 11 = .ok (.ireturn, 1) := by decide +kernel
theorem dO_useKey_0 : decode mO_useKey.2.1 0 = .ok (.aload_n 0, 1) := by decide +kernel
theorem dO_useKey_1 : decode mO_useKey.2.1 1 = .ok (.getfield 15, 3) := by decide +kernel
theorem dO_useKey_4 : decode mO_useKey.2.1 4 = .ok (.aload_n 1, 1) := by decide +kernel
theorem dO_useKey_5 : decode mO_useKey.2.1 5 = .ok (.getfield 19, 3) := by decide +kernel
theorem dO_useKey_8 : decode mO_useKey.2.1 8 = .ok (.invokevirtual 24, 3) := by decide +kernel
theorem dO_useKey_11 : decode mO_useKey.2.1 11 = .ok (.aload_n 0, 1) := by decide +kernel
theorem dO_useKey_12 : decode mO_useKey.2.1 12 = .ok (.iconst 0, 1) := by decide +kernel
theorem dO_useKey_13 : decode mO_useKey.2.1 13 = .ok (.aload_n 2, 1) := by decide +kernel
theorem dO_useKey_14 : decode mO_useKey.2.1 14 = .ok (.aload_n 0, 1) := by decide +kernel
theorem dO_useKey_15 : decode mO_useKey.2.1 15 = .ok (.getfield 30, 3) := by decide +kernel
theorem dO_useKey_18 : decode mO_useKey.2.1 18 = .ok (.iconst 0, 1) := by decide +kernel
theorem dO_useKey_19 : decode mO_useKey.2.1 19 = .ok (.invokevirtual 33, 3) := by decide +kernel
theorem dO_useKey_22 : decode mO_useKey.2.1 22 = .ok (.aload_n 0, 1) := by decide +kernel
theorem dO_useKey_23 : decode mO_useKey.2.1 23 = .ok (.iconst 1, 1) := by decide +kernel
theorem dO_useKey_24 : decode mO_useKey.2.1 24 = .ok (.aload_n 2, 1) := by decide +kernel
theorem dO_useKey_25 : decode mO_useKey.2.1 25 = .ok (.aload_n 0, 1) := by decide +kernel
theorem dO_useKey_26 : decode mO_useKey.2.1 26 = .ok (.getfield 30, 3) := by decide +kernel
theorem dO_useKey_29 : decode mO_useKey.2.1 29 = .ok (.bipush 8, 2) := by decide +kernel
theorem dO_useKey_31 : decode mO_useKey.2.1 31 = .ok (.invokevirtual 33, 3) := by decide +kernel
theorem dO_useKey_34 : decode mO_useKey.2.1 34 = .ok (.aload_n 0, 1) := by decide +kernel
theorem dO_useKey_35 : decode mO_useKey.2.1 35 = .ok (.iconst 2, 1) := by decide +kernel
theorem dO_useKey_36 : decode mO_useKey.2.1 36 = .ok (.aload_n 2, 1) := by decide +kernel
theorem dO_useKey_37 : decode mO_useKey.2.1 37 = .ok (.aload_n 0, 1) := by decide +kernel
theorem dO_useKey_38 : decode mO_useKey.2.1 38 = .ok (.getfield 9, 3) := by decide +kernel
theorem dO_useKey_41 : decode mO_useKey.2.1 41 = .ok (.iconst 0, 1) := by decide +kernel
theorem dO_useKey_42 : decode mO_useKey.2.1 42 = .ok (.invokevirtual 33, 3) := by decide +kernel
theorem dO_useKey_45 : decode mO_useKey.2.1 45 = .ok (.aload_n 0, 1) := by decide +kernel
theorem dO_useKey_46 : decode mO_useKey.2.1 46 = .ok (.iconst 3, 1) := by decide +kernel
theorem dO_useKey_47 : decode mO_useKey.2.1 47 = .ok (.aload_n 2, 1) := by decide +kernel
theorem dO_useKey_48 : decode mO_useKey.2.1 48 = .ok (.aload_n 0, 1) := by decide +kernel
theorem dO_useKey_49 : decode mO_useKey.2.1 49 = .ok (.getfield 9, 3) := by decide +kernel
theorem dO_useKey_52 : decode mO_useKey.2.1 52 = .ok (.bipush 8, 2) := by decide +kernel
theorem dO_useKey_54 : decode mO_useKey.2.1 54 = .ok (.invokevirtual 33, 3) := by decide +kernel
theorem dO_useKey_57 : decode mO_useKey.2.1 57 = .ok (.aload_n 0, 1) := by decide +kernel
theorem dO_useKey_58 : decode mO_useKey.2.1 58 = .ok (.getfield 15, 3) := by decide +kernel
theorem dO_useKey_61 : decode mO_useKey.2.1 61 = .ok (.aload_n 0, 1) := by decide +kernel
theorem dO_useKey_62 : decode mO_useKey.2.1 62 = .ok (.getfield 9, 3) := by decide +kernel
theorem dO_useKey_65 : decode mO_useKey.2.1 65 = .ok (.invokevirtual 24, 3) := by decide +kernel
theorem dO_useKey_68 : decode mO_useKey.2.1 68 = .ok (.return_, 1) := by decide +kernel
theorem dO_derive_0 : decode mO_derive.2.1 0 = .ok (.iconst 4, 1) := by decide +kernel
theorem dO_derive_1 : decode mO_derive.2.1 1 = .ok (.istore 5, 2) := by decide +kernel
theorem dO_derive_3 : decode mO_derive.2.1 3 = .ok (.iconst 0, 1) := by decide +kernel
theorem dO_derive_4 : decode mO_derive.2.1 4 = .ok (.istore 6, 2) := by decide +kernel
theorem dO_derive_6 : decode mO_derive.2.1 6 = .ok (.iload 6, 2) := by decide +kernel
theorem dO_derive_8 : decode mO_derive.2.1 8 = .ok (.iload 5, 2) := by decide +kernel
theorem dO_derive_10 : decode mO_derive.2.1 10 = .ok (.if_icmp .ge 17, 3) := by decide +kernel
theorem dO_derive_13 : decode mO_derive.2.1 13 = .ok (.aload_n 0, 1) := by decide +kernel
theorem dO_derive_14 : decode mO_derive.2.1 14 = .ok (.getfield 37, 3) := by decide +kernel
theorem dO_derive_17 : decode mO_derive.2.1 17 = .ok (.iload 6, 2) := by decide +kernel
theorem dO_derive_19 : decode mO_derive.2.1 19 = .ok (.iconst 0, 1) := by decide +kernel
theorem dO_derive_20 : decode mO_derive.2.1 20 = .ok (.iastore, 1) := by decide +kernel
theorem dO_derive_21 : decode mO_derive.2.1 21 = .ok (.iinc 6 1, 3) := by decide +kernel
theorem dO_derive_24 : decode mO_derive.2.1 24 = .ok (.goto (-18), 3) := by decide +kernel
theorem dO_derive_27 : decode mO_derive.2.1 27 = .ok (.aload_n 0, 1) := by decide +kernel
theorem dO_derive_28 : decode mO_derive.2.1 28 = .ok (.getfield 37, 3) := by decide +kernel
theorem dO_derive_31 : decode mO_derive.2.1 31 = .ok (.iconst 0, 1) := by decide +kernel
theorem dO_derive_32 : decode mO_derive.2.1 32 = .ok (.iload_n 1, 1) := by decide +kernel
theorem dO_derive_33 : decode mO_derive.2.1 33 = .ok (.iastore, 1) := by decide +kernel
theorem dO_derive_34 : decode mO_derive.2.1 34 = .ok (.aload_n 2, 1) := by decide +kernel
theorem dO_derive_35 : decode mO_derive.2.1 35 = .ok (.getfield 19, 3) := by decide +kernel
theorem dO_derive_38 : decode mO_derive.2.1 38 = .ok (.iconst 0, 1) := by decide +kernel
theorem dO_derive_39 : decode mO_derive.2.1 39 = .ok (.aload_n 0, 1) := by decide +kernel
theorem dO_derive_40 : decode mO_derive.2.1 40 = .ok (.getfield 37, 3) := by decide +kernel
theorem dO_derive_43 : decode mO_derive.2.1 43 = .ok (.iload 5, 2) := by decide +kernel
theorem dO_derive_45 : decode mO_derive.2.1 45 = .ok (.bipush 12, 2) := by decide +kernel
theorem dO_derive_47 : decode mO_derive.2.1 47 = .ok (.invokestatic 40, 3) := by decide +kernel
theorem dO_derive_50 : decode mO_derive.2.1 50 = .ok (.aload_n 0, 1) := by decide +kernel
theorem dO_derive_51 : decode mO_derive.2.1 51 = .ok (.getfield 15, 3) := by decide +kernel
theorem dO_derive_54 : decode mO_derive.2.1 54 = .ok (.aload_n 0, 1) := by decide +kernel
theorem dO_derive_55 : decode mO_derive.2.1 55 = .ok (.getfield 37, 3) := by decide +kernel
theorem dO_derive_58 : decode mO_derive.2.1 58 = .ok (.aload_n 0, 1) := by decide +kernel
theorem dO_derive_59 : decode mO_derive.2.1 59 = .ok (.getfield 46, 3) := by decide +kernel
theorem dO_derive_62 : decode mO_derive.2.1 62 = .ok (.invokevirtual 49, 3) := by decide +kernel
theorem dO_derive_65 : decode mO_derive.2.1 65 = .ok (.aload_n 0, 1) := by decide +kernel
theorem dO_derive_66 : decode mO_derive.2.1 66 = .ok (.getfield 46, 3) := by decide +kernel
theorem dO_derive_69 : decode mO_derive.2.1 69 = .ok (.iconst 0, 1) := by decide +kernel
theorem dO_derive_70 : decode mO_derive.2.1 70 = .ok (.aload_n 3, 1) := by decide +kernel
theorem dO_derive_71 : decode mO_derive.2.1 71 = .ok (.iload 4, 2) := by decide +kernel
theorem dO_derive_73 : decode mO_derive.2.1 73 = .ok (.bipush 8, 2) := by decide +kernel
theorem dO_derive_75 : decode mO_derive.2.1 75 = .ok (.invokestatic 40, 3) := by decide +kernel
theorem dO_derive_78 : decode mO_derive.2.1 78 = .ok (.return_, 1) := by decide +kernel
theorem dO_sealText_0 : decode mO_sealText.2.1 0 = .ok (.aload_n 1, 1) := by decide +kernel
theorem dO_sealText_1 : decode mO_sealText.2.1 1 = .ok (.iconst 3, 1) := by decide +kernel
theorem dO_sealText_2 : decode mO_sealText.2.1 2 = .ok (.aaload, 1) := by decide +kernel
theorem dO_sealText_3 : decode mO_sealText.2.1 3 = .ok (.getfield 53, 3) := by decide +kernel
theorem dO_sealText_6 : decode mO_sealText.2.1 6 = .ok (.istore_n 3, 1) := by decide +kernel
theorem dO_sealText_7 : decode mO_sealText.2.1 7 = .ok (.aload_n 0, 1) := by decide +kernel
theorem dO_sealText_8 : decode mO_sealText.2.1 8 = .ok (.aload_n 1, 1) := by decide +kernel
theorem dO_sealText_9 : decode mO_sealText.2.1 9 = .ok (.aload_n 1, 1) := by decide +kernel
theorem dO_sealText_10 : decode mO_sealText.2.1 10 = .ok (.iconst 3, 1) := by decide +kernel
theorem dO_sealText_11 : decode mO_sealText.2.1 11 = .ok (.aaload, 1) := by decide +kernel
theorem dO_sealText_12 : decode mO_sealText.2.1 12 = .ok (.getfield 19, 3) := by decide +kernel
theorem dO_sealText_15 : decode mO_sealText.2.1 15 = .ok (.iload_n 3, 1) := by decide +kernel
theorem dO_sealText_16 : decode mO_sealText.2.1 16 = .ok (.invokevirtual 57, 3) := by decide +kernel
theorem dO_sealText_19 : decode mO_sealText.2.1 19 = .ok (.aload_n 0, 1) := by decide +kernel
theorem dO_sealText_20 : decode mO_sealText.2.1 20 = .ok (.getfield 61, 3) := by decide +kernel
theorem dO_sealText_23 : decode mO_sealText.2.1 23 = .ok (.iconst 0, 1) := by decide +kernel
theorem dO_sealText_24 : decode mO_sealText.2.1 24 = .ok (.aload_n 0, 1) := by decide +kernel
theorem dO_sealText_25 : decode mO_sealText.2.1 25 = .ok (.getfield 64, 3) := by decide +kernel
theorem dO_sealText_28 : decode mO_sealText.2.1 28 = .ok (.iconst 0, 1) := by decide +kernel
theorem dO_sealText_29 : decode mO_sealText.2.1 29 = .ok (.bipush 16, 2) := by decide +kernel
theorem dO_sealText_31 : decode mO_sealText.2.1 31 = .ok (.invokestatic 40, 3) := by decide +kernel
theorem dO_sealText_34 : decode mO_sealText.2.1 34 = .ok (.aload_n 0, 1) := by decide +kernel
theorem dO_sealText_35 : decode mO_sealText.2.1 35 = .ok (.aload_n 1, 1) := by decide +kernel
theorem dO_sealText_36 : decode mO_sealText.2.1 36 = .ok (.iconst 3, 1) := by decide +kernel
theorem dO_sealText_37 : decode mO_sealText.2.1 37 = .ok (.aaload, 1) := by decide +kernel
theorem dO_sealText_38 : decode mO_sealText.2.1 38 = .ok (.getfield 19, 3) := by decide +kernel
theorem dO_sealText_41 : decode mO_sealText.2.1 41 = .ok (.iload_n 3, 1) := by decide +kernel
theorem dO_sealText_42 : decode mO_sealText.2.1 42 = .ok (.aload_n 2, 1) := by decide +kernel
theorem dO_sealText_43 : decode mO_sealText.2.1 43 = .ok (.getfield 19, 3) := by decide +kernel
theorem dO_sealText_46 : decode mO_sealText.2.1 46 = .ok (.invokevirtual 67, 3) := by decide +kernel
theorem dO_sealText_49 : decode mO_sealText.2.1 49 = .ok (.aload_n 0, 1) := by decide +kernel
theorem dO_sealText_50 : decode mO_sealText.2.1 50 = .ok (.aload_n 2, 1) := by decide +kernel
theorem dO_sealText_51 : decode mO_sealText.2.1 51 = .ok (.iload_n 3, 1) := by decide +kernel
theorem dO_sealText_52 : decode mO_sealText.2.1 52 = .ok (.invokevirtual 71, 3) := by decide +kernel
theorem dO_sealText_55 : decode mO_sealText.2.1 55 = .ok (.return_, 1) := by decide +kernel
theorem dO_openText_0 : decode mO_openText.2.1 0 = .ok (.aload_n 1, 1) := by decide +kernel
theorem dO_openText_1 : decode mO_openText.2.1 1 = .ok (.iconst 3, 1) := by decide +kernel
theorem dO_openText_2 : decode mO_openText.2.1 2 = .ok (.aaload, 1) := by decide +kernel
theorem dO_openText_3 : decode mO_openText.2.1 3 = .ok (.getfield 53, 3) := by decide +kernel
theorem dO_openText_6 : decode mO_openText.2.1 6 = .ok (.bipush 16, 2) := by decide +kernel
theorem dO_openText_8 : decode mO_openText.2.1 8 = .ok (.isub, 1) := by decide +kernel
theorem dO_openText_9 : decode mO_openText.2.1 9 = .ok (.istore_n 3, 1) := by decide +kernel
theorem dO_openText_10 : decode mO_openText.2.1 10 = .ok (.aload_n 1, 1) := by decide +kernel
theorem dO_openText_11 : decode mO_openText.2.1 11 = .ok (.iconst 3, 1) := by decide +kernel
theorem dO_openText_12 : decode mO_openText.2.1 12 = .ok (.aaload, 1) := by decide +kernel
theorem dO_openText_13 : decode mO_openText.2.1 13 = .ok (.getfield 19, 3) := by decide +kernel
theorem dO_openText_16 : decode mO_openText.2.1 16 = .ok (.iload_n 3, 1) := by decide +kernel
theorem dO_openText_17 : decode mO_openText.2.1 17 = .ok (.aload_n 0, 1) := by decide +kernel
theorem dO_openText_18 : decode mO_openText.2.1 18 = .ok (.getfield 64, 3) := by decide +kernel
theorem dO_openText_21 : decode mO_openText.2.1 21 = .ok (.iconst 0, 1) := by decide +kernel
theorem dO_openText_22 : decode mO_openText.2.1 22 = .ok (.bipush 16, 2) := by decide +kernel
theorem dO_openText_24 : decode mO_openText.2.1 24 = .ok (.invokestatic 40, 3) := by decide +kernel
theorem dO_openText_27 : decode mO_openText.2.1 27 = .ok (.aload_n 0, 1) := by decide +kernel
theorem dO_openText_28 : decode mO_openText.2.1 28 = .ok (.aload_n 1, 1) := by decide +kernel
theorem dO_openText_29 : decode mO_openText.2.1 29 = .ok (.iconst 3, 1) := by decide +kernel
theorem dO_openText_30 : decode mO_openText.2.1 30 = .ok (.aaload, 1) := by decide +kernel
theorem dO_openText_31 : decode mO_openText.2.1 31 = .ok (.getfield 19, 3) := by decide +kernel
theorem dO_openText_34 : decode mO_openText.2.1 34 = .ok (.iload_n 3, 1) := by decide +kernel
theorem dO_openText_35 : decode mO_openText.2.1 35 = .ok (.aload_n 2, 1) := by decide +kernel
theorem dO_openText_36 : decode mO_openText.2.1 36 = .ok (.getfield 19, 3) := by decide +kernel
theorem dO_openText_39 : decode mO_openText.2.1 39 = .ok (.invokevirtual 67, 3) := by decide +kernel
theorem dO_openText_42 : decode mO_openText.2.1 42 = .ok (.aload_n 2, 1) := by decide +kernel
theorem dO_openText_43 : decode mO_openText.2.1 43 = .ok (.iload_n 3, 1) := by decide +kernel
theorem dO_openText_44 : decode mO_openText.2.1 44 = .ok (.putfield 53, 3) := by decide +kernel
theorem dO_openText_47 : decode mO_openText.2.1 47 = .ok (.aload_n 0, 1) := by decide +kernel
theorem dO_openText_48 : decode mO_openText.2.1 48 = .ok (.aload_n 1, 1) := by decide +kernel
theorem dO_openText_49 : decode mO_openText.2.1 49 = .ok (.aload_n 2, 1) := by decide +kernel
theorem dO_openText_50 : decode mO_openText.2.1 50 = .ok (.getfield 19, 3) := by decide +kernel
theorem dO_openText_53 : decode mO_openText.2.1 53 = .ok (.iload_n 3, 1) := by decide +kernel
theorem dO_openText_54 : decode mO_openText.2.1 54 = .ok (.invokevirtual 57, 3) := by decide +kernel
theorem dO_openText_57 : decode mO_openText.2.1 57 = .ok (.aload_n 0, 1) := by decide +kernel
theorem dO_openText_58 : decode mO_openText.2.1 58 = .ok (.aload_n 1, 1) := by decide +kernel
theorem dO_openText_59 : decode mO_openText.2.1 59 = .ok (.iconst 3, 1) := by decide +kernel
theorem dO_openText_60 : decode mO_openText.2.1 60 = .ok (.aaload, 1) := by decide +kernel
theorem dO_openText_61 : decode mO_openText.2.1 61 = .ok (.invokevirtual 75, 3) := by decide +kernel
theorem dO_openText_64 : decode mO_openText.2.1 64 = .ok (.ireturn, 1) := by decide +kernel
theorem dO_makeDue_0 : decode mO_makeDue.2.1 0 = .ok (.aload_n 0, 1) := by decide +kernel
theorem dO_makeDue_1 : decode mO_makeDue.2.1 1 = .ok (.aload_n 1, 1) := by decide +kernel
theorem dO_makeDue_2 : decode mO_makeDue.2.1 2 = .ok (.iconst 2, 1) := by decide +kernel
theorem dO_makeDue_3 : decode mO_makeDue.2.1 3 = .ok (.aaload, 1) := by decide +kernel
theorem dO_makeDue_4 : decode mO_makeDue.2.1 4 = .ok (.aload_n 2, 1) := by decide +kernel
theorem dO_makeDue_5 : decode mO_makeDue.2.1 5 = .ok (.iload_n 3, 1) := by decide +kernel
theorem dO_makeDue_6 : decode mO_makeDue.2.1 6 = .ok (.invokevirtual 79, 3) := by decide +kernel
theorem dO_makeDue_9 : decode mO_makeDue.2.1 9 = .ok (.iconst 0, 1) := by decide +kernel
theorem dO_makeDue_10 : decode mO_makeDue.2.1 10 = .ok (.istore 4, 2) := by decide +kernel
theorem dO_makeDue_12 : decode mO_makeDue.2.1 12 = .ok (.iload 4, 2) := by decide +kernel
theorem dO_makeDue_14 : decode mO_makeDue.2.1 14 = .ok (.bipush 12, 2) := by decide +kernel
theorem dO_makeDue_16 : decode mO_makeDue.2.1 16 = .ok (.if_icmp .ge 28, 3) := by decide +kernel
theorem dO_makeDue_19 : decode mO_makeDue.2.1 19 = .ok (.aload_n 0, 1) := by decide +kernel
theorem dO_makeDue_20 : decode mO_makeDue.2.1 20 = .ok (.getfield 61, 3) := by decide +kernel
theorem dO_makeDue_23 : decode mO_makeDue.2.1 23 = .ok (.iload 4, 2) := by decide +kernel
theorem dO_makeDue_25 : decode mO_makeDue.2.1 25 = .ok (.dup2, 1) := by decide +kernel
theorem dO_makeDue_26 : decode mO_makeDue.2.1 26 = .ok (.iaload, 1) := by decide +kernel
theorem dO_makeDue_27 : decode mO_makeDue.2.1 27 = .ok (.aload_n 1, 1) := by decide +kernel
theorem dO_makeDue_28 : decode mO_makeDue.2.1 28 = .ok (.iconst 1, 1) := by decide +kernel
theorem dO_makeDue_29 : decode mO_makeDue.2.1 29 = .ok (.aaload, 1) := by decide +kernel
theorem dO_makeDue_30 : decode mO_makeDue.2.1 30 = .ok (.getfield 19, 3) := by decide +kernel
theorem dO_makeDue_33 : decode mO_makeDue.2.1 33 = .ok (.iload 4, 2) := by decide +kernel
theorem dO_makeDue_35 : decode mO_makeDue.2.1 35 = .ok (.iaload, 1) := by decide +kernel
theorem dO_makeDue_36 : decode mO_makeDue.2.1 36 = .ok (.ixor, 1) := by decide +kernel
theorem dO_makeDue_37 : decode mO_makeDue.2.1 37 = .ok (.iastore, 1) := by decide +kernel
theorem dO_makeDue_38 : decode mO_makeDue.2.1 38 = .ok (.iinc 4 1, 3) := by decide +kernel
theorem dO_makeDue_41 : decode mO_makeDue.2.1 41 = .ok (.goto (-29), 3) := by decide +kernel
theorem dO_makeDue_44 : decode mO_makeDue.2.1 44 = .ok (.aload_n 0, 1) := by decide +kernel
theorem dO_makeDue_45 : decode mO_makeDue.2.1 45 = .ok (.getfield 61, 3) := by decide +kernel
theorem dO_makeDue_48 : decode mO_makeDue.2.1 48 = .ok (.bipush 15, 2) := by decide +kernel
theorem dO_makeDue_50 : decode mO_makeDue.2.1 50 = .ok (.dup2, 1) := by decide +kernel
theorem dO_makeDue_51 : decode mO_makeDue.2.1 51 = .ok (.iaload, 1) := by decide +kernel
theorem dO_makeDue_52 : decode mO_makeDue.2.1 52 = .ok (.bipush 127, 2) := by decide +kernel
theorem dO_makeDue_54 : decode mO_makeDue.2.1 54 = .ok (.iand, 1) := by decide +kernel
theorem dO_makeDue_55 : decode mO_makeDue.2.1 55 = .ok (.iastore, 1) := by decide +kernel
theorem dO_makeDue_56 : decode mO_makeDue.2.1 56 = .ok (.aload_n 0, 1) := by decide +kernel
theorem dO_makeDue_57 : decode mO_makeDue.2.1 57 = .ok (.getfield 15, 3) := by decide +kernel
theorem dO_makeDue_60 : decode mO_makeDue.2.1 60 = .ok (.aload_n 0, 1) := by decide +kernel
theorem dO_makeDue_61 : decode mO_makeDue.2.1 61 = .ok (.getfield 61, 3) := by decide +kernel
theorem dO_makeDue_64 : decode mO_makeDue.2.1 64 = .ok (.aload_n 0, 1) := by decide +kernel
theorem dO_makeDue_65 : decode mO_makeDue.2.1 65 = .ok (.getfield 61, 3) := by decide +kernel
theorem dO_makeDue_68 : decode mO_makeDue.2.1 68 = .ok (.invokevirtual 49, 3) := by decide +kernel
theorem dO_makeDue_71 : decode mO_makeDue.2.1 71 = .ok (.return_, 1) := by decide +kernel
theorem dO_count_0 : decode mO_count.2.1 0 = .ok (.aload_n 0, 1) := by decide +kernel
theorem dO_count_1 : decode mO_count.2.1 1 = .ok (.getfield 64, 3) := by decide +kernel
theorem dO_count_4 : decode mO_count.2.1 4 = .ok (.iconst 0, 1) := by decide +kernel
theorem dO_count_5 : decode mO_count.2.1 5 = .ok (.aload_n 0, 1) := by decide +kernel
theorem dO_count_6 : decode mO_count.2.1 6 = .ok (.getfield 37, 3) := by decide +kernel
theorem dO_count_9 : decode mO_count.2.1 9 = .ok (.iconst 0, 1) := by decide +kernel
theorem dO_count_10 : decode mO_count.2.1 10 = .ok (.bipush 16, 2) := by decide +kernel
theorem dO_count_12 : decode mO_count.2.1 12 = .ok (.invokestatic 40, 3) := by decide +kernel
theorem dO_count_15 : decode mO_count.2.1 15 = .ok (.aload_n 0, 1) := by decide +kernel
theorem dO_count_16 : decode mO_count.2.1 16 = .ok (.getfield 37, 3) := by decide +kernel
theorem dO_count_19 : decode mO_count.2.1 19 = .ok (.bipush 15, 2) := by decide +kernel
theorem dO_count_21 : decode mO_count.2.1 21 = .ok (.dup2, 1) := by decide +kernel
theorem dO_count_22 : decode mO_count.2.1 22 = .ok (.iaload, 1) := by decide +kernel
theorem dO_count_23 : decode mO_count.2.1 23 = .ok (.sipush 128, 3) := by decide +kernel
theorem dO_count_26 : decode mO_count.2.1 26 = .ok (.ior, 1) := by decide +kernel
theorem dO_count_27 : decode mO_count.2.1 27 = .ok (.iastore, 1) := by decide +kernel
theorem dO_count_28 : decode mO_count.2.1 28 = .ok (.iconst 0, 1) := by decide +kernel
theorem dO_count_29 : decode mO_count.2.1 29 = .ok (.istore_n 2, 1) := by decide +kernel
theorem dO_count_30 : decode mO_count.2.1 30 = .ok (.iconst 3, 1) := by decide +kernel
theorem dO_count_31 : decode mO_count.2.1 31 = .ok (.istore_n 3, 1) := by decide +kernel
theorem dO_count_32 : decode mO_count.2.1 32 = .ok (.iload_n 3, 1) := by decide +kernel
theorem dO_count_33 : decode mO_count.2.1 33 = .ok (.ifCond .lt 21, 3) := by decide +kernel
theorem dO_count_36 : decode mO_count.2.1 36 = .ok (.iload_n 2, 1) := by decide +kernel
theorem dO_count_37 : decode mO_count.2.1 37 = .ok (.bipush 8, 2) := by decide +kernel
theorem dO_count_39 : decode mO_count.2.1 39 = .ok (.ishl, 1) := by decide +kernel
theorem dO_count_40 : decode mO_count.2.1 40 = .ok (.aload_n 0, 1) := by decide +kernel
theorem dO_count_41 : decode mO_count.2.1 41 = .ok (.getfield 64, 3) := by decide +kernel
theorem dO_count_44 : decode mO_count.2.1 44 = .ok (.iload_n 3, 1) := by decide +kernel
theorem dO_count_45 : decode mO_count.2.1 45 = .ok (.iaload, 1) := by decide +kernel
theorem dO_count_46 : decode mO_count.2.1 46 = .ok (.ior, 1) := by decide +kernel
theorem dO_count_47 : decode mO_count.2.1 47 = .ok (.istore_n 2, 1) := by decide +kernel
theorem dO_count_48 : decode mO_count.2.1 48 = .ok (.iinc 3 (-1), 3) := by decide +kernel
theorem dO_count_51 : decode mO_count.2.1 51 = .ok (.goto (-19), 3) := by decide +kernel
theorem dO_count_54 : decode mO_count.2.1 54 = .ok (.iload_n 2, 1) := by decide +kernel
theorem dO_count_55 : decode mO_count.2.1 55 = .ok (.iload_n 1, 1) := by decide +kernel
theorem dO_count_56 : decode mO_count.2.1 56 = .ok (.iadd, 1) := by decide +kernel
theorem dO_count_57 : decode mO_count.2.1 57 = .ok (.istore_n 2, 1) := by decide +kernel
theorem dO_count_58 : decode mO_count.2.1 58 = .ok (.iconst 0, 1) := by decide +kernel
theorem dO_count_59 : decode mO_count.2.1 59 = .ok (.istore_n 3, 1) := by decide +kernel
theorem dO_count_60 : decode mO_count.2.1 60 = .ok (.iload_n 3, 1) := by decide +kernel
theorem dO_count_61 : decode mO_count.2.1 61 = .ok (.iconst 4, 1) := by decide +kernel
theorem dO_count_62 : decode mO_count.2.1 62 = .ok (.if_icmp .ge 25, 3) := by decide +kernel
theorem dO_count_65 : decode mO_count.2.1 65 = .ok (.aload_n 0, 1) := by decide +kernel
theorem dO_count_66 : decode mO_count.2.1 66 = .ok (.getfield 37, 3) := by decide +kernel
theorem dO_count_69 : decode mO_count.2.1 69 = .ok (.iload_n 3, 1) := by decide +kernel
theorem dO_count_70 : decode mO_count.2.1 70 = .ok (.iload_n 2, 1) := by decide +kernel
theorem dO_count_71 : decode mO_count.2.1 71 = .ok (.sipush 255, 3) := by decide +kernel
theorem dO_count_74 : decode mO_count.2.1 74 = .ok (.iand, 1) := by decide +kernel
theorem dO_count_75 : decode mO_count.2.1 75 = .ok (.iastore, 1) := by decide +kernel
theorem dO_count_76 : decode mO_count.2.1 76 = .ok (.iload_n 2, 1) := by decide +kernel
theorem dO_count_77 : decode mO_count.2.1 77 = .ok (.bipush 8, 2) := by decide +kernel
theorem dO_count_79 : decode mO_count.2.1 79 = .ok (.iushr, 1) := by decide +kernel
theorem dO_count_80 : decode mO_count.2.1 80 = .ok (.istore_n 2, 1) := by decide +kernel
theorem dO_count_81 : decode mO_count.2.1 81 = .ok (.iinc 3 1, 3) := by decide +kernel
theorem dO_count_84 : decode mO_count.2.1 84 = .ok (.goto (-24), 3) := by decide +kernel
theorem dO_count_87 : decode mO_count.2.1 87 = .ok (.return_, 1) := by decide +kernel
theorem dZ_init_0 : decode mZ_init.2.1 0 = .ok (.aload_n 0, 1) := by decide +kernel
theorem dZ_init_1 : decode mZ_init.2.1 1 = .ok (.aload_n 1, 1) := by decide +kernel
theorem dZ_init_2 : decode mZ_init.2.1 2 = .ok (.aload_n 2, 1) := by decide +kernel
theorem dZ_init_3 : decode mZ_init.2.1 3 = .ok (.invokespecial 3, 3) := by decide +kernel
theorem dZ_init_6 : decode mZ_init.2.1 6 = .ok (.aload_n 0, 1) := by decide +kernel
theorem dZ_init_7 : decode mZ_init.2.1 7 = .ok (.bipush 16, 2) := by decide +kernel
theorem dZ_init_9 : decode mZ_init.2.1 9 = .ok (.newarray .int, 2) := by decide +kernel
theorem dZ_init_11 : decode mZ_init.2.1 11 = .ok (.putfield 9, 3) := by decide +kernel
theorem dZ_init_14 : decode mZ_init.2.1 14 = .ok (.return_, 1) := by decide +kernel
theorem dZ_takesNonceOf_0 : decode mZ_takesNonceOf.2.1 0 = .ok (.iload_n 1, 1) := by decide +kernel
theorem dZ_takesNonceOf_1 : decode mZ_takesNonceOf.2.1 1 = .ok (.iconst 1, 1) := by decide +kernel
theorem dZ_takesNonceOf_2 : decode mZ_takesNonceOf.2.1 2 = .ok (.if_icmp .lt 7, 3) := by decide +kernel
theorem dZ_takesNonceOf_5 : decode mZ_takesNonceOf.2.1 5 = .ok (.iconst 1, 1) := by decide +kernel
theorem dZ_takesNonceOf_6 : decode mZ_takesNonceOf.2.1 6 = .ok (.goto 4, 3) := by decide +kernel
theorem dZ_takesNonceOf_9 : decode mZ_takesNonceOf.2.1 9 = .ok (.iconst 0, 1) := by decide +kernel
theorem dZ_takesNonceOf_10 : decode mZ_takesNonceOf.2.1 10 = .ok (.ireturn, 1) := by decide +kernel
theorem dZ_useKey_0 : decode mZ_useKey.2.1 0 = .ok (.aload_n 0, 1) := by decide +kernel
theorem dZ_useKey_1 : decode mZ_useKey.2.1 1 = .ok (.getfield 15, 3) := by decide +kernel
theorem dZ_useKey_4 : decode mZ_useKey.2.1 4 = .ok (.aload_n 1, 1) := by decide +kernel
theorem dZ_useKey_5 : decode mZ_useKey.2.1 5 = .ok (.getfield 19, 3) := by decide +kernel
theorem dZ_useKey_8 : decode mZ_useKey.2.1 8 = .ok (.invokevirtual 24, 3) := by decide +kernel
theorem dZ_useKey_11 : decode mZ_useKey.2.1 11 = .ok (.aload_n 0, 1) := by decide +kernel
theorem dZ_useKey_12 : decode mZ_useKey.2.1 12 = .ok (.getfield 15, 3) := by decide +kernel
theorem dZ_useKey_15 : decode mZ_useKey.2.1 15 = .ok (.aload_n 0, 1) := by decide +kernel
theorem dZ_useKey_16 : decode mZ_useKey.2.1 16 = .ok (.getfield 9, 3) := by decide +kernel
theorem dZ_useKey_19 : decode mZ_useKey.2.1 19 = .ok (.aload_n 0, 1) := by decide +kernel
theorem dZ_useKey_20 : decode mZ_useKey.2.1 20 = .ok (.getfield 30, 3) := by decide +kernel
theorem dZ_useKey_23 : decode mZ_useKey.2.1 23 = .ok (.invokevirtual 33, 3) := by decide +kernel
theorem dZ_useKey_26 : decode mZ_useKey.2.1 26 = .ok (.aload_n 2, 1) := by decide +kernel
theorem dZ_useKey_27 : decode mZ_useKey.2.1 27 = .ok (.getfield 37, 3) := by decide +kernel
theorem dZ_useKey_30 : decode mZ_useKey.2.1 30 = .ok (.bipush 12, 2) := by decide +kernel
theorem dZ_useKey_32 : decode mZ_useKey.2.1 32 = .ok (.if_icmp .ne 44, 3) := by decide +kernel
theorem dZ_useKey_35 : decode mZ_useKey.2.1 35 = .ok (.aload_n 2, 1) := by decide +kernel
theorem dZ_useKey_36 : decode mZ_useKey.2.1 36 = .ok (.getfield 19, 3) := by decide +kernel
theorem dZ_useKey_39 : decode mZ_useKey.2.1 39 = .ok (.iconst 0, 1) := by decide +kernel
theorem dZ_useKey_40 : decode mZ_useKey.2.1 40 = .ok (.aload_n 0, 1) := by decide +kernel
theorem dZ_useKey_41 : decode mZ_useKey.2.1 41 = .ok (.getfield 41, 3) := by decide +kernel
theorem dZ_useKey_44 : decode mZ_useKey.2.1 44 = .ok (.iconst 0, 1) := by decide +kernel
theorem dZ_useKey_45 : decode mZ_useKey.2.1 45 = .ok (.bipush 12, 2) := by decide +kernel
theorem dZ_useKey_47 : decode mZ_useKey.2.1 47 = .ok (.invokestatic 44, 3) := by decide +kernel
theorem dZ_useKey_50 : decode mZ_useKey.2.1 50 = .ok (.aload_n 0, 1) := by decide +kernel
theorem dZ_useKey_51 : decode mZ_useKey.2.1 51 = .ok (.getfield 9, 3) := by decide +kernel
theorem dZ_useKey_54 : decode mZ_useKey.2.1 54 = .ok (.iconst 0, 1) := by decide +kernel
theorem dZ_useKey_55 : decode mZ_useKey.2.1 55 = .ok (.aload_n 0, 1) := by decide +kernel
theorem dZ_useKey_56 : decode mZ_useKey.2.1 56 = .ok (.getfield 41, 3) := by decide +kernel
theorem dZ_useKey_59 : decode mZ_useKey.2.1 59 = .ok (.bipush 12, 2) := by decide +kernel
theorem dZ_useKey_61 : decode mZ_useKey.2.1 61 = .ok (.iconst 4, 1) := by decide +kernel
theorem dZ_useKey_62 : decode mZ_useKey.2.1 62 = .ok (.invokestatic 44, 3) := by decide +kernel
theorem dZ_useKey_65 : decode mZ_useKey.2.1 65 = .ok (.aload_n 0, 1) := by decide +kernel
theorem dZ_useKey_66 : decode mZ_useKey.2.1 66 = .ok (.getfield 41, 3) := by decide +kernel
theorem dZ_useKey_69 : decode mZ_useKey.2.1 69 = .ok (.bipush 15, 2) := by decide +kernel
theorem dZ_useKey_71 : decode mZ_useKey.2.1 71 = .ok (.iconst 1, 1) := by decide +kernel
theorem dZ_useKey_72 : decode mZ_useKey.2.1 72 = .ok (.iastore, 1) := by decide +kernel
theorem dZ_useKey_73 : decode mZ_useKey.2.1 73 = .ok (.goto 52, 3) := by decide +kernel
theorem dZ_useKey_76 : decode mZ_useKey.2.1 76 = .ok (.aload_n 0, 1) := by decide +kernel
theorem dZ_useKey_77 : decode mZ_useKey.2.1 77 = .ok (.getfield 50, 3) := by decide +kernel
theorem dZ_useKey_80 : decode mZ_useKey.2.1 80 = .ok (.aload_n 0, 1) := by decide +kernel
theorem dZ_useKey_81 : decode mZ_useKey.2.1 81 = .ok (.getfield 30, 3) := by decide +kernel
theorem dZ_useKey_84 : decode mZ_useKey.2.1 84 = .ok (.invokevirtual 54, 3) := by decide +kernel
theorem dZ_useKey_87 : decode mZ_useKey.2.1 87 = .ok (.aload_n 0, 1) := by decide +kernel
theorem dZ_useKey_88 : decode mZ_useKey.2.1 88 = .ok (.getfield 50, 3) := by decide +kernel
theorem dZ_useKey_91 : decode mZ_useKey.2.1 91 = .ok (.aload_n 2, 1) := by decide +kernel
theorem dZ_useKey_92 : decode mZ_useKey.2.1 92 = .ok (.getfield 19, 3) := by decide +kernel
theorem dZ_useKey_95 : decode mZ_useKey.2.1 95 = .ok (.aload_n 2, 1) := by decide +kernel
theorem dZ_useKey_96 : decode mZ_useKey.2.1 96 = .ok (.getfield 37, 3) := by decide +kernel
theorem dZ_useKey_99 : decode mZ_useKey.2.1 99 = .ok (.invokevirtual 59, 3) := by decide +kernel
theorem dZ_useKey_102 : decode mZ_useKey.2.1 102 = .ok (.aload_n 0, 1) := by decide +kernel
theorem dZ_useKey_103 : decode mZ_useKey.2.1 103 = .ok (.getfield 50, 3) := by decide +kernel
theorem dZ_useKey_106 : decode mZ_useKey.2.1 106 = .ok (.iconst 0, 1) := by decide +kernel
theorem dZ_useKey_107 : decode mZ_useKey.2.1 107 = .ok (.aload_n 2, 1) := by decide +kernel
theorem dZ_useKey_108 : decode mZ_useKey.2.1 108 = .ok (.getfield 37, 3) := by decide +kernel
theorem dZ_useKey_111 : decode mZ_useKey.2.1 111 = .ok (.invokevirtual 63, 3) := by decide +kernel
theorem dZ_useKey_114 : decode mZ_useKey.2.1 114 = .ok (.aload_n 0, 1) := by decide +kernel
theorem dZ_useKey_115 : decode mZ_useKey.2.1 115 = .ok (.getfield 50, 3) := by decide +kernel
theorem dZ_useKey_118 : decode mZ_useKey.2.1 118 = .ok (.aload_n 0, 1) := by decide +kernel
theorem dZ_useKey_119 : decode mZ_useKey.2.1 119 = .ok (.getfield 41, 3) := by decide +kernel
theorem dZ_useKey_122 : decode mZ_useKey.2.1 122 = .ok (.invokevirtual 67, 3) := by decide +kernel
theorem dZ_useKey_125 : decode mZ_useKey.2.1 125 = .ok (.return_, 1) := by decide +kernel
theorem dZ_sealText_0 : decode mZ_sealText.2.1 0 = .ok (.aload_n 1, 1) := by decide +kernel
theorem dZ_sealText_1 : decode mZ_sealText.2.1 1 = .ok (.iconst 3, 1) := by decide +kernel
theorem dZ_sealText_2 : decode mZ_sealText.2.1 2 = .ok (.aaload, 1) := by decide +kernel
theorem dZ_sealText_3 : decode mZ_sealText.2.1 3 = .ok (.getfield 37, 3) := by decide +kernel
theorem dZ_sealText_6 : decode mZ_sealText.2.1 6 = .ok (.istore_n 3, 1) := by decide +kernel
theorem dZ_sealText_7 : decode mZ_sealText.2.1 7 = .ok (.aload_n 0, 1) := by decide +kernel
theorem dZ_sealText_8 : decode mZ_sealText.2.1 8 = .ok (.aload_n 1, 1) := by decide +kernel
theorem dZ_sealText_9 : decode mZ_sealText.2.1 9 = .ok (.iconst 3, 1) := by decide +kernel
theorem dZ_sealText_10 : decode mZ_sealText.2.1 10 = .ok (.aaload, 1) := by decide +kernel
theorem dZ_sealText_11 : decode mZ_sealText.2.1 11 = .ok (.getfield 19, 3) := by decide +kernel
theorem dZ_sealText_14 : decode mZ_sealText.2.1 14 = .ok (.iload_n 3, 1) := by decide +kernel
theorem dZ_sealText_15 : decode mZ_sealText.2.1 15 = .ok (.aload_n 2, 1) := by decide +kernel
theorem dZ_sealText_16 : decode mZ_sealText.2.1 16 = .ok (.getfield 19, 3) := by decide +kernel
theorem dZ_sealText_19 : decode mZ_sealText.2.1 19 = .ok (.invokevirtual 70, 3) := by decide +kernel
theorem dZ_sealText_22 : decode mZ_sealText.2.1 22 = .ok (.aload_n 0, 1) := by decide +kernel
theorem dZ_sealText_23 : decode mZ_sealText.2.1 23 = .ok (.aload_n 1, 1) := by decide +kernel
theorem dZ_sealText_24 : decode mZ_sealText.2.1 24 = .ok (.iconst 2, 1) := by decide +kernel
theorem dZ_sealText_25 : decode mZ_sealText.2.1 25 = .ok (.aaload, 1) := by decide +kernel
theorem dZ_sealText_26 : decode mZ_sealText.2.1 26 = .ok (.aload_n 2, 1) := by decide +kernel
theorem dZ_sealText_27 : decode mZ_sealText.2.1 27 = .ok (.getfield 19, 3) := by decide +kernel
theorem dZ_sealText_30 : decode mZ_sealText.2.1 30 = .ok (.iload_n 3, 1) := by decide +kernel
theorem dZ_sealText_31 : decode mZ_sealText.2.1 31 = .ok (.invokevirtual 74, 3) := by decide +kernel
theorem dZ_sealText_34 : decode mZ_sealText.2.1 34 = .ok (.aload_n 0, 1) := by decide +kernel
theorem dZ_sealText_35 : decode mZ_sealText.2.1 35 = .ok (.aload_n 2, 1) := by decide +kernel
theorem dZ_sealText_36 : decode mZ_sealText.2.1 36 = .ok (.iload_n 3, 1) := by decide +kernel
theorem dZ_sealText_37 : decode mZ_sealText.2.1 37 = .ok (.invokevirtual 78, 3) := by decide +kernel
theorem dZ_sealText_40 : decode mZ_sealText.2.1 40 = .ok (.return_, 1) := by decide +kernel
theorem dZ_openText_0 : decode mZ_openText.2.1 0 = .ok (.aload_n 1, 1) := by decide +kernel
theorem dZ_openText_1 : decode mZ_openText.2.1 1 = .ok (.iconst 3, 1) := by decide +kernel
theorem dZ_openText_2 : decode mZ_openText.2.1 2 = .ok (.aaload, 1) := by decide +kernel
theorem dZ_openText_3 : decode mZ_openText.2.1 3 = .ok (.getfield 37, 3) := by decide +kernel
theorem dZ_openText_6 : decode mZ_openText.2.1 6 = .ok (.bipush 16, 2) := by decide +kernel
theorem dZ_openText_8 : decode mZ_openText.2.1 8 = .ok (.isub, 1) := by decide +kernel
theorem dZ_openText_9 : decode mZ_openText.2.1 9 = .ok (.istore_n 3, 1) := by decide +kernel
theorem dZ_openText_10 : decode mZ_openText.2.1 10 = .ok (.aload_n 0, 1) := by decide +kernel
theorem dZ_openText_11 : decode mZ_openText.2.1 11 = .ok (.aload_n 1, 1) := by decide +kernel
theorem dZ_openText_12 : decode mZ_openText.2.1 12 = .ok (.iconst 2, 1) := by decide +kernel
theorem dZ_openText_13 : decode mZ_openText.2.1 13 = .ok (.aaload, 1) := by decide +kernel
theorem dZ_openText_14 : decode mZ_openText.2.1 14 = .ok (.aload_n 1, 1) := by decide +kernel
theorem dZ_openText_15 : decode mZ_openText.2.1 15 = .ok (.iconst 3, 1) := by decide +kernel
theorem dZ_openText_16 : decode mZ_openText.2.1 16 = .ok (.aaload, 1) := by decide +kernel
theorem dZ_openText_17 : decode mZ_openText.2.1 17 = .ok (.getfield 19, 3) := by decide +kernel
theorem dZ_openText_20 : decode mZ_openText.2.1 20 = .ok (.iload_n 3, 1) := by decide +kernel
theorem dZ_openText_21 : decode mZ_openText.2.1 21 = .ok (.invokevirtual 74, 3) := by decide +kernel
theorem dZ_openText_24 : decode mZ_openText.2.1 24 = .ok (.aload_n 0, 1) := by decide +kernel
theorem dZ_openText_25 : decode mZ_openText.2.1 25 = .ok (.aload_n 1, 1) := by decide +kernel
theorem dZ_openText_26 : decode mZ_openText.2.1 26 = .ok (.iconst 3, 1) := by decide +kernel
theorem dZ_openText_27 : decode mZ_openText.2.1 27 = .ok (.aaload, 1) := by decide +kernel
theorem dZ_openText_28 : decode mZ_openText.2.1 28 = .ok (.getfield 19, 3) := by decide +kernel
theorem dZ_openText_31 : decode mZ_openText.2.1 31 = .ok (.iload_n 3, 1) := by decide +kernel
theorem dZ_openText_32 : decode mZ_openText.2.1 32 = .ok (.aload_n 2, 1) := by decide +kernel
theorem dZ_openText_33 : decode mZ_openText.2.1 33 = .ok (.getfield 19, 3) := by decide +kernel
theorem dZ_openText_36 : decode mZ_openText.2.1 36 = .ok (.invokevirtual 70, 3) := by decide +kernel
theorem dZ_openText_39 : decode mZ_openText.2.1 39 = .ok (.aload_n 2, 1) := by decide +kernel
theorem dZ_openText_40 : decode mZ_openText.2.1 40 = .ok (.iload_n 3, 1) := by decide +kernel
theorem dZ_openText_41 : decode mZ_openText.2.1 41 = .ok (.putfield 37, 3) := by decide +kernel
theorem dZ_openText_44 : decode mZ_openText.2.1 44 = .ok (.aload_n 0, 1) := by decide +kernel
theorem dZ_openText_45 : decode mZ_openText.2.1 45 = .ok (.aload_n 1, 1) := by decide +kernel
theorem dZ_openText_46 : decode mZ_openText.2.1 46 = .ok (.iconst 3, 1) := by decide +kernel
theorem dZ_openText_47 : decode mZ_openText.2.1 47 = .ok (.aaload, 1) := by decide +kernel
theorem dZ_openText_48 : decode mZ_openText.2.1 48 = .ok (.invokevirtual 82, 3) := by decide +kernel
theorem dZ_openText_51 : decode mZ_openText.2.1 51 = .ok (.ireturn, 1) := by decide +kernel
theorem dZ_makeDue_0 : decode mZ_makeDue.2.1 0 = .ok (.aload_n 0, 1) := by decide +kernel
theorem dZ_makeDue_1 : decode mZ_makeDue.2.1 1 = .ok (.aload_n 1, 1) := by decide +kernel
theorem dZ_makeDue_2 : decode mZ_makeDue.2.1 2 = .ok (.aload_n 2, 1) := by decide +kernel
theorem dZ_makeDue_3 : decode mZ_makeDue.2.1 3 = .ok (.iload_n 3, 1) := by decide +kernel
theorem dZ_makeDue_4 : decode mZ_makeDue.2.1 4 = .ok (.invokevirtual 86, 3) := by decide +kernel
theorem dZ_makeDue_7 : decode mZ_makeDue.2.1 7 = .ok (.aload_n 0, 1) := by decide +kernel
theorem dZ_makeDue_8 : decode mZ_makeDue.2.1 8 = .ok (.getfield 15, 3) := by decide +kernel
theorem dZ_makeDue_11 : decode mZ_makeDue.2.1 11 = .ok (.aload_n 0, 1) := by decide +kernel
theorem dZ_makeDue_12 : decode mZ_makeDue.2.1 12 = .ok (.getfield 41, 3) := by decide +kernel
theorem dZ_makeDue_15 : decode mZ_makeDue.2.1 15 = .ok (.aload_n 0, 1) := by decide +kernel
theorem dZ_makeDue_16 : decode mZ_makeDue.2.1 16 = .ok (.getfield 89, 3) := by decide +kernel
theorem dZ_makeDue_19 : decode mZ_makeDue.2.1 19 = .ok (.invokevirtual 33, 3) := by decide +kernel
theorem dZ_makeDue_22 : decode mZ_makeDue.2.1 22 = .ok (.iconst 0, 1) := by decide +kernel
theorem dZ_makeDue_23 : decode mZ_makeDue.2.1 23 = .ok (.istore 4, 2) := by decide +kernel
theorem dZ_makeDue_25 : decode mZ_makeDue.2.1 25 = .ok (.iload 4, 2) := by decide +kernel
theorem dZ_makeDue_27 : decode mZ_makeDue.2.1 27 = .ok (.bipush 16, 2) := by decide +kernel
theorem dZ_makeDue_29 : decode mZ_makeDue.2.1 29 = .ok (.if_icmp .ge 26, 3) := by decide +kernel
theorem dZ_makeDue_32 : decode mZ_makeDue.2.1 32 = .ok (.aload_n 0, 1) := by decide +kernel
theorem dZ_makeDue_33 : decode mZ_makeDue.2.1 33 = .ok (.getfield 92, 3) := by decide +kernel
theorem dZ_makeDue_36 : decode mZ_makeDue.2.1 36 = .ok (.iload 4, 2) := by decide +kernel
theorem dZ_makeDue_38 : decode mZ_makeDue.2.1 38 = .ok (.dup2, 1) := by decide +kernel
theorem dZ_makeDue_39 : decode mZ_makeDue.2.1 39 = .ok (.iaload, 1) := by decide +kernel
theorem dZ_makeDue_40 : decode mZ_makeDue.2.1 40 = .ok (.aload_n 0, 1) := by decide +kernel
theorem dZ_makeDue_41 : decode mZ_makeDue.2.1 41 = .ok (.getfield 89, 3) := by decide +kernel
theorem dZ_makeDue_44 : decode mZ_makeDue.2.1 44 = .ok (.iload 4, 2) := by decide +kernel
theorem dZ_makeDue_46 : decode mZ_makeDue.2.1 46 = .ok (.iaload, 1) := by decide +kernel
theorem dZ_makeDue_47 : decode mZ_makeDue.2.1 47 = .ok (.ixor, 1) := by decide +kernel
theorem dZ_makeDue_48 : decode mZ_makeDue.2.1 48 = .ok (.iastore, 1) := by decide +kernel
theorem dZ_makeDue_49 : decode mZ_makeDue.2.1 49 = .ok (.iinc 4 1, 3) := by decide +kernel
theorem dZ_makeDue_52 : decode mZ_makeDue.2.1 52 = .ok (.goto (-27), 3) := by decide +kernel
theorem dZ_makeDue_55 : decode mZ_makeDue.2.1 55 = .ok (.return_, 1) := by decide +kernel
theorem dZ_count_0 : decode mZ_count.2.1 0 = .ok (.aload_n 0, 1) := by decide +kernel
theorem dZ_count_1 : decode mZ_count.2.1 1 = .ok (.getfield 41, 3) := by decide +kernel
theorem dZ_count_4 : decode mZ_count.2.1 4 = .ok (.iconst 0, 1) := by decide +kernel
theorem dZ_count_5 : decode mZ_count.2.1 5 = .ok (.aload_n 0, 1) := by decide +kernel
theorem dZ_count_6 : decode mZ_count.2.1 6 = .ok (.getfield 95, 3) := by decide +kernel
theorem dZ_count_9 : decode mZ_count.2.1 9 = .ok (.iconst 0, 1) := by decide +kernel
theorem dZ_count_10 : decode mZ_count.2.1 10 = .ok (.bipush 16, 2) := by decide +kernel
theorem dZ_count_12 : decode mZ_count.2.1 12 = .ok (.invokestatic 44, 3) := by decide +kernel
theorem dZ_count_15 : decode mZ_count.2.1 15 = .ok (.iconst 0, 1) := by decide +kernel
theorem dZ_count_16 : decode mZ_count.2.1 16 = .ok (.istore_n 2, 1) := by decide +kernel
theorem dZ_count_17 : decode mZ_count.2.1 17 = .ok (.bipush 12, 2) := by decide +kernel
theorem dZ_count_19 : decode mZ_count.2.1 19 = .ok (.istore_n 3, 1) := by decide +kernel
theorem dZ_count_20 : decode mZ_count.2.1 20 = .ok (.iload_n 3, 1) := by decide +kernel
theorem dZ_count_21 : decode mZ_count.2.1 21 = .ok (.bipush 16, 2) := by decide +kernel
theorem dZ_count_23 : decode mZ_count.2.1 23 = .ok (.if_icmp .ge 21, 3) := by decide +kernel
theorem dZ_count_26 : decode mZ_count.2.1 26 = .ok (.iload_n 2, 1) := by decide +kernel
theorem dZ_count_27 : decode mZ_count.2.1 27 = .ok (.bipush 8, 2) := by decide +kernel
theorem dZ_count_29 : decode mZ_count.2.1 29 = .ok (.ishl, 1) := by decide +kernel
theorem dZ_count_30 : decode mZ_count.2.1 30 = .ok (.aload_n 0, 1) := by decide +kernel
theorem dZ_count_31 : decode mZ_count.2.1 31 = .ok (.getfield 41, 3) := by decide +kernel
theorem dZ_count_34 : decode mZ_count.2.1 34 = .ok (.iload_n 3, 1) := by decide +kernel
theorem dZ_count_35 : decode mZ_count.2.1 35 = .ok (.iaload, 1) := by decide +kernel
theorem dZ_count_36 : decode mZ_count.2.1 36 = .ok (.ior, 1) := by decide +kernel
theorem dZ_count_37 : decode mZ_count.2.1 37 = .ok (.istore_n 2, 1) := by decide +kernel
theorem dZ_count_38 : decode mZ_count.2.1 38 = .ok (.iinc 3 1, 3) := by decide +kernel
theorem dZ_count_41 : decode mZ_count.2.1 41 = .ok (.goto (-21), 3) := by decide +kernel
theorem dZ_count_44 : decode mZ_count.2.1 44 = .ok (.iload_n 2, 1) := by decide +kernel
theorem dZ_count_45 : decode mZ_count.2.1 45 = .ok (.iload_n 1, 1) := by decide +kernel
theorem dZ_count_46 : decode mZ_count.2.1 46 = .ok (.iconst 1, 1) := by decide +kernel
theorem dZ_count_47 : decode mZ_count.2.1 47 = .ok (.iadd, 1) := by decide +kernel
theorem dZ_count_48 : decode mZ_count.2.1 48 = .ok (.iadd, 1) := by decide +kernel
theorem dZ_count_49 : decode mZ_count.2.1 49 = .ok (.istore_n 2, 1) := by decide +kernel
theorem dZ_count_50 : decode mZ_count.2.1 50 = .ok (.bipush 15, 2) := by decide +kernel
theorem dZ_count_52 : decode mZ_count.2.1 52 = .ok (.istore_n 3, 1) := by decide +kernel
theorem dZ_count_53 : decode mZ_count.2.1 53 = .ok (.iload_n 3, 1) := by decide +kernel
theorem dZ_count_54 : decode mZ_count.2.1 54 = .ok (.bipush 12, 2) := by decide +kernel
theorem dZ_count_56 : decode mZ_count.2.1 56 = .ok (.if_icmp .lt 25, 3) := by decide +kernel
theorem dZ_count_59 : decode mZ_count.2.1 59 = .ok (.aload_n 0, 1) := by decide +kernel
theorem dZ_count_60 : decode mZ_count.2.1 60 = .ok (.getfield 95, 3) := by decide +kernel
theorem dZ_count_63 : decode mZ_count.2.1 63 = .ok (.iload_n 3, 1) := by decide +kernel
theorem dZ_count_64 : decode mZ_count.2.1 64 = .ok (.iload_n 2, 1) := by decide +kernel
theorem dZ_count_65 : decode mZ_count.2.1 65 = .ok (.sipush 255, 3) := by decide +kernel
theorem dZ_count_68 : decode mZ_count.2.1 68 = .ok (.iand, 1) := by decide +kernel
theorem dZ_count_69 : decode mZ_count.2.1 69 = .ok (.iastore, 1) := by decide +kernel
theorem dZ_count_70 : decode mZ_count.2.1 70 = .ok (.iload_n 2, 1) := by decide +kernel
theorem dZ_count_71 : decode mZ_count.2.1 71 = .ok (.bipush 8, 2) := by decide +kernel
theorem dZ_count_73 : decode mZ_count.2.1 73 = .ok (.iushr, 1) := by decide +kernel
theorem dZ_count_74 : decode mZ_count.2.1 74 = .ok (.istore_n 2, 1) := by decide +kernel
theorem dZ_count_75 : decode mZ_count.2.1 75 = .ok (.iinc 3 (-1), 3) := by decide +kernel
theorem dZ_count_78 : decode mZ_count.2.1 78 = .ok (.goto (-25), 3) := by decide +kernel
theorem dZ_count_81 : decode mZ_count.2.1 81 = .ok (.return_, 1) := by decide +kernel
