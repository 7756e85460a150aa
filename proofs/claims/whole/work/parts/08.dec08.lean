theorem d_M_core_80 : decode b_M_core 80 = .ok (.aload_n 0, 1) := by decide +kernel
theorem d_M_core_81 : decode b_M_core 81 = .ok (.getfield 13, 3) := by decide +kernel
theorem d_M_core_84 : decode b_M_core 84 = .ok (.iload_n 2, 1) := by decide +kernel
theorem d_M_core_85 : decode b_M_core 85 = .ok (.iaload, 1) := by decide +kernel
theorem d_M_core_86 : decode b_M_core 86 = .ok (.iload_n 3, 1) := by decide +kernel
theorem d_M_core_87 : decode b_M_core 87 = .ok (.iadd, 1) := by decide +kernel
theorem d_M_core_88 : decode b_M_core 88 = .ok (.aload_n 0, 1) := by decide +kernel
theorem d_M_core_89 : decode b_M_core 89 = .ok (.getfield 13, 3) := by decide +kernel
theorem d_M_core_92 : decode b_M_core 92 = .ok (.iload_n 1, 1) := by decide +kernel
theorem d_M_core_93 : decode b_M_core 93 = .ok (.iaload, 1) := by decide +kernel
theorem d_M_core_94 : decode b_M_core 94 = .ok (.if_icmp .le 14, 3) := by decide +kernel
theorem d_M_core_97 : decode b_M_core 97 = .ok (.aload_n 0, 1) := by decide +kernel
theorem d_M_core_98 : decode b_M_core 98 = .ok (.getfield 13, 3) := by decide +kernel
theorem d_M_core_101 : decode b_M_core 101 = .ok (.iload_n 2, 1) := by decide +kernel
theorem d_M_core_102 : decode b_M_core 102 = .ok (.iaload, 1) := by decide +kernel
theorem d_M_core_103 : decode b_M_core 103 = .ok (.iload_n 3, 1) := by decide +kernel
theorem d_M_core_104 : decode b_M_core 104 = .ok (.iadd, 1) := by decide +kernel
theorem d_M_core_105 : decode b_M_core 105 = .ok (.goto 9, 3) := by decide +kernel
theorem d_M_core_108 : decode b_M_core 108 = .ok (.aload_n 0, 1) := by decide +kernel
theorem d_M_core_109 : decode b_M_core 109 = .ok (.getfield 13, 3) := by decide +kernel
theorem d_M_core_112 : decode b_M_core 112 = .ok (.iload_n 1, 1) := by decide +kernel
theorem d_M_core_113 : decode b_M_core 113 = .ok (.iaload, 1) := by decide +kernel
theorem d_M_core_114 : decode b_M_core 114 = .ok (.istore 5, 2) := by decide +kernel
theorem d_M_core_116 : decode b_M_core 116 = .ok (.iload 5, 2) := by decide +kernel
theorem d_M_core_118 : decode b_M_core 118 = .ok (.iload 4, 2) := by decide +kernel
theorem d_M_core_120 : decode b_M_core 120 = .ok (.isub, 1) := by decide +kernel
theorem d_M_core_121 : decode b_M_core 121 = .ok (.bipush 24, 2) := by decide +kernel
theorem d_M_core_123 : decode b_M_core 123 = .ok (.if_icmp .le 5, 3) := by decide +kernel
theorem d_M_core_126 : decode b_M_core 126 = .ok (.iconst (-1), 1) := by decide +kernel
theorem d_M_core_127 : decode b_M_core 127 = .ok (.ireturn, 1) := by decide +kernel
theorem d_M_core_128 : decode b_M_core 128 = .ok (.aload_n 0, 1) := by decide +kernel
theorem d_M_core_129 : decode b_M_core 129 = .ok (.getfield 13, 3) := by decide +kernel
theorem d_M_core_132 : decode b_M_core 132 = .ok (.aload_n 0, 1) := by decide +kernel
theorem d_M_core_133 : decode b_M_core 133 = .ok (.getfield 32, 3) := by decide +kernel
theorem d_M_core_136 : decode b_M_core 136 = .ok (.iload 5, 2) := by decide +kernel
theorem d_M_core_138 : decode b_M_core 138 = .ok (.iload 4, 2) := by decide +kernel
theorem d_M_core_140 : decode b_M_core 140 = .ok (.isub, 1) := by decide +kernel
theorem d_M_core_141 : decode b_M_core 141 = .ok (.iastore, 1) := by decide +kernel
theorem d_M_core_142 : decode b_M_core 142 = .ok (.iload 4, 2) := by decide +kernel
theorem d_M_core_144 : decode b_M_core 144 = .ok (.istore 6, 2) := by decide +kernel
theorem d_M_core_146 : decode b_M_core 146 = .ok (.iload 6, 2) := by decide +kernel
theorem d_M_core_148 : decode b_M_core 148 = .ok (.iload 5, 2) := by decide +kernel
theorem d_M_core_150 : decode b_M_core 150 = .ok (.if_icmp .ge 74, 3) := by decide +kernel
theorem d_M_core_153 : decode b_M_core 153 = .ok (.aload_n 0, 1) := by decide +kernel
theorem d_M_core_154 : decode b_M_core 154 = .ok (.iload_n 1, 1) := by decide +kernel
theorem d_M_core_155 : decode b_M_core 155 = .ok (.iload 6, 2) := by decide +kernel
theorem d_M_core_157 : decode b_M_core 157 = .ok (.invokevirtual 131, 3) := by decide +kernel
theorem d_M_core_160 : decode b_M_core 160 = .ok (.istore 7, 2) := by decide +kernel
theorem d_M_core_162 : decode b_M_core 162 = .ok (.aload_n 0, 1) := by decide +kernel
theorem d_M_core_163 : decode b_M_core 163 = .ok (.iload_n 2, 1) := by decide +kernel
theorem d_M_core_164 : decode b_M_core 164 = .ok (.iload 6, 2) := by decide +kernel
theorem d_M_core_166 : decode b_M_core 166 = .ok (.iload_n 3, 1) := by decide +kernel
theorem d_M_core_167 : decode b_M_core 167 = .ok (.isub, 1) := by decide +kernel
theorem d_M_core_168 : decode b_M_core 168 = .ok (.invokevirtual 131, 3) := by decide +kernel
theorem d_M_core_171 : decode b_M_core 171 = .ok (.istore 8, 2) := by decide +kernel
theorem d_M_core_173 : decode b_M_core 173 = .ok (.aload_n 0, 1) := by decide +kernel
theorem d_M_core_174 : decode b_M_core 174 = .ok (.getfield 16, 3) := by decide +kernel
theorem d_M_core_177 : decode b_M_core 177 = .ok (.bipush 24, 2) := by decide +kernel
theorem d_M_core_179 : decode b_M_core 179 = .ok (.aload_n 0, 1) := by decide +kernel
theorem d_M_core_180 : decode b_M_core 180 = .ok (.getfield 32, 3) := by decide +kernel
theorem d_M_core_183 : decode b_M_core 183 = .ok (.imul, 1) := by decide +kernel
theorem d_M_core_184 : decode b_M_core 184 = .ok (.iload 6, 2) := by decide +kernel
theorem d_M_core_186 : decode b_M_core 186 = .ok (.iadd, 1) := by decide +kernel
theorem d_M_core_187 : decode b_M_core 187 = .ok (.iload 4, 2) := by decide +kernel
theorem d_M_core_189 : decode b_M_core 189 = .ok (.isub, 1) := by decide +kernel
theorem d_M_core_190 : decode b_M_core 190 = .ok (.iload 7, 2) := by decide +kernel
theorem d_M_core_192 : decode b_M_core 192 = .ok (.ifCond .eq 8, 3) := by decide +kernel
theorem d_M_core_195 : decode b_M_core 195 = .ok (.iload 8, 2) := by decide +kernel
theorem d_M_core_197 : decode b_M_core 197 = .ok (.ifCond .ne 11, 3) := by decide +kernel
theorem d_M_core_200 : decode b_M_core 200 = .ok (.iload 7, 2) := by decide +kernel
theorem d_M_core_202 : decode b_M_core 202 = .ok (.iload 8, 2) := by decide +kernel
theorem d_M_core_204 : decode b_M_core 204 = .ok (.iadd, 1) := by decide +kernel
theorem d_M_core_205 : decode b_M_core 205 = .ok (.goto 12, 3) := by decide +kernel
theorem d_M_core_208 : decode b_M_core 208 = .ok (.iload 7, 2) := by decide +kernel
theorem d_M_core_210 : decode b_M_core 210 = .ok (.iload 8, 2) := by decide +kernel
theorem d_M_core_212 : decode b_M_core 212 = .ok (.iadd, 1) := by decide +kernel
theorem d_M_core_213 : decode b_M_core 213 = .ok (.iconst 1, 1) := by decide +kernel
theorem d_M_core_214 : decode b_M_core 214 = .ok (.iadd, 1) := by decide +kernel
theorem d_M_core_215 : decode b_M_core 215 = .ok (.iconst 2, 1) := by decide +kernel
theorem d_M_core_216 : decode b_M_core 216 = .ok (.idiv, 1) := by decide +kernel
theorem d_M_core_217 : decode b_M_core 217 = .ok (.iastore, 1) := by decide +kernel
theorem d_M_core_218 : decode b_M_core 218 = .ok (.iinc 6 1, 3) := by decide +kernel
theorem d_M_core_221 : decode b_M_core 221 = .ok (.goto (-75), 3) := by decide +kernel
theorem d_M_core_224 : decode b_M_core 224 = .ok (.aload_n 0, 1) := by decide +kernel
theorem d_M_core_225 : decode b_M_core 225 = .ok (.dup, 1) := by decide +kernel
theorem d_M_core_226 : decode b_M_core 226 = .ok (.getfield 32, 3) := by decide +kernel
theorem d_M_core_229 : decode b_M_core 229 = .ok (.iconst 1, 1) := by decide +kernel
theorem d_M_core_230 : decode b_M_core 230 = .ok (.iadd, 1) := by decide +kernel
theorem d_M_core_231 : decode b_M_core 231 = .ok (.putfield 32, 3) := by decide +kernel
theorem d_M_core_234 : decode b_M_core 234 = .ok (.aload_n 0, 1) := by decide +kernel
theorem d_M_core_235 : decode b_M_core 235 = .ok (.getfield 32, 3) := by decide +kernel
theorem d_M_core_238 : decode b_M_core 238 = .ok (.iconst 1, 1) := by decide +kernel
theorem d_M_core_239 : decode b_M_core 239 = .ok (.isub, 1) := by decide +kernel
theorem d_M_core_240 : decode b_M_core 240 = .ok (.ireturn, 1) := by decide +kernel
theorem d_M_joined_0 : decode b_M_joined 0 = .ok (.iconst 0, 1) := by decide +kernel
theorem d_M_joined_1 : decode b_M_joined 1 = .ok (.istore 5, 2) := by decide +kernel
theorem d_M_joined_3 : decode b_M_joined 3 = .ok (.iconst 1, 1) := by decide +kernel
theorem d_M_joined_4 : decode b_M_joined 4 = .ok (.aload_n 0, 1) := by decide +kernel
theorem d_M_joined_5 : decode b_M_joined 5 = .ok (.getfield 13, 3) := by decide +kernel
theorem d_M_joined_8 : decode b_M_joined 8 = .ok (.iload_n 2, 1) := by decide +kernel
theorem d_M_joined_9 : decode b_M_joined 9 = .ok (.iaload, 1) := by decide +kernel
theorem d_M_joined_10 : decode b_M_joined 10 = .ok (.isub, 1) := by decide +kernel
theorem d_M_joined_11 : decode b_M_joined 11 = .ok (.istore 6, 2) := by decide +kernel
theorem d_M_joined_13 : decode b_M_joined 13 = .ok (.iload 6, 2) := by decide +kernel
theorem d_M_joined_15 : decode b_M_joined 15 = .ok (.aload_n 0, 1) := by decide +kernel
theorem d_M_joined_16 : decode b_M_joined 16 = .ok (.getfield 13, 3) := by decide +kernel
theorem d_M_joined_19 : decode b_M_joined 19 = .ok (.iload_n 1, 1) := by decide +kernel
theorem d_M_joined_20 : decode b_M_joined 20 = .ok (.iaload, 1) := by decide +kernel
theorem d_M_joined_21 : decode b_M_joined 21 = .ok (.if_icmp .ge 46, 3) := by decide +kernel
theorem d_M_joined_24 : decode b_M_joined 24 = .ok (.aload_n 0, 1) := by decide +kernel
theorem d_M_joined_25 : decode b_M_joined 25 = .ok (.iload_n 1, 1) := by decide +kernel
theorem d_M_joined_26 : decode b_M_joined 26 = .ok (.iload_n 2, 1) := by decide +kernel
theorem d_M_joined_27 : decode b_M_joined 27 = .ok (.iload 6, 2) := by decide +kernel
theorem d_M_joined_29 : decode b_M_joined 29 = .ok (.invokevirtual 105, 3) := by decide +kernel
theorem d_M_joined_32 : decode b_M_joined 32 = .ok (.istore 7, 2) := by decide +kernel
theorem d_M_joined_34 : decode b_M_joined 34 = .ok (.iload 5, 2) := by decide +kernel
theorem d_M_joined_36 : decode b_M_joined 36 = .ok (.ifCond .ne 18, 3) := by decide +kernel
theorem d_M_joined_39 : decode b_M_joined 39 = .ok (.aload_n 0, 1) := by decide +kernel
theorem d_M_joined_40 : decode b_M_joined 40 = .ok (.getfield 75, 3) := by decide +kernel
theorem d_M_joined_43 : decode b_M_joined 43 = .ok (.iload_n 3, 1) := by decide +kernel
theorem d_M_joined_44 : decode b_M_joined 44 = .ok (.if_icmp .lt 14, 3) := by decide +kernel
theorem d_M_joined_47 : decode b_M_joined 47 = .ok (.iload 7, 2) := by decide +kernel
theorem d_M_joined_49 : decode b_M_joined 49 = .ok (.iload 4, 2) := by decide +kernel
theorem d_M_joined_51 : decode b_M_joined 51 = .ok (.if_icmp .lt 7, 3) := by decide +kernel
theorem d_M_joined_54 : decode b_M_joined 54 = .ok (.iconst 1, 1) := by decide +kernel
theorem d_M_joined_55 : decode b_M_joined 55 = .ok (.goto 4, 3) := by decide +kernel
theorem d_M_joined_58 : decode b_M_joined 58 = .ok (.iconst 0, 1) := by decide +kernel
theorem d_M_joined_59 : decode b_M_joined 59 = .ok (.istore 5, 2) := by decide +kernel
theorem d_M_joined_61 : decode b_M_joined 61 = .ok (.iinc 6 1, 3) := by decide +kernel
theorem d_M_joined_64 : decode b_M_joined 64 = .ok (.goto (-51), 3) := by decide +kernel
theorem d_M_joined_67 : decode b_M_joined 67 = .ok (.iload 5, 2) := by decide +kernel
theorem d_M_joined_69 : decode b_M_joined 69 = .ok (.ireturn, 1) := by decide +kernel
theorem d_M_group_0 : decode b_M_group 0 = .ok (.aload_n 0, 1) := by decide +kernel
theorem d_M_group_1 : decode b_M_group 1 = .ok (.aload_n 0, 1) := by decide +kernel
theorem d_M_group_2 : decode b_M_group 2 = .ok (.iload_n 1, 1) := by decide +kernel
theorem d_M_group_3 : decode b_M_group 3 = .ok (.invokevirtual 62, 3) := by decide +kernel
theorem d_M_group_6 : decode b_M_group 6 = .ok (.iload_n 2, 1) := by decide +kernel
theorem d_M_group_7 : decode b_M_group 7 = .ok (.iconst 3, 1) := by decide +kernel
theorem d_M_group_8 : decode b_M_group 8 = .ok (.bipush 24, 2) := by decide +kernel
theorem d_M_group_10 : decode b_M_group 10 = .ok (.invokestatic 35, 3) := by decide +kernel
theorem d_M_group_13 : decode b_M_group 13 = .ok (.iconst 1, 1) := by decide +kernel
theorem d_M_group_14 : decode b_M_group 14 = .ok (.invokevirtual 50, 3) := by decide +kernel
theorem d_M_group_17 : decode b_M_group 17 = .ok (.ifCond .ne 5, 3) := by decide +kernel
theorem d_M_group_20 : decode b_M_group 20 = .ok (.iconst 0, 1) := by decide +kernel
theorem d_M_group_21 : decode b_M_group 21 = .ok (.ireturn, 1) := by decide +kernel
theorem d_M_group_22 : decode b_M_group 22 = .ok (.iconst 1, 1) := by decide +kernel
theorem d_M_group_23 : decode b_M_group 23 = .ok (.iload_n 1, 1) := by decide +kernel
theorem d_M_group_24 : decode b_M_group 24 = .ok (.ishl, 1) := by decide +kernel
theorem d_M_group_25 : decode b_M_group 25 = .ok (.istore 4, 2) := by decide +kernel
theorem d_M_group_27 : decode b_M_group 27 = .ok (.iconst 0, 1) := by decide +kernel
theorem d_M_group_28 : decode b_M_group 28 = .ok (.istore 5, 2) := by decide +kernel
theorem d_M_group_30 : decode b_M_group 30 = .ok (.iload 5, 2) := by decide +kernel
theorem d_M_group_32 : decode b_M_group 32 = .ok (.aload_n 0, 1) := by decide +kernel
theorem d_M_group_33 : decode b_M_group 33 = .ok (.getfield 32, 3) := by decide +kernel
theorem d_M_group_36 : decode b_M_group 36 = .ok (.if_icmp .ge 105, 3) := by decide +kernel
theorem d_M_group_39 : decode b_M_group 39 = .ok (.iconst 0, 1) := by decide +kernel
theorem d_M_group_40 : decode b_M_group 40 = .ok (.istore 6, 2) := by decide +kernel
theorem d_M_group_42 : decode b_M_group 42 = .ok (.iload 6, 2) := by decide +kernel
theorem d_M_group_44 : decode b_M_group 44 = .ok (.aload_n 0, 1) := by decide +kernel
theorem d_M_group_45 : decode b_M_group 45 = .ok (.getfield 32, 3) := by decide +kernel
theorem d_M_group_48 : decode b_M_group 48 = .ok (.if_icmp .ge 87, 3) := by decide +kernel
theorem d_M_group_51 : decode b_M_group 51 = .ok (.iconst 0, 1) := by decide +kernel
theorem d_M_group_52 : decode b_M_group 52 = .ok (.istore 7, 2) := by decide +kernel
theorem d_M_group_54 : decode b_M_group 54 = .ok (.iload 7, 2) := by decide +kernel
theorem d_M_group_56 : decode b_M_group 56 = .ok (.aload_n 0, 1) := by decide +kernel
theorem d_M_group_57 : decode b_M_group 57 = .ok (.getfield 32, 3) := by decide +kernel
theorem d_M_group_60 : decode b_M_group 60 = .ok (.if_icmp .ge 69, 3) := by decide +kernel
theorem d_M_group_63 : decode b_M_group 63 = .ok (.iload 4, 2) := by decide +kernel
theorem d_M_group_65 : decode b_M_group 65 = .ok (.iload 6, 2) := by decide +kernel
theorem d_M_group_67 : decode b_M_group 67 = .ok (.ishr, 1) := by decide +kernel
theorem d_M_group_68 : decode b_M_group 68 = .ok (.iconst 1, 1) := by decide +kernel
theorem d_M_group_69 : decode b_M_group 69 = .ok (.iand, 1) := by decide +kernel
theorem d_M_group_70 : decode b_M_group 70 = .ok (.iconst 1, 1) := by decide +kernel
theorem d_M_group_71 : decode b_M_group 71 = .ok (.if_icmp .ne 17, 3) := by decide +kernel
theorem d_M_group_74 : decode b_M_group 74 = .ok (.iload 4, 2) := by decide +kernel
theorem d_M_group_76 : decode b_M_group 76 = .ok (.iload 7, 2) := by decide +kernel
theorem d_M_group_78 : decode b_M_group 78 = .ok (.ishr, 1) := by decide +kernel
theorem d_M_group_79 : decode b_M_group 79 = .ok (.iconst 1, 1) := by decide +kernel
theorem d_M_group_80 : decode b_M_group 80 = .ok (.iand, 1) := by decide +kernel
theorem d_M_group_81 : decode b_M_group 81 = .ok (.ifCond .ne 7, 3) := by decide +kernel
theorem d_M_group_84 : decode b_M_group 84 = .ok (.iconst 1, 1) := by decide +kernel
theorem d_M_group_85 : decode b_M_group 85 = .ok (.goto 4, 3) := by decide +kernel
theorem d_M_group_88 : decode b_M_group 88 = .ok (.iconst 0, 1) := by decide +kernel
theorem d_M_group_89 : decode b_M_group 89 = .ok (.istore 8, 2) := by decide +kernel
theorem d_M_group_91 : decode b_M_group 91 = .ok (.iload 8, 2) := by decide +kernel
theorem d_M_group_93 : decode b_M_group 93 = .ok (.ifCond .eq 26, 3) := by decide +kernel
theorem d_M_group_96 : decode b_M_group 96 = .ok (.aload_n 0, 1) := by decide +kernel
theorem d_M_group_97 : decode b_M_group 97 = .ok (.iload 6, 2) := by decide +kernel
theorem d_M_group_99 : decode b_M_group 99 = .ok (.iload 7, 2) := by decide +kernel
theorem d_M_group_101 : decode b_M_group 101 = .ok (.iload_n 2, 1) := by decide +kernel
theorem d_M_group_102 : decode b_M_group 102 = .ok (.iload_n 3, 1) := by decide +kernel
theorem d_M_group_103 : decode b_M_group 103 = .ok (.invokevirtual 134, 3) := by decide +kernel
theorem d_M_group_106 : decode b_M_group 106 = .ok (.ifCond .eq 13, 3) := by decide +kernel
theorem d_M_group_109 : decode b_M_group 109 = .ok (.iload 4, 2) := by decide +kernel
theorem d_M_group_111 : decode b_M_group 111 = .ok (.iconst 1, 1) := by decide +kernel
theorem d_M_group_112 : decode b_M_group 112 = .ok (.iload 7, 2) := by decide +kernel
theorem d_M_group_114 : decode b_M_group 114 = .ok (.ishl, 1) := by decide +kernel
theorem d_M_group_115 : decode b_M_group 115 = .ok (.ior, 1) := by decide +kernel
theorem d_M_group_116 : decode b_M_group 116 = .ok (.goto 5, 3) := by decide +kernel
theorem d_M_group_119 : decode b_M_group 119 = .ok (.iload 4, 2) := by decide +kernel
theorem d_M_group_121 : decode b_M_group 121 = .ok (.istore 4, 2) := by decide +kernel
theorem d_M_group_123 : decode b_M_group 123 = .ok (.iinc 7 1, 3) := by decide +kernel
theorem d_M_group_126 : decode b_M_group 126 = .ok (.goto (-72), 3) := by decide +kernel
theorem d_M_group_129 : decode b_M_group 129 = .ok (.iinc 6 1, 3) := by decide +kernel
theorem d_M_group_132 : decode b_M_group 132 = .ok (.goto (-90), 3) := by decide +kernel
theorem d_M_group_135 : decode b_M_group 135 = .ok (.iinc 5 1, 3) := by decide +kernel
theorem d_M_group_138 : decode b_M_group 138 = .ok (.goto (-108), 3) := by decide +kernel
theorem d_M_group_141 : decode b_M_group 141 = .ok (.iconst 0, 1) := by decide +kernel
theorem d_M_group_142 : decode b_M_group 142 = .ok (.istore 5, 2) := by decide +kernel
theorem d_M_group_144 : decode b_M_group 144 = .ok (.iload 4, 2) := by decide +kernel
theorem d_M_group_146 : decode b_M_group 146 = .ok (.iload 5, 2) := by decide +kernel
theorem d_M_group_148 : decode b_M_group 148 = .ok (.ishr, 1) := by decide +kernel
theorem d_M_group_149 : decode b_M_group 149 = .ok (.iconst 1, 1) := by decide +kernel
theorem d_M_group_150 : decode b_M_group 150 = .ok (.iand, 1) := by decide +kernel
theorem d_M_group_151 : decode b_M_group 151 = .ok (.ifCond .ne 9, 3) := by decide +kernel
theorem d_M_group_154 : decode b_M_group 154 = .ok (.iinc 5 1, 3) := by decide +kernel
theorem d_M_group_157 : decode b_M_group 157 = .ok (.goto (-13), 3) := by decide +kernel
theorem d_M_group_160 : decode b_M_group 160 = .ok (.iload 5, 2) := by decide +kernel
theorem d_M_group_162 : decode b_M_group 162 = .ok (.ireturn, 1) := by decide +kernel
theorem d_M_count_0 : decode b_M_count 0 = .ok (.aload_n 0, 1) := by decide +kernel
theorem d_M_count_1 : decode b_M_count 1 = .ok (.iload_n 1, 1) := by decide +kernel
theorem d_M_count_2 : decode b_M_count 2 = .ok (.iconst 0, 1) := by decide +kernel
theorem d_M_count_3 : decode b_M_count 3 = .ok (.iconst 3, 1) := by decide +kernel
theorem d_M_count_4 : decode b_M_count 4 = .ok (.invokestatic 35, 3) := by decide +kernel
theorem d_M_count_7 : decode b_M_count 7 = .ok (.iconst 1, 1) := by decide +kernel
theorem d_M_count_8 : decode b_M_count 8 = .ok (.iconst 1, 1) := by decide +kernel
theorem d_M_count_9 : decode b_M_count 9 = .ok (.invokevirtual 50, 3) := by decide +kernel
theorem d_M_count_12 : decode b_M_count 12 = .ok (.ifCond .ne 5, 3) := by decide +kernel
theorem d_M_count_15 : decode b_M_count 15 = .ok (.iconst 0, 1) := by decide +kernel
theorem d_M_count_16 : decode b_M_count 16 = .ok (.ireturn, 1) := by decide +kernel
theorem d_M_count_17 : decode b_M_count 17 = .ok (.iload_n 1, 1) := by decide +kernel
theorem d_M_count_18 : decode b_M_count 18 = .ok (.ifCond .ne 10, 3) := by decide +kernel
theorem d_M_count_21 : decode b_M_count 21 = .ok (.aload_n 0, 1) := by decide +kernel
theorem d_M_count_22 : decode b_M_count 22 = .ok (.getfield 39, 3) := by decide +kernel
theorem d_M_count_25 : decode b_M_count 25 = .ok (.goto 31, 3) := by decide +kernel
theorem d_M_count_28 : decode b_M_count 28 = .ok (.iload_n 1, 1) := by decide +kernel
theorem d_M_count_29 : decode b_M_count 29 = .ok (.iconst 1, 1) := by decide +kernel
theorem d_M_count_30 : decode b_M_count 30 = .ok (.if_icmp .ne 10, 3) := by decide +kernel
theorem d_M_count_33 : decode b_M_count 33 = .ok (.aload_n 0, 1) := by decide +kernel
theorem d_M_count_34 : decode b_M_count 34 = .ok (.getfield 32, 3) := by decide +kernel
theorem d_M_count_37 : decode b_M_count 37 = .ok (.goto 19, 3) := by decide +kernel
theorem d_M_count_40 : decode b_M_count 40 = .ok (.iload_n 1, 1) := by decide +kernel
theorem d_M_count_41 : decode b_M_count 41 = .ok (.iconst 2, 1) := by decide +kernel
theorem d_M_count_42 : decode b_M_count 42 = .ok (.if_icmp .ne 10, 3) := by decide +kernel
theorem d_M_count_45 : decode b_M_count 45 = .ok (.aload_n 0, 1) := by decide +kernel
theorem d_M_count_46 : decode b_M_count 46 = .ok (.getfield 102, 3) := by decide +kernel
theorem d_M_count_49 : decode b_M_count 49 = .ok (.goto 7, 3) := by decide +kernel
theorem d_M_count_52 : decode b_M_count 52 = .ok (.aload_n 0, 1) := by decide +kernel
theorem d_M_count_53 : decode b_M_count 53 = .ok (.getfield 109, 3) := by decide +kernel
theorem d_M_count_56 : decode b_M_count 56 = .ok (.ireturn, 1) := by decide +kernel
