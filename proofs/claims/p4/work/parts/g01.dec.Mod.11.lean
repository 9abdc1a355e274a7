theorem d_Mod_walkFrom_34 : decode b_Mod_walkFrom 34 = .ok (.aload_n 0, 1) := by decide +kernel
theorem d_Mod_walkFrom_35 : decode b_Mod_walkFrom 35 = .ok (.getfield 47, 3) := by decide +kernel
theorem d_Mod_walkFrom_38 : decode b_Mod_walkFrom 38 = .ok (.iload_n 2, 1) := by decide +kernel
theorem d_Mod_walkFrom_39 : decode b_Mod_walkFrom 39 = .ok (.iconst 1, 1) := by decide +kernel
theorem d_Mod_walkFrom_40 : decode b_Mod_walkFrom 40 = .ok (.isub, 1) := by decide +kernel
theorem d_Mod_walkFrom_41 : decode b_Mod_walkFrom 41 = .ok (.iaload, 1) := by decide +kernel
theorem d_Mod_walkFrom_42 : decode b_Mod_walkFrom 42 = .ok (.istore_n 3, 1) := by decide +kernel
theorem d_Mod_walkFrom_43 : decode b_Mod_walkFrom 43 = .ok (.aload_n 0, 1) := by decide +kernel
theorem d_Mod_walkFrom_44 : decode b_Mod_walkFrom 44 = .ok (.getfield 50, 3) := by decide +kernel
theorem d_Mod_walkFrom_47 : decode b_Mod_walkFrom 47 = .ok (.iload_n 2, 1) := by decide +kernel
theorem d_Mod_walkFrom_48 : decode b_Mod_walkFrom 48 = .ok (.iconst 1, 1) := by decide +kernel
theorem d_Mod_walkFrom_49 : decode b_Mod_walkFrom 49 = .ok (.isub, 1) := by decide +kernel
theorem d_Mod_walkFrom_50 : decode b_Mod_walkFrom 50 = .ok (.iaload, 1) := by decide +kernel
theorem d_Mod_walkFrom_51 : decode b_Mod_walkFrom 51 = .ok (.istore 4, 2) := by decide +kernel
theorem d_Mod_walkFrom_53 : decode b_Mod_walkFrom 53 = .ok (.aload_n 0, 1) := by decide +kernel
theorem d_Mod_walkFrom_54 : decode b_Mod_walkFrom 54 = .ok (.getfield 50, 3) := by decide +kernel
theorem d_Mod_walkFrom_57 : decode b_Mod_walkFrom 57 = .ok (.iload_n 2, 1) := by decide +kernel
theorem d_Mod_walkFrom_58 : decode b_Mod_walkFrom 58 = .ok (.iconst 1, 1) := by decide +kernel
theorem d_Mod_walkFrom_59 : decode b_Mod_walkFrom 59 = .ok (.isub, 1) := by decide +kernel
theorem d_Mod_walkFrom_60 : decode b_Mod_walkFrom 60 = .ok (.dup2, 1) := by decide +kernel
theorem d_Mod_walkFrom_61 : decode b_Mod_walkFrom 61 = .ok (.iaload, 1) := by decide +kernel
theorem d_Mod_walkFrom_62 : decode b_Mod_walkFrom 62 = .ok (.iconst 1, 1) := by decide +kernel
theorem d_Mod_walkFrom_63 : decode b_Mod_walkFrom 63 = .ok (.iadd, 1) := by decide +kernel
theorem d_Mod_walkFrom_64 : decode b_Mod_walkFrom 64 = .ok (.iastore, 1) := by decide +kernel
theorem d_Mod_walkFrom_65 : decode b_Mod_walkFrom 65 = .ok (.iload 4, 2) := by decide +kernel
theorem d_Mod_walkFrom_67 : decode b_Mod_walkFrom 67 = .ok (.aload_n 0, 1) := by decide +kernel
theorem d_Mod_walkFrom_68 : decode b_Mod_walkFrom 68 = .ok (.getfield 106, 3) := by decide +kernel
theorem d_Mod_walkFrom_71 : decode b_Mod_walkFrom 71 = .ok (.if_icmp .ne 9, 3) := by decide +kernel
theorem d_Mod_walkFrom_74 : decode b_Mod_walkFrom 74 = .ok (.iinc 2 (-1), 3) := by decide +kernel
theorem d_Mod_walkFrom_77 : decode b_Mod_walkFrom 77 = .ok (.goto 155, 3) := by decide +kernel
theorem d_Mod_walkFrom_80 : decode b_Mod_walkFrom 80 = .ok (.aload_n 0, 1) := by decide +kernel
theorem d_Mod_walkFrom_81 : decode b_Mod_walkFrom 81 = .ok (.getfield 38, 3) := by decide +kernel
theorem d_Mod_walkFrom_84 : decode b_Mod_walkFrom 84 = .ok (.iload 4, 2) := by decide +kernel
theorem d_Mod_walkFrom_86 : decode b_Mod_walkFrom 86 = .ok (.iaload, 1) := by decide +kernel
theorem d_Mod_walkFrom_87 : decode b_Mod_walkFrom 87 = .ok (.ifCond .ne 145, 3) := by decide +kernel
theorem d_Mod_walkFrom_90 : decode b_Mod_walkFrom 90 = .ok (.aload_n 0, 1) := by decide +kernel
theorem d_Mod_walkFrom_91 : decode b_Mod_walkFrom 91 = .ok (.getfield 26, 3) := by decide +kernel
theorem d_Mod_walkFrom_94 : decode b_Mod_walkFrom 94 = .ok (.iload 4, 2) := by decide +kernel
theorem d_Mod_walkFrom_96 : decode b_Mod_walkFrom 96 = .ok (.iaload, 1) := by decide +kernel
theorem d_Mod_walkFrom_97 : decode b_Mod_walkFrom 97 = .ok (.iload_n 3, 1) := by decide +kernel
theorem d_Mod_walkFrom_98 : decode b_Mod_walkFrom 98 = .ok (.if_icmp .eq 14, 3) := by decide +kernel
theorem d_Mod_walkFrom_101 : decode b_Mod_walkFrom 101 = .ok (.aload_n 0, 1) := by decide +kernel
theorem d_Mod_walkFrom_102 : decode b_Mod_walkFrom 102 = .ok (.getfield 29, 3) := by decide +kernel
theorem d_Mod_walkFrom_105 : decode b_Mod_walkFrom 105 = .ok (.iload 4, 2) := by decide +kernel
theorem d_Mod_walkFrom_107 : decode b_Mod_walkFrom 107 = .ok (.iaload, 1) := by decide +kernel
theorem d_Mod_walkFrom_108 : decode b_Mod_walkFrom 108 = .ok (.iload_n 3, 1) := by decide +kernel
theorem d_Mod_walkFrom_109 : decode b_Mod_walkFrom 109 = .ok (.if_icmp .ne 123, 3) := by decide +kernel
theorem d_Mod_walkFrom_112 : decode b_Mod_walkFrom 112 = .ok (.aload_n 0, 1) := by decide +kernel
theorem d_Mod_walkFrom_113 : decode b_Mod_walkFrom 113 = .ok (.getfield 26, 3) := by decide +kernel
theorem d_Mod_walkFrom_116 : decode b_Mod_walkFrom 116 = .ok (.iload 4, 2) := by decide +kernel
theorem d_Mod_walkFrom_118 : decode b_Mod_walkFrom 118 = .ok (.iaload, 1) := by decide +kernel
theorem d_Mod_walkFrom_119 : decode b_Mod_walkFrom 119 = .ok (.iload_n 3, 1) := by decide +kernel
theorem d_Mod_walkFrom_120 : decode b_Mod_walkFrom 120 = .ok (.if_icmp .ne 13, 3) := by decide +kernel
theorem d_Mod_walkFrom_123 : decode b_Mod_walkFrom 123 = .ok (.aload_n 0, 1) := by decide +kernel
theorem d_Mod_walkFrom_124 : decode b_Mod_walkFrom 124 = .ok (.getfield 29, 3) := by decide +kernel
theorem d_Mod_walkFrom_127 : decode b_Mod_walkFrom 127 = .ok (.iload 4, 2) := by decide +kernel
theorem d_Mod_walkFrom_129 : decode b_Mod_walkFrom 129 = .ok (.iaload, 1) := by decide +kernel
theorem d_Mod_walkFrom_130 : decode b_Mod_walkFrom 130 = .ok (.goto 10, 3) := by decide +kernel
theorem d_Mod_walkFrom_133 : decode b_Mod_walkFrom 133 = .ok (.aload_n 0, 1) := by decide +kernel
theorem d_Mod_walkFrom_134 : decode b_Mod_walkFrom 134 = .ok (.getfield 26, 3) := by decide +kernel
theorem d_Mod_walkFrom_137 : decode b_Mod_walkFrom 137 = .ok (.iload 4, 2) := by decide +kernel
theorem d_Mod_walkFrom_139 : decode b_Mod_walkFrom 139 = .ok (.iaload, 1) := by decide +kernel
theorem d_Mod_walkFrom_140 : decode b_Mod_walkFrom 140 = .ok (.istore 5, 2) := by decide +kernel
theorem d_Mod_walkFrom_142 : decode b_Mod_walkFrom 142 = .ok (.aload_n 0, 1) := by decide +kernel
theorem d_Mod_walkFrom_143 : decode b_Mod_walkFrom 143 = .ok (.getfield 32, 3) := by decide +kernel
theorem d_Mod_walkFrom_146 : decode b_Mod_walkFrom 146 = .ok (.iload 4, 2) := by decide +kernel
theorem d_Mod_walkFrom_148 : decode b_Mod_walkFrom 148 = .ok (.iload_n 3, 1) := by decide +kernel
theorem d_Mod_walkFrom_149 : decode b_Mod_walkFrom 149 = .ok (.iastore, 1) := by decide +kernel
theorem d_Mod_walkFrom_150 : decode b_Mod_walkFrom 150 = .ok (.aload_n 0, 1) := by decide +kernel
theorem d_Mod_walkFrom_151 : decode b_Mod_walkFrom 151 = .ok (.getfield 35, 3) := by decide +kernel
theorem d_Mod_walkFrom_154 : decode b_Mod_walkFrom 154 = .ok (.iload 4, 2) := by decide +kernel
theorem d_Mod_walkFrom_156 : decode b_Mod_walkFrom 156 = .ok (.iload 5, 2) := by decide +kernel
theorem d_Mod_walkFrom_158 : decode b_Mod_walkFrom 158 = .ok (.iastore, 1) := by decide +kernel
theorem d_Mod_walkFrom_159 : decode b_Mod_walkFrom 159 = .ok (.aload_n 0, 1) := by decide +kernel
theorem d_Mod_walkFrom_160 : decode b_Mod_walkFrom 160 = .ok (.getfield 38, 3) := by decide +kernel
theorem d_Mod_walkFrom_163 : decode b_Mod_walkFrom 163 = .ok (.iload 4, 2) := by decide +kernel
theorem d_Mod_walkFrom_165 : decode b_Mod_walkFrom 165 = .ok (.aload_n 0, 1) := by decide +kernel
theorem d_Mod_walkFrom_166 : decode b_Mod_walkFrom 166 = .ok (.getfield 41, 3) := by decide +kernel
theorem d_Mod_walkFrom_169 : decode b_Mod_walkFrom 169 = .ok (.iload 5, 2) := by decide +kernel
theorem d_Mod_walkFrom_171 : decode b_Mod_walkFrom 171 = .ok (.iaload, 1) := by decide +kernel
theorem d_Mod_walkFrom_172 : decode b_Mod_walkFrom 172 = .ok (.ifCond .ge 7, 3) := by decide +kernel
theorem d_Mod_walkFrom_175 : decode b_Mod_walkFrom 175 = .ok (.iconst 1, 1) := by decide +kernel
theorem d_Mod_walkFrom_176 : decode b_Mod_walkFrom 176 = .ok (.goto 4, 3) := by decide +kernel
theorem d_Mod_walkFrom_179 : decode b_Mod_walkFrom 179 = .ok (.iconst 2, 1) := by decide +kernel
theorem d_Mod_walkFrom_180 : decode b_Mod_walkFrom 180 = .ok (.iastore, 1) := by decide +kernel
theorem d_Mod_walkFrom_181 : decode b_Mod_walkFrom 181 = .ok (.aload_n 0, 1) := by decide +kernel
theorem d_Mod_walkFrom_182 : decode b_Mod_walkFrom 182 = .ok (.getfield 41, 3) := by decide +kernel
theorem d_Mod_walkFrom_185 : decode b_Mod_walkFrom 185 = .ok (.iload 5, 2) := by decide +kernel
theorem d_Mod_walkFrom_187 : decode b_Mod_walkFrom 187 = .ok (.iaload, 1) := by decide +kernel
theorem d_Mod_walkFrom_188 : decode b_Mod_walkFrom 188 = .ok (.ifCond .ge 44, 3) := by decide +kernel
theorem d_Mod_walkFrom_191 : decode b_Mod_walkFrom 191 = .ok (.aload_n 0, 1) := by decide +kernel
theorem d_Mod_walkFrom_192 : decode b_Mod_walkFrom 192 = .ok (.getfield 41, 3) := by decide +kernel
theorem d_Mod_walkFrom_195 : decode b_Mod_walkFrom 195 = .ok (.iload 5, 2) := by decide +kernel
theorem d_Mod_walkFrom_197 : decode b_Mod_walkFrom 197 = .ok (.aload_n 0, 1) := by decide +kernel
theorem d_Mod_walkFrom_198 : decode b_Mod_walkFrom 198 = .ok (.getfield 41, 3) := by decide +kernel
theorem d_Mod_walkFrom_201 : decode b_Mod_walkFrom 201 = .ok (.iload_n 3, 1) := by decide +kernel
theorem d_Mod_walkFrom_202 : decode b_Mod_walkFrom 202 = .ok (.iaload, 1) := by decide +kernel
theorem d_Mod_walkFrom_203 : decode b_Mod_walkFrom 203 = .ok (.iconst 1, 1) := by decide +kernel
theorem d_Mod_walkFrom_204 : decode b_Mod_walkFrom 204 = .ok (.iadd, 1) := by decide +kernel
theorem d_Mod_walkFrom_205 : decode b_Mod_walkFrom 205 = .ok (.iastore, 1) := by decide +kernel
theorem d_Mod_walkFrom_206 : decode b_Mod_walkFrom 206 = .ok (.aload_n 0, 1) := by decide +kernel
theorem d_Mod_walkFrom_207 : decode b_Mod_walkFrom 207 = .ok (.getfield 44, 3) := by decide +kernel
theorem d_Mod_walkFrom_210 : decode b_Mod_walkFrom 210 = .ok (.iload 5, 2) := by decide +kernel
theorem d_Mod_walkFrom_212 : decode b_Mod_walkFrom 212 = .ok (.iload_n 3, 1) := by decide +kernel
theorem d_Mod_walkFrom_213 : decode b_Mod_walkFrom 213 = .ok (.iastore, 1) := by decide +kernel
theorem d_Mod_walkFrom_214 : decode b_Mod_walkFrom 214 = .ok (.aload_n 0, 1) := by decide +kernel
theorem d_Mod_walkFrom_215 : decode b_Mod_walkFrom 215 = .ok (.getfield 47, 3) := by decide +kernel
theorem d_Mod_walkFrom_218 : decode b_Mod_walkFrom 218 = .ok (.iload_n 2, 1) := by decide +kernel
theorem d_Mod_walkFrom_219 : decode b_Mod_walkFrom 219 = .ok (.iload 5, 2) := by decide +kernel
theorem d_Mod_walkFrom_221 : decode b_Mod_walkFrom 221 = .ok (.iastore, 1) := by decide +kernel
theorem d_Mod_walkFrom_222 : decode b_Mod_walkFrom 222 = .ok (.aload_n 0, 1) := by decide +kernel
theorem d_Mod_walkFrom_223 : decode b_Mod_walkFrom 223 = .ok (.getfield 50, 3) := by decide +kernel
theorem d_Mod_walkFrom_226 : decode b_Mod_walkFrom 226 = .ok (.iload_n 2, 1) := by decide +kernel
theorem d_Mod_walkFrom_227 : decode b_Mod_walkFrom 227 = .ok (.iconst 0, 1) := by decide +kernel
theorem d_Mod_walkFrom_228 : decode b_Mod_walkFrom 228 = .ok (.iastore, 1) := by decide +kernel
theorem d_Mod_walkFrom_229 : decode b_Mod_walkFrom 229 = .ok (.iinc 2 1, 3) := by decide +kernel
theorem d_Mod_walkFrom_232 : decode b_Mod_walkFrom 232 = .ok (.goto (-202), 3) := by decide +kernel
theorem d_Mod_walkFrom_235 : decode b_Mod_walkFrom 235 = .ok (.return_, 1) := by decide +kernel
theorem d_Mod_witness_0 : decode b_Mod_witness 0 = .ok (.aload_n 0, 1) := by decide +kernel
theorem d_Mod_witness_1 : decode b_Mod_witness 1 = .ok (.iconst 0, 1) := by decide +kernel
theorem d_Mod_witness_2 : decode b_Mod_witness 2 = .ok (.putfield 68, 3) := by decide +kernel
theorem d_Mod_witness_5 : decode b_Mod_witness 5 = .ok (.aload_n 0, 1) := by decide +kernel
theorem d_Mod_witness_6 : decode b_Mod_witness 6 = .ok (.invokevirtual 157, 3) := by decide +kernel
theorem d_Mod_witness_9 : decode b_Mod_witness 9 = .ok (.istore_n 1, 1) := by decide +kernel
theorem d_Mod_witness_10 : decode b_Mod_witness 10 = .ok (.iload_n 1, 1) := by decide +kernel
theorem d_Mod_witness_11 : decode b_Mod_witness 11 = .ok (.ifCond .ne 7, 3) := by decide +kernel
theorem d_Mod_witness_14 : decode b_Mod_witness 14 = .ok (.iconst 0, 1) := by decide +kernel
theorem d_Mod_witness_15 : decode b_Mod_witness 15 = .ok (.goto 18, 3) := by decide +kernel
theorem d_Mod_witness_18 : decode b_Mod_witness 18 = .ok (.aload_n 0, 1) := by decide +kernel
theorem d_Mod_witness_19 : decode b_Mod_witness 19 = .ok (.iload_n 1, 1) := by decide +kernel
theorem d_Mod_witness_20 : decode b_Mod_witness 20 = .ok (.invokevirtual 160, 3) := by decide +kernel
theorem d_Mod_witness_23 : decode b_Mod_witness 23 = .ok (.iconst 5, 1) := by decide +kernel
theorem d_Mod_witness_24 : decode b_Mod_witness 24 = .ok (.if_icmp .ne 7, 3) := by decide +kernel
theorem d_Mod_witness_27 : decode b_Mod_witness 27 = .ok (.iconst 5, 1) := by decide +kernel
theorem d_Mod_witness_28 : decode b_Mod_witness 28 = .ok (.goto 5, 3) := by decide +kernel
theorem d_Mod_witness_31 : decode b_Mod_witness 31 = .ok (.bipush 33, 2) := by decide +kernel
theorem d_Mod_witness_33 : decode b_Mod_witness 33 = .ok (.ireturn, 1) := by decide +kernel
theorem d_Mod_wrong_0 : decode b_Mod_wrong 0 = .ok (.aload_n 0, 1) := by decide +kernel
theorem d_Mod_wrong_1 : decode b_Mod_wrong 1 = .ok (.iconst 0, 1) := by decide +kernel
theorem d_Mod_wrong_2 : decode b_Mod_wrong 2 = .ok (.putfield 68, 3) := by decide +kernel
theorem d_Mod_wrong_5 : decode b_Mod_wrong 5 = .ok (.aload_n 0, 1) := by decide +kernel
theorem d_Mod_wrong_6 : decode b_Mod_wrong 6 = .ok (.invokevirtual 203, 3) := by decide +kernel
theorem d_Mod_wrong_9 : decode b_Mod_wrong 9 = .ok (.ireturn, 1) := by decide +kernel
theorem d_Mod_wrongNodes_0 : decode b_Mod_wrongNodes 0 = .ok (.iconst 0, 1) := by decide +kernel
theorem d_Mod_wrongNodes_1 : decode b_Mod_wrongNodes 1 = .ok (.istore_n 1, 1) := by decide +kernel
theorem d_Mod_wrongNodes_2 : decode b_Mod_wrongNodes 2 = .ok (.iconst 0, 1) := by decide +kernel
theorem d_Mod_wrongNodes_3 : decode b_Mod_wrongNodes 3 = .ok (.istore_n 2, 1) := by decide +kernel
theorem d_Mod_wrongNodes_4 : decode b_Mod_wrongNodes 4 = .ok (.iload_n 2, 1) := by decide +kernel
theorem d_Mod_wrongNodes_5 : decode b_Mod_wrongNodes 5 = .ok (.bipush 10, 2) := by decide +kernel
theorem d_Mod_wrongNodes_7 : decode b_Mod_wrongNodes 7 = .ok (.if_icmp .ge 34, 3) := by decide +kernel
theorem d_Mod_wrongNodes_10 : decode b_Mod_wrongNodes 10 = .ok (.aload_n 0, 1) := by decide +kernel
theorem d_Mod_wrongNodes_11 : decode b_Mod_wrongNodes 11 = .ok (.getfield 7, 3) := by decide +kernel
theorem d_Mod_wrongNodes_14 : decode b_Mod_wrongNodes 14 = .ok (.iload_n 2, 1) := by decide +kernel
theorem d_Mod_wrongNodes_15 : decode b_Mod_wrongNodes 15 = .ok (.baload, 1) := by decide +kernel
theorem d_Mod_wrongNodes_16 : decode b_Mod_wrongNodes 16 = .ok (.ifCond .eq 17, 3) := by decide +kernel
theorem d_Mod_wrongNodes_19 : decode b_Mod_wrongNodes 19 = .ok (.aload_n 0, 1) := by decide +kernel
theorem d_Mod_wrongNodes_20 : decode b_Mod_wrongNodes 20 = .ok (.iload_n 2, 1) := by decide +kernel
theorem d_Mod_wrongNodes_21 : decode b_Mod_wrongNodes 21 = .ok (.invokevirtual 200, 3) := by decide +kernel
theorem d_Mod_wrongNodes_24 : decode b_Mod_wrongNodes 24 = .ok (.ifCond .eq 9, 3) := by decide +kernel
theorem d_Mod_wrongNodes_27 : decode b_Mod_wrongNodes 27 = .ok (.iload_n 1, 1) := by decide +kernel
theorem d_Mod_wrongNodes_28 : decode b_Mod_wrongNodes 28 = .ok (.iconst 1, 1) := by decide +kernel
theorem d_Mod_wrongNodes_29 : decode b_Mod_wrongNodes 29 = .ok (.iadd, 1) := by decide +kernel
theorem d_Mod_wrongNodes_30 : decode b_Mod_wrongNodes 30 = .ok (.goto 4, 3) := by decide +kernel
theorem d_Mod_wrongNodes_33 : decode b_Mod_wrongNodes 33 = .ok (.iload_n 1, 1) := by decide +kernel
theorem d_Mod_wrongNodes_34 : decode b_Mod_wrongNodes 34 = .ok (.istore_n 1, 1) := by decide +kernel
theorem d_Mod_wrongNodes_35 : decode b_Mod_wrongNodes 35 = .ok (.iinc 2 1, 3) := by decide +kernel
theorem d_Mod_wrongNodes_38 : decode b_Mod_wrongNodes 38 = .ok (.goto (-34), 3) := by decide +kernel
theorem d_Mod_wrongNodes_41 : decode b_Mod_wrongNodes 41 = .ok (.iload_n 1, 1) := by decide +kernel
theorem d_Mod_wrongNodes_42 : decode b_Mod_wrongNodes 42 = .ok (.ireturn, 1) := by decide +kernel
