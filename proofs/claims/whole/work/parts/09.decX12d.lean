theorem dX12_galois_80 : decode cX12_galois 80 = .ok (.aload_n 0, 1) := by decide +kernel
theorem dX12_galois_81 : decode cX12_galois 81 = .ok (.getfield 137, 3) := by decide +kernel
theorem dX12_galois_84 : decode cX12_galois 84 = .ok (.invokevirtual 201, 3) := by decide +kernel
theorem dX12_galois_87 : decode cX12_galois 87 = .ok (.aload_n 0, 1) := by decide +kernel
theorem dX12_galois_88 : decode cX12_galois 88 = .ok (.getfield 65, 3) := by decide +kernel
theorem dX12_galois_91 : decode cX12_galois 91 = .ok (.iconst 0, 1) := by decide +kernel
theorem dX12_galois_92 : decode cX12_galois 92 = .ok (.aload_n 0, 1) := by decide +kernel
theorem dX12_galois_93 : decode cX12_galois 93 = .ok (.getfield 53, 3) := by decide +kernel
theorem dX12_galois_96 : decode cX12_galois 96 = .ok (.iconst 0, 1) := by decide +kernel
theorem dX12_galois_97 : decode cX12_galois 97 = .ok (.bipush 16, 2) := by decide +kernel
theorem dX12_galois_99 : decode cX12_galois 99 = .ok (.invokestatic 133, 3) := by decide +kernel
theorem dX12_galois_102 : decode cX12_galois 102 = .ok (.aload_n 0, 1) := by decide +kernel
theorem dX12_galois_103 : decode cX12_galois 103 = .ok (.getfield 65, 3) := by decide +kernel
theorem dX12_galois_106 : decode cX12_galois 106 = .ok (.iconst 0, 1) := by decide +kernel
theorem dX12_galois_107 : decode cX12_galois 107 = .ok (.aload_n 0, 1) := by decide +kernel
theorem dX12_galois_108 : decode cX12_galois 108 = .ok (.getfield 83, 3) := by decide +kernel
theorem dX12_galois_111 : decode cX12_galois 111 = .ok (.iconst 0, 1) := by decide +kernel
theorem dX12_galois_112 : decode cX12_galois 112 = .ok (.bipush 16, 2) := by decide +kernel
theorem dX12_galois_114 : decode cX12_galois 114 = .ok (.invokestatic 133, 3) := by decide +kernel
theorem dX12_galois_117 : decode cX12_galois 117 = .ok (.aload_n 0, 1) := by decide +kernel
theorem dX12_galois_118 : decode cX12_galois 118 = .ok (.iconst 0, 1) := by decide +kernel
theorem dX12_galois_119 : decode cX12_galois 119 = .ok (.aload_n 0, 1) := by decide +kernel
theorem dX12_galois_120 : decode cX12_galois 120 = .ok (.getfield 83, 3) := by decide +kernel
theorem dX12_galois_123 : decode cX12_galois 123 = .ok (.iconst 0, 1) := by decide +kernel
theorem dX12_galois_124 : decode cX12_galois 124 = .ok (.invokevirtual 146, 3) := by decide +kernel
theorem dX12_galois_127 : decode cX12_galois 127 = .ok (.aload_n 0, 1) := by decide +kernel
theorem dX12_galois_128 : decode cX12_galois 128 = .ok (.getfield 53, 3) := by decide +kernel
theorem dX12_galois_131 : decode cX12_galois 131 = .ok (.bipush 12, 2) := by decide +kernel
theorem dX12_galois_133 : decode cX12_galois 133 = .ok (.invokestatic 168, 3) := by decide +kernel
theorem dX12_galois_136 : decode cX12_galois 136 = .ok (.aload_n 0, 1) := by decide +kernel
theorem dX12_galois_137 : decode cX12_galois 137 = .ok (.iconst 0, 1) := by decide +kernel
theorem dX12_galois_138 : decode cX12_galois 138 = .ok (.iconst 0, 1) := by decide +kernel
theorem dX12_galois_139 : decode cX12_galois 139 = .ok (.iconst 0, 1) := by decide +kernel
theorem dX12_galois_140 : decode cX12_galois 140 = .ok (.iload_n 2, 1) := by decide +kernel
theorem dX12_galois_141 : decode cX12_galois 141 = .ok (.bipush 12, 2) := by decide +kernel
theorem dX12_galois_143 : decode cX12_galois 143 = .ok (.invokevirtual 204, 3) := by decide +kernel
theorem dX12_galois_146 : decode cX12_galois 146 = .ok (.aload_n 0, 1) := by decide +kernel
theorem dX12_galois_147 : decode cX12_galois 147 = .ok (.getfield 65, 3) := by decide +kernel
theorem dX12_galois_150 : decode cX12_galois 150 = .ok (.iconst 0, 1) := by decide +kernel
theorem dX12_galois_151 : decode cX12_galois 151 = .ok (.bipush 16, 2) := by decide +kernel
theorem dX12_galois_153 : decode cX12_galois 153 = .ok (.invokestatic 164, 3) := by decide +kernel
theorem dX12_galois_156 : decode cX12_galois 156 = .ok (.aload_n 0, 1) := by decide +kernel
theorem dX12_galois_157 : decode cX12_galois 157 = .ok (.aload_n 0, 1) := by decide +kernel
theorem dX12_galois_158 : decode cX12_galois 158 = .ok (.getfield 50, 3) := by decide +kernel
theorem dX12_galois_161 : decode cX12_galois 161 = .ok (.iconst 0, 1) := by decide +kernel
theorem dX12_galois_162 : decode cX12_galois 162 = .ok (.aload_n 0, 1) := by decide +kernel
theorem dX12_galois_163 : decode cX12_galois 163 = .ok (.getfield 140, 3) := by decide +kernel
theorem dX12_galois_166 : decode cX12_galois 166 = .ok (.invokevirtual 198, 3) := by decide +kernel
theorem dX12_galois_169 : decode cX12_galois 169 = .ok (.aload_n 0, 1) := by decide +kernel
theorem dX12_galois_170 : decode cX12_galois 170 = .ok (.iload_n 1, 1) := by decide +kernel
theorem dX12_galois_171 : decode cX12_galois 171 = .ok (.ifCond .eq 10, 3) := by decide +kernel
theorem dX12_galois_174 : decode cX12_galois 174 = .ok (.aload_n 0, 1) := by decide +kernel
theorem dX12_galois_175 : decode cX12_galois 175 = .ok (.getfield 41, 3) := by decide +kernel
theorem dX12_galois_178 : decode cX12_galois 178 = .ok (.goto 7, 3) := by decide +kernel
theorem dX12_galois_181 : decode cX12_galois 181 = .ok (.aload_n 0, 1) := by decide +kernel
theorem dX12_galois_182 : decode cX12_galois 182 = .ok (.getfield 44, 3) := by decide +kernel
theorem dX12_galois_185 : decode cX12_galois 185 = .ok (.iconst 0, 1) := by decide +kernel
theorem dX12_galois_186 : decode cX12_galois 186 = .ok (.iload_n 2, 1) := by decide +kernel
theorem dX12_galois_187 : decode cX12_galois 187 = .ok (.invokevirtual 198, 3) := by decide +kernel
theorem dX12_galois_190 : decode cX12_galois 190 = .ok (.aload_n 0, 1) := by decide +kernel
theorem dX12_galois_191 : decode cX12_galois 191 = .ok (.aload_n 0, 1) := by decide +kernel
theorem dX12_galois_192 : decode cX12_galois 192 = .ok (.getfield 140, 3) := by decide +kernel
theorem dX12_galois_195 : decode cX12_galois 195 = .ok (.iload_n 2, 1) := by decide +kernel
theorem dX12_galois_196 : decode cX12_galois 196 = .ok (.invokevirtual 201, 3) := by decide +kernel
theorem dX12_galois_199 : decode cX12_galois 199 = .ok (.aload_n 0, 1) := by decide +kernel
theorem dX12_galois_200 : decode cX12_galois 200 = .ok (.getfield 65, 3) := by decide +kernel
theorem dX12_galois_203 : decode cX12_galois 203 = .ok (.iconst 0, 1) := by decide +kernel
theorem dX12_galois_204 : decode cX12_galois 204 = .ok (.aload_n 0, 1) := by decide +kernel
theorem dX12_galois_205 : decode cX12_galois 205 = .ok (.getfield 83, 3) := by decide +kernel
theorem dX12_galois_208 : decode cX12_galois 208 = .ok (.iconst 0, 1) := by decide +kernel
theorem dX12_galois_209 : decode cX12_galois 209 = .ok (.bipush 16, 2) := by decide +kernel
theorem dX12_galois_211 : decode cX12_galois 211 = .ok (.invokestatic 143, 3) := by decide +kernel
theorem dX12_galois_214 : decode cX12_galois 214 = .ok (.return_, 1) := by decide +kernel
theorem dX12_counted_0 : decode cX12_counted 0 = .ok (.bipush 15, 2) := by decide +kernel
theorem dX12_counted_2 : decode cX12_counted 2 = .ok (.aload_n 0, 1) := by decide +kernel
theorem dX12_counted_3 : decode cX12_counted 3 = .ok (.getfield 137, 3) := by decide +kernel
theorem dX12_counted_6 : decode cX12_counted 6 = .ok (.isub, 1) := by decide +kernel
theorem dX12_counted_7 : decode cX12_counted 7 = .ok (.istore_n 3, 1) := by decide +kernel
theorem dX12_counted_8 : decode cX12_counted 8 = .ok (.aload_n 0, 1) := by decide +kernel
theorem dX12_counted_9 : decode cX12_counted 9 = .ok (.getfield 53, 3) := by decide +kernel
theorem dX12_counted_12 : decode cX12_counted 12 = .ok (.iconst 0, 1) := by decide +kernel
theorem dX12_counted_13 : decode cX12_counted 13 = .ok (.bipush 16, 2) := by decide +kernel
theorem dX12_counted_15 : decode cX12_counted 15 = .ok (.invokestatic 164, 3) := by decide +kernel
theorem dX12_counted_18 : decode cX12_counted 18 = .ok (.aload_n 0, 1) := by decide +kernel
theorem dX12_counted_19 : decode cX12_counted 19 = .ok (.getfield 53, 3) := by decide +kernel
theorem dX12_counted_22 : decode cX12_counted 22 = .ok (.iconst 0, 1) := by decide +kernel
theorem dX12_counted_23 : decode cX12_counted 23 = .ok (.iload_n 3, 1) := by decide +kernel
theorem dX12_counted_24 : decode cX12_counted 24 = .ok (.iconst 1, 1) := by decide +kernel
theorem dX12_counted_25 : decode cX12_counted 25 = .ok (.isub, 1) := by decide +kernel
theorem dX12_counted_26 : decode cX12_counted 26 = .ok (.iastore, 1) := by decide +kernel
theorem dX12_counted_27 : decode cX12_counted 27 = .ok (.aload_n 0, 1) := by decide +kernel
theorem dX12_counted_28 : decode cX12_counted 28 = .ok (.getfield 47, 3) := by decide +kernel
theorem dX12_counted_31 : decode cX12_counted 31 = .ok (.iconst 0, 1) := by decide +kernel
theorem dX12_counted_32 : decode cX12_counted 32 = .ok (.aload_n 0, 1) := by decide +kernel
theorem dX12_counted_33 : decode cX12_counted 33 = .ok (.getfield 53, 3) := by decide +kernel
theorem dX12_counted_36 : decode cX12_counted 36 = .ok (.iconst 1, 1) := by decide +kernel
theorem dX12_counted_37 : decode cX12_counted 37 = .ok (.aload_n 0, 1) := by decide +kernel
theorem dX12_counted_38 : decode cX12_counted 38 = .ok (.getfield 137, 3) := by decide +kernel
theorem dX12_counted_41 : decode cX12_counted 41 = .ok (.invokestatic 133, 3) := by decide +kernel
theorem dX12_counted_44 : decode cX12_counted 44 = .ok (.aload_n 0, 1) := by decide +kernel
theorem dX12_counted_45 : decode cX12_counted 45 = .ok (.getfield 53, 3) := by decide +kernel
theorem dX12_counted_48 : decode cX12_counted 48 = .ok (.iconst 0, 1) := by decide +kernel
theorem dX12_counted_49 : decode cX12_counted 49 = .ok (.aload_n 0, 1) := by decide +kernel
theorem dX12_counted_50 : decode cX12_counted 50 = .ok (.getfield 83, 3) := by decide +kernel
theorem dX12_counted_53 : decode cX12_counted 53 = .ok (.iconst 0, 1) := by decide +kernel
theorem dX12_counted_54 : decode cX12_counted 54 = .ok (.bipush 16, 2) := by decide +kernel
theorem dX12_counted_56 : decode cX12_counted 56 = .ok (.invokestatic 133, 3) := by decide +kernel
theorem dX12_counted_59 : decode cX12_counted 59 = .ok (.aload_n 0, 1) := by decide +kernel
theorem dX12_counted_60 : decode cX12_counted 60 = .ok (.iconst 0, 1) := by decide +kernel
theorem dX12_counted_61 : decode cX12_counted 61 = .ok (.aload_n 0, 1) := by decide +kernel
theorem dX12_counted_62 : decode cX12_counted 62 = .ok (.getfield 83, 3) := by decide +kernel
theorem dX12_counted_65 : decode cX12_counted 65 = .ok (.iconst 0, 1) := by decide +kernel
theorem dX12_counted_66 : decode cX12_counted 66 = .ok (.invokevirtual 146, 3) := by decide +kernel
theorem dX12_counted_69 : decode cX12_counted 69 = .ok (.aload_n 0, 1) := by decide +kernel
theorem dX12_counted_70 : decode cX12_counted 70 = .ok (.getfield 53, 3) := by decide +kernel
theorem dX12_counted_73 : decode cX12_counted 73 = .ok (.iconst 1, 1) := by decide +kernel
theorem dX12_counted_74 : decode cX12_counted 74 = .ok (.aload_n 0, 1) := by decide +kernel
theorem dX12_counted_75 : decode cX12_counted 75 = .ok (.getfield 137, 3) := by decide +kernel
theorem dX12_counted_78 : decode cX12_counted 78 = .ok (.iadd, 1) := by decide +kernel
theorem dX12_counted_79 : decode cX12_counted 79 = .ok (.invokestatic 168, 3) := by decide +kernel
theorem dX12_counted_82 : decode cX12_counted 82 = .ok (.aload_n 0, 1) := by decide +kernel
theorem dX12_counted_83 : decode cX12_counted 83 = .ok (.iconst 0, 1) := by decide +kernel
theorem dX12_counted_84 : decode cX12_counted 84 = .ok (.iconst 0, 1) := by decide +kernel
theorem dX12_counted_85 : decode cX12_counted 85 = .ok (.iconst 0, 1) := by decide +kernel
theorem dX12_counted_86 : decode cX12_counted 86 = .ok (.iload_n 2, 1) := by decide +kernel
theorem dX12_counted_87 : decode cX12_counted 87 = .ok (.iconst 1, 1) := by decide +kernel
theorem dX12_counted_88 : decode cX12_counted 88 = .ok (.aload_n 0, 1) := by decide +kernel
theorem dX12_counted_89 : decode cX12_counted 89 = .ok (.getfield 137, 3) := by decide +kernel
theorem dX12_counted_92 : decode cX12_counted 92 = .ok (.iadd, 1) := by decide +kernel
theorem dX12_counted_93 : decode cX12_counted 93 = .ok (.invokevirtual 204, 3) := by decide +kernel
theorem dX12_counted_96 : decode cX12_counted 96 = .ok (.aload_n 0, 1) := by decide +kernel
theorem dX12_counted_97 : decode cX12_counted 97 = .ok (.getfield 74, 3) := by decide +kernel
theorem dX12_counted_100 : decode cX12_counted 100 = .ok (.iconst 0, 1) := by decide +kernel
theorem dX12_counted_101 : decode cX12_counted 101 = .ok (.bipush 16, 2) := by decide +kernel
theorem dX12_counted_103 : decode cX12_counted 103 = .ok (.invokestatic 164, 3) := by decide +kernel
theorem dX12_counted_106 : decode cX12_counted 106 = .ok (.aload_n 0, 1) := by decide +kernel
theorem dX12_counted_107 : decode cX12_counted 107 = .ok (.getfield 74, 3) := by decide +kernel
theorem dX12_counted_110 : decode cX12_counted 110 = .ok (.iconst 0, 1) := by decide +kernel
theorem dX12_counted_111 : decode cX12_counted 111 = .ok (.aload_n 0, 1) := by decide +kernel
theorem dX12_counted_112 : decode cX12_counted 112 = .ok (.getfield 140, 3) := by decide +kernel
theorem dX12_counted_115 : decode cX12_counted 115 = .ok (.ifCond .le 8, 3) := by decide +kernel
theorem dX12_counted_118 : decode cX12_counted 118 = .ok (.bipush 64, 2) := by decide +kernel
theorem dX12_counted_120 : decode cX12_counted 120 = .ok (.goto 4, 3) := by decide +kernel
theorem dX12_counted_123 : decode cX12_counted 123 = .ok (.iconst 0, 1) := by decide +kernel
theorem dX12_counted_124 : decode cX12_counted 124 = .ok (.bipush 8, 2) := by decide +kernel
theorem dX12_counted_126 : decode cX12_counted 126 = .ok (.aload_n 0, 1) := by decide +kernel
theorem dX12_counted_127 : decode cX12_counted 127 = .ok (.getfield 16, 3) := by decide +kernel
theorem dX12_counted_130 : decode cX12_counted 130 = .ok (.iconst 2, 1) := by decide +kernel
theorem dX12_counted_131 : decode cX12_counted 131 = .ok (.isub, 1) := by decide +kernel
theorem dX12_counted_132 : decode cX12_counted 132 = .ok (.iconst 2, 1) := by decide +kernel
theorem dX12_counted_133 : decode cX12_counted 133 = .ok (.idiv, 1) := by decide +kernel
theorem dX12_counted_134 : decode cX12_counted 134 = .ok (.imul, 1) := by decide +kernel
theorem dX12_counted_135 : decode cX12_counted 135 = .ok (.iadd, 1) := by decide +kernel
theorem dX12_counted_136 : decode cX12_counted 136 = .ok (.iload_n 3, 1) := by decide +kernel
theorem dX12_counted_137 : decode cX12_counted 137 = .ok (.iadd, 1) := by decide +kernel
theorem dX12_counted_138 : decode cX12_counted 138 = .ok (.iconst 1, 1) := by decide +kernel
theorem dX12_counted_139 : decode cX12_counted 139 = .ok (.isub, 1) := by decide +kernel
theorem dX12_counted_140 : decode cX12_counted 140 = .ok (.iastore, 1) := by decide +kernel
theorem dX12_counted_141 : decode cX12_counted 141 = .ok (.aload_n 0, 1) := by decide +kernel
theorem dX12_counted_142 : decode cX12_counted 142 = .ok (.getfield 47, 3) := by decide +kernel
theorem dX12_counted_145 : decode cX12_counted 145 = .ok (.iconst 0, 1) := by decide +kernel
theorem dX12_counted_146 : decode cX12_counted 146 = .ok (.aload_n 0, 1) := by decide +kernel
theorem dX12_counted_147 : decode cX12_counted 147 = .ok (.getfield 74, 3) := by decide +kernel
theorem dX12_counted_150 : decode cX12_counted 150 = .ok (.iconst 1, 1) := by decide +kernel
theorem dX12_counted_151 : decode cX12_counted 151 = .ok (.aload_n 0, 1) := by decide +kernel
theorem dX12_counted_152 : decode cX12_counted 152 = .ok (.getfield 137, 3) := by decide +kernel
theorem dX12_counted_155 : decode cX12_counted 155 = .ok (.invokestatic 133, 3) := by decide +kernel
theorem dX12_counted_158 : decode cX12_counted 158 = .ok (.aload_n 0, 1) := by decide +kernel
theorem dX12_counted_159 : decode cX12_counted 159 = .ok (.getfield 74, 3) := by decide +kernel
theorem dX12_counted_162 : decode cX12_counted 162 = .ok (.bipush 14, 2) := by decide +kernel
theorem dX12_counted_164 : decode cX12_counted 164 = .ok (.dup2, 1) := by decide +kernel
theorem dX12_counted_165 : decode cX12_counted 165 = .ok (.iaload, 1) := by decide +kernel
theorem dX12_counted_166 : decode cX12_counted 166 = .ok (.iload_n 2, 1) := by decide +kernel
theorem dX12_counted_167 : decode cX12_counted 167 = .ok (.bipush 8, 2) := by decide +kernel
theorem dX12_counted_169 : decode cX12_counted 169 = .ok (.ishr, 1) := by decide +kernel
theorem dX12_counted_170 : decode cX12_counted 170 = .ok (.ixor, 1) := by decide +kernel
theorem dX12_counted_171 : decode cX12_counted 171 = .ok (.iastore, 1) := by decide +kernel
theorem dX12_counted_172 : decode cX12_counted 172 = .ok (.aload_n 0, 1) := by decide +kernel
theorem dX12_counted_173 : decode cX12_counted 173 = .ok (.getfield 74, 3) := by decide +kernel
theorem dX12_counted_176 : decode cX12_counted 176 = .ok (.bipush 15, 2) := by decide +kernel
theorem dX12_counted_178 : decode cX12_counted 178 = .ok (.dup2, 1) := by decide +kernel
theorem dX12_counted_179 : decode cX12_counted 179 = .ok (.iaload, 1) := by decide +kernel
theorem dX12_counted_180 : decode cX12_counted 180 = .ok (.iload_n 2, 1) := by decide +kernel
theorem dX12_counted_181 : decode cX12_counted 181 = .ok (.sipush 255, 3) := by decide +kernel
theorem dX12_counted_184 : decode cX12_counted 184 = .ok (.iand, 1) := by decide +kernel
theorem dX12_counted_185 : decode cX12_counted 185 = .ok (.ixor, 1) := by decide +kernel
theorem dX12_counted_186 : decode cX12_counted 186 = .ok (.iastore, 1) := by decide +kernel
theorem dX12_counted_187 : decode cX12_counted 187 = .ok (.aload_n 0, 1) := by decide +kernel
theorem dX12_counted_188 : decode cX12_counted 188 = .ok (.iconst 0, 1) := by decide +kernel
theorem dX12_counted_189 : decode cX12_counted 189 = .ok (.aload_n 0, 1) := by decide +kernel
theorem dX12_counted_190 : decode cX12_counted 190 = .ok (.getfield 74, 3) := by decide +kernel
theorem dX12_counted_193 : decode cX12_counted 193 = .ok (.iconst 0, 1) := by decide +kernel
theorem dX12_counted_194 : decode cX12_counted 194 = .ok (.invokevirtual 146, 3) := by decide +kernel
theorem dX12_counted_197 : decode cX12_counted 197 = .ok (.aload_n 0, 1) := by decide +kernel
theorem dX12_counted_198 : decode cX12_counted 198 = .ok (.getfield 140, 3) := by decide +kernel
theorem dX12_counted_201 : decode cX12_counted 201 = .ok (.ifCond .le 61, 3) := by decide +kernel
theorem dX12_counted_204 : decode cX12_counted 204 = .ok (.aload_n 0, 1) := by decide +kernel
theorem dX12_counted_205 : decode cX12_counted 205 = .ok (.getfield 80, 3) := by decide +kernel
theorem dX12_counted_208 : decode cX12_counted 208 = .ok (.iconst 0, 1) := by decide +kernel
theorem dX12_counted_209 : decode cX12_counted 209 = .ok (.aload_n 0, 1) := by decide +kernel
theorem dX12_counted_210 : decode cX12_counted 210 = .ok (.getfield 140, 3) := by decide +kernel
theorem dX12_counted_213 : decode cX12_counted 213 = .ok (.bipush 8, 2) := by decide +kernel
theorem dX12_counted_215 : decode cX12_counted 215 = .ok (.ishr, 1) := by decide +kernel
theorem dX12_counted_216 : decode cX12_counted 216 = .ok (.iastore, 1) := by decide +kernel
theorem dX12_counted_217 : decode cX12_counted 217 = .ok (.aload_n 0, 1) := by decide +kernel
theorem dX12_counted_218 : decode cX12_counted 218 = .ok (.getfield 80, 3) := by decide +kernel
theorem dX12_counted_221 : decode cX12_counted 221 = .ok (.iconst 1, 1) := by decide +kernel
theorem dX12_counted_222 : decode cX12_counted 222 = .ok (.aload_n 0, 1) := by decide +kernel
theorem dX12_counted_223 : decode cX12_counted 223 = .ok (.getfield 140, 3) := by decide +kernel
theorem dX12_counted_226 : decode cX12_counted 226 = .ok (.sipush 255, 3) := by decide +kernel
theorem dX12_counted_229 : decode cX12_counted 229 = .ok (.iand, 1) := by decide +kernel
theorem dX12_counted_230 : decode cX12_counted 230 = .ok (.iastore, 1) := by decide +kernel
theorem dX12_counted_231 : decode cX12_counted 231 = .ok (.aload_n 0, 1) := by decide +kernel
theorem dX12_counted_232 : decode cX12_counted 232 = .ok (.getfield 50, 3) := by decide +kernel
theorem dX12_counted_235 : decode cX12_counted 235 = .ok (.iconst 0, 1) := by decide +kernel
theorem dX12_counted_236 : decode cX12_counted 236 = .ok (.aload_n 0, 1) := by decide +kernel
theorem dX12_counted_237 : decode cX12_counted 237 = .ok (.getfield 80, 3) := by decide +kernel
theorem dX12_counted_240 : decode cX12_counted 240 = .ok (.iconst 2, 1) := by decide +kernel
theorem dX12_counted_241 : decode cX12_counted 241 = .ok (.aload_n 0, 1) := by decide +kernel
theorem dX12_counted_242 : decode cX12_counted 242 = .ok (.getfield 140, 3) := by decide +kernel
theorem dX12_counted_245 : decode cX12_counted 245 = .ok (.invokestatic 133, 3) := by decide +kernel
theorem dX12_counted_248 : decode cX12_counted 248 = .ok (.aload_n 0, 1) := by decide +kernel
theorem dX12_counted_249 : decode cX12_counted 249 = .ok (.aload_n 0, 1) := by decide +kernel
theorem dX12_counted_250 : decode cX12_counted 250 = .ok (.getfield 80, 3) := by decide +kernel
theorem dX12_counted_253 : decode cX12_counted 253 = .ok (.aload_n 0, 1) := by decide +kernel
theorem dX12_counted_254 : decode cX12_counted 254 = .ok (.getfield 140, 3) := by decide +kernel
theorem dX12_counted_257 : decode cX12_counted 257 = .ok (.iconst 2, 1) := by decide +kernel
theorem dX12_counted_258 : decode cX12_counted 258 = .ok (.iadd, 1) := by decide +kernel
theorem dX12_counted_259 : decode cX12_counted 259 = .ok (.invokevirtual 208, 3) := by decide +kernel
theorem dX12_counted_262 : decode cX12_counted 262 = .ok (.aload_n 0, 1) := by decide +kernel
theorem dX12_counted_263 : decode cX12_counted 263 = .ok (.iload_n 1, 1) := by decide +kernel
theorem dX12_counted_264 : decode cX12_counted 264 = .ok (.ifCond .eq 10, 3) := by decide +kernel
theorem dX12_counted_267 : decode cX12_counted 267 = .ok (.aload_n 0, 1) := by decide +kernel
theorem dX12_counted_268 : decode cX12_counted 268 = .ok (.getfield 44, 3) := by decide +kernel
theorem dX12_counted_271 : decode cX12_counted 271 = .ok (.goto 7, 3) := by decide +kernel
theorem dX12_counted_274 : decode cX12_counted 274 = .ok (.aload_n 0, 1) := by decide +kernel
theorem dX12_counted_275 : decode cX12_counted 275 = .ok (.getfield 41, 3) := by decide +kernel
theorem dX12_counted_278 : decode cX12_counted 278 = .ok (.iload_n 2, 1) := by decide +kernel
theorem dX12_counted_279 : decode cX12_counted 279 = .ok (.invokevirtual 208, 3) := by decide +kernel
theorem dX12_counted_282 : decode cX12_counted 282 = .ok (.aload_n 0, 1) := by decide +kernel
theorem dX12_counted_283 : decode cX12_counted 283 = .ok (.getfield 74, 3) := by decide +kernel
theorem dX12_counted_286 : decode cX12_counted 286 = .ok (.iconst 0, 1) := by decide +kernel
theorem dX12_counted_287 : decode cX12_counted 287 = .ok (.aload_n 0, 1) := by decide +kernel
theorem dX12_counted_288 : decode cX12_counted 288 = .ok (.getfield 83, 3) := by decide +kernel
theorem dX12_counted_291 : decode cX12_counted 291 = .ok (.iconst 0, 1) := by decide +kernel
theorem dX12_counted_292 : decode cX12_counted 292 = .ok (.bipush 16, 2) := by decide +kernel
theorem dX12_counted_294 : decode cX12_counted 294 = .ok (.invokestatic 143, 3) := by decide +kernel
theorem dX12_counted_297 : decode cX12_counted 297 = .ok (.return_, 1) := by decide +kernel
theorem dX12_chained_0 : decode cX12_chained 0 = .ok (.iconst 0, 1) := by decide +kernel
theorem dX12_chained_1 : decode cX12_chained 1 = .ok (.istore_n 3, 1) := by decide +kernel
theorem dX12_chained_2 : decode cX12_chained 2 = .ok (.iload_n 3, 1) := by decide +kernel
theorem dX12_chained_3 : decode cX12_chained 3 = .ok (.iload_n 2, 1) := by decide +kernel
theorem dX12_chained_4 : decode cX12_chained 4 = .ok (.if_icmp .ge 50, 3) := by decide +kernel
theorem dX12_chained_7 : decode cX12_chained 7 = .ok (.aload_n 0, 1) := by decide +kernel
theorem dX12_chained_8 : decode cX12_chained 8 = .ok (.getfield 74, 3) := by decide +kernel
theorem dX12_chained_11 : decode cX12_chained 11 = .ok (.iload_n 3, 1) := by decide +kernel
theorem dX12_chained_12 : decode cX12_chained 12 = .ok (.bipush 16, 2) := by decide +kernel
theorem dX12_chained_14 : decode cX12_chained 14 = .ok (.irem, 1) := by decide +kernel
theorem dX12_chained_15 : decode cX12_chained 15 = .ok (.dup2, 1) := by decide +kernel
theorem dX12_chained_16 : decode cX12_chained 16 = .ok (.iaload, 1) := by decide +kernel
theorem dX12_chained_17 : decode cX12_chained 17 = .ok (.aload_n 1, 1) := by decide +kernel
theorem dX12_chained_18 : decode cX12_chained 18 = .ok (.iload_n 3, 1) := by decide +kernel
theorem dX12_chained_19 : decode cX12_chained 19 = .ok (.iaload, 1) := by decide +kernel
theorem dX12_chained_20 : decode cX12_chained 20 = .ok (.ixor, 1) := by decide +kernel
theorem dX12_chained_21 : decode cX12_chained 21 = .ok (.iastore, 1) := by decide +kernel
theorem dX12_chained_22 : decode cX12_chained 22 = .ok (.iload_n 3, 1) := by decide +kernel
theorem dX12_chained_23 : decode cX12_chained 23 = .ok (.bipush 16, 2) := by decide +kernel
theorem dX12_chained_25 : decode cX12_chained 25 = .ok (.irem, 1) := by decide +kernel
theorem dX12_chained_26 : decode cX12_chained 26 = .ok (.bipush 15, 2) := by decide +kernel
theorem dX12_chained_28 : decode cX12_chained 28 = .ok (.if_icmp .eq 10, 3) := by decide +kernel
theorem dX12_chained_31 : decode cX12_chained 31 = .ok (.iload_n 3, 1) := by decide +kernel
theorem dX12_chained_32 : decode cX12_chained 32 = .ok (.iload_n 2, 1) := by decide +kernel
theorem dX12_chained_33 : decode cX12_chained 33 = .ok (.iconst 1, 1) := by decide +kernel
theorem dX12_chained_34 : decode cX12_chained 34 = .ok (.isub, 1) := by decide +kernel
theorem dX12_chained_35 : decode cX12_chained 35 = .ok (.if_icmp .ne 13, 3) := by decide +kernel
theorem dX12_chained_38 : decode cX12_chained 38 = .ok (.aload_n 0, 1) := by decide +kernel
theorem dX12_chained_39 : decode cX12_chained 39 = .ok (.iconst 0, 1) := by decide +kernel
theorem dX12_chained_40 : decode cX12_chained 40 = .ok (.aload_n 0, 1) := by decide +kernel
theorem dX12_chained_41 : decode cX12_chained 41 = .ok (.getfield 74, 3) := by decide +kernel
theorem dX12_chained_44 : decode cX12_chained 44 = .ok (.iconst 0, 1) := by decide +kernel
theorem dX12_chained_45 : decode cX12_chained 45 = .ok (.invokevirtual 146, 3) := by decide +kernel
theorem dX12_chained_48 : decode cX12_chained 48 = .ok (.iinc 3 1, 3) := by decide +kernel
theorem dX12_chained_51 : decode cX12_chained 51 = .ok (.goto (-49), 3) := by decide +kernel
theorem dX12_chained_54 : decode cX12_chained 54 = .ok (.return_, 1) := by decide +kernel
theorem dX12_sumOf_0 : decode cX12_sumOf 0 = .ok (.aload_n 0, 1) := by decide +kernel
theorem dX12_sumOf_1 : decode cX12_sumOf 1 = .ok (.getfield 80, 3) := by decide +kernel
theorem dX12_sumOf_4 : decode cX12_sumOf 4 = .ok (.iconst 0, 1) := by decide +kernel
theorem dX12_sumOf_5 : decode cX12_sumOf 5 = .ok (.bipush 16, 2) := by decide +kernel
theorem dX12_sumOf_7 : decode cX12_sumOf 7 = .ok (.invokestatic 164, 3) := by decide +kernel
theorem dX12_sumOf_10 : decode cX12_sumOf 10 = .ok (.aload_n 0, 1) := by decide +kernel
theorem dX12_sumOf_11 : decode cX12_sumOf 11 = .ok (.getfield 80, 3) := by decide +kernel
theorem dX12_sumOf_14 : decode cX12_sumOf 14 = .ok (.bipush 15, 2) := by decide +kernel
theorem dX12_sumOf_16 : decode cX12_sumOf 16 = .ok (.iload_n 1, 1) := by decide +kernel
theorem dX12_sumOf_17 : decode cX12_sumOf 17 = .ok (.iastore, 1) := by decide +kernel
theorem dX12_sumOf_18 : decode cX12_sumOf 18 = .ok (.aload_n 2, 1) := by decide +kernel
theorem dX12_sumOf_19 : decode cX12_sumOf 19 = .ok (.iconst 0, 1) := by decide +kernel
theorem dX12_sumOf_20 : decode cX12_sumOf 20 = .ok (.aload_n 0, 1) := by decide +kernel
theorem dX12_sumOf_21 : decode cX12_sumOf 21 = .ok (.getfield 80, 3) := by decide +kernel
theorem dX12_sumOf_24 : decode cX12_sumOf 24 = .ok (.bipush 16, 2) := by decide +kernel
theorem dX12_sumOf_26 : decode cX12_sumOf 26 = .ok (.iload_n 3, 1) := by decide +kernel
theorem dX12_sumOf_27 : decode cX12_sumOf 27 = .ok (.invokestatic 133, 3) := by decide +kernel
theorem dX12_sumOf_30 : decode cX12_sumOf 30 = .ok (.aload_n 0, 1) := by decide +kernel
theorem dX12_sumOf_31 : decode cX12_sumOf 31 = .ok (.bipush 16, 2) := by decide +kernel
theorem dX12_sumOf_33 : decode cX12_sumOf 33 = .ok (.iload_n 3, 1) := by decide +kernel
theorem dX12_sumOf_34 : decode cX12_sumOf 34 = .ok (.iadd, 1) := by decide +kernel
theorem dX12_sumOf_35 : decode cX12_sumOf 35 = .ok (.putfield 195, 3) := by decide +kernel
theorem dX12_sumOf_38 : decode cX12_sumOf 38 = .ok (.aload_n 0, 1) := by decide +kernel
theorem dX12_sumOf_39 : decode cX12_sumOf 39 = .ok (.iconst 0, 1) := by decide +kernel
theorem dX12_sumOf_40 : decode cX12_sumOf 40 = .ok (.invokevirtual 211, 3) := by decide +kernel
theorem dX12_sumOf_43 : decode cX12_sumOf 43 = .ok (.return_, 1) := by decide +kernel
theorem dX12_twice_0 : decode cX12_twice 0 = .ok (.aload_n 0, 1) := by decide +kernel
theorem dX12_twice_1 : decode cX12_twice 1 = .ok (.iconst 0, 1) := by decide +kernel
theorem dX12_twice_2 : decode cX12_twice 2 = .ok (.aload_n 0, 1) := by decide +kernel
theorem dX12_twice_3 : decode cX12_twice 3 = .ok (.getfield 47, 3) := by decide +kernel
theorem dX12_twice_6 : decode cX12_twice 6 = .ok (.aload_n 0, 1) := by decide +kernel
theorem dX12_twice_7 : decode cX12_twice 7 = .ok (.getfield 137, 3) := by decide +kernel
theorem dX12_twice_10 : decode cX12_twice 10 = .ok (.invokevirtual 214, 3) := by decide +kernel
theorem dX12_twice_13 : decode cX12_twice 13 = .ok (.aload_n 0, 1) := by decide +kernel
theorem dX12_twice_14 : decode cX12_twice 14 = .ok (.getfield 74, 3) := by decide +kernel
theorem dX12_twice_17 : decode cX12_twice 17 = .ok (.iconst 0, 1) := by decide +kernel
theorem dX12_twice_18 : decode cX12_twice 18 = .ok (.aload_n 0, 1) := by decide +kernel
theorem dX12_twice_19 : decode cX12_twice 19 = .ok (.getfield 83, 3) := by decide +kernel
theorem dX12_twice_22 : decode cX12_twice 22 = .ok (.iconst 0, 1) := by decide +kernel
theorem dX12_twice_23 : decode cX12_twice 23 = .ok (.bipush 16, 2) := by decide +kernel
theorem dX12_twice_25 : decode cX12_twice 25 = .ok (.invokestatic 133, 3) := by decide +kernel
theorem dX12_twice_28 : decode cX12_twice 28 = .ok (.aload_n 0, 1) := by decide +kernel
theorem dX12_twice_29 : decode cX12_twice 29 = .ok (.getfield 74, 3) := by decide +kernel
theorem dX12_twice_32 : decode cX12_twice 32 = .ok (.iconst 0, 1) := by decide +kernel
theorem dX12_twice_33 : decode cX12_twice 33 = .ok (.aload_n 0, 1) := by decide +kernel
theorem dX12_twice_34 : decode cX12_twice 34 = .ok (.getfield 53, 3) := by decide +kernel
theorem dX12_twice_37 : decode cX12_twice 37 = .ok (.iconst 0, 1) := by decide +kernel
theorem dX12_twice_38 : decode cX12_twice 38 = .ok (.bipush 16, 2) := by decide +kernel
theorem dX12_twice_40 : decode cX12_twice 40 = .ok (.invokestatic 133, 3) := by decide +kernel
theorem dX12_twice_43 : decode cX12_twice 43 = .ok (.aload_n 0, 1) := by decide +kernel
theorem dX12_twice_44 : decode cX12_twice 44 = .ok (.iconst 0, 1) := by decide +kernel
theorem dX12_twice_45 : decode cX12_twice 45 = .ok (.iconst 0, 1) := by decide +kernel
theorem dX12_twice_46 : decode cX12_twice 46 = .ok (.iconst 0, 1) := by decide +kernel
theorem dX12_twice_47 : decode cX12_twice 47 = .ok (.iload_n 2, 1) := by decide +kernel
theorem dX12_twice_48 : decode cX12_twice 48 = .ok (.iconst 0, 1) := by decide +kernel
theorem dX12_twice_49 : decode cX12_twice 49 = .ok (.invokevirtual 204, 3) := by decide +kernel
theorem dX12_twice_52 : decode cX12_twice 52 = .ok (.aload_n 0, 1) := by decide +kernel
theorem dX12_twice_53 : decode cX12_twice 53 = .ok (.iconst 1, 1) := by decide +kernel
theorem dX12_twice_54 : decode cX12_twice 54 = .ok (.aload_n 0, 1) := by decide +kernel
theorem dX12_twice_55 : decode cX12_twice 55 = .ok (.getfield 50, 3) := by decide +kernel
theorem dX12_twice_58 : decode cX12_twice 58 = .ok (.aload_n 0, 1) := by decide +kernel
theorem dX12_twice_59 : decode cX12_twice 59 = .ok (.getfield 140, 3) := by decide +kernel
theorem dX12_twice_62 : decode cX12_twice 62 = .ok (.invokevirtual 214, 3) := by decide +kernel
theorem dX12_twice_65 : decode cX12_twice 65 = .ok (.aload_n 0, 1) := by decide +kernel
theorem dX12_twice_66 : decode cX12_twice 66 = .ok (.getfield 74, 3) := by decide +kernel
theorem dX12_twice_69 : decode cX12_twice 69 = .ok (.iconst 0, 1) := by decide +kernel
theorem dX12_twice_70 : decode cX12_twice 70 = .ok (.aload_n 0, 1) := by decide +kernel
theorem dX12_twice_71 : decode cX12_twice 71 = .ok (.getfield 83, 3) := by decide +kernel
theorem dX12_twice_74 : decode cX12_twice 74 = .ok (.iconst 0, 1) := by decide +kernel
theorem dX12_twice_75 : decode cX12_twice 75 = .ok (.bipush 16, 2) := by decide +kernel
theorem dX12_twice_77 : decode cX12_twice 77 = .ok (.invokestatic 143, 3) := by decide +kernel
theorem dX12_twice_80 : decode cX12_twice 80 = .ok (.aload_n 0, 1) := by decide +kernel
theorem dX12_twice_81 : decode cX12_twice 81 = .ok (.iconst 2, 1) := by decide +kernel
theorem dX12_twice_82 : decode cX12_twice 82 = .ok (.iload_n 1, 1) := by decide +kernel
theorem dX12_twice_83 : decode cX12_twice 83 = .ok (.ifCond .eq 10, 3) := by decide +kernel
theorem dX12_twice_86 : decode cX12_twice 86 = .ok (.aload_n 0, 1) := by decide +kernel
theorem dX12_twice_87 : decode cX12_twice 87 = .ok (.getfield 41, 3) := by decide +kernel
theorem dX12_twice_90 : decode cX12_twice 90 = .ok (.goto 7, 3) := by decide +kernel
theorem dX12_twice_93 : decode cX12_twice 93 = .ok (.aload_n 0, 1) := by decide +kernel
theorem dX12_twice_94 : decode cX12_twice 94 = .ok (.getfield 44, 3) := by decide +kernel
theorem dX12_twice_97 : decode cX12_twice 97 = .ok (.iload_n 2, 1) := by decide +kernel
theorem dX12_twice_98 : decode cX12_twice 98 = .ok (.invokevirtual 214, 3) := by decide +kernel
theorem dX12_twice_101 : decode cX12_twice 101 = .ok (.aload_n 0, 1) := by decide +kernel
theorem dX12_twice_102 : decode cX12_twice 102 = .ok (.getfield 74, 3) := by decide +kernel
theorem dX12_twice_105 : decode cX12_twice 105 = .ok (.iconst 0, 1) := by decide +kernel
theorem dX12_twice_106 : decode cX12_twice 106 = .ok (.aload_n 0, 1) := by decide +kernel
theorem dX12_twice_107 : decode cX12_twice 107 = .ok (.getfield 83, 3) := by decide +kernel
theorem dX12_twice_110 : decode cX12_twice 110 = .ok (.iconst 0, 1) := by decide +kernel
theorem dX12_twice_111 : decode cX12_twice 111 = .ok (.bipush 16, 2) := by decide +kernel
theorem dX12_twice_113 : decode cX12_twice 113 = .ok (.invokestatic 143, 3) := by decide +kernel
theorem dX12_twice_116 : decode cX12_twice 116 = .ok (.return_, 1) := by decide +kernel
theorem dX12_more_0 : decode cX12_more 0 = .ok (.iload_n 2, 1) := by decide +kernel
theorem dX12_more_1 : decode cX12_more 1 = .ok (.ifCond .ne 4, 3) := by decide +kernel
theorem dX12_more_4 : decode cX12_more 4 = .ok (.return_, 1) := by decide +kernel
theorem dX12_more_5 : decode cX12_more 5 = .ok (.aload_n 1, 1) := by decide +kernel
theorem dX12_more_6 : decode cX12_more 6 = .ok (.iconst 0, 1) := by decide +kernel
theorem dX12_more_7 : decode cX12_more 7 = .ok (.aload_n 0, 1) := by decide +kernel
theorem dX12_more_8 : decode cX12_more 8 = .ok (.getfield 80, 3) := by decide +kernel
theorem dX12_more_11 : decode cX12_more 11 = .ok (.iconst 0, 1) := by decide +kernel
theorem dX12_more_12 : decode cX12_more 12 = .ok (.iload_n 2, 1) := by decide +kernel
theorem dX12_more_13 : decode cX12_more 13 = .ok (.invokestatic 133, 3) := by decide +kernel
theorem dX12_more_16 : decode cX12_more 16 = .ok (.aload_n 0, 1) := by decide +kernel
theorem dX12_more_17 : decode cX12_more 17 = .ok (.iload_n 2, 1) := by decide +kernel
theorem dX12_more_18 : decode cX12_more 18 = .ok (.putfield 195, 3) := by decide +kernel
theorem dX12_more_21 : decode cX12_more 21 = .ok (.aload_n 0, 1) := by decide +kernel
theorem dX12_more_22 : decode cX12_more 22 = .ok (.iconst 0, 1) := by decide +kernel
theorem dX12_more_23 : decode cX12_more 23 = .ok (.invokevirtual 211, 3) := by decide +kernel
theorem dX12_more_26 : decode cX12_more 26 = .ok (.aload_n 0, 1) := by decide +kernel
theorem dX12_more_27 : decode cX12_more 27 = .ok (.getfield 86, 3) := by decide +kernel
theorem dX12_more_30 : decode cX12_more 30 = .ok (.invokestatic 192, 3) := by decide +kernel
theorem dX12_more_33 : decode cX12_more 33 = .ok (.aload_n 0, 1) := by decide +kernel
theorem dX12_more_34 : decode cX12_more 34 = .ok (.getfield 74, 3) := by decide +kernel
theorem dX12_more_37 : decode cX12_more 37 = .ok (.iconst 0, 1) := by decide +kernel
theorem dX12_more_38 : decode cX12_more 38 = .ok (.aload_n 0, 1) := by decide +kernel
theorem dX12_more_39 : decode cX12_more 39 = .ok (.getfield 86, 3) := by decide +kernel
theorem dX12_more_42 : decode cX12_more 42 = .ok (.iconst 0, 1) := by decide +kernel
theorem dX12_more_43 : decode cX12_more 43 = .ok (.bipush 16, 2) := by decide +kernel
theorem dX12_more_45 : decode cX12_more 45 = .ok (.invokestatic 143, 3) := by decide +kernel
theorem dX12_more_48 : decode cX12_more 48 = .ok (.return_, 1) := by decide +kernel
theorem dX12_made_0 : decode cX12_made 0 = .ok (.aload_n 0, 1) := by decide +kernel
theorem dX12_made_1 : decode cX12_made 1 = .ok (.getfield 80, 3) := by decide +kernel
theorem dX12_made_4 : decode cX12_made 4 = .ok (.iconst 0, 1) := by decide +kernel
theorem dX12_made_5 : decode cX12_made 5 = .ok (.bipush 16, 2) := by decide +kernel
theorem dX12_made_7 : decode cX12_made 7 = .ok (.invokestatic 164, 3) := by decide +kernel
theorem dX12_made_10 : decode cX12_made 10 = .ok (.aload_n 0, 1) := by decide +kernel
theorem dX12_made_11 : decode cX12_made 11 = .ok (.bipush 16, 2) := by decide +kernel
theorem dX12_made_13 : decode cX12_made 13 = .ok (.putfield 195, 3) := by decide +kernel
theorem dX12_made_16 : decode cX12_made 16 = .ok (.aload_n 0, 1) := by decide +kernel
theorem dX12_made_17 : decode cX12_made 17 = .ok (.iconst 0, 1) := by decide +kernel
theorem dX12_made_18 : decode cX12_made 18 = .ok (.invokevirtual 211, 3) := by decide +kernel
theorem dX12_made_21 : decode cX12_made 21 = .ok (.aload_n 0, 1) := by decide +kernel
theorem dX12_made_22 : decode cX12_made 22 = .ok (.getfield 74, 3) := by decide +kernel
theorem dX12_made_25 : decode cX12_made 25 = .ok (.iconst 0, 1) := by decide +kernel
theorem dX12_made_26 : decode cX12_made 26 = .ok (.aload_n 0, 1) := by decide +kernel
theorem dX12_made_27 : decode cX12_made 27 = .ok (.getfield 86, 3) := by decide +kernel
theorem dX12_made_30 : decode cX12_made 30 = .ok (.iconst 0, 1) := by decide +kernel
theorem dX12_made_31 : decode cX12_made 31 = .ok (.bipush 16, 2) := by decide +kernel
theorem dX12_made_33 : decode cX12_made 33 = .ok (.invokestatic 133, 3) := by decide +kernel
theorem dX12_made_36 : decode cX12_made 36 = .ok (.aload_n 0, 1) := by decide +kernel
theorem dX12_made_37 : decode cX12_made 37 = .ok (.aload_n 0, 1) := by decide +kernel
theorem dX12_made_38 : decode cX12_made 38 = .ok (.getfield 50, 3) := by decide +kernel
theorem dX12_made_41 : decode cX12_made 41 = .ok (.aload_n 0, 1) := by decide +kernel
theorem dX12_made_42 : decode cX12_made 42 = .ok (.getfield 140, 3) := by decide +kernel
theorem dX12_made_45 : decode cX12_made 45 = .ok (.invokevirtual 217, 3) := by decide +kernel
theorem dX12_made_48 : decode cX12_made 48 = .ok (.aload_n 0, 1) := by decide +kernel
theorem dX12_made_49 : decode cX12_made 49 = .ok (.aload_n 0, 1) := by decide +kernel
theorem dX12_made_50 : decode cX12_made 50 = .ok (.getfield 47, 3) := by decide +kernel
theorem dX12_made_53 : decode cX12_made 53 = .ok (.aload_n 0, 1) := by decide +kernel
theorem dX12_made_54 : decode cX12_made 54 = .ok (.getfield 137, 3) := by decide +kernel
theorem dX12_made_57 : decode cX12_made 57 = .ok (.invokevirtual 217, 3) := by decide +kernel
theorem dX12_made_60 : decode cX12_made 60 = .ok (.aload_n 1, 1) := by decide +kernel
theorem dX12_made_61 : decode cX12_made 61 = .ok (.iload_n 2, 1) := by decide +kernel
theorem dX12_made_62 : decode cX12_made 62 = .ok (.aload_n 0, 1) := by decide +kernel
theorem dX12_made_63 : decode cX12_made 63 = .ok (.getfield 80, 3) := by decide +kernel
theorem dX12_made_66 : decode cX12_made 66 = .ok (.iconst 0, 1) := by decide +kernel
theorem dX12_made_67 : decode cX12_made 67 = .ok (.iload_n 3, 1) := by decide +kernel
theorem dX12_made_68 : decode cX12_made 68 = .ok (.invokestatic 133, 3) := by decide +kernel
theorem dX12_made_71 : decode cX12_made 71 = .ok (.aload_n 0, 1) := by decide +kernel
theorem dX12_made_72 : decode cX12_made 72 = .ok (.iload_n 3, 1) := by decide +kernel
theorem dX12_made_73 : decode cX12_made 73 = .ok (.putfield 195, 3) := by decide +kernel
theorem dX12_made_76 : decode cX12_made 76 = .ok (.iload_n 3, 1) := by decide +kernel
theorem dX12_made_77 : decode cX12_made 77 = .ok (.bipush 16, 2) := by decide +kernel
theorem dX12_made_79 : decode cX12_made 79 = .ok (.if_icmp .lt 24, 3) := by decide +kernel
theorem dX12_made_82 : decode cX12_made 82 = .ok (.aload_n 0, 1) := by decide +kernel
theorem dX12_made_83 : decode cX12_made 83 = .ok (.getfield 86, 3) := by decide +kernel
theorem dX12_made_86 : decode cX12_made 86 = .ok (.iconst 0, 1) := by decide +kernel
theorem dX12_made_87 : decode cX12_made 87 = .ok (.aload_n 0, 1) := by decide +kernel
theorem dX12_made_88 : decode cX12_made 88 = .ok (.getfield 80, 3) := by decide +kernel
theorem dX12_made_91 : decode cX12_made 91 = .ok (.iload_n 3, 1) := by decide +kernel
theorem dX12_made_92 : decode cX12_made 92 = .ok (.bipush 16, 2) := by decide +kernel
theorem dX12_made_94 : decode cX12_made 94 = .ok (.isub, 1) := by decide +kernel
theorem dX12_made_95 : decode cX12_made 95 = .ok (.bipush 16, 2) := by decide +kernel
theorem dX12_made_97 : decode cX12_made 97 = .ok (.invokestatic 143, 3) := by decide +kernel
theorem dX12_made_100 : decode cX12_made 100 = .ok (.goto 50, 3) := by decide +kernel
theorem dX12_made_103 : decode cX12_made 103 = .ok (.aload_n 0, 1) := by decide +kernel
theorem dX12_made_104 : decode cX12_made 104 = .ok (.getfield 80, 3) := by decide +kernel
theorem dX12_made_107 : decode cX12_made 107 = .ok (.iload_n 3, 1) := by decide +kernel
theorem dX12_made_108 : decode cX12_made 108 = .ok (.bipush 16, 2) := by decide +kernel
theorem dX12_made_110 : decode cX12_made 110 = .ok (.invokestatic 164, 3) := by decide +kernel
theorem dX12_made_113 : decode cX12_made 113 = .ok (.aload_n 0, 1) := by decide +kernel
theorem dX12_made_114 : decode cX12_made 114 = .ok (.getfield 80, 3) := by decide +kernel
theorem dX12_made_117 : decode cX12_made 117 = .ok (.iload_n 3, 1) := by decide +kernel
theorem dX12_made_118 : decode cX12_made 118 = .ok (.sipush 128, 3) := by decide +kernel
theorem dX12_made_121 : decode cX12_made 121 = .ok (.iastore, 1) := by decide +kernel
theorem dX12_made_122 : decode cX12_made 122 = .ok (.aload_n 0, 1) := by decide +kernel
theorem dX12_made_123 : decode cX12_made 123 = .ok (.getfield 86, 3) := by decide +kernel
theorem dX12_made_126 : decode cX12_made 126 = .ok (.invokestatic 192, 3) := by decide +kernel
theorem dX12_made_129 : decode cX12_made 129 = .ok (.aload_n 0, 1) := by decide +kernel
theorem dX12_made_130 : decode cX12_made 130 = .ok (.getfield 86, 3) := by decide +kernel
theorem dX12_made_133 : decode cX12_made 133 = .ok (.iconst 0, 1) := by decide +kernel
theorem dX12_made_134 : decode cX12_made 134 = .ok (.aload_n 0, 1) := by decide +kernel
theorem dX12_made_135 : decode cX12_made 135 = .ok (.getfield 80, 3) := by decide +kernel
theorem dX12_made_138 : decode cX12_made 138 = .ok (.iconst 0, 1) := by decide +kernel
theorem dX12_made_139 : decode cX12_made 139 = .ok (.bipush 16, 2) := by decide +kernel
theorem dX12_made_141 : decode cX12_made 141 = .ok (.invokestatic 143, 3) := by decide +kernel
theorem dX12_made_144 : decode cX12_made 144 = .ok (.aload_n 0, 1) := by decide +kernel
theorem dX12_made_145 : decode cX12_made 145 = .ok (.bipush 16, 2) := by decide +kernel
theorem dX12_made_147 : decode cX12_made 147 = .ok (.putfield 195, 3) := by decide +kernel
theorem dX12_made_150 : decode cX12_made 150 = .ok (.aload_n 0, 1) := by decide +kernel
theorem dX12_made_151 : decode cX12_made 151 = .ok (.iconst 0, 1) := by decide +kernel
theorem dX12_made_152 : decode cX12_made 152 = .ok (.invokevirtual 211, 3) := by decide +kernel
theorem dX12_made_155 : decode cX12_made 155 = .ok (.return_, 1) := by decide +kernel
theorem dX12_siv_0 : decode cX12_siv 0 = .ok (.iload_n 1, 1) := by decide +kernel
theorem dX12_siv_1 : decode cX12_siv 1 = .ok (.ifCond .ne 96, 3) := by decide +kernel
theorem dX12_siv_4 : decode cX12_siv 4 = .ok (.aload_n 0, 1) := by decide +kernel
theorem dX12_siv_5 : decode cX12_siv 5 = .ok (.aload_n 0, 1) := by decide +kernel
theorem dX12_siv_6 : decode cX12_siv 6 = .ok (.getfield 41, 3) := by decide +kernel
theorem dX12_siv_9 : decode cX12_siv 9 = .ok (.iconst 0, 1) := by decide +kernel
theorem dX12_siv_10 : decode cX12_siv 10 = .ok (.aload_n 0, 1) := by decide +kernel
theorem dX12_siv_11 : decode cX12_siv 11 = .ok (.getfield 130, 3) := by decide +kernel
theorem dX12_siv_14 : decode cX12_siv 14 = .ok (.invokevirtual 220, 3) := by decide +kernel
theorem dX12_siv_17 : decode cX12_siv 17 = .ok (.aload_n 0, 1) := by decide +kernel
theorem dX12_siv_18 : decode cX12_siv 18 = .ok (.getfield 74, 3) := by decide +kernel
theorem dX12_siv_21 : decode cX12_siv 21 = .ok (.iconst 0, 1) := by decide +kernel
theorem dX12_siv_22 : decode cX12_siv 22 = .ok (.aload_n 0, 1) := by decide +kernel
theorem dX12_siv_23 : decode cX12_siv 23 = .ok (.getfield 44, 3) := by decide +kernel
theorem dX12_siv_26 : decode cX12_siv 26 = .ok (.iconst 0, 1) := by decide +kernel
theorem dX12_siv_27 : decode cX12_siv 27 = .ok (.bipush 16, 2) := by decide +kernel
theorem dX12_siv_29 : decode cX12_siv 29 = .ok (.invokestatic 133, 3) := by decide +kernel
theorem dX12_siv_32 : decode cX12_siv 32 = .ok (.aload_n 0, 1) := by decide +kernel
theorem dX12_siv_33 : decode cX12_siv 33 = .ok (.getfield 74, 3) := by decide +kernel
theorem dX12_siv_36 : decode cX12_siv 36 = .ok (.iconst 0, 1) := by decide +kernel
theorem dX12_siv_37 : decode cX12_siv 37 = .ok (.aload_n 0, 1) := by decide +kernel
theorem dX12_siv_38 : decode cX12_siv 38 = .ok (.getfield 53, 3) := by decide +kernel
theorem dX12_siv_41 : decode cX12_siv 41 = .ok (.iconst 0, 1) := by decide +kernel
theorem dX12_siv_42 : decode cX12_siv 42 = .ok (.bipush 16, 2) := by decide +kernel
theorem dX12_siv_44 : decode cX12_siv 44 = .ok (.invokestatic 133, 3) := by decide +kernel
theorem dX12_siv_47 : decode cX12_siv 47 = .ok (.aload_n 0, 1) := by decide +kernel
theorem dX12_siv_48 : decode cX12_siv 48 = .ok (.getfield 53, 3) := by decide +kernel
theorem dX12_siv_51 : decode cX12_siv 51 = .ok (.bipush 8, 2) := by decide +kernel
theorem dX12_siv_53 : decode cX12_siv 53 = .ok (.dup2, 1) := by decide +kernel
theorem dX12_siv_54 : decode cX12_siv 54 = .ok (.iaload, 1) := by decide +kernel
theorem dX12_siv_55 : decode cX12_siv 55 = .ok (.bipush 127, 2) := by decide +kernel
theorem dX12_siv_57 : decode cX12_siv 57 = .ok (.iand, 1) := by decide +kernel
theorem dX12_siv_58 : decode cX12_siv 58 = .ok (.iastore, 1) := by decide +kernel
theorem dX12_siv_59 : decode cX12_siv 59 = .ok (.aload_n 0, 1) := by decide +kernel
theorem dX12_siv_60 : decode cX12_siv 60 = .ok (.getfield 53, 3) := by decide +kernel
theorem dX12_siv_63 : decode cX12_siv 63 = .ok (.bipush 12, 2) := by decide +kernel
theorem dX12_siv_65 : decode cX12_siv 65 = .ok (.dup2, 1) := by decide +kernel
theorem dX12_siv_66 : decode cX12_siv 66 = .ok (.iaload, 1) := by decide +kernel
theorem dX12_siv_67 : decode cX12_siv 67 = .ok (.bipush 127, 2) := by decide +kernel
theorem dX12_siv_69 : decode cX12_siv 69 = .ok (.iand, 1) := by decide +kernel
theorem dX12_siv_70 : decode cX12_siv 70 = .ok (.iastore, 1) := by decide +kernel
theorem dX12_siv_71 : decode cX12_siv 71 = .ok (.aload_n 0, 1) := by decide +kernel
theorem dX12_siv_72 : decode cX12_siv 72 = .ok (.iconst 1, 1) := by decide +kernel
theorem dX12_siv_73 : decode cX12_siv 73 = .ok (.iconst 0, 1) := by decide +kernel
theorem dX12_siv_74 : decode cX12_siv 74 = .ok (.bipush 16, 2) := by decide +kernel
theorem dX12_siv_76 : decode cX12_siv 76 = .ok (.aload_n 0, 1) := by decide +kernel
theorem dX12_siv_77 : decode cX12_siv 77 = .ok (.getfield 130, 3) := by decide +kernel
theorem dX12_siv_80 : decode cX12_siv 80 = .ok (.iconst 0, 1) := by decide +kernel
theorem dX12_siv_81 : decode cX12_siv 81 = .ok (.invokevirtual 204, 3) := by decide +kernel
theorem dX12_siv_84 : decode cX12_siv 84 = .ok (.aload_n 0, 1) := by decide +kernel
theorem dX12_siv_85 : decode cX12_siv 85 = .ok (.aload_n 0, 1) := by decide +kernel
theorem dX12_siv_86 : decode cX12_siv 86 = .ok (.getfield 130, 3) := by decide +kernel
theorem dX12_siv_89 : decode cX12_siv 89 = .ok (.bipush 16, 2) := by decide +kernel
theorem dX12_siv_91 : decode cX12_siv 91 = .ok (.iadd, 1) := by decide +kernel
theorem dX12_siv_92 : decode cX12_siv 92 = .ok (.putfield 153, 3) := by decide +kernel
theorem dX12_siv_95 : decode cX12_siv 95 = .ok (.iconst 0, 1) := by decide +kernel
theorem dX12_siv_96 : decode cX12_siv 96 = .ok (.ireturn, 1) := by decide +kernel
theorem dX12_siv_97 : decode cX12_siv 97 = .ok (.aload_n 0, 1) := by decide +kernel
theorem dX12_siv_98 : decode cX12_siv 98 = .ok (.getfield 41, 3) := by decide +kernel
theorem dX12_siv_101 : decode cX12_siv 101 = .ok (.iconst 0, 1) := by decide +kernel
theorem dX12_siv_102 : decode cX12_siv 102 = .ok (.aload_n 0, 1) := by decide +kernel
theorem dX12_siv_103 : decode cX12_siv 103 = .ok (.getfield 53, 3) := by decide +kernel
theorem dX12_siv_106 : decode cX12_siv 106 = .ok (.iconst 0, 1) := by decide +kernel
theorem dX12_siv_107 : decode cX12_siv 107 = .ok (.bipush 16, 2) := by decide +kernel
theorem dX12_siv_109 : decode cX12_siv 109 = .ok (.invokestatic 133, 3) := by decide +kernel
theorem dX12_siv_112 : decode cX12_siv 112 = .ok (.aload_n 0, 1) := by decide +kernel
theorem dX12_siv_113 : decode cX12_siv 113 = .ok (.getfield 53, 3) := by decide +kernel
theorem dX12_siv_116 : decode cX12_siv 116 = .ok (.bipush 8, 2) := by decide +kernel
theorem dX12_siv_118 : decode cX12_siv 118 = .ok (.dup2, 1) := by decide +kernel
theorem dX12_siv_119 : decode cX12_siv 119 = .ok (.iaload, 1) := by decide +kernel
theorem dX12_siv_120 : decode cX12_siv 120 = .ok (.bipush 127, 2) := by decide +kernel
theorem dX12_siv_122 : decode cX12_siv 122 = .ok (.iand, 1) := by decide +kernel
theorem dX12_siv_123 : decode cX12_siv 123 = .ok (.iastore, 1) := by decide +kernel
theorem dX12_siv_124 : decode cX12_siv 124 = .ok (.aload_n 0, 1) := by decide +kernel
theorem dX12_siv_125 : decode cX12_siv 125 = .ok (.getfield 53, 3) := by decide +kernel
theorem dX12_siv_128 : decode cX12_siv 128 = .ok (.bipush 12, 2) := by decide +kernel
theorem dX12_siv_130 : decode cX12_siv 130 = .ok (.dup2, 1) := by decide +kernel
theorem dX12_siv_131 : decode cX12_siv 131 = .ok (.iaload, 1) := by decide +kernel
theorem dX12_siv_132 : decode cX12_siv 132 = .ok (.bipush 127, 2) := by decide +kernel
theorem dX12_siv_134 : decode cX12_siv 134 = .ok (.iand, 1) := by decide +kernel
theorem dX12_siv_135 : decode cX12_siv 135 = .ok (.iastore, 1) := by decide +kernel
theorem dX12_siv_136 : decode cX12_siv 136 = .ok (.aload_n 0, 1) := by decide +kernel
theorem dX12_siv_137 : decode cX12_siv 137 = .ok (.iconst 1, 1) := by decide +kernel
theorem dX12_siv_138 : decode cX12_siv 138 = .ok (.bipush 16, 2) := by decide +kernel
theorem dX12_siv_140 : decode cX12_siv 140 = .ok (.iconst 0, 1) := by decide +kernel
theorem dX12_siv_141 : decode cX12_siv 141 = .ok (.aload_n 0, 1) := by decide +kernel
theorem dX12_siv_142 : decode cX12_siv 142 = .ok (.getfield 130, 3) := by decide +kernel
theorem dX12_siv_145 : decode cX12_siv 145 = .ok (.bipush 16, 2) := by decide +kernel
theorem dX12_siv_147 : decode cX12_siv 147 = .ok (.isub, 1) := by decide +kernel
theorem dX12_siv_148 : decode cX12_siv 148 = .ok (.iconst 0, 1) := by decide +kernel
theorem dX12_siv_149 : decode cX12_siv 149 = .ok (.invokevirtual 204, 3) := by decide +kernel
theorem dX12_siv_152 : decode cX12_siv 152 = .ok (.aload_n 0, 1) := by decide +kernel
theorem dX12_siv_153 : decode cX12_siv 153 = .ok (.aload_n 0, 1) := by decide +kernel
theorem dX12_siv_154 : decode cX12_siv 154 = .ok (.getfield 44, 3) := by decide +kernel
theorem dX12_siv_157 : decode cX12_siv 157 = .ok (.iconst 0, 1) := by decide +kernel
theorem dX12_siv_158 : decode cX12_siv 158 = .ok (.aload_n 0, 1) := by decide +kernel
theorem dX12_siv_159 : decode cX12_siv 159 = .ok (.getfield 130, 3) := by decide +kernel
theorem dX12_siv_162 : decode cX12_siv 162 = .ok (.bipush 16, 2) := by decide +kernel
theorem dX12_siv_164 : decode cX12_siv 164 = .ok (.isub, 1) := by decide +kernel
theorem dX12_siv_165 : decode cX12_siv 165 = .ok (.invokevirtual 220, 3) := by decide +kernel
theorem dX12_siv_168 : decode cX12_siv 168 = .ok (.aload_n 0, 1) := by decide +kernel
theorem dX12_siv_169 : decode cX12_siv 169 = .ok (.aload_n 0, 1) := by decide +kernel
theorem dX12_siv_170 : decode cX12_siv 170 = .ok (.getfield 130, 3) := by decide +kernel
theorem dX12_siv_173 : decode cX12_siv 173 = .ok (.bipush 16, 2) := by decide +kernel
theorem dX12_siv_175 : decode cX12_siv 175 = .ok (.isub, 1) := by decide +kernel
theorem dX12_siv_176 : decode cX12_siv 176 = .ok (.putfield 153, 3) := by decide +kernel
theorem dX12_siv_179 : decode cX12_siv 179 = .ok (.iconst 1, 1) := by decide +kernel
theorem dX12_siv_180 : decode cX12_siv 180 = .ok (.istore_n 2, 1) := by decide +kernel
theorem dX12_siv_181 : decode cX12_siv 181 = .ok (.iconst 0, 1) := by decide +kernel
theorem dX12_siv_182 : decode cX12_siv 182 = .ok (.istore_n 3, 1) := by decide +kernel
theorem dX12_siv_183 : decode cX12_siv 183 = .ok (.iload_n 3, 1) := by decide +kernel
theorem dX12_siv_184 : decode cX12_siv 184 = .ok (.bipush 16, 2) := by decide +kernel
theorem dX12_siv_186 : decode cX12_siv 186 = .ok (.if_icmp .ge 34, 3) := by decide +kernel
theorem dX12_siv_189 : decode cX12_siv 189 = .ok (.iload_n 2, 1) := by decide +kernel
theorem dX12_siv_190 : decode cX12_siv 190 = .ok (.ifCond .eq 22, 3) := by decide +kernel
theorem dX12_siv_193 : decode cX12_siv 193 = .ok (.aload_n 0, 1) := by decide +kernel
theorem dX12_siv_194 : decode cX12_siv 194 = .ok (.getfield 74, 3) := by decide +kernel
theorem dX12_siv_197 : decode cX12_siv 197 = .ok (.iload_n 3, 1) := by decide +kernel
theorem dX12_siv_198 : decode cX12_siv 198 = .ok (.iaload, 1) := by decide +kernel
theorem dX12_siv_199 : decode cX12_siv 199 = .ok (.aload_n 0, 1) := by decide +kernel
theorem dX12_siv_200 : decode cX12_siv 200 = .ok (.getfield 41, 3) := by decide +kernel
theorem dX12_siv_203 : decode cX12_siv 203 = .ok (.iload_n 3, 1) := by decide +kernel
theorem dX12_siv_204 : decode cX12_siv 204 = .ok (.iaload, 1) := by decide +kernel
theorem dX12_siv_205 : decode cX12_siv 205 = .ok (.if_icmp .ne 7, 3) := by decide +kernel
theorem dX12_siv_208 : decode cX12_siv 208 = .ok (.iconst 1, 1) := by decide +kernel
theorem dX12_siv_209 : decode cX12_siv 209 = .ok (.goto 4, 3) := by decide +kernel
theorem dX12_siv_212 : decode cX12_siv 212 = .ok (.iconst 0, 1) := by decide +kernel
theorem dX12_siv_213 : decode cX12_siv 213 = .ok (.istore_n 2, 1) := by decide +kernel
theorem dX12_siv_214 : decode cX12_siv 214 = .ok (.iinc 3 1, 3) := by decide +kernel
theorem dX12_siv_217 : decode cX12_siv 217 = .ok (.goto (-34), 3) := by decide +kernel
theorem dX12_siv_220 : decode cX12_siv 220 = .ok (.iload_n 2, 1) := by decide +kernel
theorem dX12_siv_221 : decode cX12_siv 221 = .ok (.ifCond .eq 7, 3) := by decide +kernel
theorem dX12_siv_224 : decode cX12_siv 224 = .ok (.iconst 0, 1) := by decide +kernel
theorem dX12_siv_225 : decode cX12_siv 225 = .ok (.goto 5, 3) := by decide +kernel
theorem dX12_siv_228 : decode cX12_siv 228 = .ok (.bipush (-6), 2) := by decide +kernel
theorem dX12_siv_230 : decode cX12_siv 230 = .ok (.ireturn, 1) := by decide +kernel
theorem dX12_prepareOffsets_0 : decode cX12_prepareOffsets 0 = .ok (.aload_n 0, 1) := by decide +kernel
theorem dX12_prepareOffsets_1 : decode cX12_prepareOffsets 1 = .ok (.getfield 62, 3) := by decide +kernel
theorem dX12_prepareOffsets_4 : decode cX12_prepareOffsets 4 = .ok (.iconst 0, 1) := by decide +kernel
theorem dX12_prepareOffsets_5 : decode cX12_prepareOffsets 5 = .ok (.bipush 16, 2) := by decide +kernel
theorem dX12_prepareOffsets_7 : decode cX12_prepareOffsets 7 = .ok (.invokestatic 164, 3) := by decide +kernel
theorem dX12_prepareOffsets_10 : decode cX12_prepareOffsets 10 = .ok (.aload_n 0, 1) := by decide +kernel
theorem dX12_prepareOffsets_11 : decode cX12_prepareOffsets 11 = .ok (.iconst 0, 1) := by decide +kernel
theorem dX12_prepareOffsets_12 : decode cX12_prepareOffsets 12 = .ok (.aload_n 0, 1) := by decide +kernel
theorem dX12_prepareOffsets_13 : decode cX12_prepareOffsets 13 = .ok (.getfield 62, 3) := by decide +kernel
theorem dX12_prepareOffsets_16 : decode cX12_prepareOffsets 16 = .ok (.iconst 0, 1) := by decide +kernel
theorem dX12_prepareOffsets_17 : decode cX12_prepareOffsets 17 = .ok (.invokevirtual 146, 3) := by decide +kernel
theorem dX12_prepareOffsets_20 : decode cX12_prepareOffsets 20 = .ok (.aload_n 0, 1) := by decide +kernel
theorem dX12_prepareOffsets_21 : decode cX12_prepareOffsets 21 = .ok (.getfield 62, 3) := by decide +kernel
theorem dX12_prepareOffsets_24 : decode cX12_prepareOffsets 24 = .ok (.iconst 0, 1) := by decide +kernel
theorem dX12_prepareOffsets_25 : decode cX12_prepareOffsets 25 = .ok (.aload_n 0, 1) := by decide +kernel
theorem dX12_prepareOffsets_26 : decode cX12_prepareOffsets 26 = .ok (.getfield 89, 3) := by decide +kernel
theorem dX12_prepareOffsets_29 : decode cX12_prepareOffsets 29 = .ok (.iconst 0, 1) := by decide +kernel
theorem dX12_prepareOffsets_30 : decode cX12_prepareOffsets 30 = .ok (.bipush 16, 2) := by decide +kernel
theorem dX12_prepareOffsets_32 : decode cX12_prepareOffsets 32 = .ok (.invokestatic 133, 3) := by decide +kernel
theorem dX12_prepareOffsets_35 : decode cX12_prepareOffsets 35 = .ok (.iconst 1, 1) := by decide +kernel
theorem dX12_prepareOffsets_36 : decode cX12_prepareOffsets 36 = .ok (.istore_n 1, 1) := by decide +kernel
theorem dX12_prepareOffsets_37 : decode cX12_prepareOffsets 37 = .ok (.iload_n 1, 1) := by decide +kernel
theorem dX12_prepareOffsets_38 : decode cX12_prepareOffsets 38 = .ok (.bipush 10, 2) := by decide +kernel
theorem dX12_prepareOffsets_40 : decode cX12_prepareOffsets 40 = .ok (.if_icmp .ge 34, 3) := by decide +kernel
theorem dX12_prepareOffsets_43 : decode cX12_prepareOffsets 43 = .ok (.aload_n 0, 1) := by decide +kernel
theorem dX12_prepareOffsets_44 : decode cX12_prepareOffsets 44 = .ok (.getfield 62, 3) := by decide +kernel
theorem dX12_prepareOffsets_47 : decode cX12_prepareOffsets 47 = .ok (.invokestatic 192, 3) := by decide +kernel
theorem dX12_prepareOffsets_50 : decode cX12_prepareOffsets 50 = .ok (.aload_n 0, 1) := by decide +kernel
theorem dX12_prepareOffsets_51 : decode cX12_prepareOffsets 51 = .ok (.getfield 62, 3) := by decide +kernel
theorem dX12_prepareOffsets_54 : decode cX12_prepareOffsets 54 = .ok (.iconst 0, 1) := by decide +kernel
theorem dX12_prepareOffsets_55 : decode cX12_prepareOffsets 55 = .ok (.aload_n 0, 1) := by decide +kernel
theorem dX12_prepareOffsets_56 : decode cX12_prepareOffsets 56 = .ok (.getfield 89, 3) := by decide +kernel
theorem dX12_prepareOffsets_59 : decode cX12_prepareOffsets 59 = .ok (.bipush 16, 2) := by decide +kernel
theorem dX12_prepareOffsets_61 : decode cX12_prepareOffsets 61 = .ok (.iload_n 1, 1) := by decide +kernel
theorem dX12_prepareOffsets_62 : decode cX12_prepareOffsets 62 = .ok (.imul, 1) := by decide +kernel
theorem dX12_prepareOffsets_63 : decode cX12_prepareOffsets 63 = .ok (.bipush 16, 2) := by decide +kernel
theorem dX12_prepareOffsets_65 : decode cX12_prepareOffsets 65 = .ok (.invokestatic 133, 3) := by decide +kernel
theorem dX12_prepareOffsets_68 : decode cX12_prepareOffsets 68 = .ok (.iinc 1 1, 3) := by decide +kernel
theorem dX12_prepareOffsets_71 : decode cX12_prepareOffsets 71 = .ok (.goto (-34), 3) := by decide +kernel
theorem dX12_prepareOffsets_74 : decode cX12_prepareOffsets 74 = .ok (.return_, 1) := by decide +kernel
theorem dX12_twos_0 : decode cX12_twos 0 = .ok (.iconst 0, 1) := by decide +kernel
theorem dX12_twos_1 : decode cX12_twos 1 = .ok (.istore_n 1, 1) := by decide +kernel
theorem dX12_twos_2 : decode cX12_twos 2 = .ok (.iload_n 0, 1) := by decide +kernel
theorem dX12_twos_3 : decode cX12_twos 3 = .ok (.istore_n 2, 1) := by decide +kernel
theorem dX12_twos_4 : decode cX12_twos 4 = .ok (.iload_n 2, 1) := by decide +kernel
theorem dX12_twos_5 : decode cX12_twos 5 = .ok (.iconst 2, 1) := by decide +kernel
theorem dX12_twos_6 : decode cX12_twos 6 = .ok (.irem, 1) := by decide +kernel
theorem dX12_twos_7 : decode cX12_twos 7 = .ok (.ifCond .ne 13, 3) := by decide +kernel
theorem dX12_twos_10 : decode cX12_twos 10 = .ok (.iload_n 2, 1) := by decide +kernel
theorem dX12_twos_11 : decode cX12_twos 11 = .ok (.iconst 2, 1) := by decide +kernel
theorem dX12_twos_12 : decode cX12_twos 12 = .ok (.idiv, 1) := by decide +kernel
theorem dX12_twos_13 : decode cX12_twos 13 = .ok (.istore_n 2, 1) := by decide +kernel
theorem dX12_twos_14 : decode cX12_twos 14 = .ok (.iinc 1 1, 3) := by decide +kernel
theorem dX12_twos_17 : decode cX12_twos 17 = .ok (.goto (-13), 3) := by decide +kernel
theorem dX12_twos_20 : decode cX12_twos 20 = .ok (.iload_n 1, 1) := by decide +kernel
theorem dX12_twos_21 : decode cX12_twos 21 = .ok (.ireturn, 1) := by decide +kernel
theorem dX12_firstOffset_0 : decode cX12_firstOffset 0 = .ok (.aload_n 0, 1) := by decide +kernel
theorem dX12_firstOffset_1 : decode cX12_firstOffset 1 = .ok (.getfield 56, 3) := by decide +kernel
theorem dX12_firstOffset_4 : decode cX12_firstOffset 4 = .ok (.iconst 0, 1) := by decide +kernel
theorem dX12_firstOffset_5 : decode cX12_firstOffset 5 = .ok (.bipush 16, 2) := by decide +kernel
theorem dX12_firstOffset_7 : decode cX12_firstOffset 7 = .ok (.invokestatic 164, 3) := by decide +kernel
theorem dX12_firstOffset_10 : decode cX12_firstOffset 10 = .ok (.aload_n 0, 1) := by decide +kernel
theorem dX12_firstOffset_11 : decode cX12_firstOffset 11 = .ok (.getfield 56, 3) := by decide +kernel
theorem dX12_firstOffset_14 : decode cX12_firstOffset 14 = .ok (.iconst 0, 1) := by decide +kernel
theorem dX12_firstOffset_15 : decode cX12_firstOffset 15 = .ok (.bipush 8, 2) := by decide +kernel
theorem dX12_firstOffset_17 : decode cX12_firstOffset 17 = .ok (.aload_n 0, 1) := by decide +kernel
theorem dX12_firstOffset_18 : decode cX12_firstOffset 18 = .ok (.getfield 16, 3) := by decide +kernel
theorem dX12_firstOffset_21 : decode cX12_firstOffset 21 = .ok (.imul, 1) := by decide +kernel
theorem dX12_firstOffset_22 : decode cX12_firstOffset 22 = .ok (.sipush 128, 3) := by decide +kernel
theorem dX12_firstOffset_25 : decode cX12_firstOffset 25 = .ok (.irem, 1) := by decide +kernel
theorem dX12_firstOffset_26 : decode cX12_firstOffset 26 = .ok (.iconst 2, 1) := by decide +kernel
theorem dX12_firstOffset_27 : decode cX12_firstOffset 27 = .ok (.imul, 1) := by decide +kernel
theorem dX12_firstOffset_28 : decode cX12_firstOffset 28 = .ok (.iastore, 1) := by decide +kernel
theorem dX12_firstOffset_29 : decode cX12_firstOffset 29 = .ok (.aload_n 0, 1) := by decide +kernel
theorem dX12_firstOffset_30 : decode cX12_firstOffset 30 = .ok (.getfield 47, 3) := by decide +kernel
theorem dX12_firstOffset_33 : decode cX12_firstOffset 33 = .ok (.iconst 0, 1) := by decide +kernel
theorem dX12_firstOffset_34 : decode cX12_firstOffset 34 = .ok (.aload_n 0, 1) := by decide +kernel
theorem dX12_firstOffset_35 : decode cX12_firstOffset 35 = .ok (.getfield 56, 3) := by decide +kernel
theorem dX12_firstOffset_38 : decode cX12_firstOffset 38 = .ok (.bipush 16, 2) := by decide +kernel
theorem dX12_firstOffset_40 : decode cX12_firstOffset 40 = .ok (.aload_n 0, 1) := by decide +kernel
theorem dX12_firstOffset_41 : decode cX12_firstOffset 41 = .ok (.getfield 137, 3) := by decide +kernel
theorem dX12_firstOffset_44 : decode cX12_firstOffset 44 = .ok (.isub, 1) := by decide +kernel
theorem dX12_firstOffset_45 : decode cX12_firstOffset 45 = .ok (.aload_n 0, 1) := by decide +kernel
theorem dX12_firstOffset_46 : decode cX12_firstOffset 46 = .ok (.getfield 137, 3) := by decide +kernel
theorem dX12_firstOffset_49 : decode cX12_firstOffset 49 = .ok (.invokestatic 133, 3) := by decide +kernel
theorem dX12_firstOffset_52 : decode cX12_firstOffset 52 = .ok (.aload_n 0, 1) := by decide +kernel
theorem dX12_firstOffset_53 : decode cX12_firstOffset 53 = .ok (.getfield 56, 3) := by decide +kernel
theorem dX12_firstOffset_56 : decode cX12_firstOffset 56 = .ok (.bipush 15, 2) := by decide +kernel
theorem dX12_firstOffset_58 : decode cX12_firstOffset 58 = .ok (.aload_n 0, 1) := by decide +kernel
theorem dX12_firstOffset_59 : decode cX12_firstOffset 59 = .ok (.getfield 137, 3) := by decide +kernel
theorem dX12_firstOffset_62 : decode cX12_firstOffset 62 = .ok (.isub, 1) := by decide +kernel
theorem dX12_firstOffset_63 : decode cX12_firstOffset 63 = .ok (.dup2, 1) := by decide +kernel
theorem dX12_firstOffset_64 : decode cX12_firstOffset 64 = .ok (.iaload, 1) := by decide +kernel
theorem dX12_firstOffset_65 : decode cX12_firstOffset 65 = .ok (.iconst 1, 1) := by decide +kernel
theorem dX12_firstOffset_66 : decode cX12_firstOffset 66 = .ok (.ixor, 1) := by decide +kernel
theorem dX12_firstOffset_67 : decode cX12_firstOffset 67 = .ok (.iastore, 1) := by decide +kernel
theorem dX12_firstOffset_68 : decode cX12_firstOffset 68 = .ok (.aload_n 0, 1) := by decide +kernel
theorem dX12_firstOffset_69 : decode cX12_firstOffset 69 = .ok (.getfield 56, 3) := by decide +kernel
theorem dX12_firstOffset_72 : decode cX12_firstOffset 72 = .ok (.bipush 15, 2) := by decide +kernel
theorem dX12_firstOffset_74 : decode cX12_firstOffset 74 = .ok (.iaload, 1) := by decide +kernel
theorem dX12_firstOffset_75 : decode cX12_firstOffset 75 = .ok (.bipush 63, 2) := by decide +kernel
theorem dX12_firstOffset_77 : decode cX12_firstOffset 77 = .ok (.iand, 1) := by decide +kernel
theorem dX12_firstOffset_78 : decode cX12_firstOffset 78 = .ok (.istore_n 1, 1) := by decide +kernel
theorem dX12_firstOffset_79 : decode cX12_firstOffset 79 = .ok (.aload_n 0, 1) := by decide +kernel
theorem dX12_firstOffset_80 : decode cX12_firstOffset 80 = .ok (.getfield 56, 3) := by decide +kernel
theorem dX12_firstOffset_83 : decode cX12_firstOffset 83 = .ok (.bipush 15, 2) := by decide +kernel
theorem dX12_firstOffset_85 : decode cX12_firstOffset 85 = .ok (.dup2, 1) := by decide +kernel
theorem dX12_firstOffset_86 : decode cX12_firstOffset 86 = .ok (.iaload, 1) := by decide +kernel
theorem dX12_firstOffset_87 : decode cX12_firstOffset 87 = .ok (.sipush 192, 3) := by decide +kernel
theorem dX12_firstOffset_90 : decode cX12_firstOffset 90 = .ok (.iand, 1) := by decide +kernel
theorem dX12_firstOffset_91 : decode cX12_firstOffset 91 = .ok (.iastore, 1) := by decide +kernel
theorem dX12_firstOffset_92 : decode cX12_firstOffset 92 = .ok (.aload_n 0, 1) := by decide +kernel
theorem dX12_firstOffset_93 : decode cX12_firstOffset 93 = .ok (.iconst 0, 1) := by decide +kernel
theorem dX12_firstOffset_94 : decode cX12_firstOffset 94 = .ok (.aload_n 0, 1) := by decide +kernel
theorem dX12_firstOffset_95 : decode cX12_firstOffset 95 = .ok (.getfield 56, 3) := by decide +kernel
theorem dX12_firstOffset_98 : decode cX12_firstOffset 98 = .ok (.iconst 0, 1) := by decide +kernel
theorem dX12_firstOffset_99 : decode cX12_firstOffset 99 = .ok (.invokevirtual 146, 3) := by decide +kernel
theorem dX12_firstOffset_102 : decode cX12_firstOffset 102 = .ok (.iconst 0, 1) := by decide +kernel
theorem dX12_firstOffset_103 : decode cX12_firstOffset 103 = .ok (.istore_n 2, 1) := by decide +kernel
theorem dX12_firstOffset_104 : decode cX12_firstOffset 104 = .ok (.iload_n 2, 1) := by decide +kernel
theorem dX12_firstOffset_105 : decode cX12_firstOffset 105 = .ok (.bipush 24, 2) := by decide +kernel
theorem dX12_firstOffset_107 : decode cX12_firstOffset 107 = .ok (.if_icmp .ge 49, 3) := by decide +kernel
theorem dX12_firstOffset_110 : decode cX12_firstOffset 110 = .ok (.aload_n 0, 1) := by decide +kernel
theorem dX12_firstOffset_111 : decode cX12_firstOffset 111 = .ok (.getfield 98, 3) := by decide +kernel
theorem dX12_firstOffset_114 : decode cX12_firstOffset 114 = .ok (.iload_n 2, 1) := by decide +kernel
theorem dX12_firstOffset_115 : decode cX12_firstOffset 115 = .ok (.iload_n 2, 1) := by decide +kernel
theorem dX12_firstOffset_116 : decode cX12_firstOffset 116 = .ok (.bipush 16, 2) := by decide +kernel
theorem dX12_firstOffset_118 : decode cX12_firstOffset 118 = .ok (.if_icmp .ge 12, 3) := by decide +kernel
theorem dX12_firstOffset_121 : decode cX12_firstOffset 121 = .ok (.aload_n 0, 1) := by decide +kernel
theorem dX12_firstOffset_122 : decode cX12_firstOffset 122 = .ok (.getfield 56, 3) := by decide +kernel
theorem dX12_firstOffset_125 : decode cX12_firstOffset 125 = .ok (.iload_n 2, 1) := by decide +kernel
theorem dX12_firstOffset_126 : decode cX12_firstOffset 126 = .ok (.iaload, 1) := by decide +kernel
theorem dX12_firstOffset_127 : decode cX12_firstOffset 127 = .ok (.goto 22, 3) := by decide +kernel
theorem dX12_firstOffset_130 : decode cX12_firstOffset 130 = .ok (.aload_n 0, 1) := by decide +kernel
theorem dX12_firstOffset_131 : decode cX12_firstOffset 131 = .ok (.getfield 56, 3) := by decide +kernel
theorem dX12_firstOffset_134 : decode cX12_firstOffset 134 = .ok (.iload_n 2, 1) := by decide +kernel
theorem dX12_firstOffset_135 : decode cX12_firstOffset 135 = .ok (.bipush 16, 2) := by decide +kernel
theorem dX12_firstOffset_137 : decode cX12_firstOffset 137 = .ok (.isub, 1) := by decide +kernel
theorem dX12_firstOffset_138 : decode cX12_firstOffset 138 = .ok (.iaload, 1) := by decide +kernel
theorem dX12_firstOffset_139 : decode cX12_firstOffset 139 = .ok (.aload_n 0, 1) := by decide +kernel
theorem dX12_firstOffset_140 : decode cX12_firstOffset 140 = .ok (.getfield 56, 3) := by decide +kernel
theorem dX12_firstOffset_143 : decode cX12_firstOffset 143 = .ok (.iload_n 2, 1) := by decide +kernel
theorem dX12_firstOffset_144 : decode cX12_firstOffset 144 = .ok (.bipush 15, 2) := by decide +kernel
theorem dX12_firstOffset_146 : decode cX12_firstOffset 146 = .ok (.isub, 1) := by decide +kernel
theorem dX12_firstOffset_147 : decode cX12_firstOffset 147 = .ok (.iaload, 1) := by decide +kernel
theorem dX12_firstOffset_148 : decode cX12_firstOffset 148 = .ok (.ixor, 1) := by decide +kernel
theorem dX12_firstOffset_149 : decode cX12_firstOffset 149 = .ok (.iastore, 1) := by decide +kernel
theorem dX12_firstOffset_150 : decode cX12_firstOffset 150 = .ok (.iinc 2 1, 3) := by decide +kernel
theorem dX12_firstOffset_153 : decode cX12_firstOffset 153 = .ok (.goto (-49), 3) := by decide +kernel
theorem dX12_firstOffset_156 : decode cX12_firstOffset 156 = .ok (.iconst 0, 1) := by decide +kernel
theorem dX12_firstOffset_157 : decode cX12_firstOffset 157 = .ok (.istore_n 2, 1) := by decide +kernel
theorem dX12_firstOffset_158 : decode cX12_firstOffset 158 = .ok (.iload_n 2, 1) := by decide +kernel
theorem dX12_firstOffset_159 : decode cX12_firstOffset 159 = .ok (.bipush 16, 2) := by decide +kernel
theorem dX12_firstOffset_161 : decode cX12_firstOffset 161 = .ok (.if_icmp .ge 64, 3) := by decide +kernel
theorem dX12_firstOffset_164 : decode cX12_firstOffset 164 = .ok (.iload_n 1, 1) := by decide +kernel
theorem dX12_firstOffset_165 : decode cX12_firstOffset 165 = .ok (.bipush 8, 2) := by decide +kernel
theorem dX12_firstOffset_167 : decode cX12_firstOffset 167 = .ok (.idiv, 1) := by decide +kernel
theorem dX12_firstOffset_168 : decode cX12_firstOffset 168 = .ok (.iload_n 2, 1) := by decide +kernel
theorem dX12_firstOffset_169 : decode cX12_firstOffset 169 = .ok (.iadd, 1) := by decide +kernel
theorem dX12_firstOffset_170 : decode cX12_firstOffset 170 = .ok (.istore_n 3, 1) := by decide +kernel
theorem dX12_firstOffset_171 : decode cX12_firstOffset 171 = .ok (.aload_n 0, 1) := by decide +kernel
theorem dX12_firstOffset_172 : decode cX12_firstOffset 172 = .ok (.getfield 92, 3) := by decide +kernel
theorem dX12_firstOffset_175 : decode cX12_firstOffset 175 = .ok (.iload_n 2, 1) := by decide +kernel
theorem dX12_firstOffset_176 : decode cX12_firstOffset 176 = .ok (.aload_n 0, 1) := by decide +kernel
theorem dX12_firstOffset_177 : decode cX12_firstOffset 177 = .ok (.getfield 98, 3) := by decide +kernel
theorem dX12_firstOffset_180 : decode cX12_firstOffset 180 = .ok (.iload_n 3, 1) := by decide +kernel
theorem dX12_firstOffset_181 : decode cX12_firstOffset 181 = .ok (.iaload, 1) := by decide +kernel
theorem dX12_firstOffset_182 : decode cX12_firstOffset 182 = .ok (.bipush 8, 2) := by decide +kernel
theorem dX12_firstOffset_184 : decode cX12_firstOffset 184 = .ok (.ishl, 1) := by decide +kernel
theorem dX12_firstOffset_185 : decode cX12_firstOffset 185 = .ok (.aload_n 0, 1) := by decide +kernel
theorem dX12_firstOffset_186 : decode cX12_firstOffset 186 = .ok (.getfield 98, 3) := by decide +kernel
theorem dX12_firstOffset_189 : decode cX12_firstOffset 189 = .ok (.iload_n 3, 1) := by decide +kernel
theorem dX12_firstOffset_190 : decode cX12_firstOffset 190 = .ok (.iconst 1, 1) := by decide +kernel
theorem dX12_firstOffset_191 : decode cX12_firstOffset 191 = .ok (.iadd, 1) := by decide +kernel
theorem dX12_firstOffset_192 : decode cX12_firstOffset 192 = .ok (.bipush 24, 2) := by decide +kernel
theorem dX12_firstOffset_194 : decode cX12_firstOffset 194 = .ok (.if_icmp .ge 9, 3) := by decide +kernel
theorem dX12_firstOffset_197 : decode cX12_firstOffset 197 = .ok (.iload_n 3, 1) := by decide +kernel
theorem dX12_firstOffset_198 : decode cX12_firstOffset 198 = .ok (.iconst 1, 1) := by decide +kernel
theorem dX12_firstOffset_199 : decode cX12_firstOffset 199 = .ok (.iadd, 1) := by decide +kernel
theorem dX12_firstOffset_200 : decode cX12_firstOffset 200 = .ok (.goto 4, 3) := by decide +kernel
theorem dX12_firstOffset_203 : decode cX12_firstOffset 203 = .ok (.iload_n 3, 1) := by decide +kernel
theorem dX12_firstOffset_204 : decode cX12_firstOffset 204 = .ok (.iaload, 1) := by decide +kernel
theorem dX12_firstOffset_205 : decode cX12_firstOffset 205 = .ok (.ior, 1) := by decide +kernel
theorem dX12_firstOffset_206 : decode cX12_firstOffset 206 = .ok (.bipush 8, 2) := by decide +kernel
theorem dX12_firstOffset_208 : decode cX12_firstOffset 208 = .ok (.iload_n 1, 1) := by decide +kernel
theorem dX12_firstOffset_209 : decode cX12_firstOffset 209 = .ok (.bipush 8, 2) := by decide +kernel
theorem dX12_firstOffset_211 : decode cX12_firstOffset 211 = .ok (.irem, 1) := by decide +kernel
theorem dX12_firstOffset_212 : decode cX12_firstOffset 212 = .ok (.isub, 1) := by decide +kernel
theorem dX12_firstOffset_213 : decode cX12_firstOffset 213 = .ok (.ishr, 1) := by decide +kernel
theorem dX12_firstOffset_214 : decode cX12_firstOffset 214 = .ok (.sipush 255, 3) := by decide +kernel
theorem dX12_firstOffset_217 : decode cX12_firstOffset 217 = .ok (.iand, 1) := by decide +kernel
theorem dX12_firstOffset_218 : decode cX12_firstOffset 218 = .ok (.iastore, 1) := by decide +kernel
theorem dX12_firstOffset_219 : decode cX12_firstOffset 219 = .ok (.iinc 2 1, 3) := by decide +kernel
theorem dX12_firstOffset_222 : decode cX12_firstOffset 222 = .ok (.goto (-64), 3) := by decide +kernel
theorem dX12_firstOffset_225 : decode cX12_firstOffset 225 = .ok (.return_, 1) := by decide +kernel
theorem dX12_hashAside_0 : decode cX12_hashAside 0 = .ok (.aload_n 0, 1) := by decide +kernel
theorem dX12_hashAside_1 : decode cX12_hashAside 1 = .ok (.getfield 92, 3) := by decide +kernel
theorem dX12_hashAside_4 : decode cX12_hashAside 4 = .ok (.iconst 0, 1) := by decide +kernel
theorem dX12_hashAside_5 : decode cX12_hashAside 5 = .ok (.bipush 16, 2) := by decide +kernel
theorem dX12_hashAside_7 : decode cX12_hashAside 7 = .ok (.invokestatic 164, 3) := by decide +kernel
theorem dX12_hashAside_10 : decode cX12_hashAside 10 = .ok (.aload_n 0, 1) := by decide +kernel
theorem dX12_hashAside_11 : decode cX12_hashAside 11 = .ok (.getfield 95, 3) := by decide +kernel
theorem dX12_hashAside_14 : decode cX12_hashAside 14 = .ok (.iconst 0, 1) := by decide +kernel
theorem dX12_hashAside_15 : decode cX12_hashAside 15 = .ok (.bipush 16, 2) := by decide +kernel
theorem dX12_hashAside_17 : decode cX12_hashAside 17 = .ok (.invokestatic 164, 3) := by decide +kernel
theorem dX12_hashAside_20 : decode cX12_hashAside 20 = .ok (.aload_n 0, 1) := by decide +kernel
theorem dX12_hashAside_21 : decode cX12_hashAside 21 = .ok (.getfield 140, 3) := by decide +kernel
theorem dX12_hashAside_24 : decode cX12_hashAside 24 = .ok (.bipush 16, 2) := by decide +kernel
theorem dX12_hashAside_26 : decode cX12_hashAside 26 = .ok (.idiv, 1) := by decide +kernel
theorem dX12_hashAside_27 : decode cX12_hashAside 27 = .ok (.istore_n 1, 1) := by decide +kernel
theorem dX12_hashAside_28 : decode cX12_hashAside 28 = .ok (.iconst 1, 1) := by decide +kernel
theorem dX12_hashAside_29 : decode cX12_hashAside 29 = .ok (.istore_n 2, 1) := by decide +kernel
theorem dX12_hashAside_30 : decode cX12_hashAside 30 = .ok (.iload_n 2, 1) := by decide +kernel
theorem dX12_hashAside_31 : decode cX12_hashAside 31 = .ok (.iload_n 1, 1) := by decide +kernel
theorem dX12_hashAside_32 : decode cX12_hashAside 32 = .ok (.if_icmp .gt 92, 3) := by decide +kernel
theorem dX12_hashAside_35 : decode cX12_hashAside 35 = .ok (.aload_n 0, 1) := by decide +kernel
theorem dX12_hashAside_36 : decode cX12_hashAside 36 = .ok (.getfield 89, 3) := by decide +kernel
theorem dX12_hashAside_39 : decode cX12_hashAside 39 = .ok (.bipush 16, 2) := by decide +kernel
theorem dX12_hashAside_41 : decode cX12_hashAside 41 = .ok (.iconst 2, 1) := by decide +kernel
theorem dX12_hashAside_42 : decode cX12_hashAside 42 = .ok (.iload_n 2, 1) := by decide +kernel
theorem dX12_hashAside_43 : decode cX12_hashAside 43 = .ok (.invokestatic 223, 3) := by decide +kernel
theorem dX12_hashAside_46 : decode cX12_hashAside 46 = .ok (.iadd, 1) := by decide +kernel
theorem dX12_hashAside_47 : decode cX12_hashAside 47 = .ok (.imul, 1) := by decide +kernel
theorem dX12_hashAside_48 : decode cX12_hashAside 48 = .ok (.aload_n 0, 1) := by decide +kernel
theorem dX12_hashAside_49 : decode cX12_hashAside 49 = .ok (.getfield 92, 3) := by decide +kernel
theorem dX12_hashAside_52 : decode cX12_hashAside 52 = .ok (.iconst 0, 1) := by decide +kernel
theorem dX12_hashAside_53 : decode cX12_hashAside 53 = .ok (.bipush 16, 2) := by decide +kernel
theorem dX12_hashAside_55 : decode cX12_hashAside 55 = .ok (.invokestatic 143, 3) := by decide +kernel
theorem dX12_hashAside_58 : decode cX12_hashAside 58 = .ok (.aload_n 0, 1) := by decide +kernel
theorem dX12_hashAside_59 : decode cX12_hashAside 59 = .ok (.getfield 92, 3) := by decide +kernel
theorem dX12_hashAside_62 : decode cX12_hashAside 62 = .ok (.iconst 0, 1) := by decide +kernel
theorem dX12_hashAside_63 : decode cX12_hashAside 63 = .ok (.aload_n 0, 1) := by decide +kernel
theorem dX12_hashAside_64 : decode cX12_hashAside 64 = .ok (.getfield 56, 3) := by decide +kernel
theorem dX12_hashAside_67 : decode cX12_hashAside 67 = .ok (.iconst 0, 1) := by decide +kernel
theorem dX12_hashAside_68 : decode cX12_hashAside 68 = .ok (.bipush 16, 2) := by decide +kernel
theorem dX12_hashAside_70 : decode cX12_hashAside 70 = .ok (.invokestatic 133, 3) := by decide +kernel
theorem dX12_hashAside_73 : decode cX12_hashAside 73 = .ok (.aload_n 0, 1) := by decide +kernel
theorem dX12_hashAside_74 : decode cX12_hashAside 74 = .ok (.getfield 50, 3) := by decide +kernel
theorem dX12_hashAside_77 : decode cX12_hashAside 77 = .ok (.bipush 16, 2) := by decide +kernel
theorem dX12_hashAside_79 : decode cX12_hashAside 79 = .ok (.iload_n 2, 1) := by decide +kernel
theorem dX12_hashAside_80 : decode cX12_hashAside 80 = .ok (.iconst 1, 1) := by decide +kernel
theorem dX12_hashAside_81 : decode cX12_hashAside 81 = .ok (.isub, 1) := by decide +kernel
theorem dX12_hashAside_82 : decode cX12_hashAside 82 = .ok (.imul, 1) := by decide +kernel
theorem dX12_hashAside_83 : decode cX12_hashAside 83 = .ok (.aload_n 0, 1) := by decide +kernel
theorem dX12_hashAside_84 : decode cX12_hashAside 84 = .ok (.getfield 56, 3) := by decide +kernel
theorem dX12_hashAside_87 : decode cX12_hashAside 87 = .ok (.iconst 0, 1) := by decide +kernel
theorem dX12_hashAside_88 : decode cX12_hashAside 88 = .ok (.bipush 16, 2) := by decide +kernel
theorem dX12_hashAside_90 : decode cX12_hashAside 90 = .ok (.invokestatic 143, 3) := by decide +kernel
theorem dX12_hashAside_93 : decode cX12_hashAside 93 = .ok (.aload_n 0, 1) := by decide +kernel
theorem dX12_hashAside_94 : decode cX12_hashAside 94 = .ok (.iconst 0, 1) := by decide +kernel
theorem dX12_hashAside_95 : decode cX12_hashAside 95 = .ok (.aload_n 0, 1) := by decide +kernel
theorem dX12_hashAside_96 : decode cX12_hashAside 96 = .ok (.getfield 56, 3) := by decide +kernel
theorem dX12_hashAside_99 : decode cX12_hashAside 99 = .ok (.iconst 0, 1) := by decide +kernel
theorem dX12_hashAside_100 : decode cX12_hashAside 100 = .ok (.invokevirtual 146, 3) := by decide +kernel
theorem dX12_hashAside_103 : decode cX12_hashAside 103 = .ok (.aload_n 0, 1) := by decide +kernel
theorem dX12_hashAside_104 : decode cX12_hashAside 104 = .ok (.getfield 56, 3) := by decide +kernel
theorem dX12_hashAside_107 : decode cX12_hashAside 107 = .ok (.iconst 0, 1) := by decide +kernel
theorem dX12_hashAside_108 : decode cX12_hashAside 108 = .ok (.aload_n 0, 1) := by decide +kernel
theorem dX12_hashAside_109 : decode cX12_hashAside 109 = .ok (.getfield 95, 3) := by decide +kernel
theorem dX12_hashAside_112 : decode cX12_hashAside 112 = .ok (.iconst 0, 1) := by decide +kernel
theorem dX12_hashAside_113 : decode cX12_hashAside 113 = .ok (.bipush 16, 2) := by decide +kernel
theorem dX12_hashAside_115 : decode cX12_hashAside 115 = .ok (.invokestatic 143, 3) := by decide +kernel
theorem dX12_hashAside_118 : decode cX12_hashAside 118 = .ok (.iinc 2 1, 3) := by decide +kernel
theorem dX12_hashAside_121 : decode cX12_hashAside 121 = .ok (.goto (-91), 3) := by decide +kernel
theorem dX12_hashAside_124 : decode cX12_hashAside 124 = .ok (.aload_n 0, 1) := by decide +kernel
theorem dX12_hashAside_125 : decode cX12_hashAside 125 = .ok (.getfield 140, 3) := by decide +kernel
theorem dX12_hashAside_128 : decode cX12_hashAside 128 = .ok (.bipush 16, 2) := by decide +kernel
theorem dX12_hashAside_130 : decode cX12_hashAside 130 = .ok (.iload_n 1, 1) := by decide +kernel
theorem dX12_hashAside_131 : decode cX12_hashAside 131 = .ok (.imul, 1) := by decide +kernel
theorem dX12_hashAside_132 : decode cX12_hashAside 132 = .ok (.isub, 1) := by decide +kernel
theorem dX12_hashAside_133 : decode cX12_hashAside 133 = .ok (.istore_n 2, 1) := by decide +kernel
theorem dX12_hashAside_134 : decode cX12_hashAside 134 = .ok (.iload_n 2, 1) := by decide +kernel
theorem dX12_hashAside_135 : decode cX12_hashAside 135 = .ok (.ifCond .le 87, 3) := by decide +kernel
theorem dX12_hashAside_138 : decode cX12_hashAside 138 = .ok (.aload_n 0, 1) := by decide +kernel
theorem dX12_hashAside_139 : decode cX12_hashAside 139 = .ok (.getfield 89, 3) := by decide +kernel
theorem dX12_hashAside_142 : decode cX12_hashAside 142 = .ok (.iconst 0, 1) := by decide +kernel
theorem dX12_hashAside_143 : decode cX12_hashAside 143 = .ok (.aload_n 0, 1) := by decide +kernel
theorem dX12_hashAside_144 : decode cX12_hashAside 144 = .ok (.getfield 92, 3) := by decide +kernel
theorem dX12_hashAside_147 : decode cX12_hashAside 147 = .ok (.iconst 0, 1) := by decide +kernel
theorem dX12_hashAside_148 : decode cX12_hashAside 148 = .ok (.bipush 16, 2) := by decide +kernel
theorem dX12_hashAside_150 : decode cX12_hashAside 150 = .ok (.invokestatic 143, 3) := by decide +kernel
theorem dX12_hashAside_153 : decode cX12_hashAside 153 = .ok (.aload_n 0, 1) := by decide +kernel
theorem dX12_hashAside_154 : decode cX12_hashAside 154 = .ok (.getfield 92, 3) := by decide +kernel
theorem dX12_hashAside_157 : decode cX12_hashAside 157 = .ok (.iconst 0, 1) := by decide +kernel
theorem dX12_hashAside_158 : decode cX12_hashAside 158 = .ok (.aload_n 0, 1) := by decide +kernel
theorem dX12_hashAside_159 : decode cX12_hashAside 159 = .ok (.getfield 56, 3) := by decide +kernel
theorem dX12_hashAside_162 : decode cX12_hashAside 162 = .ok (.iconst 0, 1) := by decide +kernel
theorem dX12_hashAside_163 : decode cX12_hashAside 163 = .ok (.bipush 16, 2) := by decide +kernel
theorem dX12_hashAside_165 : decode cX12_hashAside 165 = .ok (.invokestatic 133, 3) := by decide +kernel
theorem dX12_hashAside_168 : decode cX12_hashAside 168 = .ok (.aload_n 0, 1) := by decide +kernel
theorem dX12_hashAside_169 : decode cX12_hashAside 169 = .ok (.getfield 50, 3) := by decide +kernel
theorem dX12_hashAside_172 : decode cX12_hashAside 172 = .ok (.bipush 16, 2) := by decide +kernel
theorem dX12_hashAside_174 : decode cX12_hashAside 174 = .ok (.iload_n 1, 1) := by decide +kernel
theorem dX12_hashAside_175 : decode cX12_hashAside 175 = .ok (.imul, 1) := by decide +kernel
theorem dX12_hashAside_176 : decode cX12_hashAside 176 = .ok (.aload_n 0, 1) := by decide +kernel
theorem dX12_hashAside_177 : decode cX12_hashAside 177 = .ok (.getfield 56, 3) := by decide +kernel
theorem dX12_hashAside_180 : decode cX12_hashAside 180 = .ok (.iconst 0, 1) := by decide +kernel
theorem dX12_hashAside_181 : decode cX12_hashAside 181 = .ok (.iload_n 2, 1) := by decide +kernel
theorem dX12_hashAside_182 : decode cX12_hashAside 182 = .ok (.invokestatic 143, 3) := by decide +kernel
theorem dX12_hashAside_185 : decode cX12_hashAside 185 = .ok (.aload_n 0, 1) := by decide +kernel
theorem dX12_hashAside_186 : decode cX12_hashAside 186 = .ok (.getfield 56, 3) := by decide +kernel
theorem dX12_hashAside_189 : decode cX12_hashAside 189 = .ok (.iload_n 2, 1) := by decide +kernel
theorem dX12_hashAside_190 : decode cX12_hashAside 190 = .ok (.dup2, 1) := by decide +kernel
theorem dX12_hashAside_191 : decode cX12_hashAside 191 = .ok (.iaload, 1) := by decide +kernel
theorem dX12_hashAside_192 : decode cX12_hashAside 192 = .ok (.sipush 128, 3) := by decide +kernel
theorem dX12_hashAside_195 : decode cX12_hashAside 195 = .ok (.ixor, 1) := by decide +kernel
theorem dX12_hashAside_196 : decode cX12_hashAside 196 = .ok (.iastore, 1) := by decide +kernel
theorem dX12_hashAside_197 : decode cX12_hashAside 197 = .ok (.aload_n 0, 1) := by decide +kernel
theorem dX12_hashAside_198 : decode cX12_hashAside 198 = .ok (.iconst 0, 1) := by decide +kernel
theorem dX12_hashAside_199 : decode cX12_hashAside 199 = .ok (.aload_n 0, 1) := by decide +kernel
theorem dX12_hashAside_200 : decode cX12_hashAside 200 = .ok (.getfield 56, 3) := by decide +kernel
theorem dX12_hashAside_203 : decode cX12_hashAside 203 = .ok (.iconst 0, 1) := by decide +kernel
theorem dX12_hashAside_204 : decode cX12_hashAside 204 = .ok (.invokevirtual 146, 3) := by decide +kernel
theorem dX12_hashAside_207 : decode cX12_hashAside 207 = .ok (.aload_n 0, 1) := by decide +kernel
theorem dX12_hashAside_208 : decode cX12_hashAside 208 = .ok (.getfield 56, 3) := by decide +kernel
theorem dX12_hashAside_211 : decode cX12_hashAside 211 = .ok (.iconst 0, 1) := by decide +kernel
theorem dX12_hashAside_212 : decode cX12_hashAside 212 = .ok (.aload_n 0, 1) := by decide +kernel
theorem dX12_hashAside_213 : decode cX12_hashAside 213 = .ok (.getfield 95, 3) := by decide +kernel
theorem dX12_hashAside_216 : decode cX12_hashAside 216 = .ok (.iconst 0, 1) := by decide +kernel
theorem dX12_hashAside_217 : decode cX12_hashAside 217 = .ok (.bipush 16, 2) := by decide +kernel
theorem dX12_hashAside_219 : decode cX12_hashAside 219 = .ok (.invokestatic 143, 3) := by decide +kernel
theorem dX12_hashAside_222 : decode cX12_hashAside 222 = .ok (.return_, 1) := by decide +kernel
theorem dX12_offsets_0 : decode cX12_offsets 0 = .ok (.aload_n 0, 1) := by decide +kernel
theorem dX12_offsets_1 : decode cX12_offsets 1 = .ok (.invokevirtual 226, 3) := by decide +kernel
theorem dX12_offsets_4 : decode cX12_offsets 4 = .ok (.aload_n 0, 1) := by decide +kernel
theorem dX12_offsets_5 : decode cX12_offsets 5 = .ok (.invokevirtual 229, 3) := by decide +kernel
theorem dX12_offsets_8 : decode cX12_offsets 8 = .ok (.aload_n 0, 1) := by decide +kernel
theorem dX12_offsets_9 : decode cX12_offsets 9 = .ok (.invokevirtual 232, 3) := by decide +kernel
