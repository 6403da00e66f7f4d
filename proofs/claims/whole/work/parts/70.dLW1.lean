/-! The code of the law, instruction by instruction -/
theorem d_LW_law_156 : decode code 156 = .ok (.iaload, 1) := by decide +kernel
theorem d_LW_law_157 : decode code 157 = .ok (.invokevirtual 25, 3) := by decide +kernel
theorem d_LW_law_160 : decode code 160 = .ok (.if_icmp .eq 489, 3) := by decide +kernel
theorem d_LW_law_163 : decode code 163 = .ok (.iconst 0, 1) := by decide +kernel
theorem d_LW_law_164 : decode code 164 = .ok (.ireturn, 1) := by decide +kernel
theorem d_LW_law_165 : decode code 165 = .ok (.aload_n 1, 1) := by decide +kernel
theorem d_LW_law_166 : decode code 166 = .ok (.invokevirtual 26, 3) := by decide +kernel
theorem d_LW_law_169 : decode code 169 = .ok (.aload_n 2, 1) := by decide +kernel
theorem d_LW_law_170 : decode code 170 = .ok (.invokevirtual 30, 3) := by decide +kernel
theorem d_LW_law_173 : decode code 173 = .ok (.if_icmp .eq 476, 3) := by decide +kernel
theorem d_LW_law_176 : decode code 176 = .ok (.iconst 0, 1) := by decide +kernel
theorem d_LW_law_177 : decode code 177 = .ok (.ireturn, 1) := by decide +kernel
theorem d_LW_law_178 : decode code 178 = .ok (.aload_n 1, 1) := by decide +kernel
theorem d_LW_law_179 : decode code 179 = .ok (.aload_n 0, 1) := by decide +kernel
theorem d_LW_law_180 : decode code 180 = .ok (.iload_n 3, 1) := by decide +kernel
theorem d_LW_law_181 : decode code 181 = .ok (.iconst 1, 1) := by decide +kernel
theorem d_LW_law_182 : decode code 182 = .ok (.iadd, 1) := by decide +kernel
theorem d_LW_law_183 : decode code 183 = .ok (.iaload, 1) := by decide +kernel
theorem d_LW_law_184 : decode code 184 = .ok (.aload_n 0, 1) := by decide +kernel
theorem d_LW_law_185 : decode code 185 = .ok (.iload_n 3, 1) := by decide +kernel
theorem d_LW_law_186 : decode code 186 = .ok (.iconst 2, 1) := by decide +kernel
theorem d_LW_law_187 : decode code 187 = .ok (.iadd, 1) := by decide +kernel
theorem d_LW_law_188 : decode code 188 = .ok (.iaload, 1) := by decide +kernel
theorem d_LW_law_189 : decode code 189 = .ok (.invokevirtual 31, 3) := by decide +kernel
theorem d_LW_law_192 : decode code 192 = .ok (.aload_n 2, 1) := by decide +kernel
theorem d_LW_law_193 : decode code 193 = .ok (.aload_n 0, 1) := by decide +kernel
theorem d_LW_law_194 : decode code 194 = .ok (.iload_n 3, 1) := by decide +kernel
theorem d_LW_law_195 : decode code 195 = .ok (.iconst 1, 1) := by decide +kernel
theorem d_LW_law_196 : decode code 196 = .ok (.iadd, 1) := by decide +kernel
theorem d_LW_law_197 : decode code 197 = .ok (.iaload, 1) := by decide +kernel
theorem d_LW_law_198 : decode code 198 = .ok (.aload_n 0, 1) := by decide +kernel
theorem d_LW_law_199 : decode code 199 = .ok (.iload_n 3, 1) := by decide +kernel
theorem d_LW_law_200 : decode code 200 = .ok (.iconst 2, 1) := by decide +kernel
theorem d_LW_law_201 : decode code 201 = .ok (.iadd, 1) := by decide +kernel
theorem d_LW_law_202 : decode code 202 = .ok (.iaload, 1) := by decide +kernel
theorem d_LW_law_203 : decode code 203 = .ok (.invokevirtual 35, 3) := by decide +kernel
theorem d_LW_law_206 : decode code 206 = .ok (.if_icmp .eq 443, 3) := by decide +kernel
theorem d_LW_law_209 : decode code 209 = .ok (.iconst 0, 1) := by decide +kernel
theorem d_LW_law_210 : decode code 210 = .ok (.ireturn, 1) := by decide +kernel
theorem d_LW_law_211 : decode code 211 = .ok (.aload_n 1, 1) := by decide +kernel
theorem d_LW_law_212 : decode code 212 = .ok (.aload_n 0, 1) := by decide +kernel
theorem d_LW_law_213 : decode code 213 = .ok (.iload_n 3, 1) := by decide +kernel
theorem d_LW_law_214 : decode code 214 = .ok (.iconst 1, 1) := by decide +kernel
theorem d_LW_law_215 : decode code 215 = .ok (.iadd, 1) := by decide +kernel
theorem d_LW_law_216 : decode code 216 = .ok (.iaload, 1) := by decide +kernel
theorem d_LW_law_217 : decode code 217 = .ok (.invokevirtual 36, 3) := by decide +kernel
theorem d_LW_law_220 : decode code 220 = .ok (.aload_n 2, 1) := by decide +kernel
theorem d_LW_law_221 : decode code 221 = .ok (.aload_n 0, 1) := by decide +kernel
theorem d_LW_law_222 : decode code 222 = .ok (.iload_n 3, 1) := by decide +kernel
theorem d_LW_law_223 : decode code 223 = .ok (.iconst 1, 1) := by decide +kernel
