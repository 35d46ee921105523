abbrev cLaw_law : ByteArray := code
theorem dLaw_law_0 : decode cLaw_law 0 = .ok (.new 7, 3) := by decide +kernel
theorem dLaw_law_3 : decode cLaw_law 3 = .ok (.dup, 1) := by decide +kernel
theorem dLaw_law_4 : decode cLaw_law 4 = .ok (.invokespecial 9, 3) := by decide +kernel
theorem dLaw_law_7 : decode cLaw_law 7 = .ok (.astore_n 1, 1) := by decide +kernel
theorem dLaw_law_8 : decode cLaw_law 8 = .ok (.new 10, 3) := by decide +kernel
theorem dLaw_law_11 : decode cLaw_law 11 = .ok (.dup, 1) := by decide +kernel
theorem dLaw_law_12 : decode cLaw_law 12 = .ok (.invokespecial 12, 3) := by decide +kernel
theorem dLaw_law_15 : decode cLaw_law 15 = .ok (.astore_n 2, 1) := by decide +kernel
theorem dLaw_law_16 : decode cLaw_law 16 = .ok (.iconst 0, 1) := by decide +kernel
theorem dLaw_law_17 : decode cLaw_law 17 = .ok (.istore_n 3, 1) := by decide +kernel
theorem dLaw_law_18 : decode cLaw_law 18 = .ok (.iload_n 3, 1) := by decide +kernel
theorem dLaw_law_19 : decode cLaw_law 19 = .ok (.aload_n 0, 1) := by decide +kernel
theorem dLaw_law_20 : decode cLaw_law 20 = .ok (.arraylength, 1) := by decide +kernel
theorem dLaw_law_21 : decode cLaw_law 21 = .ok (.iconst 4, 1) := by decide +kernel
theorem dLaw_law_22 : decode cLaw_law 22 = .ok (.isub, 1) := by decide +kernel
theorem dLaw_law_23 : decode cLaw_law 23 = .ok (.if_icmp .gt 245, 3) := by decide +kernel
theorem dLaw_law_26 : decode cLaw_law 26 = .ok (.aload_n 0, 1) := by decide +kernel
theorem dLaw_law_27 : decode cLaw_law 27 = .ok (.iload_n 3, 1) := by decide +kernel
theorem dLaw_law_28 : decode cLaw_law 28 = .ok (.iaload, 1) := by decide +kernel
theorem dLaw_law_29 : decode cLaw_law 29 = .ok (.bipush 7, 2) := by decide +kernel
theorem dLaw_law_31 : decode cLaw_law 31 = .ok (.iand, 1) := by decide +kernel
theorem dLaw_law_32 : decode cLaw_law 32 = .ok (.tableswitch 230 0 5 #[40, 103, 117, 130, 163, 207], 40) := by decide +kernel
theorem dLaw_law_72 : decode cLaw_law 72 = .ok (.aload_n 1, 1) := by decide +kernel
theorem dLaw_law_73 : decode cLaw_law 73 = .ok (.aload_n 0, 1) := by decide +kernel
theorem dLaw_law_74 : decode cLaw_law 74 = .ok (.iload_n 3, 1) := by decide +kernel
theorem dLaw_law_75 : decode cLaw_law 75 = .ok (.iconst 1, 1) := by decide +kernel
theorem dLaw_law_76 : decode cLaw_law 76 = .ok (.iadd, 1) := by decide +kernel
theorem dLaw_law_77 : decode cLaw_law 77 = .ok (.iaload, 1) := by decide +kernel
theorem dLaw_law_78 : decode cLaw_law 78 = .ok (.i2l, 1) := by decide +kernel
theorem dLaw_law_79 : decode cLaw_law 79 = .ok (.bipush 32, 2) := by decide +kernel
theorem dLaw_law_81 : decode cLaw_law 81 = .ok (.lshl, 1) := by decide +kernel
theorem dLaw_law_82 : decode cLaw_law 82 = .ok (.aload_n 0, 1) := by decide +kernel
theorem dLaw_law_83 : decode cLaw_law 83 = .ok (.iload_n 3, 1) := by decide +kernel
theorem dLaw_law_84 : decode cLaw_law 84 = .ok (.iconst 2, 1) := by decide +kernel
theorem dLaw_law_85 : decode cLaw_law 85 = .ok (.iadd, 1) := by decide +kernel
theorem dLaw_law_86 : decode cLaw_law 86 = .ok (.iaload, 1) := by decide +kernel
theorem dLaw_law_87 : decode cLaw_law 87 = .ok (.i2l, 1) := by decide +kernel
theorem dLaw_law_88 : decode cLaw_law 88 = .ok (.ldc2_w 13, 3) := by decide +kernel
theorem dLaw_law_91 : decode cLaw_law 91 = .ok (.land, 1) := by decide +kernel
theorem dLaw_law_92 : decode cLaw_law 92 = .ok (.lor, 1) := by decide +kernel
theorem dLaw_law_93 : decode cLaw_law 93 = .ok (.aload_n 0, 1) := by decide +kernel
theorem dLaw_law_94 : decode cLaw_law 94 = .ok (.iload_n 3, 1) := by decide +kernel
theorem dLaw_law_95 : decode cLaw_law 95 = .ok (.iconst 3, 1) := by decide +kernel
theorem dLaw_law_96 : decode cLaw_law 96 = .ok (.iadd, 1) := by decide +kernel
theorem dLaw_law_97 : decode cLaw_law 97 = .ok (.iaload, 1) := by decide +kernel
theorem dLaw_law_98 : decode cLaw_law 98 = .ok (.invokevirtual 15, 3) := by decide +kernel
theorem dLaw_law_101 : decode cLaw_law 101 = .ok (.aload_n 2, 1) := by decide +kernel
theorem dLaw_law_102 : decode cLaw_law 102 = .ok (.aload_n 0, 1) := by decide +kernel
theorem dLaw_law_103 : decode cLaw_law 103 = .ok (.iload_n 3, 1) := by decide +kernel
theorem dLaw_law_104 : decode cLaw_law 104 = .ok (.iconst 1, 1) := by decide +kernel
theorem dLaw_law_105 : decode cLaw_law 105 = .ok (.iadd, 1) := by decide +kernel
theorem dLaw_law_106 : decode cLaw_law 106 = .ok (.iaload, 1) := by decide +kernel
theorem dLaw_law_107 : decode cLaw_law 107 = .ok (.i2l, 1) := by decide +kernel
theorem dLaw_law_108 : decode cLaw_law 108 = .ok (.bipush 32, 2) := by decide +kernel
theorem dLaw_law_110 : decode cLaw_law 110 = .ok (.lshl, 1) := by decide +kernel
theorem dLaw_law_111 : decode cLaw_law 111 = .ok (.aload_n 0, 1) := by decide +kernel
theorem dLaw_law_112 : decode cLaw_law 112 = .ok (.iload_n 3, 1) := by decide +kernel
theorem dLaw_law_113 : decode cLaw_law 113 = .ok (.iconst 2, 1) := by decide +kernel
theorem dLaw_law_114 : decode cLaw_law 114 = .ok (.iadd, 1) := by decide +kernel
theorem dLaw_law_115 : decode cLaw_law 115 = .ok (.iaload, 1) := by decide +kernel
theorem dLaw_law_116 : decode cLaw_law 116 = .ok (.i2l, 1) := by decide +kernel
theorem dLaw_law_117 : decode cLaw_law 117 = .ok (.ldc2_w 13, 3) := by decide +kernel
theorem dLaw_law_120 : decode cLaw_law 120 = .ok (.land, 1) := by decide +kernel
theorem dLaw_law_121 : decode cLaw_law 121 = .ok (.lor, 1) := by decide +kernel
theorem dLaw_law_122 : decode cLaw_law 122 = .ok (.aload_n 0, 1) := by decide +kernel
theorem dLaw_law_123 : decode cLaw_law 123 = .ok (.iload_n 3, 1) := by decide +kernel
theorem dLaw_law_124 : decode cLaw_law 124 = .ok (.iconst 3, 1) := by decide +kernel
theorem dLaw_law_125 : decode cLaw_law 125 = .ok (.iadd, 1) := by decide +kernel
theorem dLaw_law_126 : decode cLaw_law 126 = .ok (.iaload, 1) := by decide +kernel
theorem dLaw_law_127 : decode cLaw_law 127 = .ok (.invokevirtual 19, 3) := by decide +kernel
theorem dLaw_law_130 : decode cLaw_law 130 = .ok (.if_icmp .eq 132, 3) := by decide +kernel
theorem dLaw_law_133 : decode cLaw_law 133 = .ok (.iconst 0, 1) := by decide +kernel
theorem dLaw_law_134 : decode cLaw_law 134 = .ok (.ireturn, 1) := by decide +kernel
theorem dLaw_law_135 : decode cLaw_law 135 = .ok (.aload_n 1, 1) := by decide +kernel
theorem dLaw_law_136 : decode cLaw_law 136 = .ok (.invokevirtual 20, 3) := by decide +kernel
theorem dLaw_law_139 : decode cLaw_law 139 = .ok (.aload_n 2, 1) := by decide +kernel
theorem dLaw_law_140 : decode cLaw_law 140 = .ok (.invokevirtual 24, 3) := by decide +kernel
theorem dLaw_law_143 : decode cLaw_law 143 = .ok (.lcmp, 1) := by decide +kernel
theorem dLaw_law_144 : decode cLaw_law 144 = .ok (.ifCond .eq 118, 3) := by decide +kernel
theorem dLaw_law_147 : decode cLaw_law 147 = .ok (.iconst 0, 1) := by decide +kernel
theorem dLaw_law_148 : decode cLaw_law 148 = .ok (.ireturn, 1) := by decide +kernel
theorem dLaw_law_149 : decode cLaw_law 149 = .ok (.aload_n 1, 1) := by decide +kernel
theorem dLaw_law_150 : decode cLaw_law 150 = .ok (.invokevirtual 25, 3) := by decide +kernel
theorem dLaw_law_153 : decode cLaw_law 153 = .ok (.aload_n 2, 1) := by decide +kernel
theorem dLaw_law_154 : decode cLaw_law 154 = .ok (.invokevirtual 29, 3) := by decide +kernel
theorem dLaw_law_157 : decode cLaw_law 157 = .ok (.if_icmp .eq 105, 3) := by decide +kernel
theorem dLaw_law_160 : decode cLaw_law 160 = .ok (.iconst 0, 1) := by decide +kernel
theorem dLaw_law_161 : decode cLaw_law 161 = .ok (.ireturn, 1) := by decide +kernel
theorem dLaw_law_162 : decode cLaw_law 162 = .ok (.aload_n 1, 1) := by decide +kernel
theorem dLaw_law_163 : decode cLaw_law 163 = .ok (.aload_n 0, 1) := by decide +kernel
theorem dLaw_law_164 : decode cLaw_law 164 = .ok (.iload_n 3, 1) := by decide +kernel
theorem dLaw_law_165 : decode cLaw_law 165 = .ok (.iconst 1, 1) := by decide +kernel
theorem dLaw_law_166 : decode cLaw_law 166 = .ok (.iadd, 1) := by decide +kernel
theorem dLaw_law_167 : decode cLaw_law 167 = .ok (.iaload, 1) := by decide +kernel
theorem dLaw_law_168 : decode cLaw_law 168 = .ok (.aload_n 0, 1) := by decide +kernel
theorem dLaw_law_169 : decode cLaw_law 169 = .ok (.iload_n 3, 1) := by decide +kernel
theorem dLaw_law_170 : decode cLaw_law 170 = .ok (.iconst 2, 1) := by decide +kernel
theorem dLaw_law_171 : decode cLaw_law 171 = .ok (.iadd, 1) := by decide +kernel
theorem dLaw_law_172 : decode cLaw_law 172 = .ok (.iaload, 1) := by decide +kernel
theorem dLaw_law_173 : decode cLaw_law 173 = .ok (.invokevirtual 30, 3) := by decide +kernel
theorem dLaw_law_176 : decode cLaw_law 176 = .ok (.aload_n 2, 1) := by decide +kernel
theorem dLaw_law_177 : decode cLaw_law 177 = .ok (.aload_n 0, 1) := by decide +kernel
theorem dLaw_law_178 : decode cLaw_law 178 = .ok (.iload_n 3, 1) := by decide +kernel
theorem dLaw_law_179 : decode cLaw_law 179 = .ok (.iconst 1, 1) := by decide +kernel
theorem dLaw_law_180 : decode cLaw_law 180 = .ok (.iadd, 1) := by decide +kernel
theorem dLaw_law_181 : decode cLaw_law 181 = .ok (.iaload, 1) := by decide +kernel
theorem dLaw_law_182 : decode cLaw_law 182 = .ok (.aload_n 0, 1) := by decide +kernel
theorem dLaw_law_183 : decode cLaw_law 183 = .ok (.iload_n 3, 1) := by decide +kernel
theorem dLaw_law_184 : decode cLaw_law 184 = .ok (.iconst 2, 1) := by decide +kernel
theorem dLaw_law_185 : decode cLaw_law 185 = .ok (.iadd, 1) := by decide +kernel
theorem dLaw_law_186 : decode cLaw_law 186 = .ok (.iaload, 1) := by decide +kernel
theorem dLaw_law_187 : decode cLaw_law 187 = .ok (.invokevirtual 34, 3) := by decide +kernel
theorem dLaw_law_190 : decode cLaw_law 190 = .ok (.if_icmp .eq 72, 3) := by decide +kernel
theorem dLaw_law_193 : decode cLaw_law 193 = .ok (.iconst 0, 1) := by decide +kernel
theorem dLaw_law_194 : decode cLaw_law 194 = .ok (.ireturn, 1) := by decide +kernel
theorem dLaw_law_195 : decode cLaw_law 195 = .ok (.aload_n 1, 1) := by decide +kernel
theorem dLaw_law_196 : decode cLaw_law 196 = .ok (.aload_n 0, 1) := by decide +kernel
theorem dLaw_law_197 : decode cLaw_law 197 = .ok (.iload_n 3, 1) := by decide +kernel
theorem dLaw_law_198 : decode cLaw_law 198 = .ok (.iconst 1, 1) := by decide +kernel
theorem dLaw_law_199 : decode cLaw_law 199 = .ok (.iadd, 1) := by decide +kernel
theorem dLaw_law_200 : decode cLaw_law 200 = .ok (.iaload, 1) := by decide +kernel
theorem dLaw_law_201 : decode cLaw_law 201 = .ok (.aload_n 0, 1) := by decide +kernel
theorem dLaw_law_202 : decode cLaw_law 202 = .ok (.iload_n 3, 1) := by decide +kernel
theorem dLaw_law_203 : decode cLaw_law 203 = .ok (.iconst 2, 1) := by decide +kernel
theorem dLaw_law_204 : decode cLaw_law 204 = .ok (.iadd, 1) := by decide +kernel
theorem dLaw_law_205 : decode cLaw_law 205 = .ok (.iaload, 1) := by decide +kernel
theorem dLaw_law_206 : decode cLaw_law 206 = .ok (.aload_n 0, 1) := by decide +kernel
theorem dLaw_law_207 : decode cLaw_law 207 = .ok (.iload_n 3, 1) := by decide +kernel
theorem dLaw_law_208 : decode cLaw_law 208 = .ok (.iconst 3, 1) := by decide +kernel
theorem dLaw_law_209 : decode cLaw_law 209 = .ok (.iadd, 1) := by decide +kernel
theorem dLaw_law_210 : decode cLaw_law 210 = .ok (.iaload, 1) := by decide +kernel
theorem dLaw_law_211 : decode cLaw_law 211 = .ok (.invokevirtual 35, 3) := by decide +kernel
theorem dLaw_law_214 : decode cLaw_law 214 = .ok (.aload_n 2, 1) := by decide +kernel
theorem dLaw_law_215 : decode cLaw_law 215 = .ok (.aload_n 0, 1) := by decide +kernel
theorem dLaw_law_216 : decode cLaw_law 216 = .ok (.iload_n 3, 1) := by decide +kernel
theorem dLaw_law_217 : decode cLaw_law 217 = .ok (.iconst 1, 1) := by decide +kernel
theorem dLaw_law_218 : decode cLaw_law 218 = .ok (.iadd, 1) := by decide +kernel
theorem dLaw_law_219 : decode cLaw_law 219 = .ok (.iaload, 1) := by decide +kernel
theorem dLaw_law_220 : decode cLaw_law 220 = .ok (.aload_n 0, 1) := by decide +kernel
theorem dLaw_law_221 : decode cLaw_law 221 = .ok (.iload_n 3, 1) := by decide +kernel
theorem dLaw_law_222 : decode cLaw_law 222 = .ok (.iconst 2, 1) := by decide +kernel
theorem dLaw_law_223 : decode cLaw_law 223 = .ok (.iadd, 1) := by decide +kernel
theorem dLaw_law_224 : decode cLaw_law 224 = .ok (.iaload, 1) := by decide +kernel
theorem dLaw_law_225 : decode cLaw_law 225 = .ok (.aload_n 0, 1) := by decide +kernel
theorem dLaw_law_226 : decode cLaw_law 226 = .ok (.iload_n 3, 1) := by decide +kernel
theorem dLaw_law_227 : decode cLaw_law 227 = .ok (.iconst 3, 1) := by decide +kernel
theorem dLaw_law_228 : decode cLaw_law 228 = .ok (.iadd, 1) := by decide +kernel
theorem dLaw_law_229 : decode cLaw_law 229 = .ok (.iaload, 1) := by decide +kernel
theorem dLaw_law_230 : decode cLaw_law 230 = .ok (.invokevirtual 39, 3) := by decide +kernel
theorem dLaw_law_233 : decode cLaw_law 233 = .ok (.lcmp, 1) := by decide +kernel
theorem dLaw_law_234 : decode cLaw_law 234 = .ok (.ifCond .eq 28, 3) := by decide +kernel
theorem dLaw_law_237 : decode cLaw_law 237 = .ok (.iconst 0, 1) := by decide +kernel
theorem dLaw_law_238 : decode cLaw_law 238 = .ok (.ireturn, 1) := by decide +kernel
theorem dLaw_law_239 : decode cLaw_law 239 = .ok (.aload_n 1, 1) := by decide +kernel
theorem dLaw_law_240 : decode cLaw_law 240 = .ok (.aload_n 0, 1) := by decide +kernel
theorem dLaw_law_241 : decode cLaw_law 241 = .ok (.iload_n 3, 1) := by decide +kernel
theorem dLaw_law_242 : decode cLaw_law 242 = .ok (.iconst 1, 1) := by decide +kernel
theorem dLaw_law_243 : decode cLaw_law 243 = .ok (.iadd, 1) := by decide +kernel
theorem dLaw_law_244 : decode cLaw_law 244 = .ok (.iaload, 1) := by decide +kernel
theorem dLaw_law_245 : decode cLaw_law 245 = .ok (.invokevirtual 40, 3) := by decide +kernel
theorem dLaw_law_248 : decode cLaw_law 248 = .ok (.aload_n 2, 1) := by decide +kernel
theorem dLaw_law_249 : decode cLaw_law 249 = .ok (.aload_n 0, 1) := by decide +kernel
theorem dLaw_law_250 : decode cLaw_law 250 = .ok (.iload_n 3, 1) := by decide +kernel
theorem dLaw_law_251 : decode cLaw_law 251 = .ok (.iconst 1, 1) := by decide +kernel
theorem dLaw_law_252 : decode cLaw_law 252 = .ok (.iadd, 1) := by decide +kernel
theorem dLaw_law_253 : decode cLaw_law 253 = .ok (.iaload, 1) := by decide +kernel
theorem dLaw_law_254 : decode cLaw_law 254 = .ok (.invokevirtual 44, 3) := by decide +kernel
theorem dLaw_law_257 : decode cLaw_law 257 = .ok (.if_icmp .eq 5, 3) := by decide +kernel
theorem dLaw_law_260 : decode cLaw_law 260 = .ok (.iconst 0, 1) := by decide +kernel
theorem dLaw_law_261 : decode cLaw_law 261 = .ok (.ireturn, 1) := by decide +kernel
theorem dLaw_law_262 : decode cLaw_law 262 = .ok (.iinc 3 4, 3) := by decide +kernel
theorem dLaw_law_265 : decode cLaw_law 265 = .ok (.goto (-247), 3) := by decide +kernel
theorem dLaw_law_268 : decode cLaw_law 268 = .ok (.iconst 1, 1) := by decide +kernel
theorem dLaw_law_269 : decode cLaw_law 269 = .ok (.ireturn, 1) := by decide +kernel
set_option maxRecDepth 20000 in
theorem xn_Law_7 : ∀ w ∈ ([.classLink R_Law 7 R_ML, .instantiable R_ML 9, .initialized R_ML] : List Cond), w ∈ mm_TB := mm_ofG (goodIn_p _ [] rfl (by decide +kernel))
set_option maxRecDepth 20000 in
theorem x_Law_9 : mm_ci R_Law 9 yML_init cML_init 2 0 := ⟨mm_ofG (goodIn_p _ [54] rfl (by decide +kernel)), rfl, by decide, by decide, by decide +kernel⟩
set_option maxRecDepth 20000 in
theorem xn_Law_10 : ∀ w ∈ ([.classLink R_Law 10 R_Mo, .instantiable R_Mo 27, .initialized R_Mo] : List Cond), w ∈ mm_TB := mm_ofG (goodIn_p _ [] rfl (by decide +kernel))
set_option maxRecDepth 20000 in
theorem x_Law_12 : mm_ci R_Law 12 yMo_init cMo_init 1 0 := ⟨mm_ofG (goodIn_p _ [574] rfl (by decide +kernel)), rfl, by decide, by decide, by decide +kernel⟩
theorem x_Law_13 : Cond.constantLong R_Law 13 (4294967295) ∈ mm_TB := mm_ofG (ws := [Cond.constantLong R_Law 13 (4294967295)]) (goodIn_p _ [] rfl (by decide +kernel)) _ (by simp)
set_option maxRecDepth 20000 in
theorem x_Law_15 : mm_cv R_Law 15 R_ML yML_send cML_send 5 (some .boolean) 2 := ⟨mm_ofG (goodIn_p _ [186] rfl (by decide +kernel)), rfl, by decide, by decide, by decide +kernel⟩
set_option maxRecDepth 20000 in
theorem x_Law_19 : mm_cv R_Law 19 R_Mo yMo_send cMo_send 5 (some .boolean) 2 := ⟨mm_ofG (goodIn_p _ [662] rfl (by decide +kernel)), rfl, by decide, by decide, by decide +kernel⟩
set_option maxRecDepth 20000 in
theorem x_Law_20 : mm_cv R_Law 20 R_ML yML_reply cML_reply 5 (some .long) 0 := ⟨mm_ofG (goodIn_p _ [519] rfl (by decide +kernel)), rfl, by decide, by decide, by decide +kernel⟩
set_option maxRecDepth 20000 in
theorem x_Law_24 : mm_cv R_Law 24 R_Mo yMo_reply cMo_reply 5 (some .long) 0 := ⟨mm_ofG (goodIn_p _ [789] rfl (by decide +kernel)), rfl, by decide, by decide, by decide +kernel⟩
set_option maxRecDepth 20000 in
theorem x_Law_25 : mm_cv R_Law 25 R_ML yML_open cML_open 2 (some .boolean) 0 := ⟨mm_ofG (goodIn_p _ [532] rfl (by decide +kernel)), rfl, by decide, by decide, by decide +kernel⟩
set_option maxRecDepth 20000 in
theorem x_Law_29 : mm_cv R_Law 29 R_Mo yMo_open cMo_open 2 (some .boolean) 0 := ⟨mm_ofG (goodIn_p _ [793] rfl (by decide +kernel)), rfl, by decide, by decide, by decide +kernel⟩
set_option maxRecDepth 20000 in
theorem x_Law_30 : mm_cv R_Law 30 R_ML yML_message cML_message 4 (some .int) 2 := ⟨mm_ofG (goodIn_p _ [536] rfl (by decide +kernel)), rfl, by decide, by decide, by decide +kernel⟩
set_option maxRecDepth 20000 in
theorem x_Law_34 : mm_cv R_Law 34 R_Mo yMo_message cMo_message 3 (some .int) 2 := ⟨mm_ofG (goodIn_p _ [797] rfl (by decide +kernel)), rfl, by decide, by decide, by decide +kernel⟩
set_option maxRecDepth 20000 in
theorem x_Law_35 : mm_cv R_Law 35 R_ML yML_bytes cML_bytes 5 (some .long) 3 := ⟨mm_ofG (goodIn_p _ [560] rfl (by decide +kernel)), rfl, by decide, by decide, by decide +kernel⟩
set_option maxRecDepth 20000 in
theorem x_Law_39 : mm_cv R_Law 39 R_Mo yMo_bytes cMo_bytes 9 (some .long) 3 := ⟨mm_ofG (goodIn_p _ [805] rfl (by decide +kernel)), rfl, by decide, by decide, by decide +kernel⟩
set_option maxRecDepth 20000 in
theorem x_Law_40 : mm_cv R_Law 40 R_ML yML_count cML_count 2 (some .int) 1 := ⟨mm_ofG (goodIn_p _ [569] rfl (by decide +kernel)), rfl, by decide, by decide, by decide +kernel⟩
set_option maxRecDepth 20000 in
theorem x_Law_44 : mm_cv R_Law 44 R_Mo yMo_count cMo_count 2 (some .int) 1 := ⟨mm_ofG (goodIn_p _ [810] rfl (by decide +kernel)), rfl, by decide, by decide, by decide +kernel⟩
