theorem cl_Mo : vwCl[kMo]? = some (R_Mo, T_Mo, 27) := rfl
set_option maxRecDepth 20000 in
theorem in_Mo : ∀ w ∈ u_ws R_Mo T_Mo 27, w ∈ mm_TB := mm_ofG (goodIn_p _ [] rfl (by decide +kernel))
theorem ft_Mo : mm_FT T_Mo 27 ty_Mo := ⟨ty_Mo_ok, nm_Mo⟩
set_option maxRecDepth 20000 in
theorem x_Mo_1 : ∀ w ∈ ([.methodLink R_Mo 1 objectInit, .instanceMethod objectInit, .code objectInit ⟨#[0xb1]⟩ 1 none] : List Cond), w ∈ mm_TB := mm_ofG (goodIn_p _ [57] rfl (by decide +kernel))
set_option maxRecDepth 20000 in
theorem x_Mo_7 : mm_F R_Mo 7 kMo 0 R_Mo T_Mo 27 := ⟨rfl, by decide, in_Mo, mm_ofG (ws := [Cond.fieldLink R_Mo 7 (T_Mo 0).1 (T_Mo 0).2.1 (T_Mo 0).2.2.1]) (goodIn_p _ [] rfl (by decide +kernel)) _ (by simp)⟩
set_option maxRecDepth 20000 in
theorem x_Mo_13 : mm_F R_Mo 13 kMo 4 R_Mo T_Mo 27 := ⟨rfl, by decide, in_Mo, mm_ofG (ws := [Cond.fieldLink R_Mo 13 (T_Mo 4).1 (T_Mo 4).2.1 (T_Mo 4).2.2.1]) (goodIn_p _ [] rfl (by decide +kernel)) _ (by simp)⟩
set_option maxRecDepth 20000 in
theorem x_Mo_17 : mm_F R_Mo 17 kMo 9 R_Mo T_Mo 27 := ⟨rfl, by decide, in_Mo, mm_ofG (ws := [Cond.fieldLink R_Mo 17 (T_Mo 9).1 (T_Mo 9).2.1 (T_Mo 9).2.2.1]) (goodIn_p _ [] rfl (by decide +kernel)) _ (by simp)⟩
set_option maxRecDepth 20000 in
theorem x_Mo_20 : mm_F R_Mo 20 kMo 12 R_Mo T_Mo 27 := ⟨rfl, by decide, in_Mo, mm_ofG (ws := [Cond.fieldLink R_Mo 20 (T_Mo 12).1 (T_Mo 12).2.1 (T_Mo 12).2.2.1]) (goodIn_p _ [] rfl (by decide +kernel)) _ (by simp)⟩
set_option maxRecDepth 20000 in
theorem x_Mo_23 : mm_F R_Mo 23 kMo 13 R_Mo T_Mo 27 := ⟨rfl, by decide, in_Mo, mm_ofG (ws := [Cond.fieldLink R_Mo 23 (T_Mo 13).1 (T_Mo 13).2.1 (T_Mo 13).2.2.1]) (goodIn_p _ [] rfl (by decide +kernel)) _ (by simp)⟩
set_option maxRecDepth 20000 in
theorem x_Mo_26 : mm_F R_Mo 26 kMo 17 R_Mo T_Mo 27 := ⟨rfl, by decide, in_Mo, mm_ofG (ws := [Cond.fieldLink R_Mo 26 (T_Mo 17).1 (T_Mo 17).2.1 (T_Mo 17).2.2.1]) (goodIn_p _ [] rfl (by decide +kernel)) _ (by simp)⟩
set_option maxRecDepth 20000 in
theorem x_Mo_29 : mm_F R_Mo 29 kMo 20 R_Mo T_Mo 27 := ⟨rfl, by decide, in_Mo, mm_ofG (ws := [Cond.fieldLink R_Mo 29 (T_Mo 20).1 (T_Mo 20).2.1 (T_Mo 20).2.2.1]) (goodIn_p _ [] rfl (by decide +kernel)) _ (by simp)⟩
set_option maxRecDepth 20000 in
theorem x_Mo_32 : mm_F R_Mo 32 kMo 21 R_Mo T_Mo 27 := ⟨rfl, by decide, in_Mo, mm_ofG (ws := [Cond.fieldLink R_Mo 32 (T_Mo 21).1 (T_Mo 21).2.1 (T_Mo 21).2.2.1]) (goodIn_p _ [] rfl (by decide +kernel)) _ (by simp)⟩
set_option maxRecDepth 20000 in
theorem x_Mo_35 : mm_F R_Mo 35 kMo 22 R_Mo T_Mo 27 := ⟨rfl, by decide, in_Mo, mm_ofG (ws := [Cond.fieldLink R_Mo 35 (T_Mo 22).1 (T_Mo 22).2.1 (T_Mo 22).2.2.1]) (goodIn_p _ [] rfl (by decide +kernel)) _ (by simp)⟩
set_option maxRecDepth 20000 in
theorem x_Mo_38 : mm_F R_Mo 38 kMo 23 R_Mo T_Mo 27 := ⟨rfl, by decide, in_Mo, mm_ofG (ws := [Cond.fieldLink R_Mo 38 (T_Mo 23).1 (T_Mo 23).2.1 (T_Mo 23).2.2.1]) (goodIn_p _ [] rfl (by decide +kernel)) _ (by simp)⟩
set_option maxRecDepth 20000 in
theorem x_Mo_41 : mm_F R_Mo 41 kMo 24 R_Mo T_Mo 27 := ⟨rfl, by decide, in_Mo, mm_ofG (ws := [Cond.fieldLink R_Mo 41 (T_Mo 24).1 (T_Mo 24).2.1 (T_Mo 24).2.2.1]) (goodIn_p _ [] rfl (by decide +kernel)) _ (by simp)⟩
set_option maxRecDepth 20000 in
theorem x_Mo_44 : mm_F R_Mo 44 kMo 25 R_Mo T_Mo 27 := ⟨rfl, by decide, in_Mo, mm_ofG (ws := [Cond.fieldLink R_Mo 44 (T_Mo 25).1 (T_Mo 25).2.1 (T_Mo 25).2.2.1]) (goodIn_p _ [] rfl (by decide +kernel)) _ (by simp)⟩
set_option maxRecDepth 20000 in
theorem x_Mo_47 : mm_F R_Mo 47 kMo 26 R_Mo T_Mo 27 := ⟨rfl, by decide, in_Mo, mm_ofG (ws := [Cond.fieldLink R_Mo 47 (T_Mo 26).1 (T_Mo 26).2.1 (T_Mo 26).2.2.1]) (goodIn_p _ [] rfl (by decide +kernel)) _ (by simp)⟩
set_option maxRecDepth 20000 in
theorem x_Mo_73 : mm_cv R_Mo 73 R_Mo yMo_come cMo_come 4 none 1 := ⟨mm_ofG (goodIn_p _ [666] rfl (by decide +kernel)), rfl, by decide, by decide, by decide +kernel⟩
set_option maxRecDepth 20000 in
theorem x_Mo_79 : mm_F R_Mo 79 kMo 6 R_Mo T_Mo 27 := ⟨rfl, by decide, in_Mo, mm_ofG (ws := [Cond.fieldLink R_Mo 79 (T_Mo 6).1 (T_Mo 6).2.1 (T_Mo 6).2.2.1]) (goodIn_p _ [] rfl (by decide +kernel)) _ (by simp)⟩
set_option maxRecDepth 20000 in
theorem x_Mo_82 : mm_F R_Mo 82 kMo 3 R_Mo T_Mo 27 := ⟨rfl, by decide, in_Mo, mm_ofG (ws := [Cond.fieldLink R_Mo 82 (T_Mo 3).1 (T_Mo 3).2.1 (T_Mo 3).2.2.1]) (goodIn_p _ [] rfl (by decide +kernel)) _ (by simp)⟩
set_option maxRecDepth 20000 in
theorem x_Mo_85 : mm_cv R_Mo 85 R_Mo yMo_mail cMo_mail 4 none 2 := ⟨mm_ofG (goodIn_p _ [670] rfl (by decide +kernel)), rfl, by decide, by decide, by decide +kernel⟩
set_option maxRecDepth 20000 in
theorem x_Mo_89 : mm_cv R_Mo 89 R_Mo yMo_keep cMo_keep 2 none 1 := ⟨mm_ofG (goodIn_p _ [701] rfl (by decide +kernel)), rfl, by decide, by decide, by decide +kernel⟩
set_option maxRecDepth 20000 in
theorem x_Mo_76 : mm_F R_Mo 76 kMo 5 R_Mo T_Mo 27 := ⟨rfl, by decide, in_Mo, mm_ofG (ws := [Cond.fieldLink R_Mo 76 (T_Mo 5).1 (T_Mo 5).2.1 (T_Mo 5).2.2.1]) (goodIn_p _ [] rfl (by decide +kernel)) _ (by simp)⟩
theorem x_Mo_92 : Cond.constantLong R_Mo 92 (3832616198842838816) ∈ mm_TB := mm_ofG (ws := [Cond.constantLong R_Mo 92 (3832616198842838816)]) (goodIn_p _ [] rfl (by decide +kernel)) _ (by simp)
set_option maxRecDepth 20000 in
theorem x_Mo_60 : mm_cv R_Mo 60 R_Mo yMo_say cMo_say 5 none 2 := ⟨mm_ofG (goodIn_p _ [679] rfl (by decide +kernel)), rfl, by decide, by decide, by decide +kernel⟩
theorem x_Mo_94 : Cond.constantLong R_Mo 94 (7813585267171786752) ∈ mm_TB := mm_ofG (ws := [Cond.constantLong R_Mo 94 (7813585267171786752)]) (goodIn_p _ [] rfl (by decide +kernel)) _ (by simp)
set_option maxRecDepth 20000 in
theorem x_Mo_66 : mm_cv R_Mo 66 R_Mo yMo_end cMo_end 1 none 0 := ⟨mm_ofG (goodIn_p _ [689] rfl (by decide +kernel)), rfl, by decide, by decide, by decide +kernel⟩
set_option maxRecDepth 20000 in
theorem x_Mo_96 : mm_cv R_Mo 96 R_Mo yMo_command cMo_command 4 none 1 := ⟨mm_ofG (goodIn_p _ [707] rfl (by decide +kernel)), rfl, by decide, by decide, by decide +kernel⟩
set_option maxRecDepth 20000 in
theorem x_Mo_99 : mm_F R_Mo 99 kMo 7 R_Mo T_Mo 27 := ⟨rfl, by decide, in_Mo, mm_ofG (ws := [Cond.fieldLink R_Mo 99 (T_Mo 7).1 (T_Mo 7).2.1 (T_Mo 7).2.2.1]) (goodIn_p _ [] rfl (by decide +kernel)) _ (by simp)⟩
set_option maxRecDepth 20000 in
theorem x_Mo_102 : mm_F R_Mo 102 kMo 8 R_Mo T_Mo 27 := ⟨rfl, by decide, in_Mo, mm_ofG (ws := [Cond.fieldLink R_Mo 102 (T_Mo 8).1 (T_Mo 8).2.1 (T_Mo 8).2.2.1]) (goodIn_p _ [] rfl (by decide +kernel)) _ (by simp)⟩
set_option maxRecDepth 20000 in
theorem x_Mo_105 : mm_cv R_Mo 105 R_Mo yMo_hand cMo_hand 5 none 0 := ⟨mm_ofG (goodIn_p _ [674] rfl (by decide +kernel)), rfl, by decide, by decide, by decide +kernel⟩
set_option maxRecDepth 20000 in
theorem x_Mo_230 : mm_F R_Mo 230 kMo 19 R_Mo T_Mo 27 := ⟨rfl, by decide, in_Mo, mm_ofG (ws := [Cond.fieldLink R_Mo 230 (T_Mo 19).1 (T_Mo 19).2.1 (T_Mo 19).2.2.1]) (goodIn_p _ [] rfl (by decide +kernel)) _ (by simp)⟩
set_option maxRecDepth 20000 in
theorem x_Mo_138 : mm_F R_Mo 138 kMo 11 R_Mo T_Mo 27 := ⟨rfl, by decide, in_Mo, mm_ofG (ws := [Cond.fieldLink R_Mo 138 (T_Mo 11).1 (T_Mo 11).2.1 (T_Mo 11).2.2.1]) (goodIn_p _ [] rfl (by decide +kernel)) _ (by simp)⟩
theorem x_Mo_203 : Cond.constantLong R_Mo 203 (3834025772447262464) ∈ mm_TB := mm_ofG (ws := [Cond.constantLong R_Mo 203 (3834025772447262464)]) (goodIn_p _ [] rfl (by decide +kernel)) _ (by simp)
theorem x_Mo_233 : Cond.constantLong R_Mo 233 (3761968178477231212) ∈ mm_TB := mm_ofG (ws := [Cond.constantLong R_Mo 233 (3761968178477231212)]) (goodIn_p _ [] rfl (by decide +kernel)) _ (by simp)
theorem x_Mo_235 : Cond.constantLong R_Mo 235 (3617850790665781248) ∈ mm_TB := mm_ofG (ws := [Cond.constantLong R_Mo 235 (3617850790665781248)]) (goodIn_p _ [] rfl (by decide +kernel)) _ (by simp)
set_option maxRecDepth 20000 in
theorem x_Mo_54 : mm_cv R_Mo 54 R_Mo yMo_sayByte cMo_sayByte 2 none 1 := ⟨mm_ofG (goodIn_p _ [683] rfl (by decide +kernel)), rfl, by decide, by decide, by decide +kernel⟩
set_option maxRecDepth 20000 in
theorem x_Mo_237 : mm_cv R_Mo 237 R_Mo yMo_store cMo_store 3 none 0 := ⟨mm_ofG (goodIn_p _ [693] rfl (by decide +kernel)), rfl, by decide, by decide, by decide +kernel⟩
set_option maxRecDepth 20000 in
theorem x_Mo_184 : mm_cv R_Mo 184 R_Mo yMo_forget cMo_forget 1 none 0 := ⟨mm_ofG (goodIn_p _ [697] rfl (by decide +kernel)), rfl, by decide, by decide, by decide +kernel⟩
set_option maxRecDepth 20000 in
theorem x_Mo_50 : mm_F R_Mo 50 kMo 18 R_Mo T_Mo 27 := ⟨rfl, by decide, in_Mo, mm_ofG (ws := [Cond.fieldLink R_Mo 50 (T_Mo 18).1 (T_Mo 18).2.1 (T_Mo 18).2.2.1]) (goodIn_p _ [] rfl (by decide +kernel)) _ (by simp)⟩
set_option maxRecDepth 20000 in
theorem x_Mo_205 : mm_F R_Mo 205 kMo 10 R_Mo T_Mo 27 := ⟨rfl, by decide, in_Mo, mm_ofG (ws := [Cond.fieldLink R_Mo 205 (T_Mo 10).1 (T_Mo 10).2.1 (T_Mo 10).2.2.1]) (goodIn_p _ [] rfl (by decide +kernel)) _ (by simp)⟩
set_option maxRecDepth 20000 in
theorem x_Mo_135 : mm_F R_Mo 135 kMo 2 R_Mo T_Mo 27 := ⟨rfl, by decide, in_Mo, mm_ofG (ws := [Cond.fieldLink R_Mo 135 (T_Mo 2).1 (T_Mo 2).2.1 (T_Mo 2).2.2.1]) (goodIn_p _ [] rfl (by decide +kernel)) _ (by simp)⟩
theorem x_Mo_141 : Cond.constantLong R_Mo 141 (5496727247391817728) ∈ mm_TB := mm_ofG (ws := [Cond.constantLong R_Mo 141 (5496727247391817728)]) (goodIn_p _ [] rfl (by decide +kernel)) _ (by simp)
set_option maxRecDepth 20000 in
theorem x_Mo_143 : mm_cv R_Mo 143 R_Mo yMo_is cMo_is 8 (some .boolean) 4 := ⟨mm_ofG (goodIn_p _ [712] rfl (by decide +kernel)), rfl, by decide, by decide, by decide +kernel⟩
theorem x_Mo_147 : Cond.constantLong R_Mo 147 (5566811205172985856) ∈ mm_TB := mm_ofG (ws := [Cond.constantLong R_Mo 147 (5566811205172985856)]) (goodIn_p _ [] rfl (by decide +kernel)) _ (by simp)
theorem x_Mo_149 : Cond.constantLong R_Mo 149 (5927669856257179648) ∈ mm_TB := mm_ofG (ws := [Cond.constantLong R_Mo 149 (5927669856257179648)]) (goodIn_p _ [] rfl (by decide +kernel)) _ (by simp)
theorem x_Mo_151 : Cond.constantLong R_Mo 151 (4918304906214899712) ∈ mm_TB := mm_ofG (ws := [Cond.constantLong R_Mo 151 (4918304906214899712)]) (goodIn_p _ [] rfl (by decide +kernel)) _ (by simp)
theorem x_Mo_153 : Cond.constantLong R_Mo 153 (5932161361256644608) ∈ mm_TB := mm_ofG (ws := [Cond.constantLong R_Mo 153 (5932161361256644608)]) (goodIn_p _ [] rfl (by decide +kernel)) _ (by simp)
theorem x_Mo_155 : Cond.constantLong R_Mo 155 (5642816063134498816) ∈ mm_TB := mm_ofG (ws := [Cond.constantLong R_Mo 155 (5642816063134498816)]) (goodIn_p _ [] rfl (by decide +kernel)) _ (by simp)
theorem x_Mo_157 : Cond.constantLong R_Mo 157 (5860671115218649088) ∈ mm_TB := mm_ofG (ws := [Cond.constantLong R_Mo 157 (5860671115218649088)]) (goodIn_p _ [] rfl (by decide +kernel)) _ (by simp)
theorem x_Mo_159 : Cond.constantLong R_Mo 159 (3832616198859549550) ∈ mm_TB := mm_ofG (ws := [Cond.constantLong R_Mo 159 (3832616198859549550)]) (goodIn_p _ [] rfl (by decide +kernel)) _ (by simp)
theorem x_Mo_161 : Cond.constantLong R_Mo 161 (8032009406717624320) ∈ mm_TB := mm_ofG (ws := [Cond.constantLong R_Mo 161 (8032009406717624320)]) (goodIn_p _ [] rfl (by decide +kernel)) _ (by simp)
set_option maxRecDepth 20000 in
theorem x_Mo_163 : mm_F R_Mo 163 kMo 1 R_Mo T_Mo 27 := ⟨rfl, by decide, in_Mo, mm_ofG (ws := [Cond.fieldLink R_Mo 163 (T_Mo 1).1 (T_Mo 1).2.1 (T_Mo 1).2.2.1]) (goodIn_p _ [] rfl (by decide +kernel)) _ (by simp)⟩
set_option maxRecDepth 20000 in
theorem x_Mo_166 : mm_cv R_Mo 166 R_Mo yMo_order cMo_order 1 none 0 := ⟨mm_ofG (goodIn_p _ [727] rfl (by decide +kernel)), rfl, by decide, by decide, by decide +kernel⟩
set_option maxRecDepth 20000 in
theorem x_Mo_169 : mm_cv R_Mo 169 R_Mo yMo_greet cMo_greet 2 none 1 := ⟨mm_ofG (goodIn_p _ [733] rfl (by decide +kernel)), rfl, by decide, by decide, by decide +kernel⟩
set_option maxRecDepth 20000 in
theorem x_Mo_172 : mm_cv R_Mo 172 R_Mo yMo_sent cMo_sent 6 none 1 := ⟨mm_ofG (goodIn_p _ [757] rfl (by decide +kernel)), rfl, by decide, by decide, by decide +kernel⟩
set_option maxRecDepth 20000 in
theorem x_Mo_175 : mm_cv R_Mo 175 R_Mo yMo_received cMo_received 4 none 1 := ⟨mm_ofG (goodIn_p _ [772] rfl (by decide +kernel)), rfl, by decide, by decide, by decide +kernel⟩
set_option maxRecDepth 20000 in
theorem x_Mo_178 : mm_cv R_Mo 178 R_Mo yMo_syntax cMo_syntax 1 none 0 := ⟨mm_ofG (goodIn_p _ [750] rfl (by decide +kernel)), rfl, by decide, by decide, by decide +kernel⟩
set_option maxRecDepth 20000 in
theorem x_Mo_181 : mm_cv R_Mo 181 R_Mo yMo_plain cMo_plain 2 none 1 := ⟨mm_ofG (goodIn_p _ [782] rfl (by decide +kernel)), rfl, by decide, by decide, by decide +kernel⟩
set_option maxRecDepth 20000 in
theorem x_Mo_108 : mm_cs R_Mo 108 yMo_high cMo_high 1 (some .int) 1 := ⟨mm_ofG (goodIn_p _ [715] rfl (by decide +kernel)), by decide, by decide, by decide +kernel⟩
theorem x_Mo_58 : Cond.constantLong R_Mo 58 (3832619497294029925) ∈ mm_TB := mm_ofG (ws := [Cond.constantLong R_Mo 58 (3832619497294029925)]) (goodIn_p _ [] rfl (by decide +kernel)) _ (by simp)
theorem x_Mo_64 : Cond.constantLong R_Mo 64 (8214565720323784704) ∈ mm_TB := mm_ofG (ws := [Cond.constantLong R_Mo 64 (8214565720323784704)]) (goodIn_p _ [] rfl (by decide +kernel)) _ (by simp)
set_option maxRecDepth 20000 in
theorem x_Mo_125 : mm_cv R_Mo 125 R_Mo yMo_dotted cMo_dotted 8 (some .int) 4 := ⟨mm_ofG (goodIn_p _ [737] rfl (by decide +kernel)), rfl, by decide, by decide, by decide +kernel⟩
theorem x_Mo_187 : Cond.constantLong R_Mo 187 (3617850791410627173) ∈ mm_TB := mm_ofG (ws := [Cond.constantLong R_Mo 187 (3617850791410627173)]) (goodIn_p _ [] rfl (by decide +kernel)) _ (by simp)
set_option maxRecDepth 20000 in
theorem x_Mo_119 : mm_cs R_Mo 119 yMo_isLocal cMo_isLocal 1 (some .boolean) 1 := ⟨mm_ofG (goodIn_p _ [740] rfl (by decide +kernel)), by decide, by decide, by decide +kernel⟩
set_option maxRecDepth 20000 in
theorem x_Mo_116 : mm_cs R_Mo 116 yMo_isDomain cMo_isDomain 1 (some .boolean) 1 := ⟨mm_ofG (goodIn_p _ [743] rfl (by decide +kernel)), by decide, by decide, by decide +kernel⟩
set_option maxRecDepth 20000 in
theorem x_Mo_112 : mm_cs R_Mo 112 yMo_isDigit cMo_isDigit 1 (some .boolean) 1 := ⟨mm_ofG (goodIn_p _ [746] rfl (by decide +kernel)), by decide, by decide, by decide +kernel⟩
theorem x_Mo_69 : Cond.constantLong R_Mo 69 (3832617298338344564) ∈ mm_TB := mm_ofG (ws := [Cond.constantLong R_Mo 69 (3832617298338344564)]) (goodIn_p _ [] rfl (by decide +kernel)) _ (by simp)
theorem x_Mo_71 : Cond.constantLong R_Mo 71 (7023363618884288512) ∈ mm_TB := mm_ofG (ws := [Cond.constantLong R_Mo 71 (7023363618884288512)]) (goodIn_p _ [] rfl (by decide +kernel)) _ (by simp)
set_option maxRecDepth 20000 in
theorem x_Mo_122 : mm_F R_Mo 122 kMo 14 R_Mo T_Mo 27 := ⟨rfl, by decide, in_Mo, mm_ofG (ws := [Cond.fieldLink R_Mo 122 (T_Mo 14).1 (T_Mo 14).2.1 (T_Mo 14).2.2.1]) (goodIn_p _ [] rfl (by decide +kernel)) _ (by simp)⟩
set_option maxRecDepth 20000 in
theorem x_Mo_132 : mm_F R_Mo 132 kMo 16 R_Mo T_Mo 27 := ⟨rfl, by decide, in_Mo, mm_ofG (ws := [Cond.fieldLink R_Mo 132 (T_Mo 16).1 (T_Mo 16).2.1 (T_Mo 16).2.2.1]) (goodIn_p _ [] rfl (by decide +kernel)) _ (by simp)⟩
theorem x_Mo_189 : Cond.constantLong R_Mo 189 (5566811205714465359) ∈ mm_TB := mm_ofG (ws := [Cond.constantLong R_Mo 189 (5566811205714465359)]) (goodIn_p _ [] rfl (by decide +kernel)) _ (by simp)
theorem x_Mo_191 : Cond.constantLong R_Mo 191 (5564760289569669120) ∈ mm_TB := mm_ofG (ws := [Cond.constantLong R_Mo 191 (5564760289569669120)]) (goodIn_p _ [] rfl (by decide +kernel)) _ (by simp)
set_option maxRecDepth 20000 in
theorem x_Mo_193 : mm_cv R_Mo 193 R_Mo yMo_path cMo_path 3 (some .int) 2 := ⟨mm_ofG (goodIn_p _ [763] rfl (by decide +kernel)), rfl, by decide, by decide, by decide +kernel⟩
theorem x_Mo_197 : Cond.constantLong R_Mo 197 (2324507512650152002) ∈ mm_TB := mm_ofG (ws := [Cond.constantLong R_Mo 197 (2324507512650152002)]) (goodIn_p _ [] rfl (by decide +kernel)) _ (by simp)
theorem x_Mo_199 : Cond.constantLong R_Mo 199 (5283933240036753408) ∈ mm_TB := mm_ofG (ws := [Cond.constantLong R_Mo 199 (5283933240036753408)]) (goodIn_p _ [] rfl (by decide +kernel)) _ (by simp)
theorem x_Mo_201 : Cond.constantLong R_Mo 201 (2329286084338188288) ∈ mm_TB := mm_ofG (ws := [Cond.constantLong R_Mo 201 (2329286084338188288)]) (goodIn_p _ [] rfl (by decide +kernel)) _ (by simp)
theorem x_Mo_208 : Cond.constantLong R_Mo 208 (3617850791595175524) ∈ mm_TB := mm_ofG (ws := [Cond.constantLong R_Mo 208 (3617850791595175524)]) (goodIn_p _ [] rfl (by decide +kernel)) _ (by simp)
theorem x_Mo_210 : Cond.constantLong R_Mo 210 (7309905145175736320) ∈ mm_TB := mm_ofG (ws := [Cond.constantLong R_Mo 210 (7309905145175736320)]) (goodIn_p _ [] rfl (by decide +kernel)) _ (by simp)
set_option maxRecDepth 20000 in
theorem x_Mo_129 : mm_F R_Mo 129 kMo 15 R_Mo T_Mo 27 := ⟨rfl, by decide, in_Mo, mm_ofG (ws := [Cond.fieldLink R_Mo 129 (T_Mo 15).1 (T_Mo 15).2.1 (T_Mo 15).2.2.1]) (goodIn_p _ [] rfl (by decide +kernel)) _ (by simp)⟩
theorem x_Mo_212 : Cond.constantLong R_Mo 212 (5927669856799575866) ∈ mm_TB := mm_ofG (ws := [Cond.constantLong R_Mo 212 (5927669856799575866)]) (goodIn_p _ [] rfl (by decide +kernel)) _ (by simp)
theorem x_Mo_214 : Cond.constantLong R_Mo 214 (4632028436397817856) ∈ mm_TB := mm_ofG (ws := [Cond.constantLong R_Mo 214 (4632028436397817856)]) (goodIn_p _ [] rfl (by decide +kernel)) _ (by simp)
theorem x_Mo_216 : Cond.constantLong R_Mo 216 (3834023573625728613) ∈ mm_TB := mm_ofG (ws := [Cond.constantLong R_Mo 216 (3834023573625728613)]) (goodIn_p _ [] rfl (by decide +kernel)) _ (by simp)
theorem x_Mo_218 : Cond.constantLong R_Mo 218 (3761968178593361529) ∈ mm_TB := mm_ofG (ws := [Cond.constantLong R_Mo 218 (3761968178593361529)]) (goodIn_p _ [] rfl (by decide +kernel)) _ (by simp)
theorem x_Mo_220 : Cond.constantLong R_Mo 220 (3617850791578395497) ∈ mm_TB := mm_ofG (ws := [Cond.constantLong R_Mo 220 (3617850791578395497)]) (goodIn_p _ [] rfl (by decide +kernel)) _ (by simp)
theorem x_Mo_222 : Cond.constantLong R_Mo 222 (8100116929869512704) ∈ mm_TB := mm_ofG (ws := [Cond.constantLong R_Mo 222 (8100116929869512704)]) (goodIn_p _ [] rfl (by decide +kernel)) _ (by simp)
theorem x_Mo_224 : Cond.constantLong R_Mo 224 (3689912783478915072) ∈ mm_TB := mm_ofG (ws := [Cond.constantLong R_Mo 224 (3689912783478915072)]) (goodIn_p _ [] rfl (by decide +kernel)) _ (by simp)
theorem x_Mo_226 : Cond.constantLong R_Mo 226 (3617007465892766976) ∈ mm_TB := mm_ofG (ws := [Cond.constantLong R_Mo 226 (3617007465892766976)]) (goodIn_p _ [] rfl (by decide +kernel)) _ (by simp)
theorem x_Mo_228 : Cond.constantLong R_Mo 228 (3617850791528431616) ∈ mm_TB := mm_ofG (ws := [Cond.constantLong R_Mo 228 (3617850791528431616)]) (goodIn_p _ [] rfl (by decide +kernel)) _ (by simp)
set_option maxRecDepth 20000 in
theorem x_Mo_240 : mm_cv R_Mo 240 R_Mo yMo_isMessage cMo_isMessage 2 (some .boolean) 1 := ⟨mm_ofG (goodIn_p _ [801] rfl (by decide +kernel)), rfl, by decide, by decide, by decide +kernel⟩
theorem x_Mo_243 : Cond.constantLong R_Mo 243 (-1) ∈ mm_TB := mm_ofG (ws := [Cond.constantLong R_Mo 243 (-1)]) (goodIn_p _ [] rfl (by decide +kernel)) _ (by simp)
theorem xw_arrI : Cond.arrayClass .int ∈ mm_TB := mm_ofG (ws := [Cond.arrayClass .int]) (goodIn_p _ [] rfl (by decide +kernel)) _ (by simp)
