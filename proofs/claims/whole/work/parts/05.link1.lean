theorem cl_Row : vwCl[kRow]? = some (R_Row, T_Row, 2) := rfl
set_option maxRecDepth 20000 in
theorem in_Row : ∀ w ∈ u_ws R_Row T_Row 2, w ∈ mm_TB := mm_ofG (goodIn_p _ [] rfl (by decide +kernel))
theorem ft_Row : mm_FT T_Row 2 ty_Row := ⟨ty_Row_ok, nm_Row⟩
theorem cl_LR : vwCl[kLR]? = some (R_LR, T_LR, 2) := rfl
set_option maxRecDepth 20000 in
theorem in_LR : ∀ w ∈ u_ws R_LR T_LR 2, w ∈ mm_TB := mm_ofG (goodIn_p _ [] rfl (by decide +kernel))
theorem ft_LR : mm_FT T_LR 2 ty_LR := ⟨ty_LR_ok, nm_LR⟩
theorem cl_TR : vwCl[kTR]? = some (R_TR, T_TR, 4) := rfl
set_option maxRecDepth 20000 in
theorem in_TR : ∀ w ∈ u_ws R_TR T_TR 4, w ∈ mm_TB := mm_ofG (goodIn_p _ [] rfl (by decide +kernel))
theorem ft_TR : mm_FT T_TR 4 ty_TR := ⟨ty_TR_ok, nm_TR⟩
theorem cl_Env : vwCl[kEnv]? = some (R_Env, T_Env, 4) := rfl
set_option maxRecDepth 20000 in
theorem in_Env : ∀ w ∈ u_ws R_Env T_Env 4, w ∈ mm_TB := mm_ofG (goodIn_p _ [] rfl (by decide +kernel))
theorem ft_Env : mm_FT T_Env 4 ty_Env := ⟨ty_Env_ok, nm_Env⟩
theorem cl_Let : vwCl[kLet]? = some (R_Let, T_Let, 4) := rfl
set_option maxRecDepth 20000 in
theorem in_Let : ∀ w ∈ u_ws R_Let T_Let 4, w ∈ mm_TB := mm_ofG (goodIn_p _ [] rfl (by decide +kernel))
theorem ft_Let : mm_FT T_Let 4 ty_Let := ⟨ty_Let_ok, nm_Let⟩
theorem cl_ML : vwCl[kML]? = some (R_ML, T_ML, 9) := rfl
set_option maxRecDepth 20000 in
theorem in_ML : ∀ w ∈ u_ws R_ML T_ML 9, w ∈ mm_TB := mm_ofG (goodIn_p _ [] rfl (by decide +kernel))
theorem ft_ML : mm_FT T_ML 9 ty_ML := ⟨ty_ML_ok, nm_ML⟩
set_option maxRecDepth 20000 in
theorem x_Row_1 : ∀ w ∈ ([.methodLink R_Row 1 objectInit, .instanceMethod objectInit, .code objectInit ⟨#[0xb1]⟩ 1 none] : List Cond), w ∈ mm_TB := mm_ofG (goodIn_p _ [57] rfl (by decide +kernel))
set_option maxRecDepth 20000 in
theorem x_Row_7 : ∀ w ∈ ([.methodLink R_Row 7 Lib.Math.max.name, .static Lib.Math.max.name, .initialized "java/lang/Math", .code Lib.Math.max.name Lib.Math.max.code 2 (some .int)] : List Cond), w ∈ mm_TB := mm_ofG (goodIn_p _ [66] rfl (by decide +kernel))
set_option maxRecDepth 20000 in
theorem x_Row_13 : mm_F R_Row 13 kRow 0 R_Row T_Row 2 := ⟨rfl, by decide, in_Row, mm_ofG (ws := [Cond.fieldLink R_Row 13 (T_Row 0).1 (T_Row 0).2.1 (T_Row 0).2.2.1]) (goodIn_p _ [] rfl (by decide +kernel)) _ (by simp)⟩
set_option maxRecDepth 20000 in
theorem x_Row_19 : mm_F R_Row 19 kRow 1 R_Row T_Row 2 := ⟨rfl, by decide, in_Row, mm_ofG (ws := [Cond.fieldLink R_Row 19 (T_Row 1).1 (T_Row 1).2.1 (T_Row 1).2.2.1]) (goodIn_p _ [] rfl (by decide +kernel)) _ (by simp)⟩
set_option maxRecDepth 20000 in
theorem x_Row_23 : mm_cv R_Row 23 R_Str yStr_length cStr_length 1 (some .int) 0 := ⟨mm_ofG (goodIn_p _ [239] rfl (by decide +kernel)), rfl, by decide, by decide, by decide +kernel⟩
set_option maxRecDepth 20000 in
theorem x_Row_28 : mm_cv R_Row 28 R_Str yStr_charAt cStr_charAt 2 (some .char) 1 := ⟨mm_ofG (goodIn_p _ [249] rfl (by decide +kernel)), rfl, by decide, by decide, by decide +kernel⟩
set_option maxRecDepth 20000 in
theorem x_Row_32 : mm_cv R_Row 32 R_Row yRow_add cRow_add 2 none 1 := ⟨mm_ofG (goodIn_p _ [202] rfl (by decide +kernel)), rfl, by decide, by decide, by decide +kernel⟩
set_option maxRecDepth 20000 in
theorem x_Row_36 : mm_cv R_Row 36 R_Row yRow_at cRow_at 2 (some .int) 1 := ⟨mm_ofG (goodIn_p _ [303] rfl (by decide +kernel)), rfl, by decide, by decide, by decide +kernel⟩
set_option maxRecDepth 20000 in
theorem x_Row_46 : mm_cs R_Row 46 yRow_withoutCase cRow_withoutCase 1 (some .int) 1 := ⟨mm_ofG (goodIn_p _ [345] rfl (by decide +kernel)), by decide, by decide, by decide +kernel⟩
set_option maxRecDepth 20000 in
theorem x_Row_40 : ∀ w ∈ ([.methodLink R_Row 40 arraycopyName, .native arraycopyName, .static arraycopyName, .initialized "java/lang/System"] : List Cond), w ∈ mm_TB := mm_ofG (goodIn_p _ [] rfl (by decide +kernel))
set_option maxRecDepth 20000 in
theorem x_LR_3 : ∀ w ∈ ([.methodLink R_LR 3 objectInit, .instanceMethod objectInit, .code objectInit ⟨#[0xb1]⟩ 1 none] : List Cond), w ∈ mm_TB := mm_ofG (goodIn_p _ [57] rfl (by decide +kernel))
set_option maxRecDepth 20000 in
theorem xn_LR_9 : ∀ w ∈ ([.classLink R_LR 9 R_Row, .instantiable R_Row 2, .initialized R_Row] : List Cond), w ∈ mm_TB := mm_ofG (goodIn_p _ [] rfl (by decide +kernel))
set_option maxRecDepth 20000 in
theorem x_LR_11 : mm_ci R_LR 11 yRow_init cRow_init 2 1 := ⟨mm_ofG (goodIn_p _ [62] rfl (by decide +kernel)), rfl, by decide, by decide, by decide +kernel⟩
set_option maxRecDepth 20000 in
theorem x_LR_14 : mm_F R_LR 14 kLR 0 R_LR T_LR 2 := ⟨rfl, by decide, in_LR, mm_ofG (ws := [Cond.fieldLink R_LR 14 (T_LR 0).1 (T_LR 0).2.1 (T_LR 0).2.2.1]) (goodIn_p _ [] rfl (by decide +kernel)) _ (by simp)⟩
set_option maxRecDepth 20000 in
theorem x_LR_23 : mm_F R_LR 23 kLR 1 R_LR T_LR 2 := ⟨rfl, by decide, in_LR, mm_ofG (ws := [Cond.fieldLink R_LR 23 (T_LR 1).1 (T_LR 1).2.1 (T_LR 1).2.2.1]) (goodIn_p _ [] rfl (by decide +kernel)) _ (by simp)⟩
set_option maxRecDepth 20000 in
theorem x_LR_27 : mm_cv R_LR 27 R_Row yRow_dropLast cRow_dropLast 1 none 0 := ⟨mm_ofG (goodIn_p _ [198] rfl (by decide +kernel)), rfl, by decide, by decide, by decide +kernel⟩
set_option maxRecDepth 20000 in
theorem x_LR_30 : mm_cv R_LR 30 R_Row yRow_add cRow_add 2 none 1 := ⟨mm_ofG (goodIn_p _ [202] rfl (by decide +kernel)), rfl, by decide, by decide, by decide +kernel⟩
set_option maxRecDepth 20000 in
theorem x_LR_20 : mm_cv R_LR 20 R_Row yRow_clear cRow_clear 1 none 0 := ⟨mm_ofG (goodIn_p _ [465] rfl (by decide +kernel)), rfl, by decide, by decide, by decide +kernel⟩
set_option maxRecDepth 20000 in
theorem x_TR_3 : ∀ w ∈ ([.methodLink R_TR 3 objectInit, .instanceMethod objectInit, .code objectInit ⟨#[0xb1]⟩ 1 none] : List Cond), w ∈ mm_TB := mm_ofG (goodIn_p _ [57] rfl (by decide +kernel))
set_option maxRecDepth 20000 in
theorem xn_TR_9 : ∀ w ∈ ([.classLink R_TR 9 R_Row, .instantiable R_Row 2, .initialized R_Row] : List Cond), w ∈ mm_TB := mm_ofG (goodIn_p _ [] rfl (by decide +kernel))
set_option maxRecDepth 20000 in
theorem x_TR_11 : mm_ci R_TR 11 yRow_init cRow_init 2 1 := ⟨mm_ofG (goodIn_p _ [62] rfl (by decide +kernel)), rfl, by decide, by decide, by decide +kernel⟩
set_option maxRecDepth 20000 in
theorem x_TR_14 : mm_F R_TR 14 kTR 0 R_TR T_TR 4 := ⟨rfl, by decide, in_TR, mm_ofG (ws := [Cond.fieldLink R_TR 14 (T_TR 0).1 (T_TR 0).2.1 (T_TR 0).2.2.1]) (goodIn_p _ [] rfl (by decide +kernel)) _ (by simp)⟩
set_option maxRecDepth 20000 in
theorem x_TR_26 : mm_F R_TR 26 kTR 1 R_TR T_TR 4 := ⟨rfl, by decide, in_TR, mm_ofG (ws := [Cond.fieldLink R_TR 26 (T_TR 1).1 (T_TR 1).2.1 (T_TR 1).2.2.1]) (goodIn_p _ [] rfl (by decide +kernel)) _ (by simp)⟩
set_option maxRecDepth 20000 in
theorem x_TR_30 : mm_F R_TR 30 kTR 2 R_TR T_TR 4 := ⟨rfl, by decide, in_TR, mm_ofG (ws := [Cond.fieldLink R_TR 30 (T_TR 2).1 (T_TR 2).2.1 (T_TR 2).2.2.1]) (goodIn_p _ [] rfl (by decide +kernel)) _ (by simp)⟩
set_option maxRecDepth 20000 in
theorem x_TR_33 : mm_F R_TR 33 kTR 3 R_TR T_TR 4 := ⟨rfl, by decide, in_TR, mm_ofG (ws := [Cond.fieldLink R_TR 33 (T_TR 3).1 (T_TR 3).2.1 (T_TR 3).2.2.1]) (goodIn_p _ [] rfl (by decide +kernel)) _ (by simp)⟩
set_option maxRecDepth 20000 in
theorem x_TR_37 : mm_cv R_TR 37 R_Row yRow_dropLast cRow_dropLast 1 none 0 := ⟨mm_ofG (goodIn_p _ [198] rfl (by decide +kernel)), rfl, by decide, by decide, by decide +kernel⟩
set_option maxRecDepth 20000 in
theorem x_TR_40 : mm_cv R_TR 40 R_Row yRow_add cRow_add 2 none 1 := ⟨mm_ofG (goodIn_p _ [202] rfl (by decide +kernel)), rfl, by decide, by decide, by decide +kernel⟩
set_option maxRecDepth 20000 in
theorem x_TR_23 : mm_cv R_TR 23 R_TR yTR_startLine cTR_startLine 1 none 0 := ⟨mm_ofG (goodIn_p _ [206] rfl (by decide +kernel)), rfl, by decide, by decide, by decide +kernel⟩
set_option maxRecDepth 20000 in
theorem x_TR_20 : mm_cv R_TR 20 R_Row yRow_clear cRow_clear 1 none 0 := ⟨mm_ofG (goodIn_p _ [465] rfl (by decide +kernel)), rfl, by decide, by decide, by decide +kernel⟩
set_option maxRecDepth 20000 in
theorem x_Env_3 : ∀ w ∈ ([.methodLink R_Env 3 objectInit, .instanceMethod objectInit, .code objectInit ⟨#[0xb1]⟩ 1 none] : List Cond), w ∈ mm_TB := mm_ofG (goodIn_p _ [57] rfl (by decide +kernel))
set_option maxRecDepth 20000 in
theorem xn_Env_9 : ∀ w ∈ ([.classLink R_Env 9 R_Row, .instantiable R_Row 2, .initialized R_Row] : List Cond), w ∈ mm_TB := mm_ofG (goodIn_p _ [] rfl (by decide +kernel))
set_option maxRecDepth 20000 in
theorem x_Env_11 : mm_ci R_Env 11 yRow_init cRow_init 2 1 := ⟨mm_ofG (goodIn_p _ [62] rfl (by decide +kernel)), rfl, by decide, by decide, by decide +kernel⟩
set_option maxRecDepth 20000 in
theorem x_Env_14 : mm_F R_Env 14 kEnv 0 R_Env T_Env 4 := ⟨rfl, by decide, in_Env, mm_ofG (ws := [Cond.fieldLink R_Env 14 (T_Env 0).1 (T_Env 0).2.1 (T_Env 0).2.2.1]) (goodIn_p _ [] rfl (by decide +kernel)) _ (by simp)⟩
theorem xa_Env_9 : Cond.classLink R_Env 9 R_Row ∈ mm_TB := mm_ofG (ws := [Cond.classLink R_Env 9 R_Row]) (goodIn_p _ [] rfl (by decide +kernel)) _ (by simp)
set_option maxRecDepth 20000 in
theorem x_Env_20 : mm_F R_Env 20 kEnv 1 R_Env T_Env 4 := ⟨rfl, by decide, in_Env, mm_ofG (ws := [Cond.fieldLink R_Env 20 (T_Env 1).1 (T_Env 1).2.1 (T_Env 1).2.2.1]) (goodIn_p _ [] rfl (by decide +kernel)) _ (by simp)⟩
set_option maxRecDepth 20000 in
theorem x_Env_28 : mm_F R_Env 28 kEnv 3 R_Env T_Env 4 := ⟨rfl, by decide, in_Env, mm_ofG (ws := [Cond.fieldLink R_Env 28 (T_Env 3).1 (T_Env 3).2.1 (T_Env 3).2.2.1]) (goodIn_p _ [] rfl (by decide +kernel)) _ (by simp)⟩
set_option maxRecDepth 20000 in
theorem x_Env_24 : mm_F R_Env 24 kEnv 2 R_Env T_Env 4 := ⟨rfl, by decide, in_Env, mm_ofG (ws := [Cond.fieldLink R_Env 24 (T_Env 2).1 (T_Env 2).2.1 (T_Env 2).2.2.1]) (goodIn_p _ [] rfl (by decide +kernel)) _ (by simp)⟩
set_option maxRecDepth 20000 in
theorem x_Env_32 : mm_cv R_Env 32 R_Row yRow_clear cRow_clear 1 none 0 := ⟨mm_ofG (goodIn_p _ [465] rfl (by decide +kernel)), rfl, by decide, by decide, by decide +kernel⟩
set_option maxRecDepth 20000 in
theorem x_Env_35 : mm_cv R_Env 35 R_Row yRow_addPart cRow_addPart 5 none 3 := ⟨mm_ofG (goodIn_p _ [299] rfl (by decide +kernel)), rfl, by decide, by decide, by decide +kernel⟩
set_option maxRecDepth 20000 in
theorem x_Let_3 : ∀ w ∈ ([.methodLink R_Let 3 objectInit, .instanceMethod objectInit, .code objectInit ⟨#[0xb1]⟩ 1 none] : List Cond), w ∈ mm_TB := mm_ofG (goodIn_p _ [57] rfl (by decide +kernel))
set_option maxRecDepth 20000 in
theorem xn_Let_9 : ∀ w ∈ ([.classLink R_Let 9 R_Row, .instantiable R_Row 2, .initialized R_Row] : List Cond), w ∈ mm_TB := mm_ofG (goodIn_p _ [] rfl (by decide +kernel))
set_option maxRecDepth 20000 in
theorem x_Let_11 : mm_ci R_Let 11 yRow_init cRow_init 2 1 := ⟨mm_ofG (goodIn_p _ [62] rfl (by decide +kernel)), rfl, by decide, by decide, by decide +kernel⟩
set_option maxRecDepth 20000 in
theorem x_Let_14 : mm_F R_Let 14 kLet 0 R_Let T_Let 4 := ⟨rfl, by decide, in_Let, mm_ofG (ws := [Cond.fieldLink R_Let 14 (T_Let 0).1 (T_Let 0).2.1 (T_Let 0).2.2.1]) (goodIn_p _ [] rfl (by decide +kernel)) _ (by simp)⟩
set_option maxRecDepth 20000 in
theorem x_Let_20 : mm_F R_Let 20 kLet 1 R_Let T_Let 4 := ⟨rfl, by decide, in_Let, mm_ofG (ws := [Cond.fieldLink R_Let 20 (T_Let 1).1 (T_Let 1).2.1 (T_Let 1).2.2.1]) (goodIn_p _ [] rfl (by decide +kernel)) _ (by simp)⟩
set_option maxRecDepth 20000 in
theorem x_Let_23 : mm_F R_Let 23 kLet 2 R_Let T_Let 4 := ⟨rfl, by decide, in_Let, mm_ofG (ws := [Cond.fieldLink R_Let 23 (T_Let 2).1 (T_Let 2).2.1 (T_Let 2).2.2.1]) (goodIn_p _ [] rfl (by decide +kernel)) _ (by simp)⟩
set_option maxRecDepth 20000 in
theorem x_Let_26 : mm_cv R_Let 26 R_Row yRow_length cRow_length 1 (some .int) 0 := ⟨mm_ofG (goodIn_p _ [218] rfl (by decide +kernel)), rfl, by decide, by decide, by decide +kernel⟩
set_option maxRecDepth 20000 in
theorem x_Let_30 : mm_cv R_Let 30 R_Row yRow_addPart cRow_addPart 5 none 3 := ⟨mm_ofG (goodIn_p _ [299] rfl (by decide +kernel)), rfl, by decide, by decide, by decide +kernel⟩
set_option maxRecDepth 20000 in
theorem x_Let_34 : mm_cv R_Let 34 R_Env yEnv_sender cEnv_sender 1 (some (.object "MailLines$Row")) 0 := ⟨mm_ofG (goodIn_p _ [313] rfl (by decide +kernel)), rfl, by decide, by decide, by decide +kernel⟩
set_option maxRecDepth 20000 in
theorem x_Let_39 : mm_cv R_Let 39 R_Env yEnv_recipientOrNull cEnv_recipientOrNull 2 (some (.object "MailLines$Row")) 1 := ⟨mm_ofG (goodIn_p _ [226] rfl (by decide +kernel)), rfl, by decide, by decide, by decide +kernel⟩
set_option maxRecDepth 20000 in
theorem x_Let_43 : mm_cv R_Let 43 R_Env yEnv_recipients cEnv_recipients 1 (some .int) 0 := ⟨mm_ofG (goodIn_p _ [222] rfl (by decide +kernel)), rfl, by decide, by decide, by decide +kernel⟩
set_option maxRecDepth 20000 in
theorem x_Let_46 : mm_F R_Let 46 kLet 3 R_Let T_Let 4 := ⟨rfl, by decide, in_Let, mm_ofG (ws := [Cond.fieldLink R_Let 46 (T_Let 3).1 (T_Let 3).2.1 (T_Let 3).2.2.1]) (goodIn_p _ [] rfl (by decide +kernel)) _ (by simp)⟩
set_option maxRecDepth 20000 in
theorem x_ML_1 : ∀ w ∈ ([.methodLink R_ML 1 objectInit, .instanceMethod objectInit, .code objectInit ⟨#[0xb1]⟩ 1 none] : List Cond), w ∈ mm_TB := mm_ofG (goodIn_p _ [57] rfl (by decide +kernel))
set_option maxRecDepth 20000 in
theorem xn_ML_7 : ∀ w ∈ ([.classLink R_ML 7 R_Row, .instantiable R_Row 2, .initialized R_Row] : List Cond), w ∈ mm_TB := mm_ofG (goodIn_p _ [] rfl (by decide +kernel))
set_option maxRecDepth 20000 in
theorem x_ML_11 : mm_ci R_ML 11 yRow_init cRow_init 2 1 := ⟨mm_ofG (goodIn_p _ [62] rfl (by decide +kernel)), rfl, by decide, by decide, by decide +kernel⟩
set_option maxRecDepth 20000 in
theorem x_ML_14 : mm_F R_ML 14 kML 0 R_ML T_ML 9 := ⟨rfl, by decide, in_ML, mm_ofG (ws := [Cond.fieldLink R_ML 14 (T_ML 0).1 (T_ML 0).2.1 (T_ML 0).2.2.1]) (goodIn_p _ [] rfl (by decide +kernel)) _ (by simp)⟩
set_option maxRecDepth 20000 in
theorem xn_ML_18 : ∀ w ∈ ([.classLink R_ML 18 R_LR, .instantiable R_LR 2, .initialized R_LR] : List Cond), w ∈ mm_TB := mm_ofG (goodIn_p _ [] rfl (by decide +kernel))
set_option maxRecDepth 20000 in
theorem x_ML_20 : mm_ci R_ML 20 yLR_init cLR_init 1 0 := ⟨mm_ofG (goodIn_p _ [79] rfl (by decide +kernel)), rfl, by decide, by decide, by decide +kernel⟩
set_option maxRecDepth 20000 in
theorem x_ML_21 : mm_F R_ML 21 kML 1 R_ML T_ML 9 := ⟨rfl, by decide, in_ML, mm_ofG (ws := [Cond.fieldLink R_ML 21 (T_ML 1).1 (T_ML 1).2.1 (T_ML 1).2.2.1]) (goodIn_p _ [] rfl (by decide +kernel)) _ (by simp)⟩
set_option maxRecDepth 20000 in
theorem xn_ML_25 : ∀ w ∈ ([.classLink R_ML 25 R_TR, .instantiable R_TR 4, .initialized R_TR] : List Cond), w ∈ mm_TB := mm_ofG (goodIn_p _ [] rfl (by decide +kernel))
set_option maxRecDepth 20000 in
theorem x_ML_27 : mm_ci R_ML 27 yTR_init cTR_init 1 0 := ⟨mm_ofG (goodIn_p _ [94] rfl (by decide +kernel)), rfl, by decide, by decide, by decide +kernel⟩
set_option maxRecDepth 20000 in
theorem x_ML_28 : mm_F R_ML 28 kML 2 R_ML T_ML 9 := ⟨rfl, by decide, in_ML, mm_ofG (ws := [Cond.fieldLink R_ML 28 (T_ML 2).1 (T_ML 2).2.1 (T_ML 2).2.2.1]) (goodIn_p _ [] rfl (by decide +kernel)) _ (by simp)⟩
set_option maxRecDepth 20000 in
theorem xn_ML_32 : ∀ w ∈ ([.classLink R_ML 32 R_Env, .instantiable R_Env 4, .initialized R_Env] : List Cond), w ∈ mm_TB := mm_ofG (goodIn_p _ [] rfl (by decide +kernel))
set_option maxRecDepth 20000 in
theorem x_ML_34 : mm_ci R_ML 34 yEnv_init cEnv_init 2 0 := ⟨mm_ofG (goodIn_p _ [115] rfl (by decide +kernel)), rfl, by decide, by decide, by decide +kernel⟩
set_option maxRecDepth 20000 in
theorem x_ML_35 : mm_F R_ML 35 kML 3 R_ML T_ML 9 := ⟨rfl, by decide, in_ML, mm_ofG (ws := [Cond.fieldLink R_ML 35 (T_ML 3).1 (T_ML 3).2.1 (T_ML 3).2.2.1]) (goodIn_p _ [] rfl (by decide +kernel)) _ (by simp)⟩
theorem xa_ML_39 : Cond.classLink R_ML 39 R_Let ∈ mm_TB := mm_ofG (ws := [Cond.classLink R_ML 39 R_Let]) (goodIn_p _ [] rfl (by decide +kernel)) _ (by simp)
set_option maxRecDepth 20000 in
theorem x_ML_41 : mm_F R_ML 41 kML 4 R_ML T_ML 9 := ⟨rfl, by decide, in_ML, mm_ofG (ws := [Cond.fieldLink R_ML 41 (T_ML 4).1 (T_ML 4).2.1 (T_ML 4).2.2.1]) (goodIn_p _ [] rfl (by decide +kernel)) _ (by simp)⟩
set_option maxRecDepth 20000 in
theorem xn_ML_39 : ∀ w ∈ ([.classLink R_ML 39 R_Let, .instantiable R_Let 4, .initialized R_Let] : List Cond), w ∈ mm_TB := mm_ofG (goodIn_p _ [] rfl (by decide +kernel))
set_option maxRecDepth 20000 in
theorem x_ML_45 : mm_ci R_ML 45 yLet_init cLet_init 1 0 := ⟨mm_ofG (goodIn_p _ [138] rfl (by decide +kernel)), rfl, by decide, by decide, by decide +kernel⟩
set_option maxRecDepth 20000 in
theorem x_ML_46 : mm_F R_ML 46 kML 6 R_ML T_ML 9 := ⟨rfl, by decide, in_ML, mm_ofG (ws := [Cond.fieldLink R_ML 46 (T_ML 6).1 (T_ML 6).2.1 (T_ML 6).2.2.1]) (goodIn_p _ [] rfl (by decide +kernel)) _ (by simp)⟩
set_option maxRecDepth 20000 in
theorem x_ML_50 : mm_cv R_ML 50 R_ML yML_takeByte cML_takeByte 2 none 1 := ⟨mm_ofG (goodIn_p _ [190] rfl (by decide +kernel)), rfl, by decide, by decide, by decide +kernel⟩
set_option maxRecDepth 20000 in
theorem x_ML_73 : mm_F R_ML 73 kML 8 R_ML T_ML 9 := ⟨rfl, by decide, in_ML, mm_ofG (ws := [Cond.fieldLink R_ML 73 (T_ML 8).1 (T_ML 8).2.1 (T_ML 8).2.2.1]) (goodIn_p _ [] rfl (by decide +kernel)) _ (by simp)⟩
set_option maxRecDepth 20000 in
theorem x_ML_111 : mm_cv R_ML 111 R_TR yTR_endsWith cTR_endsWith 4 (some .boolean) 1 := ⟨mm_ofG (goodIn_p _ [194] rfl (by decide +kernel)), rfl, by decide, by decide, by decide +kernel⟩
set_option maxRecDepth 20000 in
theorem x_ML_107 : mm_cv R_ML 107 R_TR yTR_row cTR_row 1 (some (.object "MailLines$Row")) 0 := ⟨mm_ofG (goodIn_p _ [210] rfl (by decide +kernel)), rfl, by decide, by decide, by decide +kernel⟩
set_option maxRecDepth 20000 in
theorem x_ML_115 : mm_cv R_ML 115 R_ML yML_endText cML_endText 6 none 1 := ⟨mm_ofG (goodIn_p _ [214] rfl (by decide +kernel)), rfl, by decide, by decide, by decide +kernel⟩
set_option maxRecDepth 20000 in
theorem x_ML_119 : mm_cv R_ML 119 R_LR yLR_endsWith cLR_endsWith 2 (some .boolean) 1 := ⟨mm_ofG (goodIn_p _ [323] rfl (by decide +kernel)), rfl, by decide, by decide, by decide +kernel⟩
set_option maxRecDepth 20000 in
theorem x_ML_110 : mm_cv R_ML 110 R_LR yLR_row cLR_row 1 (some (.object "MailLines$Row")) 0 := ⟨mm_ofG (goodIn_p _ [329] rfl (by decide +kernel)), rfl, by decide, by decide, by decide +kernel⟩
set_option maxRecDepth 20000 in
theorem x_ML_120 : mm_cv R_ML 120 R_ML yML_replyTo cML_replyTo 2 (some (.object "java/lang/String")) 1 := ⟨mm_ofG (goodIn_p _ [333] rfl (by decide +kernel)), rfl, by decide, by decide, by decide +kernel⟩
set_option maxRecDepth 20000 in
theorem x_ML_124 : mm_cv R_ML 124 R_ML yML_answer cML_answer 2 none 1 := ⟨mm_ofG (goodIn_p _ [231] rfl (by decide +kernel)), rfl, by decide, by decide, by decide +kernel⟩
set_option maxRecDepth 20000 in
theorem x_ML_76 : mm_cv R_ML 76 R_LR yLR_clear cLR_clear 1 none 0 := ⟨mm_ofG (goodIn_p _ [514] rfl (by decide +kernel)), rfl, by decide, by decide, by decide +kernel⟩
set_option maxRecDepth 20000 in
theorem x_ML_53 : mm_cv R_ML 53 R_Row yRow_length cRow_length 1 (some .int) 0 := ⟨mm_ofG (goodIn_p _ [218] rfl (by decide +kernel)), rfl, by decide, by decide, by decide +kernel⟩
set_option maxRecDepth 20000 in
theorem x_ML_102 : mm_F R_ML 102 kML 5 R_ML T_ML 9 := ⟨rfl, by decide, in_ML, mm_ofG (ws := [Cond.fieldLink R_ML 102 (T_ML 5).1 (T_ML 5).2.1 (T_ML 5).2.2.1]) (goodIn_p _ [] rfl (by decide +kernel)) _ (by simp)⟩
set_option maxRecDepth 20000 in
theorem x_ML_106 : mm_cv R_ML 106 R_Env yEnv_recipients cEnv_recipients 1 (some .int) 0 := ⟨mm_ofG (goodIn_p _ [222] rfl (by decide +kernel)), rfl, by decide, by decide, by decide +kernel⟩
set_option maxRecDepth 20000 in
theorem x_ML_250 : mm_cv R_ML 250 R_Env yEnv_recipientOrNull cEnv_recipientOrNull 2 (some (.object "MailLines$Row")) 1 := ⟨mm_ofG (goodIn_p _ [226] rfl (by decide +kernel)), rfl, by decide, by decide, by decide +kernel⟩
theorem xt_ML_223 : (R_ML, 223, "552 big", 0) ∈ mm_strs := by decide +kernel
theorem xt_ML_254 : (R_ML, 254, "452 full", 1) ∈ mm_strs := by decide +kernel
set_option maxRecDepth 20000 in
theorem x_ML_256 : mm_cv R_ML 256 R_ML yML_answerTaken cML_answerTaken 2 none 1 := ⟨mm_ofG (goodIn_p _ [294] rfl (by decide +kernel)), rfl, by decide, by decide, by decide +kernel⟩
set_option maxRecDepth 20000 in
theorem x_ML_259 : mm_cv R_ML 259 R_Let yLet_fill cLet_fill 4 none 2 := ⟨mm_ofG (goodIn_p _ [307] rfl (by decide +kernel)), rfl, by decide, by decide, by decide +kernel⟩
set_option maxRecDepth 20000 in
theorem x_ML_79 : mm_cv R_ML 79 R_Env yEnv_clear cEnv_clear 1 none 0 := ⟨mm_ofG (goodIn_p _ [319] rfl (by decide +kernel)), rfl, by decide, by decide, by decide +kernel⟩
set_option maxRecDepth 20000 in
theorem x_ML_128 : mm_cv R_ML 128 R_Row yRow_addText cRow_addText 3 none 1 := ⟨mm_ofG (goodIn_p _ [235] rfl (by decide +kernel)), rfl, by decide, by decide, by decide +kernel⟩
set_option maxRecDepth 20000 in
theorem x_ML_131 : mm_cv R_ML 131 R_ML yML_endAnswer cML_endAnswer 1 none 0 := ⟨mm_ofG (goodIn_p _ [288] rfl (by decide +kernel)), rfl, by decide, by decide, by decide +kernel⟩
set_option maxRecDepth 20000 in
theorem x_ML_140 : mm_cv R_ML 140 R_Row yRow_add cRow_add 2 none 1 := ⟨mm_ofG (goodIn_p _ [202] rfl (by decide +kernel)), rfl, by decide, by decide, by decide +kernel⟩
theorem xt_ML_134 : (R_ML, 134, "250 <", 2) ∈ mm_strs := by decide +kernel
set_option maxRecDepth 20000 in
theorem x_ML_136 : mm_cv R_ML 136 R_Row yRow_addPart cRow_addPart 5 none 3 := ⟨mm_ofG (goodIn_p _ [299] rfl (by decide +kernel)), rfl, by decide, by decide, by decide +kernel⟩
theorem xt_ML_143 : (R_ML, 143, "500 too long", 3) ∈ mm_strs := by decide +kernel
theorem xt_ML_145 : (R_ML, 145, "LHLO", 4) ∈ mm_strs := by decide +kernel
set_option maxRecDepth 20000 in
theorem x_ML_147 : mm_cs R_ML 147 yGr_hasFirstWord cGr_hasFirstWord 2 (some .boolean) 2 := ⟨mm_ofG (goodIn_p _ [338] rfl (by decide +kernel)), by decide, by decide, by decide +kernel⟩
set_option maxRecDepth 20000 in
theorem x_ML_153 : mm_cv R_ML 153 R_ML yML_replyToGreeting cML_replyToGreeting 2 (some (.object "java/lang/String")) 1 := ⟨mm_ofG (goodIn_p _ [354] rfl (by decide +kernel)), rfl, by decide, by decide, by decide +kernel⟩
theorem xt_ML_156 : (R_ML, 156, "MAIL", 8) ∈ mm_strs := by decide +kernel
set_option maxRecDepth 20000 in
theorem x_ML_70 : mm_F R_ML 70 kML 7 R_ML T_ML 9 := ⟨rfl, by decide, in_ML, mm_ofG (ws := [Cond.fieldLink R_ML 70 (T_ML 7).1 (T_ML 7).2.1 (T_ML 7).2.2.1]) (goodIn_p _ [] rfl (by decide +kernel)) _ (by simp)⟩
set_option maxRecDepth 20000 in
theorem x_ML_158 : mm_cv R_ML 158 R_ML yML_replyToSender cML_replyToSender 5 (some (.object "java/lang/String")) 1 := ⟨mm_ofG (goodIn_p _ [428] rfl (by decide +kernel)), rfl, by decide, by decide, by decide +kernel⟩
theorem xt_ML_161 : (R_ML, 161, "503 order", 14) ∈ mm_strs := by decide +kernel
theorem xt_ML_163 : (R_ML, 163, "RCPT", 16) ∈ mm_strs := by decide +kernel
set_option maxRecDepth 20000 in
theorem x_ML_165 : mm_cv R_ML 165 R_ML yML_replyToRecipient cML_replyToRecipient 3 (some (.object "java/lang/String")) 1 := ⟨mm_ofG (goodIn_p _ [472] rfl (by decide +kernel)), rfl, by decide, by decide, by decide +kernel⟩
theorem xt_ML_168 : (R_ML, 168, "DATA", 22) ∈ mm_strs := by decide +kernel
set_option maxRecDepth 20000 in
theorem x_ML_170 : mm_cv R_ML 170 R_ML yML_replyToData cML_replyToData 2 (some (.object "java/lang/String")) 1 := ⟨mm_ofG (goodIn_p _ [489] rfl (by decide +kernel)), rfl, by decide, by decide, by decide +kernel⟩
theorem xt_ML_173 : (R_ML, 173, "RSET", 24) ∈ mm_strs := by decide +kernel
set_option maxRecDepth 20000 in
theorem x_ML_175 : mm_cv R_ML 175 R_ML yML_replyToReset cML_replyToReset 2 (some (.object "java/lang/String")) 1 := ⟨mm_ofG (goodIn_p _ [501] rfl (by decide +kernel)), rfl, by decide, by decide, by decide +kernel⟩
theorem xt_ML_178 : (R_ML, 178, "NOOP", 26) ∈ mm_strs := by decide +kernel
set_option maxRecDepth 20000 in
theorem x_ML_180 : mm_cs R_ML 180 yGr_isBareWord cGr_isBareWord 1 (some .boolean) 1 := ⟨mm_ofG (goodIn_p _ [348] rfl (by decide +kernel)), by decide, by decide, by decide +kernel⟩
theorem xt_ML_184 : (R_ML, 184, "250 ok", 25) ∈ mm_strs := by decide +kernel
theorem xt_ML_186 : (R_ML, 186, "501 syntax", 6) ∈ mm_strs := by decide +kernel
theorem xt_ML_188 : (R_ML, 188, "QUIT", 27) ∈ mm_strs := by decide +kernel
set_option maxRecDepth 20000 in
theorem x_ML_190 : mm_cv R_ML 190 R_ML yML_replyToQuit cML_replyToQuit 2 (some (.object "java/lang/String")) 1 := ⟨mm_ofG (goodIn_p _ [508] rfl (by decide +kernel)), rfl, by decide, by decide, by decide +kernel⟩
theorem xt_ML_193 : (R_ML, 193, "500 unknown", 29) ∈ mm_strs := by decide +kernel
set_option maxRecDepth 20000 in
theorem x_ML_195 : mm_cs R_ML 195 yGr_isGreeting cGr_isGreeting 1 (some .boolean) 1 := ⟨mm_ofG (goodIn_p _ [357] rfl (by decide +kernel)), by decide, by decide, by decide +kernel⟩
theorem xt_ML_198 : (R_ML, 198, "250 here", 7) ∈ mm_strs := by decide +kernel
theorem xt_ML_200 : (R_ML, 200, "MAIL FROM:<>", 9) ∈ mm_strs := by decide +kernel
set_option maxRecDepth 20000 in
theorem x_ML_202 : mm_cv R_ML 202 R_Row yRow_hasWord cRow_hasWord 4 (some .boolean) 2 := ⟨mm_ofG (goodIn_p _ [342] rfl (by decide +kernel)), rfl, by decide, by decide, by decide +kernel⟩
set_option maxRecDepth 20000 in
theorem x_ML_206 : mm_cv R_ML 206 R_Str yStr_length cStr_length 1 (some .int) 0 := ⟨mm_ofG (goodIn_p _ [239] rfl (by decide +kernel)), rfl, by decide, by decide, by decide +kernel⟩
theorem xt_ML_209 : (R_ML, 209, "MAIL FROM:", 10) ∈ mm_strs := by decide +kernel
set_option maxRecDepth 20000 in
theorem x_ML_211 : mm_cs R_ML 211 yGr_pathEnd cGr_pathEnd 5 (some .int) 2 := ⟨mm_ofG (goodIn_p _ [435] rfl (by decide +kernel)), by decide, by decide, by decide +kernel⟩
set_option maxRecDepth 20000 in
theorem x_ML_215 : mm_cs R_ML 215 yGr_largestSize cGr_largestSize 6 (some .int) 2 := ⟨mm_ofG (goodIn_p _ [440] rfl (by decide +kernel)), by decide, by decide, by decide +kernel⟩
set_option maxRecDepth 20000 in
theorem x_ML_219 : mm_cv R_ML 219 R_Env yEnv_hasSender cEnv_hasSender 1 (some .boolean) 0 := ⟨mm_ofG (goodIn_p _ [456] rfl (by decide +kernel)), rfl, by decide, by decide, by decide +kernel⟩
set_option maxRecDepth 20000 in
theorem x_ML_225 : mm_cv R_ML 225 R_Env yEnv_setSender cEnv_setSender 4 none 3 := ⟨mm_ofG (goodIn_p _ [461] rfl (by decide +kernel)), rfl, by decide, by decide, by decide +kernel⟩
theorem xt_ML_228 : (R_ML, 228, "250 sender", 15) ∈ mm_strs := by decide +kernel
theorem xt_ML_230 : (R_ML, 230, "RCPT TO:", 17) ∈ mm_strs := by decide +kernel
set_option maxRecDepth 20000 in
theorem x_ML_232 : mm_cs R_ML 232 yGr_isHere cGr_isHere 3 (some .boolean) 2 := ⟨mm_ofG (goodIn_p _ [476] rfl (by decide +kernel)), by decide, by decide, by decide +kernel⟩
theorem xt_ML_236 : (R_ML, 236, "550 none", 19) ∈ mm_strs := by decide +kernel
theorem xt_ML_238 : (R_ML, 238, "452 many", 20) ∈ mm_strs := by decide +kernel
set_option maxRecDepth 20000 in
theorem x_ML_240 : mm_cv R_ML 240 R_Env yEnv_addRecipient cEnv_addRecipient 5 none 3 := ⟨mm_ofG (goodIn_p _ [483] rfl (by decide +kernel)), rfl, by decide, by decide, by decide +kernel⟩
theorem xt_ML_243 : (R_ML, 243, "250 recipient", 21) ∈ mm_strs := by decide +kernel
set_option maxRecDepth 20000 in
theorem x_ML_245 : mm_cv R_ML 245 R_TR yTR_clear cTR_clear 1 none 0 := ⟨mm_ofG (goodIn_p _ [494] rfl (by decide +kernel)), rfl, by decide, by decide, by decide +kernel⟩
theorem xt_ML_246 : (R_ML, 246, "354 go", 23) ∈ mm_strs := by decide +kernel
theorem xt_ML_248 : (R_ML, 248, "221 bye", 28) ∈ mm_strs := by decide +kernel
set_option maxRecDepth 20000 in
theorem x_ML_57 : ∀ w ∈ ([.methodLink R_ML 57 Lib.Math.min.name, .static Lib.Math.min.name, .initialized "java/lang/Math", .code Lib.Math.min.name Lib.Math.min.code 2 (some .int)] : List Cond), w ∈ mm_TB := mm_ofG (goodIn_p _ [383] rfl (by decide +kernel))
set_option maxRecDepth 20000 in
theorem x_ML_63 : mm_cv R_ML 63 R_Row yRow_at cRow_at 2 (some .int) 1 := ⟨mm_ofG (goodIn_p _ [303] rfl (by decide +kernel)), rfl, by decide, by decide, by decide +kernel⟩
set_option maxRecDepth 20000 in
theorem x_ML_67 : mm_cv R_ML 67 R_Row yRow_dropFirst cRow_dropFirst 2 none 1 := ⟨mm_ofG (goodIn_p _ [525] rfl (by decide +kernel)), rfl, by decide, by decide, by decide +kernel⟩
set_option maxRecDepth 20000 in
theorem x_ML_80 : mm_cv R_ML 80 R_ML yML_letterOrNull cML_letterOrNull 2 (some (.object "MailLines$Letter")) 1 := ⟨mm_ofG (goodIn_p _ [540] rfl (by decide +kernel)), rfl, by decide, by decide, by decide +kernel⟩
set_option maxRecDepth 20000 in
theorem x_ML_84 : mm_cv R_ML 84 R_Let yLet_text cLet_text 1 (some (.object "MailLines$Row")) 0 := ⟨mm_ofG (goodIn_p _ [544] rfl (by decide +kernel)), rfl, by decide, by decide, by decide +kernel⟩
set_option maxRecDepth 20000 in
theorem x_ML_87 : mm_cv R_ML 87 R_Let yLet_recipients cLet_recipients 1 (some .int) 0 := ⟨mm_ofG (goodIn_p _ [548] rfl (by decide +kernel)), rfl, by decide, by decide, by decide +kernel⟩
set_option maxRecDepth 20000 in
theorem x_ML_90 : mm_cv R_ML 90 R_Let yLet_sender cLet_sender 1 (some (.object "MailLines$Row")) 0 := ⟨mm_ofG (goodIn_p _ [552] rfl (by decide +kernel)), rfl, by decide, by decide, by decide +kernel⟩
set_option maxRecDepth 20000 in
theorem x_ML_93 : mm_cv R_ML 93 R_Let yLet_firstRecipient cLet_firstRecipient 1 (some (.object "MailLines$Row")) 0 := ⟨mm_ofG (goodIn_p _ [556] rfl (by decide +kernel)), rfl, by decide, by decide, by decide +kernel⟩
theorem x_ML_96 : Cond.constantLong R_ML 96 (-1) ∈ mm_TB := mm_ofG (ws := [Cond.constantLong R_ML 96 (-1)]) (goodIn_p _ [] rfl (by decide +kernel)) _ (by simp)
set_option maxRecDepth 20000 in
theorem x_ML_98 : mm_cv R_ML 98 R_Row yRow_eightFrom cRow_eightFrom 5 (some .long) 1 := ⟨mm_ofG (goodIn_p _ [565] rfl (by decide +kernel)), rfl, by decide, by decide, by decide +kernel⟩
set_option maxRecDepth 20000 in
theorem x_Gr_9 : mm_cv R_Gr 9 R_Row yRow_hasWord cRow_hasWord 4 (some .boolean) 2 := ⟨mm_ofG (goodIn_p _ [342] rfl (by decide +kernel)), rfl, by decide, by decide, by decide +kernel⟩
set_option maxRecDepth 20000 in
theorem x_Gr_15 : mm_cs R_Gr 15 yGr_isBareWord cGr_isBareWord 1 (some .boolean) 1 := ⟨mm_ofG (goodIn_p _ [348] rfl (by decide +kernel)), by decide, by decide, by decide +kernel⟩
set_option maxRecDepth 20000 in
theorem x_Gr_21 : mm_cv R_Gr 21 R_Row yRow_at cRow_at 2 (some .int) 1 := ⟨mm_ofG (goodIn_p _ [303] rfl (by decide +kernel)), rfl, by decide, by decide, by decide +kernel⟩
set_option maxRecDepth 20000 in
theorem x_Gr_25 : mm_cv R_Gr 25 R_Row yRow_length cRow_length 1 (some .int) 0 := ⟨mm_ofG (goodIn_p _ [218] rfl (by decide +kernel)), rfl, by decide, by decide, by decide +kernel⟩
theorem xt_Gr_29 : (R_Gr, 29, "-", 5) ∈ mm_strs := by decide +kernel
set_option maxRecDepth 20000 in
theorem x_Gr_31 : mm_cs R_Gr 31 yGr_nameEnd cGr_nameEnd 7 (some .int) 4 := ⟨mm_ofG (goodIn_p _ [361] rfl (by decide +kernel)), by decide, by decide, by decide +kernel⟩
set_option maxRecDepth 20000 in
theorem x_Gr_60 : mm_cs R_Gr 60 yGr_isNameByte cGr_isNameByte 2 (some .boolean) 2 := ⟨mm_ofG (goodIn_p _ [364] rfl (by decide +kernel)), by decide, by decide, by decide +kernel⟩
set_option maxRecDepth 20000 in
theorem x_Gr_63 : mm_cv R_Gr 63 R_Str yStr_indexOf cStr_indexOf 2 (some .int) 1 := ⟨mm_ofG (goodIn_p _ [368] rfl (by decide +kernel)), rfl, by decide, by decide, by decide +kernel⟩
set_option maxRecDepth 20000 in
theorem x_Gr_35 : mm_cv R_Gr 35 R_Str yStr_length cStr_length 1 (some .int) 0 := ⟨mm_ofG (goodIn_p _ [239] rfl (by decide +kernel)), rfl, by decide, by decide, by decide +kernel⟩
theorem xt_Gr_38 : (R_Gr, 38, "!#$%&'*+-/=?^_`{|}~", 11) ∈ mm_strs := by decide +kernel
theorem xt_Gr_42 : (R_Gr, 42, " BODY=8BITMIME", 12) ∈ mm_strs := by decide +kernel
theorem xt_Gr_44 : (R_Gr, 44, " SIZE=", 13) ∈ mm_strs := by decide +kernel
set_option maxRecDepth 20000 in
theorem x_Gr_46 : mm_cs R_Gr 46 yGr_digitsEnd cGr_digitsEnd 3 (some .int) 2 := ⟨mm_ofG (goodIn_p _ [445] rfl (by decide +kernel)), by decide, by decide, by decide +kernel⟩
set_option maxRecDepth 20000 in
theorem x_Gr_50 : mm_cs R_Gr 50 yGr_number cGr_number 5 (some .int) 3 := ⟨mm_ofG (goodIn_p _ [451] rfl (by decide +kernel)), by decide, by decide, by decide +kernel⟩
set_option maxRecDepth 20000 in
theorem x_Gr_54 : ∀ w ∈ ([.methodLink R_Gr 54 Lib.Math.max.name, .static Lib.Math.max.name, .initialized "java/lang/Math", .code Lib.Math.max.name Lib.Math.max.code 2 (some .int)] : List Cond), w ∈ mm_TB := mm_ofG (goodIn_p _ [66] rfl (by decide +kernel))
set_option maxRecDepth 20000 in
theorem x_Gr_66 : mm_cs R_Gr 66 yGr_isDigit cGr_isDigit 1 (some .boolean) 1 := ⟨mm_ofG (goodIn_p _ [448] rfl (by decide +kernel)), by decide, by decide, by decide +kernel⟩
theorem xt_Gr_40 : (R_Gr, 40, "@here>", 18) ∈ mm_strs := by decide +kernel
theorem x_Str_9 : Cond.fieldLink R_Str 9 "java/lang/String" "value" "[B" ∈ mm_TB := mm_ofG (ws := [Cond.fieldLink R_Str 9 "java/lang/String" "value" "[B"]) (goodIn_p _ [] rfl (by decide +kernel)) _ (by simp)
set_option maxRecDepth 20000 in
theorem x_Str_335 : mm_cv R_Str 335 R_Str yStr_coder cStr_coder 1 (some .byte) 0 := ⟨mm_ofG (goodIn_p _ [243] rfl (by decide +kernel)), rfl, by decide, by decide, by decide +kernel⟩
theorem x_Str_38 : Cond.fieldLink R_Str 38 "java/lang/String" "COMPACT_STRINGS" "Z" ∈ mm_TB := mm_ofG (ws := [Cond.fieldLink R_Str 38 "java/lang/String" "COMPACT_STRINGS" "Z"]) (goodIn_p _ [] rfl (by decide +kernel)) _ (by simp)
theorem x_Str_15 : Cond.fieldLink R_Str 15 "java/lang/String" "coder" "B" ∈ mm_TB := mm_ofG (ws := [Cond.fieldLink R_Str 15 "java/lang/String" "coder" "B"]) (goodIn_p _ [] rfl (by decide +kernel)) _ (by simp)
set_option maxRecDepth 20000 in
theorem x_Str_492 : mm_cv R_Str 492 R_Str yStr_isLatin1 cStr_isLatin1 1 (some .boolean) 0 := ⟨mm_ofG (goodIn_p _ [253] rfl (by decide +kernel)), rfl, by decide, by decide, by decide +kernel⟩
set_option maxRecDepth 20000 in
theorem x_Str_495 : mm_cs R_Str 495 ySL_charAt cSL_charAt 2 (some .char) 2 := ⟨mm_ofG (goodIn_p _ [256] rfl (by decide +kernel)), by decide, by decide, by decide +kernel⟩
theorem x_Str_1053 : Cond.fieldLink R_Str 1053 "jdk/internal/util/Preconditions" "SIOOBE_FORMATTER" "Ljava/util/function/BiFunction;" ∈ mm_TB := mm_ofG (ws := [Cond.fieldLink R_Str 1053 "jdk/internal/util/Preconditions" "SIOOBE_FORMATTER" "Ljava/util/function/BiFunction;"]) (goodIn_p _ [] rfl (by decide +kernel)) _ (by simp)
set_option maxRecDepth 20000 in
theorem x_Str_1059 : mm_cs R_Str 1059 yPre_checkIndex cPre_checkIndex 3 (some .int) 3 := ⟨mm_ofG (goodIn_p _ [264] rfl (by decide +kernel)), by decide, by decide, by decide +kernel⟩
set_option maxRecDepth 20000 in
theorem x_Str_633 : mm_cv R_Str 633 R_Str yStr_indexOf_ cStr_indexOf_ 3 (some .int) 2 := ⟨mm_ofG (goodIn_p _ [372] rfl (by decide +kernel)), rfl, by decide, by decide, by decide +kernel⟩
set_option maxRecDepth 20000 in
theorem x_Str_505 : mm_cv R_Str 505 R_Str yStr_length cStr_length 1 (some .int) 0 := ⟨mm_ofG (goodIn_p _ [239] rfl (by decide +kernel)), rfl, by decide, by decide, by decide +kernel⟩
set_option maxRecDepth 20000 in
theorem x_Str_637 : mm_cs R_Str 637 ySL_indexOf cSL_indexOf 4 (some .int) 4 := ⟨mm_ofG (goodIn_p _ [376] rfl (by decide +kernel)), by decide, by decide, by decide +kernel⟩
set_option maxRecDepth 20000 in
theorem x_SL_9 : mm_cs R_SL 9 yStr_checkIndex cStr_checkIndex 2 none 2 := ⟨mm_ofG (goodIn_p _ [259] rfl (by decide +kernel)), by decide, by decide, by decide +kernel⟩
set_option maxRecDepth 20000 in
theorem x_SL_88 : mm_cs R_SL 88 ySL_canEncode cSL_canEncode 1 (some .boolean) 1 := ⟨mm_ofG (goodIn_p _ [379] rfl (by decide +kernel)), by decide, by decide, by decide +kernel⟩
set_option maxRecDepth 20000 in
theorem x_SL_92 : ∀ w ∈ ([.methodLink R_SL 92 Lib.Math.max.name, .static Lib.Math.max.name, .initialized "java/lang/Math", .code Lib.Math.max.name Lib.Math.max.code 2 (some .int)] : List Cond), w ∈ mm_TB := mm_ofG (goodIn_p _ [66] rfl (by decide +kernel))
set_option maxRecDepth 20000 in
theorem x_SL_38 : ∀ w ∈ ([.methodLink R_SL 38 Lib.Math.min.name, .static Lib.Math.min.name, .initialized "java/lang/Math", .code Lib.Math.min.name Lib.Math.min.code 2 (some .int)] : List Cond), w ∈ mm_TB := mm_ofG (goodIn_p _ [383] rfl (by decide +kernel))
set_option maxRecDepth 20000 in
theorem x_SL_95 : mm_cs R_SL 95 ySL_indexOfChar cSL_indexOfChar 6 (some .int) 4 := ⟨mm_ofG (goodIn_p _ [386] rfl (by decide +kernel)), by decide, by decide, by decide +kernel⟩
theorem xw_arrB : Cond.arrayClass .byte ∈ mm_TB := mm_ofG (ws := [Cond.arrayClass .byte]) (goodIn_p _ [] rfl (by decide +kernel)) _ (by simp)
theorem xs_compact : (("java/lang/String", "COMPACT_STRINGS", "Z", 1) : String × String × String × Int32) ∈ mm_stat := by simp [mm_stat]
theorem xs_form : (("jdk/internal/util/Preconditions", "SIOOBE_FORMATTER", "Ljava/util/function/BiFunction;") : String × String × String) ∈ mm_statq := by simp [mm_statq]
