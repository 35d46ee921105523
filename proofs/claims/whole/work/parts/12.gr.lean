set_option maxHeartbeats 4000000 in
set_option maxRecDepth 100000 in
theorem s_Gr_isBareWord (V : mm_V) {q cap : Nat} {L : List Nat} {mem : mm_M} {nx : Nat} (h : zRow q cap L mem) : mm_S V yGr_isBareWord cGr_isBareWord 1 (some .boolean) 1 0 0 [.ref q] mem nx (fun r m x => r = some (.int (zb (L.length == 4))) ∧ mem = m ∧ nx = x) := by
  have hb := h.le
  refine mm_met (by decide) (Nat.le_of_ble_eq_true rfl) ?_
  intro X hc he hnm
  refine g_aload_n (pc := 0) hc dGr_isBareWord_0 rfl ?_
  refine g_callV (pc := 1) hc dGr_isBareWord_1 x_Gr_25 (s_Row_length V h) cl_Row (h.obj) (Nat.le_of_ble_eq_true rfl) (Nat.le_of_ble_eq_true rfl) (Nat.le_of_ble_eq_true rfl) (Nat.le_of_ble_eq_true rfl) rfl rfl (Nat.le_of_ble_eq_true rfl) (fun r m x hp => ?_)
  obtain ⟨rfl, rfl, rfl⟩ := hp
  refine g_iconst (v := nI 4) (pc := 4) hc dGr_isBareWord_4 (by decide) ?_
  refine g_icmp_ne (tgt := 12) (pc := 5) hc dGr_isBareWord_5 (by decide) (fun c5 => ?_) (fun c5 => ?_)
  · simp (disch := omega) only [nI_leI, nI_ltI, nI_eq, nI_eq0, nI_lt0, nI_0le, nI_0lt, nI_le0, zb_0] at c5
    refine g_iconst (v := nI 0) (pc := 12) hc dGr_isBareWord_12 (by decide) ?_
    exact g_zret (pc := 13) hc he dGr_isBareWord_13 rfl (Nat.le_refl _) (Nat.le_refl _) ⟨by rw [show (L.length == 4) = false by simpa using c5]; rfl, rfl, rfl⟩
  · simp (disch := omega) only [nI_leI, nI_ltI, nI_eq, nI_eq0, nI_lt0, nI_0le, nI_0lt, nI_le0, zb_0] at c5
    refine g_iconst (v := nI 1) (pc := 8) hc dGr_isBareWord_8 (by decide) ?_
    refine g_goto (tgt := 13) (pc := 9) hc dGr_isBareWord_9 (by decide) ?_
    exact g_zret (pc := 13) hc he dGr_isBareWord_13 rfl (Nat.le_refl _) (Nat.le_refl _) ⟨by rw [c5]; rfl, rfl, rfl⟩
set_option maxHeartbeats 4000000 in
set_option maxRecDepth 100000 in
theorem s_Gr_isDigit (V : mm_V) {b : Nat} {mem : mm_M} {nx : Nat} (hb : b < 256) : mm_S V yGr_isDigit cGr_isDigit 1 (some .boolean) 0 0 0 [.int (nI b)] mem nx (fun r m x => r = some (.int (zb (zdg b))) ∧ mem = m ∧ nx = x) := by
  refine mm_met (by decide) (Nat.le_of_ble_eq_true rfl) ?_
  intro X hc he hnm
  refine g_iload_n (pc := 0) hc dGr_isDigit_0 rfl ?_
  refine g_bipush (v := nI 48) (pc := 1) hc dGr_isDigit_1 (by decide) ?_
  refine g_icmp_lt (tgt := 16) (pc := 3) hc dGr_isDigit_3 (by decide) (fun c3 => ?_) (fun c3 => ?_)
  · simp (disch := omega) only [nI_leI, nI_ltI, nI_eq, nI_eq0, nI_lt0, nI_0le, nI_0lt, nI_le0, zb_0] at c3
    refine g_iconst (v := nI 0) (pc := 16) hc dGr_isDigit_16 (by decide) ?_
    exact g_zret (pc := 17) hc he dGr_isDigit_17 rfl (Nat.le_refl _) (Nat.le_refl _) ⟨by rw [show zdg b = false by simp [zdg]; omega]; rfl, rfl, rfl⟩
  · simp (disch := omega) only [nI_leI, nI_ltI, nI_eq, nI_eq0, nI_lt0, nI_0le, nI_0lt, nI_le0, zb_0] at c3
    refine g_iload_n (pc := 6) hc dGr_isDigit_6 rfl ?_
    refine g_bipush (v := nI 57) (pc := 7) hc dGr_isDigit_7 (by decide) ?_
    refine g_icmp_gt (tgt := 16) (pc := 9) hc dGr_isDigit_9 (by decide) (fun c9 => ?_) (fun c9 => ?_)
    · simp (disch := omega) only [nI_leI, nI_ltI, nI_eq, nI_eq0, nI_lt0, nI_0le, nI_0lt, nI_le0, zb_0] at c9
      refine g_iconst (v := nI 0) (pc := 16) hc dGr_isDigit_16 (by decide) ?_
      exact g_zret (pc := 17) hc he dGr_isDigit_17 rfl (Nat.le_refl _) (Nat.le_refl _) ⟨by rw [show zdg b = false by simp [zdg]; omega]; rfl, rfl, rfl⟩
    · simp (disch := omega) only [nI_leI, nI_ltI, nI_eq, nI_eq0, nI_lt0, nI_0le, nI_0lt, nI_le0, zb_0] at c9
      refine g_iconst (v := nI 1) (pc := 12) hc dGr_isDigit_12 (by decide) ?_
      refine g_goto (tgt := 17) (pc := 13) hc dGr_isDigit_13 (by decide) ?_
      exact g_zret (pc := 17) hc he dGr_isDigit_17 rfl (Nat.le_refl _) (Nat.le_refl _) ⟨by rw [show zdg b = true by simp [zdg]; omega]; rfl, rfl, rfl⟩
set_option maxHeartbeats 4000000 in
set_option maxRecDepth 100000 in
theorem s_Gr_isNameByte (V : mm_V) {b i : Nat} {mem : mm_M} {nx : Nat} (hb : b < 256) (hi : i < mm_nS) (h0 : 0 < (zs i).length) : mm_S V yGr_isNameByte cGr_isNameByte 2 (some .boolean) 4 0 0 [.int (nI b), .ref (V.2.2.2.2.1 i)] mem nx (fun r m x => r = some (.int (zb (znm (zs i) b))) ∧ mem = m ∧ nx = x) := by
  refine mm_met (by decide) (Nat.le_of_ble_eq_true rfl) ?_
  intro X hc he hnm
  have J45 : znm (zs i) b = true → mm_G V X 2 45 [(0, .int (nI b)), (1, .ref (V.2.2.2.2.1 i))] [] mem nx 0 0 := by
    intro e
    refine g_iconst (v := nI 1) (pc := 45) hc dGr_isNameByte_45 (by decide) ?_
    refine g_goto (tgt := 50) (pc := 46) hc dGr_isNameByte_46 (by decide) ?_
    exact g_zret (pc := 50) hc he dGr_isNameByte_50 rfl (Nat.le_refl _) (Nat.le_refl _) ⟨by rw [e]; rfl, rfl, rfl⟩
  have J36 : ¬ (65 ≤ b ∧ b ≤ 90) → ¬ (97 ≤ b ∧ b ≤ 122) → ¬ (48 ≤ b ∧ b ≤ 57) → mm_G V X 2 36 [(0, .int (nI b)), (1, .ref (V.2.2.2.2.1 i))] [] mem nx 0 0 := by
    intro n1 n2 n3
    refine g_aload_n (pc := 36) hc dGr_isNameByte_36 rfl ?_
    refine g_iload_n (pc := 37) hc dGr_isNameByte_37 rfl ?_
    refine g_i2c (pc := 38) hc dGr_isNameByte_38 (zchar b hb).1 ?_
    refine g_callT (pc := 39) hc dGr_isNameByte_39 x_Gr_63 (s_Str_indexOf1 V hi h0 hb) hi (Nat.le_of_ble_eq_true rfl) (Nat.le_of_ble_eq_true rfl) (Nat.le_of_ble_eq_true rfl) (Nat.le_of_ble_eq_true rfl) rfl rfl (Nat.le_of_ble_eq_true rfl) (fun r m x hp => ?_)
    obtain ⟨rfl, rfl, rfl⟩ := hp
    refine g_if_lt (tgt := 49) (pc := 42) hc dGr_isNameByte_42 (by decide) (fun c42 => ?_) (fun c42 => ?_)
    · rw [zix_in _ _ _ (by have := (zs_ok i hi).1; omega)] at c42
      refine g_iconst (v := nI 0) (pc := 49) hc dGr_isNameByte_49 (by decide) ?_
      exact g_zret (pc := 50) hc he dGr_isNameByte_50 rfl (Nat.le_refl _) (Nat.le_refl _) ⟨by rw [show znm (zs i) b = false by simp [znm, c42]; omega]; rfl, rfl, rfl⟩
    · rw [zix_in _ _ _ (by have := (zs_ok i hi).1; omega)] at c42
      have d42 : b ∈ zs i := Classical.not_not.mp c42
      exact J45 (by simp [znm, d42])
  have J24 : ¬ (65 ≤ b ∧ b ≤ 90) → ¬ (97 ≤ b ∧ b ≤ 122) → mm_G V X 2 24 [(0, .int (nI b)), (1, .ref (V.2.2.2.2.1 i))] [] mem nx 0 0 := by
    intro n1 n2
    refine g_iload_n (pc := 24) hc dGr_isNameByte_24 rfl ?_
    refine g_bipush (v := nI 48) (pc := 25) hc dGr_isNameByte_25 (by decide) ?_
    refine g_icmp_lt (tgt := 36) (pc := 27) hc dGr_isNameByte_27 (by decide) (fun c27 => ?_) (fun c27 => ?_)
    · simp (disch := omega) only [nI_leI, nI_ltI, nI_eq, nI_eq0, nI_lt0, nI_0le, nI_0lt, nI_le0, zb_0] at c27
      exact J36 n1 n2 (by omega)
    · simp (disch := omega) only [nI_leI, nI_ltI, nI_eq, nI_eq0, nI_lt0, nI_0le, nI_0lt, nI_le0, zb_0] at c27
      refine g_iload_n (pc := 30) hc dGr_isNameByte_30 rfl ?_
      refine g_bipush (v := nI 57) (pc := 31) hc dGr_isNameByte_31 (by decide) ?_
      refine g_icmp_le (tgt := 45) (pc := 33) hc dGr_isNameByte_33 (by decide) (fun c33 => ?_) (fun c33 => ?_)
      · simp (disch := omega) only [nI_leI, nI_ltI, nI_eq, nI_eq0, nI_lt0, nI_0le, nI_0lt, nI_le0, zb_0] at c33
        exact J45 (by simp [znm]; omega)
      · simp (disch := omega) only [nI_leI, nI_ltI, nI_eq, nI_eq0, nI_lt0, nI_0le, nI_0lt, nI_le0, zb_0] at c33
        exact J36 n1 n2 (by omega)
  have J12 : ¬ (65 ≤ b ∧ b ≤ 90) → mm_G V X 2 12 [(0, .int (nI b)), (1, .ref (V.2.2.2.2.1 i))] [] mem nx 0 0 := by
    intro n1
    refine g_iload_n (pc := 12) hc dGr_isNameByte_12 rfl ?_
    refine g_bipush (v := nI 97) (pc := 13) hc dGr_isNameByte_13 (by decide) ?_
    refine g_icmp_lt (tgt := 24) (pc := 15) hc dGr_isNameByte_15 (by decide) (fun c15 => ?_) (fun c15 => ?_)
    · simp (disch := omega) only [nI_leI, nI_ltI, nI_eq, nI_eq0, nI_lt0, nI_0le, nI_0lt, nI_le0, zb_0] at c15
      exact J24 n1 (by omega)
    · simp (disch := omega) only [nI_leI, nI_ltI, nI_eq, nI_eq0, nI_lt0, nI_0le, nI_0lt, nI_le0, zb_0] at c15
      refine g_iload_n (pc := 18) hc dGr_isNameByte_18 rfl ?_
      refine g_bipush (v := nI 122) (pc := 19) hc dGr_isNameByte_19 (by decide) ?_
      refine g_icmp_le (tgt := 45) (pc := 21) hc dGr_isNameByte_21 (by decide) (fun c21 => ?_) (fun c21 => ?_)
      · simp (disch := omega) only [nI_leI, nI_ltI, nI_eq, nI_eq0, nI_lt0, nI_0le, nI_0lt, nI_le0, zb_0] at c21
        exact J45 (by simp [znm]; omega)
      · simp (disch := omega) only [nI_leI, nI_ltI, nI_eq, nI_eq0, nI_lt0, nI_0le, nI_0lt, nI_le0, zb_0] at c21
        exact J24 n1 (by omega)
  refine g_iload_n (pc := 0) hc dGr_isNameByte_0 rfl ?_
  refine g_bipush (v := nI 65) (pc := 1) hc dGr_isNameByte_1 (by decide) ?_
  refine g_icmp_lt (tgt := 12) (pc := 3) hc dGr_isNameByte_3 (by decide) (fun c3 => ?_) (fun c3 => ?_)
  · simp (disch := omega) only [nI_leI, nI_ltI, nI_eq, nI_eq0, nI_lt0, nI_0le, nI_0lt, nI_le0, zb_0] at c3
    exact J12 (by omega)
  · simp (disch := omega) only [nI_leI, nI_ltI, nI_eq, nI_eq0, nI_lt0, nI_0le, nI_0lt, nI_le0, zb_0] at c3
    refine g_iload_n (pc := 6) hc dGr_isNameByte_6 rfl ?_
    refine g_bipush (v := nI 90) (pc := 7) hc dGr_isNameByte_7 (by decide) ?_
    refine g_icmp_le (tgt := 45) (pc := 9) hc dGr_isNameByte_9 (by decide) (fun c9 => ?_) (fun c9 => ?_)
    · simp (disch := omega) only [nI_leI, nI_ltI, nI_eq, nI_eq0, nI_lt0, nI_0le, nI_0lt, nI_le0, zb_0] at c9
      exact J45 (by simp [znm]; omega)
    · simp (disch := omega) only [nI_leI, nI_ltI, nI_eq, nI_eq0, nI_lt0, nI_0le, nI_0lt, nI_le0, zb_0] at c9
      exact J12 (by omega)
set_option maxHeartbeats 4000000 in
set_option maxRecDepth 100000 in
theorem s_Gr_nameEnd (V : mm_V) {q cap : Nat} {L : List Nat} {i fr most : Nat} {mem : mm_M} {nx : Nat} (h : zRow q cap L mem) (hfr : fr < 65536) (hmo : most < 65536) (hi : i < mm_nS) (h0 : 0 < (zs i).length) : mm_S V yGr_nameEnd cGr_nameEnd 7 (some .int) 5 0 0 [.ref q, .int (nI fr), .int (nI most), .ref (V.2.2.2.2.1 i)] mem nx (fun r m x => r = some (.int (zoI (znE (zs i) L fr most))) ∧ mem = m ∧ nx = x) := by
  have hb := h.le
  refine mm_met (by decide) (Nat.le_of_ble_eq_true rfl) ?_
  intro X hc he hnm
  have J76 : ∀ (a : Nat) (bd : Bool), fr ≤ a → a < 140000 → (if bd then none else some (a - fr)) = zne (zs i) true (L.drop fr) → mm_G V X 7 76 [(0, .ref q), (1, .int (nI fr)), (2, .int (nI most)), (3, .ref (V.2.2.2.2.1 i)), (4, .int (zb bd)), (5, .int (nI a))] [] mem nx 0 0 := by
    intro a bd h1 h2 e
    refine g_iload (pc := 76) hc dGr_nameEnd_76 rfl ?_
    refine g_if_ne (tgt := 89) (pc := 78) hc dGr_nameEnd_78 (by decide) (fun c78 => ?_) (fun c78 => ?_)
    · simp (disch := omega) only [nI_leI, nI_ltI, nI_eq, nI_eq0, nI_lt0, nI_0le, nI_0lt, nI_le0, zb_0] at c78
      have hbd : bd = true := by simpa using c78
      refine g_iconst (v := -1) (pc := 89) hc dGr_nameEnd_89 (by decide) ?_
      refine g_goto (tgt := 95) (pc := 90) hc dGr_nameEnd_90 (by decide) ?_
      exact g_iret (pc := 95) hc he dGr_nameEnd_95 (Nat.le_refl _) (Nat.le_refl _) ⟨by rw [znE, ← e, hbd]; rfl, rfl, rfl⟩
    · simp (disch := omega) only [nI_leI, nI_ltI, nI_eq, nI_eq0, nI_lt0, nI_0le, nI_0lt, nI_le0, zb_0] at c78
      refine g_iload (pc := 81) hc dGr_nameEnd_81 rfl ?_
      refine g_iload_n (pc := 83) hc dGr_nameEnd_83 rfl ?_
      refine g_isub (pc := 84) hc dGr_nameEnd_84 ?_
      rw [pk_sub h1]
      refine g_iload_n (pc := 85) hc dGr_nameEnd_85 rfl ?_
      refine g_icmp_le (tgt := 93) (pc := 86) hc dGr_nameEnd_86 (by decide) (fun c86 => ?_) (fun c86 => ?_)
      · simp (disch := omega) only [nI_leI, nI_ltI, nI_eq, nI_eq0, nI_lt0, nI_0le, nI_0lt, nI_le0, zb_0] at c86
        refine g_iload (pc := 93) hc dGr_nameEnd_93 rfl ?_
        exact g_iret (pc := 95) hc he dGr_nameEnd_95 (Nat.le_refl _) (Nat.le_refl _) ⟨by rw [znE, ← e, c78]; simp only [Bool.false_eq_true, if_false]; rw [if_neg (by omega), zoI, show fr + (a - fr) = a by omega], rfl, rfl⟩
      · simp (disch := omega) only [nI_leI, nI_ltI, nI_eq, nI_eq0, nI_lt0, nI_0le, nI_0lt, nI_le0, zb_0] at c86
        refine g_iconst (v := -1) (pc := 89) hc dGr_nameEnd_89 (by decide) ?_
        refine g_goto (tgt := 95) (pc := 90) hc dGr_nameEnd_90 (by decide) ?_
        exact g_iret (pc := 95) hc he dGr_nameEnd_95 (Nat.le_refl _) (Nat.le_refl _) ⟨by rw [znE, ← e, c78]; simp only [Bool.false_eq_true, if_false]; rw [if_pos (by omega)]; rfl, rfl, rfl⟩
  have loop : ∀ (rest : List Nat) (a : Nat) (bd : Bool), L.drop a = rest → fr ≤ a → a ≤ fr + L.length → (zne (zs i) bd rest).map (· + (a - fr)) = zne (zs i) true (L.drop fr) → mm_G V X 7 6 [(0, .ref q), (1, .int (nI fr)), (2, .int (nI most)), (3, .ref (V.2.2.2.2.1 i)), (4, .int (zb bd)), (5, .int (nI a))] [] mem nx 0 0 := by
    intro rest
    induction rest with
    | nil =>
      intro a bd e1 h1 h2 e2
      have e3 : L.length ≤ a := List.drop_eq_nil_iff.mp e1
      refine g_iload (pc := 6) hc dGr_nameEnd_6 rfl ?_
      refine g_aload_n (pc := 8) hc dGr_nameEnd_8 rfl ?_
      refine g_callV (pc := 9) hc dGr_nameEnd_9 x_Gr_25 (s_Row_length V h) cl_Row (h.obj) (Nat.le_of_ble_eq_true rfl) (Nat.le_of_ble_eq_true rfl) (Nat.le_of_ble_eq_true rfl) (Nat.le_of_ble_eq_true rfl) rfl rfl (Nat.le_of_ble_eq_true rfl) (fun r m x hp => ?_)
      obtain ⟨rfl, rfl, rfl⟩ := hp
      refine g_icmp_ge (tgt := 76) (pc := 12) hc dGr_nameEnd_12 (by decide) (fun _ => ?_) (fun c12 => absurd (nI_le (by omega) (by omega)) c12)
      exact J76 a bd h1 (by omega) (by rw [← e2, zne]; cases bd <;> simp)
    | cons b rest ih =>
      intro a bd e1 h1 h2 e2
      have e3 : a < L.length := by
        rcases Nat.lt_or_ge a L.length with z | z
        · exact z
        · rw [List.drop_eq_nil_iff.mpr z] at e1; cases e1
      have e4 := zdrop_cons e3
      rw [e1] at e4
      obtain ⟨e5, e6⟩ := List.cons.inj e4
      have hb8 : b < 256 := by rw [e5]; exact h.dlt a
      have go : ∀ (w : Bool) (lv9 : Value), w = (b == 46) → ¬ (b = 46 ∧ bd = true) → ¬ (¬ b = 46 ∧ znm (zs i) b = false) → mm_G V X 7 68 [(0, .ref q), (1, .int (nI fr)), (2, .int (nI most)), (3, .ref (V.2.2.2.2.1 i)), (4, .int (zb bd)), (5, .int (nI a)), (6, .int (nI b))] [.int (zb w)] mem nx 0 0 := by
        intro w lv9 ew n1 n2
        refine g_istore (pc := 68) hc dGr_nameEnd_68 (by decide) rfl ?_
        refine g_iinc (pc := 70) hc dGr_nameEnd_70 rfl (zinc _) (by decide) rfl ?_
        refine g_goto (tgt := 6) (pc := 73) hc dGr_nameEnd_73 (by decide) ?_
        refine g_lv (lv' := [(0, .ref q), (1, .int (nI fr)), (2, .int (nI most)), (3, .ref (V.2.2.2.2.1 i)), (4, .int (zb w)), (5, .int (nI (a + 1)))]) ⟨rfl, rfl, rfl, rfl, rfl, rfl, trivial⟩ ?_
        exact ih (a + 1) w (by rw [e6]) (by omega) (by omega) (by rw [← e2, zne, if_neg n1, if_neg n2, ew]; cases zne (zs i) (b == 46) rest <;> simp; omega)
      refine g_iload (pc := 6) hc dGr_nameEnd_6 rfl ?_
      refine g_aload_n (pc := 8) hc dGr_nameEnd_8 rfl ?_
      refine g_callV (pc := 9) hc dGr_nameEnd_9 x_Gr_25 (s_Row_length V h) cl_Row (h.obj) (Nat.le_of_ble_eq_true rfl) (Nat.le_of_ble_eq_true rfl) (Nat.le_of_ble_eq_true rfl) (Nat.le_of_ble_eq_true rfl) rfl rfl (Nat.le_of_ble_eq_true rfl) (fun r m x hp => ?_)
      obtain ⟨rfl, rfl, rfl⟩ := hp
      refine g_icmp_ge (tgt := 76) (pc := 12) hc dGr_nameEnd_12 (by decide) (fun c12 => absurd c12 (nI_ge (by omega) (by omega))) (fun _ => ?_)
      refine g_aload_n (pc := 15) hc dGr_nameEnd_15 rfl ?_
      refine g_iload (pc := 16) hc dGr_nameEnd_16 rfl ?_
      refine g_callV (pc := 18) hc dGr_nameEnd_18 x_Gr_21 (s_Row_at V (nI a) h) cl_Row (h.obj) (Nat.le_of_ble_eq_true rfl) (Nat.le_of_ble_eq_true rfl) (Nat.le_of_ble_eq_true rfl) (Nat.le_of_ble_eq_true rfl) rfl rfl (Nat.le_of_ble_eq_true rfl) (fun r m x hp => ?_)
      obtain ⟨rfl, rfl, rfl⟩ := hp
      rw [zatI_nI (by omega), ← e5]
      refine g_istore (pc := 21) hc dGr_nameEnd_21 (by decide) rfl ?_
      refine g_iload (pc := 23) hc dGr_nameEnd_23 rfl ?_
      refine g_bipush (v := nI 46) (pc := 25) hc dGr_nameEnd_25 (by decide) ?_
      refine g_icmp_ne (tgt := 37) (pc := 27) hc dGr_nameEnd_27 (by decide) (fun c27 => ?_) (fun c27 => ?_)
      · simp (disch := omega) only [nI_leI, nI_ltI, nI_eq, nI_eq0, nI_lt0, nI_0le, nI_0lt, nI_le0, zb_0] at c27
        refine g_iload (pc := 37) hc dGr_nameEnd_37 rfl ?_
        refine g_bipush (v := nI 46) (pc := 39) hc dGr_nameEnd_39 (by decide) ?_
        refine g_icmp_eq (tgt := 56) (pc := 41) hc dGr_nameEnd_41 (by decide) (fun c41 => absurd c41 (fun h => c27 ((nI_eq (by omega) (by omega)).mp h))) (fun _ => ?_)
        refine g_iload (pc := 44) hc dGr_nameEnd_44 rfl ?_
        refine g_aload_n (pc := 46) hc dGr_nameEnd_46 rfl ?_
        refine g_callS (pc := 47) hc dGr_nameEnd_47 x_Gr_60 (s_Gr_isNameByte V hb8 hi h0) (Nat.le_of_ble_eq_true rfl) (Nat.le_of_ble_eq_true rfl) (Nat.le_of_ble_eq_true rfl) (Nat.le_of_ble_eq_true rfl) rfl rfl (Nat.le_of_ble_eq_true rfl) (fun r m x hp => ?_)
        obtain ⟨rfl, rfl, rfl⟩ := hp
        refine g_if_ne (tgt := 56) (pc := 50) hc dGr_nameEnd_50 (by decide) (fun c50 => ?_) (fun c50 => ?_)
        · simp (disch := omega) only [nI_leI, nI_ltI, nI_eq, nI_eq0, nI_lt0, nI_0le, nI_0lt, nI_le0, zb_0] at c50
          have hnm9 : znm (zs i) b = true := by simpa using c50
          refine g_iload (pc := 56) hc dGr_nameEnd_56 rfl ?_
          refine g_bipush (v := nI 46) (pc := 58) hc dGr_nameEnd_58 (by decide) ?_
          refine g_icmp_ne (tgt := 67) (pc := 60) hc dGr_nameEnd_60 (by decide) (fun _ => ?_) (fun c60 => absurd c60 (fun h => c27 ((nI_eq (by omega) (by omega)).mp h)))
          refine g_iconst (v := nI 0) (pc := 67) hc dGr_nameEnd_67 (by decide) ?_
          refine g_lv (lv' := [(0, .ref q), (1, .int (nI fr)), (2, .int (nI most)), (3, .ref (V.2.2.2.2.1 i)), (4, .int (zb bd)), (5, .int (nI a)), (6, .int (nI b))]) ⟨rfl, rfl, rfl, rfl, rfl, rfl, rfl, trivial⟩ ?_
          exact go false .null (by simp [c27]) (fun z => c27 z.1) (fun z => by rw [hnm9] at z; exact absurd z.2 (by decide))
        · simp (disch := omega) only [nI_leI, nI_ltI, nI_eq, nI_eq0, nI_lt0, nI_0le, nI_0lt, nI_le0, zb_0] at c50
          refine g_goto (tgt := 76) (pc := 53) hc dGr_nameEnd_53 (by decide) ?_
          refine g_lv (lv' := [(0, .ref q), (1, .int (nI fr)), (2, .int (nI most)), (3, .ref (V.2.2.2.2.1 i)), (4, .int (zb bd)), (5, .int (nI a))]) ⟨rfl, rfl, rfl, rfl, rfl, rfl, trivial⟩ ?_
          have ez : zne (zs i) bd (b :: rest) = (if bd then none else some 0) := by rw [zne, if_neg (fun z => c27 z.1), if_pos ⟨c27, c50⟩]
          exact J76 a bd h1 (by omega) (by rw [← e2, ez]; cases bd <;> simp)
      · simp (disch := omega) only [nI_leI, nI_ltI, nI_eq, nI_eq0, nI_lt0, nI_0le, nI_0lt, nI_le0, zb_0] at c27
        refine g_iload (pc := 30) hc dGr_nameEnd_30 rfl ?_
        refine g_if_eq (tgt := 37) (pc := 32) hc dGr_nameEnd_32 (by decide) (fun c32 => ?_) (fun c32 => ?_)
        · simp (disch := omega) only [nI_leI, nI_ltI, nI_eq, nI_eq0, nI_lt0, nI_0le, nI_0lt, nI_le0, zb_0] at c32
          refine g_iload (pc := 37) hc dGr_nameEnd_37 rfl ?_
          refine g_bipush (v := nI 46) (pc := 39) hc dGr_nameEnd_39 (by decide) ?_
          refine g_icmp_eq (tgt := 56) (pc := 41) hc dGr_nameEnd_41 (by decide) (fun _ => ?_) (fun c41 => absurd ((by rw [c27])) c41)
          refine g_iload (pc := 56) hc dGr_nameEnd_56 rfl ?_
          refine g_bipush (v := nI 46) (pc := 58) hc dGr_nameEnd_58 (by decide) ?_
          refine g_icmp_ne (tgt := 67) (pc := 60) hc dGr_nameEnd_60 (by decide) (fun c60 => absurd c60 (fun h => h (by rw [c27]))) (fun _ => ?_)
          refine g_iconst (v := nI 1) (pc := 63) hc dGr_nameEnd_63 (by decide) ?_
          refine g_goto (tgt := 68) (pc := 64) hc dGr_nameEnd_64 (by decide) ?_
          refine g_lv (lv' := [(0, .ref q), (1, .int (nI fr)), (2, .int (nI most)), (3, .ref (V.2.2.2.2.1 i)), (4, .int (zb bd)), (5, .int (nI a)), (6, .int (nI b))]) ⟨rfl, rfl, rfl, rfl, rfl, rfl, rfl, trivial⟩ ?_
          exact go true .null (by simp [c27]) (fun z => by rw [c32] at z; exact absurd z.2 (by decide)) (fun z => z.1 c27)
        · simp (disch := omega) only [nI_leI, nI_ltI, nI_eq, nI_eq0, nI_lt0, nI_0le, nI_0lt, nI_le0, zb_0] at c32
          have hbd : bd = true := by simpa using c32
          refine g_iconst (v := -1) (pc := 35) hc dGr_nameEnd_35 (by decide) ?_
          exact g_iret (pc := 36) hc he dGr_nameEnd_36 (Nat.le_refl _) (Nat.le_refl _) ⟨by rw [znE, ← e2, zne, if_pos ⟨c27, hbd⟩]; rfl, rfl, rfl⟩
  refine g_iconst (v := nI 1) (pc := 0) hc dGr_nameEnd_0 (by decide) ?_
  refine g_istore (pc := 1) hc dGr_nameEnd_1 (by decide) rfl ?_
  refine g_iload_n (pc := 3) hc dGr_nameEnd_3 rfl ?_
  refine g_istore (pc := 4) hc dGr_nameEnd_4 (by decide) rfl ?_
  refine g_lv (lv' := [(0, .ref q), (1, .int (nI fr)), (2, .int (nI most)), (3, .ref (V.2.2.2.2.1 i)), (4, .int (zb true)), (5, .int (nI fr))]) ⟨rfl, rfl, rfl, rfl, rfl, rfl, trivial⟩ ?_
  exact loop (L.drop fr) fr true rfl (Nat.le_refl _) (by omega) (by rw [Nat.sub_self]; cases zne (zs i) true (L.drop fr) <;> rfl)
set_option maxHeartbeats 4000000 in
set_option maxRecDepth 100000 in
theorem s_Gr_hasFirstWord (V : mm_V) {q cap : Nat} {L : List Nat} {i : Nat} {mem : mm_M} {nx : Nat} (h : zRow q cap L mem) (hi : i < mm_nS) : mm_S V yGr_hasFirstWord cGr_hasFirstWord 2 (some .boolean) 5 0 0 [.ref q, .ref (V.2.2.2.2.1 i)] mem nx (fun r m x => r = some (.int (zb (zfw L (zs i)))) ∧ mem = m ∧ nx = x) := by
  have hb := h.le
  refine mm_met (by decide) (Nat.le_of_ble_eq_true rfl) ?_
  intro X hc he hnm
  refine g_aload_n (pc := 0) hc dGr_hasFirstWord_0 rfl ?_
  refine g_iconst (v := nI 0) (pc := 1) hc dGr_hasFirstWord_1 (by decide) ?_
  refine g_aload_n (pc := 2) hc dGr_hasFirstWord_2 rfl ?_
  refine g_callV (pc := 3) hc dGr_hasFirstWord_3 x_Gr_9 (s_Row_hasWord V (a := 0) h (by decide) hi) cl_Row (h.obj) (Nat.le_of_ble_eq_true rfl) (Nat.le_of_ble_eq_true rfl) (Nat.le_of_ble_eq_true rfl) (Nat.le_of_ble_eq_true rfl) rfl rfl (Nat.le_of_ble_eq_true rfl) (fun r m x hp => ?_)
  obtain ⟨rfl, rfl, rfl⟩ := hp
  refine g_if_eq (tgt := 30) (pc := 6) hc dGr_hasFirstWord_6 (by decide) (fun c6 => ?_) (fun c6 => ?_)
  · simp (disch := omega) only [nI_leI, nI_ltI, nI_eq, nI_eq0, nI_lt0, nI_0le, nI_0lt, nI_le0, zb_0] at c6
    refine g_iconst (v := nI 0) (pc := 30) hc dGr_hasFirstWord_30 (by decide) ?_
    exact g_zret (pc := 31) hc he dGr_hasFirstWord_31 rfl (Nat.le_refl _) (Nat.le_refl _) ⟨by rw [zfw, c6]; rfl, rfl, rfl⟩
  · simp (disch := omega) only [nI_leI, nI_ltI, nI_eq, nI_eq0, nI_lt0, nI_0le, nI_0lt, nI_le0, zb_0] at c6
    have d6 : zhw L 0 (zs i) = true := by simpa using c6
    refine g_aload_n (pc := 9) hc dGr_hasFirstWord_9 rfl ?_
    refine g_callS (pc := 10) hc dGr_hasFirstWord_10 x_Gr_15 (s_Gr_isBareWord V h) (Nat.le_of_ble_eq_true rfl) (Nat.le_of_ble_eq_true rfl) (Nat.le_of_ble_eq_true rfl) (Nat.le_of_ble_eq_true rfl) rfl rfl (Nat.le_of_ble_eq_true rfl) (fun r m x hp => ?_)
    obtain ⟨rfl, rfl, rfl⟩ := hp
    refine g_if_ne (tgt := 26) (pc := 13) hc dGr_hasFirstWord_13 (by decide) (fun c13 => ?_) (fun c13 => ?_)
    · simp (disch := omega) only [nI_leI, nI_ltI, nI_eq, nI_eq0, nI_lt0, nI_0le, nI_0lt, nI_le0, zb_0] at c13
      have d13 : (L.length == 4) = true := by simpa using c13
      refine g_iconst (v := nI 1) (pc := 26) hc dGr_hasFirstWord_26 (by decide) ?_
      refine g_goto (tgt := 31) (pc := 27) hc dGr_hasFirstWord_27 (by decide) ?_
      exact g_zret (pc := 31) hc he dGr_hasFirstWord_31 rfl (Nat.le_refl _) (Nat.le_refl _) ⟨by rw [zfw, d6, d13]; rfl, rfl, rfl⟩
    · simp (disch := omega) only [nI_leI, nI_ltI, nI_eq, nI_eq0, nI_lt0, nI_0le, nI_0lt, nI_le0, zb_0] at c13
      refine g_aload_n (pc := 16) hc dGr_hasFirstWord_16 rfl ?_
      refine g_iconst (v := nI 4) (pc := 17) hc dGr_hasFirstWord_17 (by decide) ?_
      refine g_callV (pc := 18) hc dGr_hasFirstWord_18 x_Gr_21 (s_Row_at V (nI 4) h) cl_Row (h.obj) (Nat.le_of_ble_eq_true rfl) (Nat.le_of_ble_eq_true rfl) (Nat.le_of_ble_eq_true rfl) (Nat.le_of_ble_eq_true rfl) rfl rfl (Nat.le_of_ble_eq_true rfl) (fun r m x hp => ?_)
      obtain ⟨rfl, rfl, rfl⟩ := hp
      rw [zatI_nI (by decide)]
      have h4 := h.dlt 4
      refine g_bipush (v := nI 32) (pc := 21) hc dGr_hasFirstWord_21 (by decide) ?_
      refine g_icmp_ne (tgt := 30) (pc := 23) hc dGr_hasFirstWord_23 (by decide) (fun c23 => ?_) (fun c23 => ?_)
      · simp (disch := omega) only [nI_leI, nI_ltI, nI_eq, nI_eq0, nI_lt0, nI_0le, nI_0lt, nI_le0, zb_0] at c23
        refine g_iconst (v := nI 0) (pc := 30) hc dGr_hasFirstWord_30 (by decide) ?_
        exact g_zret (pc := 31) hc he dGr_hasFirstWord_31 rfl (Nat.le_refl _) (Nat.le_refl _) ⟨by rw [zfw, d6, c13, show (L.getD 4 0 == 32) = false by simpa using c23]; rfl, rfl, rfl⟩
      · simp (disch := omega) only [nI_leI, nI_ltI, nI_eq, nI_eq0, nI_lt0, nI_0le, nI_0lt, nI_le0, zb_0] at c23
        refine g_iconst (v := nI 1) (pc := 26) hc dGr_hasFirstWord_26 (by decide) ?_
        refine g_goto (tgt := 31) (pc := 27) hc dGr_hasFirstWord_27 (by decide) ?_
        exact g_zret (pc := 31) hc he dGr_hasFirstWord_31 rfl (Nat.le_refl _) (Nat.le_refl _) ⟨by rw [zfw, d6, c13, c23]; rfl, rfl, rfl⟩
set_option maxHeartbeats 4000000 in
set_option maxRecDepth 100000 in
theorem s_Gr_isGreeting (V : mm_V) {q cap : Nat} {L : List Nat} {mem : mm_M} {nx : Nat} (h : zRow q cap L mem) : mm_S V yGr_isGreeting cGr_isGreeting 1 (some .boolean) 6 0 0 [.ref q] mem nx (fun r m x => r = some (.int (zb (zgr (zs t_dm) L))) ∧ mem = m ∧ nx = x) := by
  have hb := h.le
  refine mm_met (by decide) (Nat.le_of_ble_eq_true rfl) ?_
  intro X hc he hnm
  have h4 := h.dlt 4
  have hz : ∀ a, znE (zs t_dm) L 5 60 = some a → a < 2 ^ 31 := fun a e => by have := znE_lt e; omega
  refine g_aload_n (pc := 0) hc dGr_isGreeting_0 rfl ?_
  refine g_iconst (v := nI 4) (pc := 1) hc dGr_isGreeting_1 (by decide) ?_
  refine g_callV (pc := 2) hc dGr_isGreeting_2 x_Gr_21 (s_Row_at V (nI 4) h) cl_Row (h.obj) (Nat.le_of_ble_eq_true rfl) (Nat.le_of_ble_eq_true rfl) (Nat.le_of_ble_eq_true rfl) (Nat.le_of_ble_eq_true rfl) rfl rfl (Nat.le_of_ble_eq_true rfl) (fun r m x hp => ?_)
  obtain ⟨rfl, rfl, rfl⟩ := hp
  rw [zatI_nI (by decide)]
  refine g_bipush (v := nI 32) (pc := 5) hc dGr_isGreeting_5 (by decide) ?_
  refine g_icmp_ne (tgt := 30) (pc := 7) hc dGr_isGreeting_7 (by decide) (fun c7 => ?_) (fun c7 => ?_)
  · simp (disch := omega) only [nI_leI, nI_ltI, nI_eq, nI_eq0, nI_lt0, nI_0le, nI_0lt, nI_le0, zb_0] at c7
    refine g_iconst (v := nI 0) (pc := 30) hc dGr_isGreeting_30 (by decide) ?_
    exact g_zret (pc := 31) hc he dGr_isGreeting_31 rfl (Nat.le_refl _) (Nat.le_refl _) ⟨by rw [zgr, show (L.getD 4 0 == 32) = false by simpa using c7]; rfl, rfl, rfl⟩
  · simp (disch := omega) only [nI_leI, nI_ltI, nI_eq, nI_eq0, nI_lt0, nI_0le, nI_0lt, nI_le0, zb_0] at c7
    refine g_aload_n (pc := 10) hc dGr_isGreeting_10 rfl ?_
    refine g_iconst (v := nI 5) (pc := 11) hc dGr_isGreeting_11 (by decide) ?_
    refine g_bipush (v := nI 60) (pc := 12) hc dGr_isGreeting_12 (by decide) ?_
    refine g_ldcS (pc := 14) hc dGr_isGreeting_14 xt_Gr_29 ?_
    refine g_callS (pc := 16) hc dGr_isGreeting_16 x_Gr_31 (s_Gr_nameEnd V (i := t_dm) (fr := 5) (most := 60) h (by decide) (by decide) (by decide) (by decide)) (Nat.le_of_ble_eq_true rfl) (Nat.le_of_ble_eq_true rfl) (Nat.le_of_ble_eq_true rfl) (Nat.le_of_ble_eq_true rfl) rfl rfl (Nat.le_of_ble_eq_true rfl) (fun r m x hp => ?_)
    obtain ⟨rfl, rfl, rfl⟩ := hp
    refine g_aload_n (pc := 19) hc dGr_isGreeting_19 rfl ?_
    refine g_callV (pc := 20) hc dGr_isGreeting_20 x_Gr_25 (s_Row_length V h) cl_Row (h.obj) (Nat.le_of_ble_eq_true rfl) (Nat.le_of_ble_eq_true rfl) (Nat.le_of_ble_eq_true rfl) (Nat.le_of_ble_eq_true rfl) rfl rfl (Nat.le_of_ble_eq_true rfl) (fun r m x hp => ?_)
    obtain ⟨rfl, rfl, rfl⟩ := hp
    refine g_icmp_ne (tgt := 30) (pc := 23) hc dGr_isGreeting_23 (by decide) (fun c23 => ?_) (fun c23 => ?_)
    · rw [zoI_eq hz (by omega)] at c23
      refine g_iconst (v := nI 0) (pc := 30) hc dGr_isGreeting_30 (by decide) ?_
      exact g_zret (pc := 31) hc he dGr_isGreeting_31 rfl (Nat.le_refl _) (Nat.le_refl _) ⟨by rw [zgr, c7, show (znE (zs t_dm) L 5 60 == some L.length) = false by simpa using c23]; rfl, rfl, rfl⟩
    · rw [zoI_eq hz (by omega)] at c23
      refine g_iconst (v := nI 1) (pc := 26) hc dGr_isGreeting_26 (by decide) ?_
      refine g_goto (tgt := 31) (pc := 27) hc dGr_isGreeting_27 (by decide) ?_
      exact g_zret (pc := 31) hc he dGr_isGreeting_31 rfl (Nat.le_refl _) (Nat.le_refl _) ⟨by rw [zgr, c7, c23]; simp [zb], rfl, rfl⟩
set_option maxHeartbeats 4000000 in
set_option maxRecDepth 100000 in
theorem s_Gr_isHere (V : mm_V) {q cap : Nat} {L : List Nat} {fr : Nat} {mem : mm_M} {nx : Nat} (h : zRow q cap L mem) (hfr : fr < 60000) : mm_S V yGr_isHere cGr_isHere 3 (some .boolean) 6 0 0 [.ref q, .int (nI fr)] mem nx (fun r m x => r = some (.int (zb (zhe (zs t_lm) (zs t_he) L fr))) ∧ mem = m ∧ nx = x) := by
  have hb := h.le
  refine mm_met (by decide) (Nat.le_of_ble_eq_true rfl) ?_
  intro X hc he hnm
  refine g_aload_n (pc := 0) hc dGr_isHere_0 rfl ?_
  refine g_iload_n (pc := 1) hc dGr_isHere_1 rfl ?_
  refine g_bipush (v := nI 8) (pc := 2) hc dGr_isHere_2 (by decide) ?_
  refine g_ldcS (pc := 4) hc dGr_isHere_4 xt_Gr_38 ?_
  refine g_callS (pc := 6) hc dGr_isHere_6 x_Gr_31 (s_Gr_nameEnd V (i := t_lm) (fr := fr) (most := 8) h (by omega) (by decide) (by decide) (by decide)) (Nat.le_of_ble_eq_true rfl) (Nat.le_of_ble_eq_true rfl) (Nat.le_of_ble_eq_true rfl) (Nat.le_of_ble_eq_true rfl) rfl rfl (Nat.le_of_ble_eq_true rfl) (fun r m x hp => ?_)
  obtain ⟨rfl, rfl, rfl⟩ := hp
  rcases e9 : znE (zs t_lm) L fr 8 with _ | a
  · rw [show zoI none = -1 from rfl]
    refine g_istore_n (pc := 9) hc dGr_isHere_9 (by decide) rfl ?_
    refine g_iload_n (pc := 10) hc dGr_isHere_10 rfl ?_
    refine g_if_lt (tgt := 28) (pc := 11) hc dGr_isHere_11 (by decide) (fun _ => ?_) (fun c11 => absurd (by decide) c11)
    refine g_iconst (v := nI 0) (pc := 28) hc dGr_isHere_28 (by decide) ?_
    exact g_zret (pc := 29) hc he dGr_isHere_29 rfl (Nat.le_refl _) (Nat.le_refl _) ⟨by rw [zhe, e9]; rfl, rfl, rfl⟩
  · rw [show zoI (some a) = nI a from rfl]
    have q9 := znE_lt e9
    refine g_istore_n (pc := 9) hc dGr_isHere_9 (by decide) rfl ?_
    refine g_iload_n (pc := 10) hc dGr_isHere_10 rfl ?_
    refine g_if_lt (tgt := 28) (pc := 11) hc dGr_isHere_11 (by decide) (fun c11 => absurd c11 (nI_pos (by omega))) (fun _ => ?_)
    refine g_aload_n (pc := 14) hc dGr_isHere_14 rfl ?_
    refine g_iload_n (pc := 15) hc dGr_isHere_15 rfl ?_
    refine g_ldcS (pc := 16) hc dGr_isHere_16 xt_Gr_40 ?_
    refine g_callV (pc := 18) hc dGr_isHere_18 x_Gr_9 (s_Row_hasWord V (a := a) h (by omega) (show t_he < mm_nS by decide)) cl_Row (h.obj) (Nat.le_of_ble_eq_true rfl) (Nat.le_of_ble_eq_true rfl) (Nat.le_of_ble_eq_true rfl) (Nat.le_of_ble_eq_true rfl) rfl rfl (Nat.le_of_ble_eq_true rfl) (fun r m x hp => ?_)
    obtain ⟨rfl, rfl, rfl⟩ := hp
    refine g_if_eq (tgt := 28) (pc := 21) hc dGr_isHere_21 (by decide) (fun c21 => ?_) (fun c21 => ?_)
    · simp (disch := omega) only [nI_leI, nI_ltI, nI_eq, nI_eq0, nI_lt0, nI_0le, nI_0lt, nI_le0, zb_0] at c21
      refine g_iconst (v := nI 0) (pc := 28) hc dGr_isHere_28 (by decide) ?_
      exact g_zret (pc := 29) hc he dGr_isHere_29 rfl (Nat.le_refl _) (Nat.le_refl _) ⟨by rw [zhe, e9]; simp only []; rw [c21]; rfl, rfl, rfl⟩
    · simp (disch := omega) only [nI_leI, nI_ltI, nI_eq, nI_eq0, nI_lt0, nI_0le, nI_0lt, nI_le0, zb_0] at c21
      have d21 : zhw L a (zs t_he) = true := by simpa using c21
      refine g_iconst (v := nI 1) (pc := 24) hc dGr_isHere_24 (by decide) ?_
      refine g_goto (tgt := 29) (pc := 25) hc dGr_isHere_25 (by decide) ?_
      exact g_zret (pc := 29) hc he dGr_isHere_29 rfl (Nat.le_refl _) (Nat.le_refl _) ⟨by rw [zhe, e9]; simp only []; rw [d21]; rfl, rfl, rfl⟩
set_option maxHeartbeats 4000000 in
set_option maxRecDepth 100000 in
theorem s_Gr_pathEnd (V : mm_V) {q cap : Nat} {L : List Nat} {i : Nat} {mem : mm_M} {nx : Nat} (h : zRow q cap L mem) (hi : i < mm_nS) : mm_S V yGr_pathEnd cGr_pathEnd 5 (some .int) 6 0 0 [.ref q, .ref (V.2.2.2.2.1 i)] mem nx (fun r m x => r = some (.int (zoI (zpe (zs t_lm) (zs t_dm) L (zs i)))) ∧ mem = m ∧ nx = x) := by
  have hb := h.le
  refine mm_met (by decide) (Nat.le_of_ble_eq_true rfl) ?_
  intro X hc he hnm
  have hk := (zs_ok i hi).1
  refine g_aload_n (pc := 0) hc dGr_pathEnd_0 rfl ?_
  refine g_callT (pc := 1) hc dGr_pathEnd_1 x_Gr_35 (s_Str_length V hi) hi (Nat.le_of_ble_eq_true rfl) (Nat.le_of_ble_eq_true rfl) (Nat.le_of_ble_eq_true rfl) (Nat.le_of_ble_eq_true rfl) rfl rfl (Nat.le_of_ble_eq_true rfl) (fun r m x hp => ?_)
  obtain ⟨rfl, rfl, rfl⟩ := hp
  refine g_istore_n (pc := 4) hc dGr_pathEnd_4 (by decide) rfl ?_
  refine g_aload_n (pc := 5) hc dGr_pathEnd_5 rfl ?_
  refine g_iconst (v := nI 0) (pc := 6) hc dGr_pathEnd_6 (by decide) ?_
  refine g_aload_n (pc := 7) hc dGr_pathEnd_7 rfl ?_
  refine g_callV (pc := 8) hc dGr_pathEnd_8 x_Gr_9 (s_Row_hasWord V (a := 0) h (by decide) hi) cl_Row (h.obj) (Nat.le_of_ble_eq_true rfl) (Nat.le_of_ble_eq_true rfl) (Nat.le_of_ble_eq_true rfl) (Nat.le_of_ble_eq_true rfl) rfl rfl (Nat.le_of_ble_eq_true rfl) (fun r m x hp => ?_)
  obtain ⟨rfl, rfl, rfl⟩ := hp
  refine g_if_eq (tgt := 24) (pc := 11) hc dGr_pathEnd_11 (by decide) (fun c11 => ?_) (fun c11 => ?_)
  · simp (disch := omega) only [nI_leI, nI_ltI, nI_eq, nI_eq0, nI_lt0, nI_0le, nI_0lt, nI_le0, zb_0] at c11
    refine g_iconst (v := -1) (pc := 24) hc dGr_pathEnd_24 (by decide) ?_
    exact g_iret (pc := 25) hc he dGr_pathEnd_25 (Nat.le_refl _) (Nat.le_refl _) ⟨by rw [zpe, if_neg (by rw [c11]; simp)]; rfl, rfl, rfl⟩
  · simp (disch := omega) only [nI_leI, nI_ltI, nI_eq, nI_eq0, nI_lt0, nI_0le, nI_0lt, nI_le0, zb_0] at c11
    have d6 : zhw L 0 (zs i) = true := by simpa using c11
    refine g_aload_n (pc := 14) hc dGr_pathEnd_14 rfl ?_
    refine g_iload_n (pc := 15) hc dGr_pathEnd_15 rfl ?_
    refine g_callV (pc := 16) hc dGr_pathEnd_16 x_Gr_21 (s_Row_at V (nI (zs i).length) h) cl_Row (h.obj) (Nat.le_of_ble_eq_true rfl) (Nat.le_of_ble_eq_true rfl) (Nat.le_of_ble_eq_true rfl) (Nat.le_of_ble_eq_true rfl) rfl rfl (Nat.le_of_ble_eq_true rfl) (fun r m x hp => ?_)
    obtain ⟨rfl, rfl, rfl⟩ := hp
    rw [zatI_nI (by omega)]
    have h4 := h.dlt (zs i).length
    refine g_bipush (v := nI 60) (pc := 19) hc dGr_pathEnd_19 (by decide) ?_
    refine g_icmp_eq (tgt := 26) (pc := 21) hc dGr_pathEnd_21 (by decide) (fun c21 => ?_) (fun c21 => ?_)
    · simp (disch := omega) only [nI_leI, nI_ltI, nI_eq, nI_eq0, nI_lt0, nI_0le, nI_0lt, nI_le0, zb_0] at c21
      refine g_aload_n (pc := 26) hc dGr_pathEnd_26 rfl ?_
      refine g_iload_n (pc := 27) hc dGr_pathEnd_27 rfl ?_
      refine g_iconst (v := nI 1) (pc := 28) hc dGr_pathEnd_28 (by decide) ?_
      refine g_iadd (pc := 29) hc dGr_pathEnd_29 ?_
      rw [nI_add]
      refine g_bipush (v := nI 40) (pc := 30) hc dGr_pathEnd_30 (by decide) ?_
      refine g_ldcS (pc := 32) hc dGr_pathEnd_32 xt_Gr_38 ?_
      refine g_callS (pc := 34) hc dGr_pathEnd_34 x_Gr_31 (s_Gr_nameEnd V (i := t_lm) (fr := ((zs i).length + 1)) (most := 40) h (by omega) (by decide) (by decide) (by decide)) (Nat.le_of_ble_eq_true rfl) (Nat.le_of_ble_eq_true rfl) (Nat.le_of_ble_eq_true rfl) (Nat.le_of_ble_eq_true rfl) rfl rfl (Nat.le_of_ble_eq_true rfl) (fun r m x hp => ?_)
      obtain ⟨rfl, rfl, rfl⟩ := hp
      rcases e9 : znE (zs t_lm) L ((zs i).length + 1) 40 with _ | a
      · rw [show zoI none = -1 from rfl]
        refine g_istore_n (pc := 37) hc dGr_pathEnd_37 (by decide) rfl ?_
        refine g_iload_n (pc := 38) hc dGr_pathEnd_38 rfl ?_
        refine g_if_lt (tgt := 52) (pc := 39) hc dGr_pathEnd_39 (by decide) (fun _ => ?_) (fun c39 => absurd (by decide) c39)
        refine g_iconst (v := -1) (pc := 52) hc dGr_pathEnd_52 (by decide) ?_
        exact g_iret (pc := 53) hc he dGr_pathEnd_53 (Nat.le_refl _) (Nat.le_refl _) ⟨by rw [zpe, if_pos (by rw [d6, c21]; rfl), e9]; simp only []; rfl, rfl, rfl⟩
      · rw [show zoI (some a) = nI a from rfl]
        have q9 := znE_lt e9
        have h5 := h.dlt a
        refine g_istore_n (pc := 37) hc dGr_pathEnd_37 (by decide) rfl ?_
        refine g_iload_n (pc := 38) hc dGr_pathEnd_38 rfl ?_
        refine g_if_lt (tgt := 52) (pc := 39) hc dGr_pathEnd_39 (by decide) (fun c39 => absurd c39 (nI_pos (by omega))) (fun _ => ?_)
        refine g_aload_n (pc := 42) hc dGr_pathEnd_42 rfl ?_
        refine g_iload_n (pc := 43) hc dGr_pathEnd_43 rfl ?_
        refine g_callV (pc := 44) hc dGr_pathEnd_44 x_Gr_21 (s_Row_at V (nI a) h) cl_Row (h.obj) (Nat.le_of_ble_eq_true rfl) (Nat.le_of_ble_eq_true rfl) (Nat.le_of_ble_eq_true rfl) (Nat.le_of_ble_eq_true rfl) rfl rfl (Nat.le_of_ble_eq_true rfl) (fun r m x hp => ?_)
        obtain ⟨rfl, rfl, rfl⟩ := hp
        rw [zatI_nI (by omega)]
        refine g_bipush (v := nI 64) (pc := 47) hc dGr_pathEnd_47 (by decide) ?_
        refine g_icmp_eq (tgt := 54) (pc := 49) hc dGr_pathEnd_49 (by decide) (fun c49 => ?_) (fun c49 => ?_)
        · simp (disch := omega) only [nI_leI, nI_ltI, nI_eq, nI_eq0, nI_lt0, nI_0le, nI_0lt, nI_le0, zb_0] at c49
          refine g_aload_n (pc := 54) hc dGr_pathEnd_54 rfl ?_
          refine g_iload_n (pc := 55) hc dGr_pathEnd_55 rfl ?_
          refine g_iconst (v := nI 1) (pc := 56) hc dGr_pathEnd_56 (by decide) ?_
          refine g_iadd (pc := 57) hc dGr_pathEnd_57 ?_
          rw [nI_add]
          refine g_bipush (v := nI 60) (pc := 58) hc dGr_pathEnd_58 (by decide) ?_
          refine g_ldcS (pc := 60) hc dGr_pathEnd_60 xt_Gr_29 ?_
          refine g_callS (pc := 62) hc dGr_pathEnd_62 x_Gr_31 (s_Gr_nameEnd V (i := t_dm) (fr := (a + 1)) (most := 60) h (by omega) (by decide) (by decide) (by decide)) (Nat.le_of_ble_eq_true rfl) (Nat.le_of_ble_eq_true rfl) (Nat.le_of_ble_eq_true rfl) (Nat.le_of_ble_eq_true rfl) rfl rfl (Nat.le_of_ble_eq_true rfl) (fun r m x hp => ?_)
          obtain ⟨rfl, rfl, rfl⟩ := hp
          rcases e8 : znE (zs t_dm) L (a + 1) 60 with _ | k
          · rw [show zoI none = -1 from rfl]
            refine g_istore (pc := 65) hc dGr_pathEnd_65 (by decide) rfl ?_
            refine g_iload (pc := 67) hc dGr_pathEnd_67 rfl ?_
            refine g_if_lt (tgt := 90) (pc := 69) hc dGr_pathEnd_69 (by decide) (fun _ => ?_) (fun c69 => absurd (by decide) c69)
            refine g_iconst (v := -1) (pc := 90) hc dGr_pathEnd_90 (by decide) ?_
            exact g_iret (pc := 91) hc he dGr_pathEnd_91 (Nat.le_refl _) (Nat.le_refl _) ⟨by rw [zpe, if_pos (by rw [d6, c21]; rfl), e9]; simp only []; rw [if_pos c49, e8]; rfl, rfl, rfl⟩
          · rw [show zoI (some k) = nI k from rfl]
            have q8 := znE_lt e8
            have h6 := h.dlt k
            refine g_istore (pc := 65) hc dGr_pathEnd_65 (by decide) rfl ?_
            refine g_iload (pc := 67) hc dGr_pathEnd_67 rfl ?_
            refine g_if_lt (tgt := 90) (pc := 69) hc dGr_pathEnd_69 (by decide) (fun c69 => absurd c69 (nI_pos (by omega))) (fun _ => ?_)
            refine g_aload_n (pc := 72) hc dGr_pathEnd_72 rfl ?_
            refine g_iload (pc := 73) hc dGr_pathEnd_73 rfl ?_
            refine g_callV (pc := 75) hc dGr_pathEnd_75 x_Gr_21 (s_Row_at V (nI k) h) cl_Row (h.obj) (Nat.le_of_ble_eq_true rfl) (Nat.le_of_ble_eq_true rfl) (Nat.le_of_ble_eq_true rfl) (Nat.le_of_ble_eq_true rfl) rfl rfl (Nat.le_of_ble_eq_true rfl) (fun r m x hp => ?_)
            obtain ⟨rfl, rfl, rfl⟩ := hp
            rw [zatI_nI (by omega)]
            refine g_bipush (v := nI 62) (pc := 78) hc dGr_pathEnd_78 (by decide) ?_
            refine g_icmp_ne (tgt := 90) (pc := 80) hc dGr_pathEnd_80 (by decide) (fun c80 => ?_) (fun c80 => ?_)
            · simp (disch := omega) only [nI_leI, nI_ltI, nI_eq, nI_eq0, nI_lt0, nI_0le, nI_0lt, nI_le0, zb_0] at c80
              refine g_iconst (v := -1) (pc := 90) hc dGr_pathEnd_90 (by decide) ?_
              exact g_iret (pc := 91) hc he dGr_pathEnd_91 (Nat.le_refl _) (Nat.le_refl _) ⟨by rw [zpe, if_pos (by rw [d6, c21]; rfl), e9]; simp only []; rw [if_pos c49, e8]; simp only []; rw [if_neg c80]; rfl, rfl, rfl⟩
            · simp (disch := omega) only [nI_leI, nI_ltI, nI_eq, nI_eq0, nI_lt0, nI_0le, nI_0lt, nI_le0, zb_0] at c80
              refine g_iload (pc := 83) hc dGr_pathEnd_83 rfl ?_
              refine g_iconst (v := nI 1) (pc := 85) hc dGr_pathEnd_85 (by decide) ?_
              refine g_iadd (pc := 86) hc dGr_pathEnd_86 ?_
              rw [nI_add]
              refine g_goto (tgt := 91) (pc := 87) hc dGr_pathEnd_87 (by decide) ?_
              exact g_iret (pc := 91) hc he dGr_pathEnd_91 (Nat.le_refl _) (Nat.le_refl _) ⟨by rw [zpe, if_pos (by rw [d6, c21]; rfl), e9]; simp only []; rw [if_pos c49, e8]; simp only []; rw [if_pos c80]; rfl, rfl, rfl⟩
        · simp (disch := omega) only [nI_leI, nI_ltI, nI_eq, nI_eq0, nI_lt0, nI_0le, nI_0lt, nI_le0, zb_0] at c49
          refine g_iconst (v := -1) (pc := 52) hc dGr_pathEnd_52 (by decide) ?_
          exact g_iret (pc := 53) hc he dGr_pathEnd_53 (Nat.le_refl _) (Nat.le_refl _) ⟨by rw [zpe, if_pos (by rw [d6, c21]; rfl), e9]; simp only []; rw [if_neg c49]; rfl, rfl, rfl⟩
    · simp (disch := omega) only [nI_leI, nI_ltI, nI_eq, nI_eq0, nI_lt0, nI_0le, nI_0lt, nI_le0, zb_0] at c21
      refine g_iconst (v := -1) (pc := 24) hc dGr_pathEnd_24 (by decide) ?_
      exact g_iret (pc := 25) hc he dGr_pathEnd_25 (Nat.le_refl _) (Nat.le_refl _) ⟨by rw [zpe, if_neg (by rw [d6]; simpa using c21)]; rfl, rfl, rfl⟩
set_option maxHeartbeats 4000000 in
set_option maxRecDepth 100000 in
theorem s_Gr_digitsEnd (V : mm_V) {q cap : Nat} {L : List Nat} {fr : Nat} {mem : mm_M} {nx : Nat} (h : zRow q cap L mem) (hfr : fr < 65536) : mm_S V yGr_digitsEnd cGr_digitsEnd 3 (some .int) 1 0 0 [.ref q, .int (nI fr)] mem nx (fun r m x => r = some (.int (nI (zde L fr))) ∧ mem = m ∧ nx = x) := by
  have hb := h.le
  refine mm_met (by decide) (Nat.le_of_ble_eq_true rfl) ?_
  intro X hc he hnm
  have loop : ∀ (rest : List Nat) (a : Nat), L.drop a = rest → a ≤ fr + L.length → a + (rest.takeWhile zdg).length = zde L fr → mm_G V X 3 2 [(0, .ref q), (2, .int (nI (a)))] [] mem nx 0 0 := by
    intro rest
    induction rest with
    | nil =>
      intro a e1 h2 e2
      have e3 : L.length ≤ a := List.drop_eq_nil_iff.mp e1
      refine g_iload_n (pc := 2) hc dGr_digitsEnd_2 rfl ?_
      refine g_aload_n (pc := 3) hc dGr_digitsEnd_3 rfl ?_
      refine g_callV (pc := 4) hc dGr_digitsEnd_4 x_Gr_25 (s_Row_length V h) cl_Row (h.obj) (Nat.le_of_ble_eq_true rfl) (Nat.le_of_ble_eq_true rfl) (Nat.le_of_ble_eq_true rfl) (Nat.le_of_ble_eq_true rfl) rfl rfl (Nat.le_of_ble_eq_true rfl) (fun r m x hp => ?_)
      obtain ⟨rfl, rfl, rfl⟩ := hp
      refine g_icmp_ge (tgt := 27) (pc := 7) hc dGr_digitsEnd_7 (by decide) (fun _ => ?_) (fun c7 => absurd (nI_le (by omega) (by omega)) c7)
      refine g_iload_n (pc := 27) hc dGr_digitsEnd_27 rfl ?_
      exact g_iret (pc := 28) hc he dGr_digitsEnd_28 (Nat.le_refl _) (Nat.le_refl _) ⟨by rw [← e2]; rfl, rfl, rfl⟩
    | cons b rest ih =>
      intro a e1 h2 e2
      have e3 : a < L.length := by
        rcases Nat.lt_or_ge a L.length with z | z
        · exact z
        · rw [List.drop_eq_nil_iff.mpr z] at e1; cases e1
      have e4 := zdrop_cons e3
      rw [e1] at e4
      obtain ⟨e5, e6⟩ := List.cons.inj e4
      have hb8 : b < 256 := by rw [e5]; exact h.dlt a
      refine g_iload_n (pc := 2) hc dGr_digitsEnd_2 rfl ?_
      refine g_aload_n (pc := 3) hc dGr_digitsEnd_3 rfl ?_
      refine g_callV (pc := 4) hc dGr_digitsEnd_4 x_Gr_25 (s_Row_length V h) cl_Row (h.obj) (Nat.le_of_ble_eq_true rfl) (Nat.le_of_ble_eq_true rfl) (Nat.le_of_ble_eq_true rfl) (Nat.le_of_ble_eq_true rfl) rfl rfl (Nat.le_of_ble_eq_true rfl) (fun r m x hp => ?_)
      obtain ⟨rfl, rfl, rfl⟩ := hp
      refine g_icmp_ge (tgt := 27) (pc := 7) hc dGr_digitsEnd_7 (by decide) (fun c7 => absurd c7 (nI_ge (by omega) (by omega))) (fun _ => ?_)
      refine g_aload_n (pc := 10) hc dGr_digitsEnd_10 rfl ?_
      refine g_iload_n (pc := 11) hc dGr_digitsEnd_11 rfl ?_
      refine g_callV (pc := 12) hc dGr_digitsEnd_12 x_Gr_21 (s_Row_at V (nI a) h) cl_Row (h.obj) (Nat.le_of_ble_eq_true rfl) (Nat.le_of_ble_eq_true rfl) (Nat.le_of_ble_eq_true rfl) (Nat.le_of_ble_eq_true rfl) rfl rfl (Nat.le_of_ble_eq_true rfl) (fun r m x hp => ?_)
      obtain ⟨rfl, rfl, rfl⟩ := hp
      rw [zatI_nI (by omega), ← e5]
      refine g_callS (pc := 15) hc dGr_digitsEnd_15 x_Gr_66 (s_Gr_isDigit V hb8) (Nat.le_of_ble_eq_true rfl) (Nat.le_of_ble_eq_true rfl) (Nat.le_of_ble_eq_true rfl) (Nat.le_of_ble_eq_true rfl) rfl rfl (Nat.le_of_ble_eq_true rfl) (fun r m x hp => ?_)
      obtain ⟨rfl, rfl, rfl⟩ := hp
      refine g_if_eq (tgt := 27) (pc := 18) hc dGr_digitsEnd_18 (by decide) (fun c18 => ?_) (fun c18 => ?_)
      · simp (disch := omega) only [nI_leI, nI_ltI, nI_eq, nI_eq0, nI_lt0, nI_0le, nI_0lt, nI_le0, zb_0] at c18
        refine g_iload_n (pc := 27) hc dGr_digitsEnd_27 rfl ?_
        exact g_iret (pc := 28) hc he dGr_digitsEnd_28 (Nat.le_refl _) (Nat.le_refl _) ⟨by rw [← e2, List.takeWhile_cons, c18]; simp, rfl, rfl⟩
      · simp (disch := omega) only [nI_leI, nI_ltI, nI_eq, nI_eq0, nI_lt0, nI_0le, nI_0lt, nI_le0, zb_0] at c18
        have d18 : zdg b = true := by simpa using c18
        refine g_iinc (pc := 21) hc dGr_digitsEnd_21 rfl (zinc _) (by decide) rfl ?_
        refine g_goto (tgt := 2) (pc := 24) hc dGr_digitsEnd_24 (by decide) ?_
        refine g_lv (lv' := [(0, .ref q), (2, .int (nI (a + 1)))]) ⟨rfl, rfl, trivial⟩ ?_
        exact ih (a + 1) (by rw [e6]) (by omega) (by rw [← e2, List.takeWhile_cons, d18]; simp; omega)
  refine g_iload_n (pc := 0) hc dGr_digitsEnd_0 rfl ?_
  refine g_istore_n (pc := 1) hc dGr_digitsEnd_1 (by decide) rfl ?_
  refine g_lv (lv' := [(0, .ref q), (2, .int (nI (fr)))]) ⟨rfl, rfl, trivial⟩ ?_
  exact loop (L.drop fr) fr rfl (by omega) rfl
set_option maxHeartbeats 4000000 in
set_option maxRecDepth 100000 in
theorem s_Gr_number (V : mm_V) {q cap : Nat} {L : List Nat} {fr to : Nat} {mem : mm_M} {nx : Nat} (h : zRow q cap L mem) (hto : to ≤ L.length) (hfr : fr < 65536) (hdg : ∀ j, fr ≤ j → j < to → zdg (L.getD j 0) = true) : mm_S V yGr_number cGr_number 5 (some .int) 1 0 0 [.ref q, .int (nI fr), .int (nI to)] mem nx (fun r m x => r = some (.int (nI (znum ((L.drop fr).take (to - fr))))) ∧ mem = m ∧ nx = x) := by
  have hb := h.le
  refine mm_met (by decide) (Nat.le_of_ble_eq_true rfl) ?_
  intro X hc he hnm
  have loop : ∀ (n a v : Nat), to - a = n → fr ≤ a → a < 65536 → ((L.drop a).take (to - a)).foldl (fun v d => v * 10 + d - 48) v = znum ((L.drop fr).take (to - fr)) → mm_G V X 5 5 [(0, .ref q), (2, .int (nI to)), (3, .int (nI (v))), (4, .int (nI (a)))] [] mem nx 0 0 := by
    intro n
    induction n with
    | zero =>
      intro a v e1 h1 h2 e2
      refine g_iload (pc := 5) hc dGr_number_5 rfl ?_
      refine g_iload_n (pc := 7) hc dGr_number_7 rfl ?_
      refine g_icmp_ge (tgt := 32) (pc := 8) hc dGr_number_8 (by decide) (fun _ => ?_) (fun c8 => absurd (nI_le (by omega) (by omega)) c8)
      refine g_iload_n (pc := 32) hc dGr_number_32 rfl ?_
      exact g_iret (pc := 33) hc he dGr_number_33 (Nat.le_refl _) (Nat.le_refl _) ⟨by rw [← e2, e1]; rfl, rfl, rfl⟩
    | succ n ih =>
      intro a v e1 h1 h2 e2
      have e3 := hdg a h1 (by omega)
      have e4 : 48 ≤ L.getD a 0 := (of_decide_eq_true e3).1
      refine g_iload (pc := 5) hc dGr_number_5 rfl ?_
      refine g_iload_n (pc := 7) hc dGr_number_7 rfl ?_
      refine g_icmp_ge (tgt := 32) (pc := 8) hc dGr_number_8 (by decide) (fun c8 => absurd c8 (nI_ge (by omega) (by omega))) (fun _ => ?_)
      refine g_iload_n (pc := 11) hc dGr_number_11 rfl ?_
      refine g_bipush (v := nI 10) (pc := 12) hc dGr_number_12 (by decide) ?_
      refine g_imul (pc := 14) hc dGr_number_14 ?_
      rw [pk_mul]
      refine g_aload_n (pc := 15) hc dGr_number_15 rfl ?_
      refine g_iload (pc := 16) hc dGr_number_16 rfl ?_
      refine g_callV (pc := 18) hc dGr_number_18 x_Gr_21 (s_Row_at V (nI a) h) cl_Row (h.obj) (Nat.le_of_ble_eq_true rfl) (Nat.le_of_ble_eq_true rfl) (Nat.le_of_ble_eq_true rfl) (Nat.le_of_ble_eq_true rfl) rfl rfl (Nat.le_of_ble_eq_true rfl) (fun r m x hp => ?_)
      obtain ⟨rfl, rfl, rfl⟩ := hp
      rw [zatI_nI (by omega)]
      refine g_iadd (pc := 21) hc dGr_number_21 ?_
      rw [nI_add]
      refine g_bipush (v := nI 48) (pc := 22) hc dGr_number_22 (by decide) ?_
      refine g_isub (pc := 24) hc dGr_number_24 ?_
      rw [pk_sub (by omega)]
      refine g_istore_n (pc := 25) hc dGr_number_25 (by decide) rfl ?_
      refine g_iinc (pc := 26) hc dGr_number_26 rfl (zinc _) (by decide) rfl ?_
      refine g_goto (tgt := 5) (pc := 29) hc dGr_number_29 (by decide) ?_
      refine g_lv (lv' := [(0, .ref q), (2, .int (nI to)), (3, .int (nI (v * 10 + L.getD a 0 - 48))), (4, .int (nI (a + 1)))]) ⟨rfl, rfl, rfl, rfl, trivial⟩ ?_
      exact ih (a + 1) _ (by omega) (by omega) (by omega) (by rw [← e2, zdrop_cons (show a < L.length by omega), show to - a = (to - (a + 1)) + 1 by omega, List.take_succ_cons, List.foldl_cons])
  refine g_iconst (v := nI 0) (pc := 0) hc dGr_number_0 (by decide) ?_
  refine g_istore_n (pc := 1) hc dGr_number_1 (by decide) rfl ?_
  refine g_iload_n (pc := 2) hc dGr_number_2 rfl ?_
  refine g_istore (pc := 3) hc dGr_number_3 (by decide) rfl ?_
  refine g_lv (lv' := [(0, .ref q), (2, .int (nI to)), (3, .int (nI (0))), (4, .int (nI (fr)))]) ⟨rfl, rfl, rfl, rfl, trivial⟩ ?_
  exact loop _ fr 0 rfl (Nat.le_refl _) hfr rfl
set_option maxHeartbeats 4000000 in
set_option maxRecDepth 100000 in
theorem s_Gr_largestSize (V : mm_V) {q cap : Nat} {L : List Nat} {fr : Nat} {mem : mm_M} {nx : Nat} (h : zRow q cap L mem) (hL : L.length ≤ 1000) (hfr : fr ≤ L.length) : mm_S V yGr_largestSize cGr_largestSize 6 (some .int) 6 0 0 [.ref q, .int (nI fr)] mem nx (fun r m x => r = some (.int (zoI (zls (zs t_bo) (zs t_si) L 100 fr 0))) ∧ mem = m ∧ nx = x) := by
  have hb := h.le
  refine mm_met (by decide) (Nat.le_of_ble_eq_true rfl) ?_
  intro X hc he hnm
  have hlb : (zs t_bo).length < 64 := (zs_ok t_bo (by decide)).1
  have hls : (zs t_si).length < 64 := (zs_ok t_si (by decide)).1
  have loop : ∀ (f a lg : Nat), f ≤ 100 → a ≤ 1100 → lg < 10 ^ 9 → zls (zs t_bo) (zs t_si) L f a lg = zls (zs t_bo) (zs t_si) L 100 fr 0 → mm_G V X 6 7 [(0, .ref q), (2, .int (nI (lg))), (3, .int (nI (a))), (4, .int (nI (100 - f)))] [] mem nx 0 0 := by
    intro f
    induction f with
    | zero =>
      intro a lg h0 h1 h2 e2
      refine g_iload (pc := 7) hc dGr_largestSize_7 rfl ?_
      refine g_bipush (v := nI 100) (pc := 9) hc dGr_largestSize_9 (by decide) ?_
      refine g_icmp_ge (tgt := 109) (pc := 11) hc dGr_largestSize_11 (by decide) (fun _ => ?_) (fun c11 => absurd (by decide) c11)
      refine g_iload_n (pc := 109) hc dGr_largestSize_109 rfl ?_
      exact g_iret (pc := 110) hc he dGr_largestSize_110 (Nat.le_refl _) (Nat.le_refl _) ⟨by rw [← e2]; rfl, rfl, rfl⟩
    | succ f ih =>
      intro a lg h0 h1 h2 e2
      rw [zls] at e2
      refine g_iload (pc := 7) hc dGr_largestSize_7 rfl ?_
      refine g_bipush (v := nI 100) (pc := 9) hc dGr_largestSize_9 (by decide) ?_
      refine g_icmp_ge (tgt := 109) (pc := 11) hc dGr_largestSize_11 (by decide) (fun c11 => absurd c11 (nI_ge (by omega) (by omega))) (fun _ => ?_)
      refine g_iload_n (pc := 14) hc dGr_largestSize_14 rfl ?_
      refine g_aload_n (pc := 15) hc dGr_largestSize_15 rfl ?_
      refine g_callV (pc := 16) hc dGr_largestSize_16 x_Gr_25 (s_Row_length V h) cl_Row (h.obj) (Nat.le_of_ble_eq_true rfl) (Nat.le_of_ble_eq_true rfl) (Nat.le_of_ble_eq_true rfl) (Nat.le_of_ble_eq_true rfl) rfl rfl (Nat.le_of_ble_eq_true rfl) (fun r m x hp => ?_)
      obtain ⟨rfl, rfl, rfl⟩ := hp
      refine g_icmp_ge (tgt := 109) (pc := 19) hc dGr_largestSize_19 (by decide) (fun c19 => ?_) (fun c19 => ?_)
      · simp (disch := omega) only [nI_leI, nI_ltI, nI_eq, nI_eq0, nI_lt0, nI_0le, nI_0lt, nI_le0, zb_0] at c19
        refine g_iload_n (pc := 109) hc dGr_largestSize_109 rfl ?_
        exact g_iret (pc := 110) hc he dGr_largestSize_110 (Nat.le_refl _) (Nat.le_refl _) ⟨by rw [← e2, if_pos (by omega)]; rfl, rfl, rfl⟩
      · simp (disch := omega) only [nI_leI, nI_ltI, nI_eq, nI_eq0, nI_lt0, nI_0le, nI_0lt, nI_le0, zb_0] at c19
        refine g_aload_n (pc := 22) hc dGr_largestSize_22 rfl ?_
        refine g_iload_n (pc := 23) hc dGr_largestSize_23 rfl ?_
        refine g_ldcS (pc := 24) hc dGr_largestSize_24 xt_Gr_42 ?_
        refine g_callV (pc := 26) hc dGr_largestSize_26 x_Gr_9 (s_Row_hasWord V (a := a) h (by omega) (show t_bo < mm_nS by decide)) cl_Row (h.obj) (Nat.le_of_ble_eq_true rfl) (Nat.le_of_ble_eq_true rfl) (Nat.le_of_ble_eq_true rfl) (Nat.le_of_ble_eq_true rfl) rfl rfl (Nat.le_of_ble_eq_true rfl) (fun r m x hp => ?_)
        obtain ⟨rfl, rfl, rfl⟩ := hp
        refine g_if_eq (tgt := 43) (pc := 29) hc dGr_largestSize_29 (by decide) (fun c29 => ?_) (fun c29 => ?_)
        · simp (disch := omega) only [nI_leI, nI_ltI, nI_eq, nI_eq0, nI_lt0, nI_0le, nI_0lt, nI_le0, zb_0] at c29
          have d29 := c29
          refine g_aload_n (pc := 43) hc dGr_largestSize_43 rfl ?_
          refine g_iload_n (pc := 44) hc dGr_largestSize_44 rfl ?_
          refine g_ldcS (pc := 45) hc dGr_largestSize_45 xt_Gr_44 ?_
          refine g_callV (pc := 47) hc dGr_largestSize_47 x_Gr_9 (s_Row_hasWord V (a := a) h (by omega) (show t_si < mm_nS by decide)) cl_Row (h.obj) (Nat.le_of_ble_eq_true rfl) (Nat.le_of_ble_eq_true rfl) (Nat.le_of_ble_eq_true rfl) (Nat.le_of_ble_eq_true rfl) rfl rfl (Nat.le_of_ble_eq_true rfl) (fun r m x hp => ?_)
          obtain ⟨rfl, rfl, rfl⟩ := hp
          refine g_if_eq (tgt := 101) (pc := 50) hc dGr_largestSize_50 (by decide) (fun c50 => ?_) (fun c50 => ?_)
          · simp (disch := omega) only [nI_leI, nI_ltI, nI_eq, nI_eq0, nI_lt0, nI_0le, nI_0lt, nI_le0, zb_0] at c50
            refine g_iconst (v := -1) (pc := 101) hc dGr_largestSize_101 (by decide) ?_
            exact g_iret (pc := 102) hc he dGr_largestSize_102 (Nat.le_refl _) (Nat.le_refl _) ⟨by rw [← e2, if_neg (by omega), d29, if_neg (by decide), c50, if_neg (by decide)]; rfl, rfl, rfl⟩
          · simp (disch := omega) only [nI_leI, nI_ltI, nI_eq, nI_eq0, nI_lt0, nI_0le, nI_0lt, nI_le0, zb_0] at c50
            have d50 : zhw L a (zs t_si) = true := by simpa using c50
            refine g_iload_n (pc := 53) hc dGr_largestSize_53 rfl ?_
            refine g_ldcS (pc := 54) hc dGr_largestSize_54 xt_Gr_44 ?_
            refine g_callT (pc := 56) hc dGr_largestSize_56 x_Gr_35 (s_Str_length V (show t_si < mm_nS by decide)) (show t_si < mm_nS by decide) (Nat.le_of_ble_eq_true rfl) (Nat.le_of_ble_eq_true rfl) (Nat.le_of_ble_eq_true rfl) (Nat.le_of_ble_eq_true rfl) rfl rfl (Nat.le_of_ble_eq_true rfl) (fun r m x hp => ?_)
            obtain ⟨rfl, rfl, rfl⟩ := hp
            refine g_iadd (pc := 59) hc dGr_largestSize_59 ?_
            rw [nI_add]
            refine g_istore (pc := 60) hc dGr_largestSize_60 (by decide) rfl ?_
            refine g_aload_n (pc := 62) hc dGr_largestSize_62 rfl ?_
            refine g_iload (pc := 63) hc dGr_largestSize_63 rfl ?_
            refine g_callS (pc := 65) hc dGr_largestSize_65 x_Gr_46 (s_Gr_digitsEnd V (fr := a + (zs t_si).length) h (by omega)) (Nat.le_of_ble_eq_true rfl) (Nat.le_of_ble_eq_true rfl) (Nat.le_of_ble_eq_true rfl) (Nat.le_of_ble_eq_true rfl) rfl rfl (Nat.le_of_ble_eq_true rfl) (fun r m x hp => ?_)
            obtain ⟨rfl, rfl, rfl⟩ := hp
            have q9 := zde_le (L := L) (fr := a + (zs t_si).length)
            refine g_istore_n (pc := 68) hc dGr_largestSize_68 (by decide) rfl ?_
            refine g_iload_n (pc := 69) hc dGr_largestSize_69 rfl ?_
            refine g_iload (pc := 70) hc dGr_largestSize_70 rfl ?_
            refine g_icmp_eq (tgt := 84) (pc := 72) hc dGr_largestSize_72 (by decide) (fun c72 => ?_) (fun c72 => ?_)
            · simp (disch := omega) only [nI_leI, nI_ltI, nI_eq, nI_eq0, nI_lt0, nI_0le, nI_0lt, nI_le0, zb_0] at c72
              refine g_iconst (v := -1) (pc := 84) hc dGr_largestSize_84 (by decide) ?_
              exact g_iret (pc := 85) hc he dGr_largestSize_85 (Nat.le_refl _) (Nat.le_refl _) ⟨by rw [← e2, if_neg (by omega), d29, if_neg (by decide), d50, if_pos rfl, if_pos (Or.inl c72)]; rfl, rfl, rfl⟩
            · simp (disch := omega) only [nI_leI, nI_ltI, nI_eq, nI_eq0, nI_lt0, nI_0le, nI_0lt, nI_le0, zb_0] at c72
              refine g_iload_n (pc := 75) hc dGr_largestSize_75 rfl ?_
              refine g_iload (pc := 76) hc dGr_largestSize_76 rfl ?_
              refine g_isub (pc := 78) hc dGr_largestSize_78 ?_
              rw [pk_sub (by omega)]
              refine g_bipush (v := nI 9) (pc := 79) hc dGr_largestSize_79 (by decide) ?_
              refine g_icmp_le (tgt := 86) (pc := 81) hc dGr_largestSize_81 (by decide) (fun c81 => ?_) (fun c81 => ?_)
              · simp (disch := omega) only [nI_leI, nI_ltI, nI_eq, nI_eq0, nI_lt0, nI_0le, nI_0lt, nI_le0, zb_0] at c81
                refine g_iload_n (pc := 86) hc dGr_largestSize_86 rfl ?_
                refine g_aload_n (pc := 87) hc dGr_largestSize_87 rfl ?_
                refine g_iload (pc := 88) hc dGr_largestSize_88 rfl ?_
                refine g_iload_n (pc := 90) hc dGr_largestSize_90 rfl ?_
                have q8 : zde L (a + (zs t_si).length) ≤ L.length := by omega
                refine g_callS (pc := 91) hc dGr_largestSize_91 x_Gr_50 (s_Gr_number V (fr := a + (zs t_si).length) (to := zde L (a + (zs t_si).length)) h q8 (by omega) (fun j z1 z2 => ztw_getD z1 z2)) (Nat.le_of_ble_eq_true rfl) (Nat.le_of_ble_eq_true rfl) (Nat.le_of_ble_eq_true rfl) (Nat.le_of_ble_eq_true rfl) rfl rfl (Nat.le_of_ble_eq_true rfl) (fun r m x hp => ?_)
                obtain ⟨rfl, rfl, rfl⟩ := hp
                have q7 : znum ((L.drop (a + (zs t_si).length)).take (zde L (a + (zs t_si).length) - (a + (zs t_si).length))) < 10 ^ 9 := znum_small q8 (by omega)
                refine g_mmax (pc := 94) hc dGr_largestSize_94 x_Gr_54 (by decide) (Nat.zero_le _) (Nat.zero_le _) (Nat.le_of_ble_eq_true rfl) ?_
                rw [zmax (by omega) (by omega)]
                refine g_istore_n (pc := 97) hc dGr_largestSize_97 (by decide) rfl ?_
                refine g_goto (tgt := 103) (pc := 98) hc dGr_largestSize_98 (by decide) ?_
                refine g_iinc (pc := 103) hc dGr_largestSize_103 rfl (zinc _) (by decide) rfl ?_
                refine g_goto (tgt := 7) (pc := 106) hc dGr_largestSize_106 (by decide) ?_
                refine g_lv (lv' := [(0, .ref q), (2, .int (nI (max lg (znum ((L.drop (a + (zs t_si).length)).take (zde L (a + (zs t_si).length) - (a + (zs t_si).length))))))), (3, .int (nI (zde L (a + (zs t_si).length)))), (4, .int (nI (100 - f)))]) (by rw [show 100 - f = 100 - (f + 1) + 1 by omega]; exact ⟨rfl, rfl, rfl, rfl, trivial⟩) ?_
                exact ih _ _ (by omega) (by omega) (by omega) (by rw [← e2, if_neg (by omega), d29, if_neg (by decide), d50, if_pos rfl, if_neg (by omega)])
              · simp (disch := omega) only [nI_leI, nI_ltI, nI_eq, nI_eq0, nI_lt0, nI_0le, nI_0lt, nI_le0, zb_0] at c81
                refine g_iconst (v := -1) (pc := 84) hc dGr_largestSize_84 (by decide) ?_
                exact g_iret (pc := 85) hc he dGr_largestSize_85 (Nat.le_refl _) (Nat.le_refl _) ⟨by rw [← e2, if_neg (by omega), d29, if_neg (by decide), d50, if_pos rfl, if_pos (Or.inr (by omega))]; rfl, rfl, rfl⟩
        · simp (disch := omega) only [nI_leI, nI_ltI, nI_eq, nI_eq0, nI_lt0, nI_0le, nI_0lt, nI_le0, zb_0] at c29
          have d29 : zhw L a (zs t_bo) = true := by simpa using c29
          refine g_iload_n (pc := 32) hc dGr_largestSize_32 rfl ?_
          refine g_ldcS (pc := 33) hc dGr_largestSize_33 xt_Gr_42 ?_
          refine g_callT (pc := 35) hc dGr_largestSize_35 x_Gr_35 (s_Str_length V (show t_bo < mm_nS by decide)) (show t_bo < mm_nS by decide) (Nat.le_of_ble_eq_true rfl) (Nat.le_of_ble_eq_true rfl) (Nat.le_of_ble_eq_true rfl) (Nat.le_of_ble_eq_true rfl) rfl rfl (Nat.le_of_ble_eq_true rfl) (fun r m x hp => ?_)
          obtain ⟨rfl, rfl, rfl⟩ := hp
          refine g_iadd (pc := 38) hc dGr_largestSize_38 ?_
          rw [nI_add]
          refine g_istore_n (pc := 39) hc dGr_largestSize_39 (by decide) rfl ?_
          refine g_goto (tgt := 103) (pc := 40) hc dGr_largestSize_40 (by decide) ?_
          refine g_iinc (pc := 103) hc dGr_largestSize_103 rfl (zinc _) (by decide) rfl ?_
          refine g_goto (tgt := 7) (pc := 106) hc dGr_largestSize_106 (by decide) ?_
          refine g_lv (lv' := [(0, .ref q), (2, .int (nI (lg))), (3, .int (nI (a + (zs t_bo).length))), (4, .int (nI (100 - f)))]) (by rw [show 100 - f = 100 - (f + 1) + 1 by omega]; exact ⟨rfl, rfl, rfl, rfl, trivial⟩) ?_
          exact ih (a + (zs t_bo).length) lg (by omega) (by omega) h2 (by rw [← e2, if_neg (by omega), d29, if_pos rfl])
  refine g_iconst (v := nI 0) (pc := 0) hc dGr_largestSize_0 (by decide) ?_
  refine g_istore_n (pc := 1) hc dGr_largestSize_1 (by decide) rfl ?_
  refine g_iload_n (pc := 2) hc dGr_largestSize_2 rfl ?_
  refine g_istore_n (pc := 3) hc dGr_largestSize_3 (by decide) rfl ?_
  refine g_iconst (v := nI 0) (pc := 4) hc dGr_largestSize_4 (by decide) ?_
  refine g_istore (pc := 5) hc dGr_largestSize_5 (by decide) rfl ?_
  refine g_lv (lv' := [(0, .ref q), (2, .int (nI (0))), (3, .int (nI (fr))), (4, .int (nI (100 - 100)))]) ⟨rfl, rfl, rfl, rfl, trivial⟩ ?_
  exact loop 100 fr 0 (Nat.le_refl _) (by omega) (by decide) rfl
