set_option maxHeartbeats 4000000 in
set_option maxRecDepth 100000 in
theorem s_Str_coder (V : mm_V) {i : Nat} {mem : mm_M} {nx : Nat} (hi : i < mm_nS) : mm_S V yStr_coder cStr_coder 1 (some .byte) 0 0 0 [.ref (V.2.2.2.2.1 i)] mem nx (fun r m x => r = some (.int 0) ∧ mem = m ∧ nx = x) := by
  refine mm_met (by decide) (Nat.le_of_ble_eq_true rfl) ?_
  intro X hc he hnm
  refine g_gets (pc := 0) hc dStr_coder_0 xs_compact x_Str_38 ?_
  refine g_if_eq (tgt := 13) (pc := 3) hc dStr_coder_3 (by decide) (fun c3 => absurd c3 (by decide)) (fun _ => ?_)
  refine g_aload_n (pc := 6) hc dStr_coder_6 rfl ?_
  refine g_scod (pc := 7) hc dStr_coder_7 hi x_Str_15 ?_
  refine g_goto (tgt := 14) (pc := 10) hc dStr_coder_10 (by decide) ?_
  exact g_zret (pc := 14) hc he dStr_coder_14 rfl (Nat.le_refl _) (Nat.le_refl _) ⟨rfl, rfl, rfl⟩
set_option maxHeartbeats 4000000 in
set_option maxRecDepth 100000 in
theorem s_Str_isLatin1 (V : mm_V) {i : Nat} {mem : mm_M} {nx : Nat} (hi : i < mm_nS) : mm_S V yStr_isLatin1 cStr_isLatin1 1 (some .boolean) 0 0 0 [.ref (V.2.2.2.2.1 i)] mem nx (fun r m x => r = some (.int (nI 1)) ∧ mem = m ∧ nx = x) := by
  refine mm_met (by decide) (Nat.le_of_ble_eq_true rfl) ?_
  intro X hc he hnm
  refine g_gets (pc := 0) hc dStr_isLatin1_0 xs_compact x_Str_38 ?_
  refine g_if_eq (tgt := 17) (pc := 3) hc dStr_isLatin1_3 (by decide) (fun c3 => absurd c3 (by decide)) (fun _ => ?_)
  refine g_aload_n (pc := 6) hc dStr_isLatin1_6 rfl ?_
  refine g_scod (pc := 7) hc dStr_isLatin1_7 hi x_Str_15 ?_
  refine g_if_ne (tgt := 17) (pc := 10) hc dStr_isLatin1_10 (by decide) (fun c10 => absurd c10 (fun h => h rfl)) (fun _ => ?_)
  refine g_iconst (v := nI 1) (pc := 13) hc dStr_isLatin1_13 (by decide) ?_
  refine g_goto (tgt := 18) (pc := 14) hc dStr_isLatin1_14 (by decide) ?_
  exact g_zret (pc := 18) hc he dStr_isLatin1_18 rfl (Nat.le_refl _) (Nat.le_refl _) ⟨rfl, rfl, rfl⟩
set_option maxHeartbeats 4000000 in
set_option maxRecDepth 100000 in
theorem s_Str_length (V : mm_V) {i : Nat} {mem : mm_M} {nx : Nat} (hi : i < mm_nS) : mm_S V yStr_length cStr_length 1 (some .int) 1 0 0 [.ref (V.2.2.2.2.1 i)] mem nx (fun r m x => r = some (.int (nI (zs i).length)) ∧ mem = m ∧ nx = x) := by
  refine mm_met (by decide) (Nat.le_of_ble_eq_true rfl) ?_
  intro X hc he hnm
  refine g_aload_n (pc := 0) hc dStr_length_0 rfl ?_
  refine g_sval (pc := 1) hc dStr_length_1 hi x_Str_9 ?_
  refine g_slen (pc := 4) hc dStr_length_4 hi ?_
  refine g_aload_n (pc := 5) hc dStr_length_5 rfl ?_
  refine g_callT (pc := 6) hc dStr_length_6 x_Str_335 (s_Str_coder V hi) hi (Nat.le_of_ble_eq_true rfl) (Nat.le_of_ble_eq_true rfl) (Nat.le_of_ble_eq_true rfl) (Nat.le_of_ble_eq_true rfl) rfl rfl (Nat.le_of_ble_eq_true rfl) (fun r m x hp => ?_)
  obtain ⟨rfl, rfl, rfl⟩ := hp
  refine g_ishr (pc := 9) hc dStr_length_9 ?_
  exact g_iret (pc := 10) hc he dStr_length_10 (Nat.le_refl _) (Nat.le_refl _) ⟨by rw [sb_shr0, zs_len], rfl, rfl⟩
set_option maxHeartbeats 4000000 in
set_option maxRecDepth 100000 in
theorem s_Pre_checkIndex (V : mm_V) {j n : Nat} {v : Value} {mem : mm_M} {nx : Nat} (hj : j < n) (hn : n < 2 ^ 31) (hv : v = .null ∨ ∃ t, v = .ref t) : mm_S V yPre_checkIndex cPre_checkIndex 3 (some .int) 0 0 0 [.int (nI j), .int (nI n), v] mem nx (fun r m x => r = some (.int (nI j)) ∧ mem = m ∧ nx = x) := by
  rcases hv with rfl | ⟨t, rfl⟩
  · refine mm_met (by decide) (Nat.le_of_ble_eq_true rfl) ?_
    intro X hc he hnm
    refine g_iload_n (pc := 0) hc dPre_checkIndex_0 rfl ?_
    refine g_if_lt (tgt := 9) (pc := 1) hc dPre_checkIndex_1 (by decide) (fun c1 => absurd c1 (nI_pos (by omega))) (fun _ => ?_)
    refine g_iload_n (pc := 4) hc dPre_checkIndex_4 rfl ?_
    refine g_iload_n (pc := 5) hc dPre_checkIndex_5 rfl ?_
    refine g_icmp_lt (tgt := 16) (pc := 6) hc dPre_checkIndex_6 (by decide) (fun _ => ?_) (fun c6 => absurd (nI_lt hj hn) c6)
    refine g_iload_n (pc := 16) hc dPre_checkIndex_16 rfl ?_
    exact g_iret (pc := 17) hc he dPre_checkIndex_17 (Nat.le_refl _) (Nat.le_refl _) ⟨rfl, rfl, rfl⟩
  · refine mm_met (by decide) (Nat.le_of_ble_eq_true rfl) ?_
    intro X hc he hnm
    refine g_iload_n (pc := 0) hc dPre_checkIndex_0 rfl ?_
    refine g_if_lt (tgt := 9) (pc := 1) hc dPre_checkIndex_1 (by decide) (fun c1 => absurd c1 (nI_pos (by omega))) (fun _ => ?_)
    refine g_iload_n (pc := 4) hc dPre_checkIndex_4 rfl ?_
    refine g_iload_n (pc := 5) hc dPre_checkIndex_5 rfl ?_
    refine g_icmp_lt (tgt := 16) (pc := 6) hc dPre_checkIndex_6 (by decide) (fun _ => ?_) (fun c6 => absurd (nI_lt hj hn) c6)
    refine g_iload_n (pc := 16) hc dPre_checkIndex_16 rfl ?_
    exact g_iret (pc := 17) hc he dPre_checkIndex_17 (Nat.le_refl _) (Nat.le_refl _) ⟨rfl, rfl, rfl⟩
set_option maxHeartbeats 4000000 in
set_option maxRecDepth 100000 in
theorem s_Str_checkIndex (V : mm_V) {j n : Nat} {mem : mm_M} {nx : Nat} (hj : j < n) (hn : n < 2 ^ 31) : mm_S V yStr_checkIndex cStr_checkIndex 2 none 1 0 0 [.int (nI j), .int (nI n)] mem nx (fun r m x => r = none ∧ mem = m ∧ nx = x) := by
  refine mm_met (by decide) (Nat.le_of_ble_eq_true rfl) ?_
  intro X hc he hnm
  refine g_iload_n (pc := 0) hc dStr_checkIndex_0 rfl ?_
  refine g_iload_n (pc := 1) hc dStr_checkIndex_1 rfl ?_
  refine g_getsq (pc := 2) hc dStr_checkIndex_2 xs_form x_Str_1053 ?_ (fun t => ?_)
  · refine g_callS (pc := 5) hc dStr_checkIndex_5 x_Str_1059 (s_Pre_checkIndex V hj hn (Or.inl rfl)) (Nat.le_of_ble_eq_true rfl) (Nat.le_of_ble_eq_true rfl) (Nat.le_of_ble_eq_true rfl) (Nat.le_of_ble_eq_true rfl) rfl rfl (Nat.le_of_ble_eq_true rfl) (fun r m x hp => ?_)
    obtain ⟨rfl, rfl, rfl⟩ := hp
    refine g_pop (pc := 8) hc dStr_checkIndex_8 rfl ?_
    exact g_vret (pc := 9) hc he dStr_checkIndex_9 (Nat.le_refl _) (Nat.le_refl _) ⟨rfl, rfl, rfl⟩
  · refine g_callS (pc := 5) hc dStr_checkIndex_5 x_Str_1059 (s_Pre_checkIndex V hj hn (Or.inr ⟨t, rfl⟩)) (Nat.le_of_ble_eq_true rfl) (Nat.le_of_ble_eq_true rfl) (Nat.le_of_ble_eq_true rfl) (Nat.le_of_ble_eq_true rfl) rfl rfl (Nat.le_of_ble_eq_true rfl) (fun r m x hp => ?_)
    obtain ⟨rfl, rfl, rfl⟩ := hp
    refine g_pop (pc := 8) hc dStr_checkIndex_8 rfl ?_
    exact g_vret (pc := 9) hc he dStr_checkIndex_9 (Nat.le_refl _) (Nat.le_refl _) ⟨rfl, rfl, rfl⟩
set_option maxHeartbeats 4000000 in
set_option maxRecDepth 100000 in
theorem s_SL_charAt (V : mm_V) {i j : Nat} {mem : mm_M} {nx : Nat} (hi : i < mm_nS) (hj : j < (zs i).length) : mm_S V ySL_charAt cSL_charAt 2 (some .char) 2 0 0 [.ref (V.2.2.2.2.2 i), .int (nI j)] mem nx (fun r m x => r = some (.int (nI ((zs i).getD j 0))) ∧ mem = m ∧ nx = x) := by
  refine mm_met (by decide) (Nat.le_of_ble_eq_true rfl) ?_
  intro X hc he hnm
  have hk := zs_ok i hi
  have e1 := zc128 _ (hk.2 _ (zmem_getD hj))
  have hl := zs_len i
  refine g_iload_n (pc := 0) hc dSL_charAt_0 rfl ?_
  refine g_aload_n (pc := 1) hc dSL_charAt_1 rfl ?_
  refine g_slen (pc := 2) hc dSL_charAt_2 hi ?_
  rw [hl]
  refine g_callS (pc := 3) hc dSL_charAt_3 x_SL_9 (s_Str_checkIndex V hj (by omega)) (Nat.le_of_ble_eq_true rfl) (Nat.le_of_ble_eq_true rfl) (Nat.le_of_ble_eq_true rfl) (Nat.le_of_ble_eq_true rfl) rfl rfl (Nat.le_of_ble_eq_true rfl) (fun r m x hp => ?_)
  obtain ⟨rfl, rfl, rfl⟩ := hp
  refine g_aload_n (pc := 6) hc dSL_charAt_6 rfl ?_
  refine g_iload_n (pc := 7) hc dSL_charAt_7 rfl ?_
  refine g_sbald (pc := 8) hc dSL_charAt_8 hi (by rw [hl]; exact vp_in_nI hj (by omega)) ?_
  rw [zs_byt, nI_clamp (by omega)]
  refine g_sipush (v := nI 255) (pc := 9) hc dSL_charAt_9 (by decide) ?_
  refine g_iand (pc := 12) hc dSL_charAt_12 ?_
  rw [e1.1]
  refine g_i2c (pc := 13) hc dSL_charAt_13 e1.2.1 ?_
  exact g_zret (pc := 14) hc he dSL_charAt_14 (pk_charN (by have := hk.2 _ (zmem_getD hj); omega)).1 (Nat.le_refl _) (Nat.le_refl _) ⟨rfl, rfl, rfl⟩
set_option maxHeartbeats 4000000 in
set_option maxRecDepth 100000 in
theorem s_Str_charAt (V : mm_V) {i j : Nat} {mem : mm_M} {nx : Nat} (hi : i < mm_nS) (hj : j < (zs i).length) : mm_S V yStr_charAt cStr_charAt 2 (some .char) 3 0 0 [.ref (V.2.2.2.2.1 i), .int (nI j)] mem nx (fun r m x => r = some (.int (nI ((zs i).getD j 0))) ∧ mem = m ∧ nx = x) := by
  refine mm_met (by decide) (Nat.le_of_ble_eq_true rfl) ?_
  intro X hc he hnm
  have hk := zs_ok i hi
  refine g_aload_n (pc := 0) hc dStr_charAt_0 rfl ?_
  refine g_callT (pc := 1) hc dStr_charAt_1 x_Str_492 (s_Str_isLatin1 V hi) hi (Nat.le_of_ble_eq_true rfl) (Nat.le_of_ble_eq_true rfl) (Nat.le_of_ble_eq_true rfl) (Nat.le_of_ble_eq_true rfl) rfl rfl (Nat.le_of_ble_eq_true rfl) (fun r m x hp => ?_)
  obtain ⟨rfl, rfl, rfl⟩ := hp
  refine g_if_eq (tgt := 16) (pc := 4) hc dStr_charAt_4 (by decide) (fun c4 => absurd c4 (by decide)) (fun _ => ?_)
  refine g_aload_n (pc := 7) hc dStr_charAt_7 rfl ?_
  refine g_sval (pc := 8) hc dStr_charAt_8 hi x_Str_9 ?_
  refine g_iload_n (pc := 11) hc dStr_charAt_11 rfl ?_
  refine g_callS (pc := 12) hc dStr_charAt_12 x_Str_495 (s_SL_charAt V hi hj) (Nat.le_of_ble_eq_true rfl) (Nat.le_of_ble_eq_true rfl) (Nat.le_of_ble_eq_true rfl) (Nat.le_of_ble_eq_true rfl) rfl rfl (Nat.le_of_ble_eq_true rfl) (fun r m x hp => ?_)
  obtain ⟨rfl, rfl, rfl⟩ := hp
  exact g_zret (pc := 15) hc he dStr_charAt_15 (pk_charN (by have := hk.2 _ (zmem_getD hj); omega)).1 (Nat.le_refl _) (Nat.le_refl _) ⟨rfl, rfl, rfl⟩
set_option maxHeartbeats 4000000 in
set_option maxRecDepth 100000 in
theorem s_SL_canEncode (V : mm_V) {c : Nat} {mem : mm_M} {nx : Nat} (hc0 : c < 256) : mm_S V ySL_canEncode cSL_canEncode 1 (some .boolean) 0 0 0 [.int (nI c)] mem nx (fun r m x => r = some (.int (nI 1)) ∧ mem = m ∧ nx = x) := by
  refine mm_met (by decide) (Nat.le_of_ble_eq_true rfl) ?_
  intro X hc he hnm
  refine g_iload_n (pc := 0) hc dSL_canEncode_0 rfl ?_
  refine g_if_lt (tgt := 15) (pc := 1) hc dSL_canEncode_1 (by decide) (fun c1 => absurd c1 (nI_pos (by omega))) (fun _ => ?_)
  refine g_iload_n (pc := 4) hc dSL_canEncode_4 rfl ?_
  refine g_sipush (v := nI 255) (pc := 5) hc dSL_canEncode_5 (by decide) ?_
  refine g_icmp_gt (tgt := 15) (pc := 8) hc dSL_canEncode_8 (by decide) (fun c8 => absurd c8 (nI_nlt (by omega) (by omega))) (fun _ => ?_)
  refine g_iconst (v := nI 1) (pc := 11) hc dSL_canEncode_11 (by decide) ?_
  refine g_goto (tgt := 16) (pc := 12) hc dSL_canEncode_12 (by decide) ?_
  exact g_zret (pc := 16) hc he dSL_canEncode_16 rfl (Nat.le_refl _) (Nat.le_refl _) ⟨rfl, rfl, rfl⟩
/-- the first place of c in w, counted from k; -1 without one -/
def zix (c : Nat) : List Nat → Nat → Int32
  | [], _ => -1
  | x :: w, k => if x = c then nI k else zix c w (k + 1)
theorem zix_in (c : Nat) : ∀ (w : List Nat) (k : Nat), k + w.length < 2 ^ 31 → (zix c w k < 0 ↔ ¬ c ∈ w)
  | [], k, _ => by simp [zix]
  | x :: w, k, h => by
    rw [zix]
    by_cases e : x = c
    · rw [if_pos e, nI_lt0 (by simp at h; omega)]
      simp [e]
    · rw [if_neg e, zix_in c w (k + 1) (by simp at h; omega)]
      simp [Ne.symm e]
set_option maxHeartbeats 4000000 in
set_option maxRecDepth 100000 in
theorem s_SL_indexOfChar (V : mm_V) {i c : Nat} {mem : mm_M} {nx : Nat} (hi : i < mm_nS) (hc0 : c < 256) : mm_S V ySL_indexOfChar cSL_indexOfChar 6 (some .int) 0 0 0 [.ref (V.2.2.2.2.2 i), .int (nI c), .int (nI 0), .int (nI (zs i).length)] mem nx (fun r m x => r = some (.int (zix c (zs i) 0)) ∧ mem = m ∧ nx = x) := by
  refine mm_met (by decide) (Nat.le_of_ble_eq_true rfl) ?_
  intro X hc he hnm
  have hk := zs_ok i hi
  have loop : ∀ (w v : List Nat), v ++ w = zs i → zix c w v.length = zix c (zs i) 0 → mm_G V X 6 7 [(0, .ref (V.2.2.2.2.2 i)), (3, .int (nI (zs i).length)), (4, .int (nI c).toInt8.toInt32), (5, .int (nI v.length))] [] mem nx 0 0 := by
    intro w
    induction w with
    | nil =>
      intro v e1 e2
      have e3 : v.length = (zs i).length := by rw [← e1]; simp
      refine g_iload (pc := 7) hc dSL_indexOfChar_7 rfl ?_
      refine g_iload_n (pc := 9) hc dSL_indexOfChar_9 rfl ?_
      refine g_icmp_ge (tgt := 31) (pc := 10) hc dSL_indexOfChar_10 (by decide) (fun _ => ?_) (fun c10 => absurd (nI_le (by omega) (by omega)) c10)
      refine g_iconst (v := -1) (pc := 31) hc dSL_indexOfChar_31 (by decide) ?_
      exact g_iret (pc := 32) hc he dSL_indexOfChar_32 (Nat.le_refl _) (Nat.le_refl _) ⟨by rw [← e2]; rfl, rfl, rfl⟩
    | cons x w ih =>
      intro v e1 e2
      have e3 : v.length < (zs i).length := by rw [← e1]; simp
      have e4 : (zs i).getD v.length 0 = x := by rw [← e1, zgetD_mid]
      have hx : x < 128 := hk.2 x (by rw [← e1]; simp)
      have c_iff : nI x = (nI c).toInt8.toInt32 ↔ x = c := by
        rw [sc_eq (zc128 x hx).2.2 hc0, (show nI x &&& 255 = nI x from (zc128 x hx).1), nI_eq (by omega) (by omega)]
      refine g_iload (pc := 7) hc dSL_indexOfChar_7 rfl ?_
      refine g_iload_n (pc := 9) hc dSL_indexOfChar_9 rfl ?_
      refine g_icmp_ge (tgt := 31) (pc := 10) hc dSL_indexOfChar_10 (by decide) (fun c10 => absurd c10 (nI_ge (by omega) (by omega))) (fun _ => ?_)
      refine g_aload_n (pc := 13) hc dSL_indexOfChar_13 rfl ?_
      refine g_iload (pc := 14) hc dSL_indexOfChar_14 rfl ?_
      refine g_sbald (pc := 16) hc dSL_indexOfChar_16 hi (by rw [zs_len]; exact vp_in_nI (by omega) (by omega)) ?_
      rw [zs_byt, nI_clamp (by omega), e4]
      refine g_iload (pc := 17) hc dSL_indexOfChar_17 rfl ?_
      refine g_icmp_ne (tgt := 25) (pc := 19) hc dSL_indexOfChar_19 (by decide) (fun c19 => ?_) (fun c19 => ?_)
      · refine g_iinc (pc := 25) hc dSL_indexOfChar_25 rfl (zinc _) (by decide) rfl ?_
        refine g_goto (tgt := 7) (pc := 28) hc dSL_indexOfChar_28 (by decide) ?_
        refine g_lv (lv' := [(0, .ref (V.2.2.2.2.2 i)), (3, .int (nI (zs i).length)), (4, .int (nI c).toInt8.toInt32), (5, .int (nI (v ++ [x]).length))]) (by simp only [List.length_append]; exact ⟨rfl, rfl, rfl, rfl, trivial⟩) ?_
        exact ih (v ++ [x]) (by rw [← e1]; simp) (by rw [← e2, zix, if_neg (fun h => c19 (c_iff.mpr h))]; simp)
      · refine g_iload (pc := 22) hc dSL_indexOfChar_22 rfl ?_
        exact g_iret (pc := 24) hc he dSL_indexOfChar_24 (Nat.le_refl _) (Nat.le_refl _) ⟨by rw [← e2, zix, if_pos (c_iff.mp c19)], rfl, rfl⟩
  refine g_iload_n (pc := 0) hc dSL_indexOfChar_0 rfl ?_
  refine g_i2b (pc := 1) hc dSL_indexOfChar_1 rfl ?_
  refine g_istore (pc := 2) hc dSL_indexOfChar_2 (by decide) rfl ?_
  refine g_iload_n (pc := 4) hc dSL_indexOfChar_4 rfl ?_
  refine g_istore (pc := 5) hc dSL_indexOfChar_5 (by decide) rfl ?_
  refine g_lv (lv' := [(0, .ref (V.2.2.2.2.2 i)), (3, .int (nI (zs i).length)), (4, .int (nI c).toInt8.toInt32), (5, .int (nI ([] : List Nat).length))]) ⟨rfl, rfl, rfl, rfl, trivial⟩ ?_
  exact loop (zs i) [] rfl rfl
set_option maxHeartbeats 4000000 in
set_option maxRecDepth 100000 in
theorem s_SL_indexOf (V : mm_V) {i c : Nat} {mem : mm_M} {nx : Nat} (hi : i < mm_nS) (h0 : 0 < (zs i).length) (hc0 : c < 256) : mm_S V ySL_indexOf cSL_indexOf 4 (some .int) 1 0 0 [.ref (V.2.2.2.2.2 i), .int (nI c), .int (nI 0), .int (nI (zs i).length)] mem nx (fun r m x => r = some (.int (zix c (zs i) 0)) ∧ mem = m ∧ nx = x) := by
  refine mm_met (by decide) (Nat.le_of_ble_eq_true rfl) ?_
  intro X hc he hnm
  have hk := zs_ok i hi
  refine g_iload_n (pc := 0) hc dSL_indexOf_0 rfl ?_
  refine g_callS (pc := 1) hc dSL_indexOf_1 x_SL_88 (s_SL_canEncode V hc0) (Nat.le_of_ble_eq_true rfl) (Nat.le_of_ble_eq_true rfl) (Nat.le_of_ble_eq_true rfl) (Nat.le_of_ble_eq_true rfl) rfl rfl (Nat.le_of_ble_eq_true rfl) (fun r m x hp => ?_)
  obtain ⟨rfl, rfl, rfl⟩ := hp
  refine g_if_ne (tgt := 9) (pc := 4) hc dSL_indexOf_4 (by decide) (fun _ => ?_) (fun c4 => absurd c4 (by decide))
  refine g_iload_n (pc := 9) hc dSL_indexOf_9 rfl ?_
  refine g_iconst (v := nI 0) (pc := 10) hc dSL_indexOf_10 (by decide) ?_
  refine g_mmax (pc := 11) hc dSL_indexOf_11 x_SL_92 (by decide) (Nat.zero_le _) (Nat.zero_le _) (Nat.le_of_ble_eq_true rfl) ?_
  rw [show (if nI 0 < nI 0 then nI 0 else nI 0) = nI 0 from by simp]
  refine g_istore_n (pc := 14) hc dSL_indexOf_14 (by decide) rfl ?_
  refine g_iload_n (pc := 15) hc dSL_indexOf_15 rfl ?_
  refine g_aload_n (pc := 16) hc dSL_indexOf_16 rfl ?_
  refine g_slen (pc := 17) hc dSL_indexOf_17 hi ?_
  rw [zs_len]
  refine g_mmin (pc := 18) hc dSL_indexOf_18 x_SL_38 (by decide) (Nat.zero_le _) (Nat.zero_le _) (Nat.le_of_ble_eq_true rfl) ?_
  rw [show (if nI (zs i).length < nI (zs i).length then nI (zs i).length else nI (zs i).length) = nI (zs i).length from by simp]
  refine g_istore_n (pc := 21) hc dSL_indexOf_21 (by decide) rfl ?_
  refine g_iload_n (pc := 22) hc dSL_indexOf_22 rfl ?_
  refine g_iload_n (pc := 23) hc dSL_indexOf_23 rfl ?_
  refine g_icmp_lt (tgt := 29) (pc := 24) hc dSL_indexOf_24 (by decide) (fun _ => ?_) (fun c24 => absurd (nI_lt h0 (by omega)) c24)
  refine g_aload_n (pc := 29) hc dSL_indexOf_29 rfl ?_
  refine g_iload_n (pc := 30) hc dSL_indexOf_30 rfl ?_
  refine g_iload_n (pc := 31) hc dSL_indexOf_31 rfl ?_
  refine g_iload_n (pc := 32) hc dSL_indexOf_32 rfl ?_
  refine g_callS (pc := 33) hc dSL_indexOf_33 x_SL_95 (s_SL_indexOfChar V hi hc0) (Nat.le_of_ble_eq_true rfl) (Nat.le_of_ble_eq_true rfl) (Nat.le_of_ble_eq_true rfl) (Nat.le_of_ble_eq_true rfl) rfl rfl (Nat.le_of_ble_eq_true rfl) (fun r m x hp => ?_)
  obtain ⟨rfl, rfl, rfl⟩ := hp
  exact g_iret (pc := 36) hc he dSL_indexOf_36 (Nat.le_refl _) (Nat.le_refl _) ⟨rfl, rfl, rfl⟩
set_option maxHeartbeats 4000000 in
set_option maxRecDepth 100000 in
theorem s_Str_indexOf2 (V : mm_V) {i c : Nat} {mem : mm_M} {nx : Nat} (hi : i < mm_nS) (h0 : 0 < (zs i).length) (hc0 : c < 256) : mm_S V yStr_indexOf_ cStr_indexOf_ 3 (some .int) 2 0 0 [.ref (V.2.2.2.2.1 i), .int (nI c), .int (nI 0)] mem nx (fun r m x => r = some (.int (zix c (zs i) 0)) ∧ mem = m ∧ nx = x) := by
  refine mm_met (by decide) (Nat.le_of_ble_eq_true rfl) ?_
  intro X hc he hnm
  refine g_aload_n (pc := 0) hc dStr_indexOf__0 rfl ?_
  refine g_callT (pc := 1) hc dStr_indexOf__1 x_Str_492 (s_Str_isLatin1 V hi) hi (Nat.le_of_ble_eq_true rfl) (Nat.le_of_ble_eq_true rfl) (Nat.le_of_ble_eq_true rfl) (Nat.le_of_ble_eq_true rfl) rfl rfl (Nat.le_of_ble_eq_true rfl) (fun r m x hp => ?_)
  obtain ⟨rfl, rfl, rfl⟩ := hp
  refine g_if_eq (tgt := 23) (pc := 4) hc dStr_indexOf__4 (by decide) (fun c4 => absurd c4 (by decide)) (fun _ => ?_)
  refine g_aload_n (pc := 7) hc dStr_indexOf__7 rfl ?_
  refine g_sval (pc := 8) hc dStr_indexOf__8 hi x_Str_9 ?_
  refine g_iload_n (pc := 11) hc dStr_indexOf__11 rfl ?_
  refine g_iload_n (pc := 12) hc dStr_indexOf__12 rfl ?_
  refine g_aload_n (pc := 13) hc dStr_indexOf__13 rfl ?_
  refine g_callT (pc := 14) hc dStr_indexOf__14 x_Str_505 (s_Str_length V hi) hi (Nat.le_of_ble_eq_true rfl) (Nat.le_of_ble_eq_true rfl) (Nat.le_of_ble_eq_true rfl) (Nat.le_of_ble_eq_true rfl) rfl rfl (Nat.le_of_ble_eq_true rfl) (fun r m x hp => ?_)
  obtain ⟨rfl, rfl, rfl⟩ := hp
  refine g_callS (pc := 17) hc dStr_indexOf__17 x_Str_637 (s_SL_indexOf V hi h0 hc0) (Nat.le_of_ble_eq_true rfl) (Nat.le_of_ble_eq_true rfl) (Nat.le_of_ble_eq_true rfl) (Nat.le_of_ble_eq_true rfl) rfl rfl (Nat.le_of_ble_eq_true rfl) (fun r m x hp => ?_)
  obtain ⟨rfl, rfl, rfl⟩ := hp
  refine g_goto (tgt := 36) (pc := 20) hc dStr_indexOf__20 (by decide) ?_
  exact g_iret (pc := 36) hc he dStr_indexOf__36 (Nat.le_refl _) (Nat.le_refl _) ⟨rfl, rfl, rfl⟩
set_option maxHeartbeats 4000000 in
set_option maxRecDepth 100000 in
theorem s_Str_indexOf1 (V : mm_V) {i c : Nat} {mem : mm_M} {nx : Nat} (hi : i < mm_nS) (h0 : 0 < (zs i).length) (hc0 : c < 256) : mm_S V yStr_indexOf cStr_indexOf 2 (some .int) 3 0 0 [.ref (V.2.2.2.2.1 i), .int (nI c)] mem nx (fun r m x => r = some (.int (zix c (zs i) 0)) ∧ mem = m ∧ nx = x) := by
  refine mm_met (by decide) (Nat.le_of_ble_eq_true rfl) ?_
  intro X hc he hnm
  refine g_aload_n (pc := 0) hc dStr_indexOf_0 rfl ?_
  refine g_iload_n (pc := 1) hc dStr_indexOf_1 rfl ?_
  refine g_iconst (v := nI 0) (pc := 2) hc dStr_indexOf_2 (by decide) ?_
  refine g_callT (pc := 3) hc dStr_indexOf_3 x_Str_633 (s_Str_indexOf2 V hi h0 hc0) hi (Nat.le_of_ble_eq_true rfl) (Nat.le_of_ble_eq_true rfl) (Nat.le_of_ble_eq_true rfl) (Nat.le_of_ble_eq_true rfl) rfl rfl (Nat.le_of_ble_eq_true rfl) (fun r m x hp => ?_)
  obtain ⟨rfl, rfl, rfl⟩ := hp
  exact g_iret (pc := 6) hc he dStr_indexOf_6 (Nat.le_refl _) (Nat.le_refl _) ⟨rfl, rfl, rfl⟩
