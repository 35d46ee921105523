set_option maxHeartbeats 4000000 in
set_option maxRecDepth 100000 in
theorem s_Row_length (V : mm_V) {q cap : Nat} {L : List Nat} {mem : mm_M} {nx : Nat} (h : zRow q cap L mem) : mm_S V yRow_length cRow_length 1 (some .int) 0 0 0 [.ref q] mem nx (fun r m x => r = some (.int (nI L.length)) ∧ mem = m ∧ nx = x) := by
  obtain ⟨f, hq, ha, hL, hcap, hf, hB⟩ := id h
  refine mm_met (by decide) (Nat.le_of_ble_eq_true rfl) ?_
  intro X hc he hnm
  refine g_aload_n (pc := 0) hc dRow_length_0 rfl ?_
  refine g_get (pc := 1) hc dRow_length_1 x_Row_19 (by assumption) (by rfl) ?_
  exact g_iret (pc := 4) hc he dRow_length_4 (Nat.le_refl _) (Nat.le_refl _) ⟨rfl, rfl, rfl⟩
set_option maxHeartbeats 4000000 in
set_option maxRecDepth 100000 in
theorem s_Row_at (V : mm_V) {q cap : Nat} {L : List Nat} (i : Int32) {mem : mm_M} {nx : Nat} (h : zRow q cap L mem) : mm_S V yRow_at cRow_at 2 (some .int) 0 0 0 [.ref q, .int i] mem nx (fun r m x => r = some (.int (nI (zatI L i))) ∧ mem = m ∧ nx = x) := by
  obtain ⟨f, hq, ha, hL, hcap, hf, hB⟩ := id h
  refine mm_met (by decide) (Nat.le_of_ble_eq_true rfl) ?_
  intro X hc he hnm
  refine g_iload_n (pc := 0) hc dRow_at_0 rfl ?_
  refine g_if_lt (tgt := 25) (pc := 1) hc dRow_at_1 (by decide) (fun c1 => ?_) (fun c1 => ?_)
  · refine g_iconst (v := nI 0) (pc := 25) hc dRow_at_25 (by decide) ?_
    exact g_iret (pc := 26) hc he dRow_at_26 (Nat.le_refl _) (Nat.le_refl _) ⟨by rw [zatI, if_pos c1], rfl, rfl⟩
  · refine g_iload_n (pc := 4) hc dRow_at_4 rfl ?_
    refine g_aload_n (pc := 5) hc dRow_at_5 rfl ?_
    refine g_get (pc := 6) hc dRow_at_6 x_Row_19 (by assumption) (by rfl) ?_
    refine g_icmp_ge (tgt := 25) (pc := 9) hc dRow_at_9 (by decide) (fun c9 => ?_) (fun c9 => ?_)
    · refine g_iconst (v := nI 0) (pc := 25) hc dRow_at_25 (by decide) ?_
      obtain ⟨j, hj, rfl⟩ := nI_of c1
      have h2 : L.length ≤ j := by
        rcases Nat.lt_or_ge j L.length with z | z
        · exact absurd c9 (nI_ge z (by omega))
        · exact z
      exact g_iret (pc := 26) hc he dRow_at_26 (Nat.le_refl _) (Nat.le_refl _) ⟨by rw [zatI_nI hj, zgetD_out h2], rfl, rfl⟩
    · refine g_aload_n (pc := 12) hc dRow_at_12 rfl ?_
      refine g_get (pc := 13) hc dRow_at_13 x_Row_13 (by assumption) (by rfl) ?_
      refine g_iload_n (pc := 16) hc dRow_at_16 rfl ?_
      obtain ⟨j, hj, rfl⟩ := nI_of c1
      have h2 : j < L.length := by
        rcases Nat.lt_or_ge j L.length with z | z
        · exact z
        · exact absurd (nI_le z hj) c9
      refine g_bald (pc := 17) hc dRow_at_17 rfl ha (vp_in_nI (by omega) (by omega)) ?_
      refine g_sipush (v := nI 255) (pc := 18) hc dRow_at_18 (by decide) ?_
      refine g_iand (pc := 21) hc dRow_at_21 ?_
      refine g_goto (tgt := 26) (pc := 22) hc dRow_at_22 (by decide) ?_
      have e1 : f (nI j).toNatClampNeg &&& nI 255 = nI (zatI L (nI j)) := by
        rw [nI_clamp hj, hf j h2, zatI_nI hj]
        exact (sb_byte _ (hB _ (zmem_getD h2))).1
      exact g_iret (pc := 26) hc he dRow_at_26 (Nat.le_refl _) (Nat.le_refl _) ⟨by rw [e1], rfl, rfl⟩
set_option maxHeartbeats 4000000 in
set_option maxRecDepth 100000 in
theorem s_Row_clear (V : mm_V) {q cap : Nat} {L : List Nat} {mem : mm_M} {nx : Nat} (h : zRow q cap L mem) : mm_S V yRow_clear cRow_clear 1 none 0 0 0 [.ref q] mem nx (fun r m x => r = none ∧ nx = x ∧ zRow q cap [] m ∧ zsame q (q + 2) mem m) := by
  obtain ⟨f, hq, ha, hL, hcap, hf, hB⟩ := id h
  refine mm_met (by decide) (Nat.le_of_ble_eq_true rfl) ?_
  intro X hc he hnm
  refine g_aload_n (pc := 0) hc dRow_clear_0 rfl ?_
  refine g_iconst (v := nI 0) (pc := 1) hc dRow_clear_1 (by decide) ?_
  refine g_put (pc := 2) hc dRow_clear_2 x_Row_19 ft_Row rfl hq rfl rfl (zlt rfl) (fun m1 h1 o1 => ?_)
  exact g_vret (pc := 5) hc he dRow_clear_5 (Nat.le_refl _) (Nat.le_refl _) ⟨rfl, rfl, ⟨f, h1, (o1 _ (by omega)).trans ha, Nat.zero_le _, hcap, fun j hj => absurd hj (Nat.not_lt_zero j), fun x hx => by cases hx⟩, fun a h9 => o1 a (by omega)⟩
set_option maxHeartbeats 4000000 in
set_option maxRecDepth 100000 in
theorem s_Row_add (V : mm_V) {q cap : Nat} {L : List Nat} {b : Nat} {mem : mm_M} {nx : Nat} (h : zRow q cap L mem) (hb : b < 256) : mm_S V yRow_add cRow_add 2 none 0 0 0 [.ref q, .int (nI b)] mem nx (fun r m x => r = none ∧ nx = x ∧ zRow q cap ((L ++ [b]).take cap) m ∧ zsame q (q + 2) mem m) := by
  obtain ⟨f, hq, ha, hL, hcap, hf, hB⟩ := id h
  refine mm_met (by decide) (Nat.le_of_ble_eq_true rfl) ?_
  intro X hc he hnm
  refine g_aload_n (pc := 0) hc dRow_add_0 rfl ?_
  refine g_get (pc := 1) hc dRow_add_1 x_Row_19 (by assumption) (by rfl) ?_
  refine g_aload_n (pc := 4) hc dRow_add_4 rfl ?_
  refine g_get (pc := 5) hc dRow_add_5 x_Row_13 (by assumption) (by rfl) ?_
  refine g_alen (pc := 8) (t := kB) (v := nI cap) hc dRow_add_8 rfl ha rfl ?_
  refine g_icmp_ge (tgt := 33) (pc := 9) hc dRow_add_9 (by decide) (fun c9 => ?_) (fun c9 => ?_)
  · have h2 : L.length = cap := by
      rcases Nat.lt_or_ge L.length cap with z | z
      · exact absurd c9 (nI_ge z (by omega))
      · omega
    exact g_vret (pc := 33) hc he dRow_add_33 (Nat.le_refl _) (Nat.le_refl _) ⟨rfl, rfl, by rw [ztake_full h2]; exact h, zsame.rf⟩
  · refine g_aload_n (pc := 12) hc dRow_add_12 rfl ?_
    refine g_get (pc := 13) hc dRow_add_13 x_Row_13 (by assumption) (by rfl) ?_
    refine g_aload_n (pc := 16) hc dRow_add_16 rfl ?_
    refine g_get (pc := 17) hc dRow_add_17 x_Row_19 (by assumption) (by rfl) ?_
    refine g_iload_n (pc := 20) hc dRow_add_20 rfl ?_
    refine g_i2b (pc := 21) hc dRow_add_21 rfl ?_
    have h2 : L.length < cap := by
      rcases Nat.lt_or_ge L.length cap with z | z
      · exact z
      · exact absurd (nI_le z (by omega)) c9
    refine g_bast (pc := 22) (t := kB) hc dRow_add_22 rfl ha (vp_in_nI h2 (by omega)) (fun m1 h1 o1 => ?_)
    have hq1 := (o1 q (by omega)).trans hq
    refine g_aload_n (pc := 23) hc dRow_add_23 rfl ?_
    refine g_dup (pc := 24) hc dRow_add_24 rfl ?_
    refine g_get (pc := 25) hc dRow_add_25 x_Row_19 hq1 (by rfl) ?_
    refine g_iconst (v := nI 1) (pc := 28) hc dRow_add_28 (by decide) ?_
    refine g_iadd (pc := 29) hc dRow_add_29 ?_
    refine g_put (pc := 30) hc dRow_add_30 x_Row_19 ft_Row rfl hq1 rfl rfl (zlt rfl) (fun m2 h3 o2 => ?_)
    refine g_vret (pc := 33) hc he dRow_add_33 (Nat.le_refl _) (Nat.le_refl _) ⟨rfl, rfl, ?_, fun a h9 => (o2 a (by omega)).trans (o1 a (by omega))⟩
    rw [ztake_room h2]
    refine ⟨upd f L.length (sb_b b), ?_, ?_, by simp; omega, hcap, zadd_f hf, ?_⟩
    · rw [h3]
      simp [nI_1, nI_add]
    · rw [o2 _ (by omega), h1, nI_clamp (by omega)]
      first | rfl | rw [zbb]
    · intro x hx
      rcases List.mem_append.mp hx with h | h
      · exact hB x h
      · rw [List.mem_singleton.mp h]; exact hb
set_option maxHeartbeats 4000000 in
set_option maxRecDepth 100000 in
theorem s_Row_dropLast (V : mm_V) {q cap : Nat} {L : List Nat} {mem : mm_M} {nx : Nat} (h : zRow q cap L mem) : mm_S V yRow_dropLast cRow_dropLast 1 none 0 0 0 [.ref q] mem nx (fun r m x => r = none ∧ nx = x ∧ zRow q cap L.dropLast m ∧ zsame q (q + 2) mem m) := by
  obtain ⟨f, hq, ha, hL, hcap, hf, hB⟩ := id h
  refine mm_met (by decide) (Nat.le_of_ble_eq_true rfl) ?_
  intro X hc he hnm
  refine g_aload_n (pc := 0) hc dRow_dropLast_0 rfl ?_
  refine g_get (pc := 1) hc dRow_dropLast_1 x_Row_19 (by assumption) (by rfl) ?_
  refine g_if_le (tgt := 17) (pc := 4) hc dRow_dropLast_4 (by decide) (fun c4 => ?_) (fun c4 => ?_)
  · have h2 : L = [] := by
      rcases Nat.eq_zero_or_pos L.length with z | z
      · exact List.length_eq_zero_iff.mp z
      · exact absurd c4 (nI_nle z (by omega))
    subst h2
    exact g_vret (pc := 17) hc he dRow_dropLast_17 (Nat.le_refl _) (Nat.le_refl _) ⟨rfl, rfl, h, zsame.rf⟩
  · refine g_aload_n (pc := 7) hc dRow_dropLast_7 rfl ?_
    refine g_dup (pc := 8) hc dRow_dropLast_8 rfl ?_
    refine g_get (pc := 9) hc dRow_dropLast_9 x_Row_19 (by assumption) (by rfl) ?_
    refine g_iconst (v := nI 1) (pc := 12) hc dRow_dropLast_12 (by decide) ?_
    refine g_isub (pc := 13) hc dRow_dropLast_13 ?_
    refine g_put (pc := 14) hc dRow_dropLast_14 x_Row_19 ft_Row rfl hq rfl rfl (zlt rfl) (fun m1 h1 o1 => ?_)
    have h2 : 0 < L.length := by
      rcases Nat.eq_zero_or_pos L.length with z | z
      · exact absurd (by rw [z]; decide) c4
      · exact z
    refine g_vret (pc := 17) hc he dRow_dropLast_17 (Nat.le_refl _) (Nat.le_refl _) ⟨rfl, rfl, ⟨f, ?_, (o1 _ (by omega)).trans ha, by simp; omega, hcap, fun j hj => ?_, fun x hx => hB x ((List.dropLast_sublist _).subset hx)⟩, fun a h9 => o1 a (by omega)⟩
    · rw [h1]
      simp [pk_sub (show 1 ≤ L.length from h2)]
    · have h5 : j < L.length := by simp at hj; omega
      rw [hf j h5]
      simp only [List.getD_eq_getElem?_getD]
      rw [List.getElem?_dropLast, if_pos (by simp at hj; omega)]
set_option maxHeartbeats 4000000 in
set_option maxRecDepth 100000 in
theorem s_Row_withoutCase (V : mm_V) {b : Nat} {mem : mm_M} {nx : Nat} (hb : b < 256) : mm_S V yRow_withoutCase cRow_withoutCase 1 (some .int) 0 0 0 [.int (nI b)] mem nx (fun r m x => r = some (.int (nI (zlow b))) ∧ mem = m ∧ nx = x) := by
  refine mm_met (by decide) (Nat.le_of_ble_eq_true rfl) ?_
  intro X hc he hnm
  refine g_iload_n (pc := 0) hc dRow_withoutCase_0 rfl ?_
  refine g_bipush (v := nI 65) (pc := 1) hc dRow_withoutCase_1 (by decide) ?_
  refine g_icmp_lt (tgt := 19) (pc := 3) hc dRow_withoutCase_3 (by decide) (fun c3 => ?_) (fun c3 => ?_)
  · refine g_iload_n (pc := 19) hc dRow_withoutCase_19 rfl ?_
    simp (disch := omega) only [nI_leI, nI_ltI, nI_eq, nI_eq0, nI_lt0, nI_0le, nI_0lt, nI_le0, zb_0] at c3
    exact g_iret (pc := 20) hc he dRow_withoutCase_20 (Nat.le_refl _) (Nat.le_refl _) ⟨by rw [zlow, if_neg (by omega)], rfl, rfl⟩
  · refine g_iload_n (pc := 6) hc dRow_withoutCase_6 rfl ?_
    refine g_bipush (v := nI 90) (pc := 7) hc dRow_withoutCase_7 (by decide) ?_
    refine g_icmp_gt (tgt := 19) (pc := 9) hc dRow_withoutCase_9 (by decide) (fun c9 => ?_) (fun c9 => ?_)
    · refine g_iload_n (pc := 19) hc dRow_withoutCase_19 rfl ?_
      simp (disch := omega) only [nI_leI, nI_ltI, nI_eq, nI_eq0, nI_lt0, nI_0le, nI_0lt, nI_le0, zb_0] at c3 c9
      exact g_iret (pc := 20) hc he dRow_withoutCase_20 (Nat.le_refl _) (Nat.le_refl _) ⟨by rw [zlow, if_neg (by omega)], rfl, rfl⟩
    · refine g_iload_n (pc := 12) hc dRow_withoutCase_12 rfl ?_
      refine g_bipush (v := nI 32) (pc := 13) hc dRow_withoutCase_13 (by decide) ?_
      refine g_iadd (pc := 15) hc dRow_withoutCase_15 ?_
      rw [nI_add]
      refine g_goto (tgt := 20) (pc := 16) hc dRow_withoutCase_16 (by decide) ?_
      simp (disch := omega) only [nI_leI, nI_ltI, nI_eq, nI_eq0, nI_lt0, nI_0le, nI_0lt, nI_le0, zb_0] at c3 c9
      exact g_iret (pc := 20) hc he dRow_withoutCase_20 (Nat.le_refl _) (Nat.le_refl _) ⟨by rw [zlow, if_pos (by omega)], rfl, rfl⟩
set_option maxHeartbeats 4000000 in
set_option maxRecDepth 100000 in
theorem s_Row_addText (V : mm_V) {q cap : Nat} {L : List Nat} {i : Nat} {mem : mm_M} {nx : Nat} (h : zRow q cap L mem) (hi : i < mm_nS) : mm_S V yRow_addText cRow_addText 3 none 4 0 0 [.ref q, .ref (V.2.2.2.2.1 i)] mem nx (fun r m x => r = none ∧ nx = x ∧ zRow q cap ((L ++ zs i).take cap) m ∧ zsame q (q + 2) mem m) := by
  refine mm_met (by decide) (Nat.le_of_ble_eq_true rfl) ?_
  intro X hc he hnm
  have hk := zs_ok i hi
  have loop : ∀ (w v L1 : List Nat) (mem1 : mm_M), v ++ w = zs i → zRow q cap L1 mem1 → zsame q (q + 2) mem mem1 → (L1 ++ w).take cap = (L ++ zs i).take cap → mm_G V X 3 2 [(0, .ref q), (1, .ref (V.2.2.2.2.1 i)), (2, .int (nI v.length))] [] mem1 nx 0 0 := by
    intro w
    induction w with
    | nil =>
      intro v L1 mem1 e1 h1 hs e2
      have e3 : v.length = (zs i).length := by rw [← e1]; simp
      refine g_iload_n (pc := 2) hc dRow_addText_2 rfl ?_
      refine g_aload_n (pc := 3) hc dRow_addText_3 rfl ?_
      refine g_callT (pc := 4) hc dRow_addText_4 x_Row_23 (s_Str_length V hi) hi (Nat.le_of_ble_eq_true rfl) (Nat.le_of_ble_eq_true rfl) (Nat.le_of_ble_eq_true rfl) (Nat.le_of_ble_eq_true rfl) rfl rfl (Nat.le_of_ble_eq_true rfl) (fun r m x hp => ?_)
      obtain ⟨rfl, rfl, rfl⟩ := hp
      refine g_icmp_ge (tgt := 25) (pc := 7) hc dRow_addText_7 (by decide) (fun _ => ?_) (fun c7 => absurd (nI_le (by omega) (by omega)) c7)
      exact g_vret (pc := 25) hc he dRow_addText_25 (Nat.le_refl _) (Nat.le_refl _) ⟨rfl, rfl, by rw [← e2, List.append_nil, List.take_of_length_le h1.le.1]; exact h1, hs⟩
    | cons c w ih =>
      intro v L1 mem1 e1 h1 hs e2
      have e3 : v.length < (zs i).length := by rw [← e1]; simp
      have e4 : (zs i).getD v.length 0 = c := by rw [← e1, zgetD_mid]
      have hc8 : c < 128 := hk.2 c (by rw [← e1]; simp)
      refine g_iload_n (pc := 2) hc dRow_addText_2 rfl ?_
      refine g_aload_n (pc := 3) hc dRow_addText_3 rfl ?_
      refine g_callT (pc := 4) hc dRow_addText_4 x_Row_23 (s_Str_length V hi) hi (Nat.le_of_ble_eq_true rfl) (Nat.le_of_ble_eq_true rfl) (Nat.le_of_ble_eq_true rfl) (Nat.le_of_ble_eq_true rfl) rfl rfl (Nat.le_of_ble_eq_true rfl) (fun r m x hp => ?_)
      obtain ⟨rfl, rfl, rfl⟩ := hp
      refine g_icmp_ge (tgt := 25) (pc := 7) hc dRow_addText_7 (by decide) (fun c7 => absurd c7 (nI_ge (by omega) (by omega))) (fun _ => ?_)
      refine g_aload_n (pc := 10) hc dRow_addText_10 rfl ?_
      refine g_aload_n (pc := 11) hc dRow_addText_11 rfl ?_
      refine g_iload_n (pc := 12) hc dRow_addText_12 rfl ?_
      refine g_callT (pc := 13) hc dRow_addText_13 x_Row_28 (s_Str_charAt V hi e3) hi (Nat.le_of_ble_eq_true rfl) (Nat.le_of_ble_eq_true rfl) (Nat.le_of_ble_eq_true rfl) (Nat.le_of_ble_eq_true rfl) rfl rfl (Nat.le_of_ble_eq_true rfl) (fun r m x hp => ?_)
      obtain ⟨rfl, rfl, rfl⟩ := hp
      rw [e4]
      refine g_callV (pc := 16) hc dRow_addText_16 x_Row_32 (s_Row_add V h1 (show c < 256 by omega)) cl_Row (h1.obj) (Nat.le_of_ble_eq_true rfl) (Nat.le_of_ble_eq_true rfl) (Nat.le_of_ble_eq_true rfl) (Nat.le_of_ble_eq_true rfl) rfl rfl (Nat.le_of_ble_eq_true rfl) (fun r m x hp => ?_)
      obtain ⟨rfl, rfl, h2, hs2⟩ := hp
      refine g_iinc (pc := 19) hc dRow_addText_19 rfl (zinc _) (by decide) rfl ?_
      refine g_goto (tgt := 2) (pc := 22) hc dRow_addText_22 (by decide) ?_
      refine g_lv (lv' := [(0, .ref q), (1, .ref (V.2.2.2.2.1 i)), (2, .int (nI (v ++ [c]).length))]) (by rw [List.length_append]; exact ⟨rfl, rfl, rfl, trivial⟩) ?_
      exact ih (v ++ [c]) _ _ (by rw [← e1]; simp) h2 (hs.tr hs2) (by rw [ztake_take, ← e2]; simp)
  refine g_iconst (v := nI 0) (pc := 0) hc dRow_addText_0 (by decide) ?_
  refine g_istore_n (pc := 1) hc dRow_addText_1 (by decide) rfl ?_
  refine g_lv (lv' := [(0, .ref q), (1, .ref (V.2.2.2.2.1 i)), (2, .int (nI ([] : List Nat).length))]) ⟨rfl, rfl, rfl, trivial⟩ ?_
  exact loop (zs i) [] L mem rfl h zsame.rf rfl
theorem zdrop_cons {L : List Nat} {a : Nat} (h : a < L.length) : L.drop a = L.getD a 0 :: L.drop (a + 1) := by
  rw [List.drop_eq_getElem_cons h, List.getD_eq_getElem?_getD, List.getElem?_eq_getElem h]
  rfl
set_option maxHeartbeats 4000000 in
set_option maxRecDepth 100000 in
theorem s_Row_addPart (V : mm_V) {q cap : Nat} {L : List Nat} {q2 cap2 : Nat} {L2 : List Nat} {fr to : Nat} {mem : mm_M} {nx : Nat} (h : zRow q cap L mem) (h2 : zRow q2 cap2 L2 mem) (hd : q2 + 2 ≤ q ∨ q + 2 ≤ q2) (hto : to ≤ L2.length) (hfr : fr < 65536) : mm_S V yRow_addPart cRow_addPart 5 none 1 0 0 [.ref q, .ref q2, .int (nI fr), .int (nI to)] mem nx (fun r m x => r = none ∧ nx = x ∧ zRow q cap ((L ++ (L2.drop fr).take (to - fr)).take cap) m ∧ zsame q (q + 2) mem m) := by
  refine mm_met (by decide) (Nat.le_of_ble_eq_true rfl) ?_
  intro X hc he hnm
  have hb2 := h2.le
  have loop : ∀ (n a : Nat) (L1 : List Nat) (mem1 : mm_M), a < 65536 → to - a = n → zRow q cap L1 mem1 → zsame q (q + 2) mem mem1 → (L1 ++ (L2.drop a).take (to - a)).take cap = (L ++ (L2.drop fr).take (to - fr)).take cap → mm_G V X 5 3 [(0, .ref q), (1, .ref q2), (3, .int (nI to)), (4, .int (nI a))] [] mem1 nx 0 0 := by
    intro n
    induction n with
    | zero =>
      intro a L1 mem1 ha e1 h1 hs e2
      refine g_iload (pc := 3) hc dRow_addPart_3 rfl ?_
      refine g_iload_n (pc := 5) hc dRow_addPart_5 rfl ?_
      refine g_icmp_ge (tgt := 25) (pc := 6) hc dRow_addPart_6 (by decide) (fun _ => ?_) (fun c6 => absurd (nI_le (by omega) (by omega)) c6)
      exact g_vret (pc := 25) hc he dRow_addPart_25 (Nat.le_refl _) (Nat.le_refl _) ⟨rfl, rfl, by rw [← e2, e1, List.take_zero, List.append_nil, List.take_of_length_le h1.le.1]; exact h1, hs⟩
    | succ n ih =>
      intro a L1 mem1 ha e1 h1 hs e2
      have h3 := h2.off hs (by omega)
      refine g_iload (pc := 3) hc dRow_addPart_3 rfl ?_
      refine g_iload_n (pc := 5) hc dRow_addPart_5 rfl ?_
      refine g_icmp_ge (tgt := 25) (pc := 6) hc dRow_addPart_6 (by decide) (fun c6 => absurd c6 (nI_ge (by omega) (by omega))) (fun _ => ?_)
      refine g_aload_n (pc := 9) hc dRow_addPart_9 rfl ?_
      refine g_aload_n (pc := 10) hc dRow_addPart_10 rfl ?_
      refine g_iload (pc := 11) hc dRow_addPart_11 rfl ?_
      refine g_callV (pc := 13) hc dRow_addPart_13 x_Row_36 (s_Row_at V (nI a) h3) cl_Row (h3.obj) (Nat.le_of_ble_eq_true rfl) (Nat.le_of_ble_eq_true rfl) (Nat.le_of_ble_eq_true rfl) (Nat.le_of_ble_eq_true rfl) rfl rfl (Nat.le_of_ble_eq_true rfl) (fun r m x hp => ?_)
      obtain ⟨rfl, rfl, rfl⟩ := hp
      rw [zatI_nI (by omega)]
      refine g_callV (pc := 16) hc dRow_addPart_16 x_Row_32 (s_Row_add V h1 (h3.dlt a)) cl_Row (h1.obj) (Nat.le_of_ble_eq_true rfl) (Nat.le_of_ble_eq_true rfl) (Nat.le_of_ble_eq_true rfl) (Nat.le_of_ble_eq_true rfl) rfl rfl (Nat.le_of_ble_eq_true rfl) (fun r m x hp => ?_)
      obtain ⟨rfl, rfl, h4, hs2⟩ := hp
      refine g_iinc (pc := 19) hc dRow_addPart_19 rfl (zinc _) (by decide) rfl ?_
      refine g_goto (tgt := 3) (pc := 22) hc dRow_addPart_22 (by decide) ?_
      refine g_lv (lv' := [(0, .ref q), (1, .ref q2), (3, .int (nI to)), (4, .int (nI (a + 1)))]) ⟨rfl, rfl, rfl, rfl, trivial⟩ ?_
      exact ih (a + 1) _ _ (by omega) (by omega) h4 (hs.tr hs2) (by rw [ztake_take, ← e2, zdrop_cons (show a < L2.length by omega), show to - a = (to - (a + 1)) + 1 by omega, List.take_succ_cons]; simp)
  refine g_iload_n (pc := 0) hc dRow_addPart_0 rfl ?_
  refine g_istore (pc := 1) hc dRow_addPart_1 (by decide) rfl ?_
  refine g_lv (lv' := [(0, .ref q), (1, .ref q2), (3, .int (nI to)), (4, .int (nI fr))]) ⟨rfl, rfl, rfl, rfl, trivial⟩ ?_
  exact loop _ fr L mem hfr rfl h zsame.rf rfl
set_option maxHeartbeats 4000000 in
set_option maxRecDepth 100000 in
theorem s_Row_dropFirst (V : mm_V) {q cap : Nat} {L : List Nat} {k : Nat} {mem : mm_M} {nx : Nat} (h : zRow q cap L mem) (hk : k ≤ L.length) : mm_S V yRow_dropFirst cRow_dropFirst 2 none 1 0 0 [.ref q, .int (nI k)] mem nx (fun r m x => r = none ∧ nx = x ∧ zRow q cap (L.drop k) m ∧ zsame q (q + 2) mem m) := by
  obtain ⟨f, hq, ha, hL, hcap, hf, hB⟩ := id h
  refine mm_met (by decide) (Nat.le_of_ble_eq_true rfl) ?_
  intro X hc he hnm
  refine g_iload_n (pc := 0) hc dRow_dropFirst_0 rfl ?_
  refine g_if_le (tgt := 41) (pc := 1) hc dRow_dropFirst_1 (by decide) (fun c1 => ?_) (fun c1 => ?_)
  · simp (disch := omega) only [nI_leI, nI_ltI, nI_eq, nI_eq0, nI_lt0, nI_0le, nI_0lt, nI_le0, zb_0] at c1
    subst c1
    exact g_vret (pc := 41) hc he dRow_dropFirst_41 (Nat.le_refl _) (Nat.le_refl _) ⟨rfl, rfl, h, zsame.rf⟩
  · refine g_iload_n (pc := 4) hc dRow_dropFirst_4 rfl ?_
    refine g_aload_n (pc := 5) hc dRow_dropFirst_5 rfl ?_
    refine g_get (pc := 6) hc dRow_dropFirst_6 x_Row_19 (by assumption) (by rfl) ?_
    refine g_icmp_gt (tgt := 41) (pc := 9) hc dRow_dropFirst_9 (by decide) (fun c9 => absurd c9 (fun h => by rw [nI_ltI (by omega) (by omega)] at h; omega)) (fun _ => ?_)
    refine g_aload_n (pc := 12) hc dRow_dropFirst_12 rfl ?_
    refine g_get (pc := 13) hc dRow_dropFirst_13 x_Row_13 (by assumption) (by rfl) ?_
    refine g_iload_n (pc := 16) hc dRow_dropFirst_16 rfl ?_
    refine g_aload_n (pc := 17) hc dRow_dropFirst_17 rfl ?_
    refine g_get (pc := 18) hc dRow_dropFirst_18 x_Row_13 (by assumption) (by rfl) ?_
    refine g_iconst (v := nI 0) (pc := 21) hc dRow_dropFirst_21 (by decide) ?_
    refine g_aload_n (pc := 22) hc dRow_dropFirst_22 rfl ?_
    refine g_get (pc := 23) hc dRow_dropFirst_23 x_Row_19 (by assumption) (by rfl) ?_
    refine g_iload_n (pc := 26) hc dRow_dropFirst_26 rfl ?_
    refine g_isub (pc := 27) hc dRow_dropFirst_27 ?_
    rw [pk_sub hk]
    refine g_copyb (pc := 28) (t0 := kB) (t1 := kB) hc dRow_dropFirst_28 x_Row_40 rfl rfl ha ha (nI_pos (by omega)) (nI_pos (by omega)) (nI_pos (by omega)) (by rw [nI_clamp (by omega), nI_clamp (by omega)]; omega) (by rw [nI_clamp (by omega), nI_clamp (by omega)]; omega) (fun i hi => by rw [nI_clamp (by omega)] at hi ⊢; rw [hf _ (by omega)]; exact sb_fitB _) (by decide) (Nat.le_of_ble_eq_true rfl) (fun m1 h1 o1 => ?_)
    rw [nI_clamp (by omega), nI_clamp (by omega), nI_clamp (by omega)] at h1
    have hq1 := (o1 q (by omega)).trans hq
    refine g_aload_n (pc := 31) hc dRow_dropFirst_31 rfl ?_
    refine g_dup (pc := 32) hc dRow_dropFirst_32 rfl ?_
    refine g_get (pc := 33) hc dRow_dropFirst_33 x_Row_19 hq1 (by rfl) ?_
    refine g_iload_n (pc := 36) hc dRow_dropFirst_36 rfl ?_
    refine g_isub (pc := 37) hc dRow_dropFirst_37 ?_
    refine g_put (pc := 38) hc dRow_dropFirst_38 x_Row_19 ft_Row rfl hq1 rfl rfl (zlt rfl) (fun m2 h3 o2 => ?_)
    refine g_vret (pc := 41) hc he dRow_dropFirst_41 (Nat.le_refl _) (Nat.le_refl _) ⟨rfl, rfl, ⟨_, ?_, (o2 _ (by omega)).trans h1, by simp; omega, hcap, fun j hj => ?_, fun x hx => hB x (List.mem_of_mem_drop hx)⟩, fun a h9 => (o2 a (by omega)).trans (o1 a (by omega))⟩
    · rw [h3]
      simp [pk_sub hk]
    · simp at hj
      rw [pk_cpy_in (by omega) (by omega), hf _ (by omega)]
      simp [List.getD_eq_getElem?_getD]
theorem znegI : ∀ k, k < 8 → nI (2147483648 + k) < 0 := by decide +kernel
theorem zshl8 {w b : Nat} (hw : w < 2 ^ 56) (hb : b < 256) : (lN w <<< ((nI 8).toInt64 &&& 63)) ||| (nI b).toInt64 = lN (w * 256 + b) := by
  rw [wb_shl w (by omega), nI_l (by omega), wb_or (by omega) (by omega)]
  congr 1
  have h := Nat.two_pow_add_eq_or_of_lt (i := 8) (b := b) (by omega) w
  rw [show w * 2 ^ 8 = 2 ^ 8 * w by omega, ← h]
set_option maxHeartbeats 4000000 in
set_option maxRecDepth 100000 in
theorem s_Row_eightFrom (V : mm_V) {q cap : Nat} {L : List Nat} {i : Nat} {mem : mm_M} {nx : Nat} (h : zRow q cap L mem) (hi : i < 2 ^ 31) : mm_S V yRow_eightFrom cRow_eightFrom 5 (some .long) 1 0 0 [.ref q, .int (nI i)] mem nx (fun r m x => r = some (.long (lN (z8 (fun j => L.getD (i + j) 0) 8))) ∧ mem = m ∧ nx = x) := by
  refine mm_met (by decide) (Nat.le_of_ble_eq_true rfl) ?_
  intro X hc he hnm
  have hlt : ∀ j, L.getD (i + j) 0 < 256 := fun j => h.dlt _
  have loop : ∀ (n j : Nat), n + j = 8 → mm_G V X 5 5 [(0, .ref q), (1, .int (nI i)), (2, .long (lN (z8 (fun j => L.getD (i + j) 0) j))), (4, .int (nI (j)))] [] mem nx 0 0 := by
    intro n
    induction n with
    | zero =>
      intro j e1
      refine g_iload (pc := 5) hc dRow_eightFrom_5 rfl ?_
      refine g_bipush (v := nI 8) (pc := 7) hc dRow_eightFrom_7 (by decide) ?_
      refine g_icmp_ge (tgt := 33) (pc := 9) hc dRow_eightFrom_9 (by decide) (fun _ => ?_) (fun c9 => absurd (nI_le (by omega) (by omega)) c9)
      refine g_lload_n (pc := 33) hc dRow_eightFrom_33 rfl ?_
      exact g_lret (pc := 34) hc he dRow_eightFrom_34 (Nat.le_refl _) (Nat.le_refl _) ⟨by rw [show j = 8 by omega], rfl, rfl⟩
    | succ n ih =>
      intro j e1
      have e2 : zatI L (nI i + nI j) = L.getD (i + j) 0 := by
        rw [nI_add]
        rcases Nat.lt_or_ge (i + j) (2 ^ 31) with z | z
        · exact zatI_nI z
        · rw [zgetD_out (by have := h.le; omega)]
          unfold zatI
          rw [if_pos]
          obtain ⟨k, hk, ek⟩ : ∃ k, k < 8 ∧ i + j = 2147483648 + k := ⟨i + j - 2147483648, by omega, by omega⟩
          rw [ek]
          exact znegI k hk
      have e3 := z8_lt hlt j
      have e4 : z8 (fun j => L.getD (i + j) 0) j < 2 ^ 56 := Nat.lt_of_lt_of_le e3 (by
        have : 256 ^ j ≤ 256 ^ 7 := Nat.pow_le_pow_right (by decide) (by omega)
        exact Nat.le_trans this (by decide))
      refine g_iload (pc := 5) hc dRow_eightFrom_5 rfl ?_
      refine g_bipush (v := nI 8) (pc := 7) hc dRow_eightFrom_7 (by decide) ?_
      refine g_icmp_ge (tgt := 33) (pc := 9) hc dRow_eightFrom_9 (by decide) (fun c9 => absurd c9 (nI_ge (by omega) (by omega))) (fun _ => ?_)
      refine g_lload_n (pc := 12) hc dRow_eightFrom_12 rfl ?_
      refine g_bipush (v := nI 8) (pc := 13) hc dRow_eightFrom_13 (by decide) ?_
      refine g_lshl (pc := 15) hc dRow_eightFrom_15 rfl ?_
      refine g_aload_n (pc := 16) hc dRow_eightFrom_16 rfl ?_
      refine g_iload_n (pc := 17) hc dRow_eightFrom_17 rfl ?_
      refine g_iload (pc := 18) hc dRow_eightFrom_18 rfl ?_
      refine g_iadd (pc := 20) hc dRow_eightFrom_20 ?_
      refine g_callV (pc := 21) hc dRow_eightFrom_21 x_Row_36 (s_Row_at V (nI i + nI j) h) cl_Row (h.obj) (Nat.le_of_ble_eq_true rfl) (Nat.le_of_ble_eq_true rfl) (Nat.le_of_ble_eq_true rfl) (Nat.le_of_ble_eq_true rfl) rfl rfl (Nat.le_of_ble_eq_true rfl) (fun r m x hp => ?_)
      obtain ⟨rfl, rfl, rfl⟩ := hp
      rw [e2]
      refine g_i2l (pc := 24) hc dRow_eightFrom_24 rfl ?_
      refine g_lor (pc := 25) hc dRow_eightFrom_25 ?_
      rw [zshl8 e4 (hlt j)]
      refine g_lstore_n (pc := 26) hc dRow_eightFrom_26 (by decide) rfl ?_
      refine g_iinc (pc := 27) hc dRow_eightFrom_27 rfl (zinc _) (by decide) rfl ?_
      refine g_goto (tgt := 5) (pc := 30) hc dRow_eightFrom_30 (by decide) ?_
      refine g_lv (lv' := [(0, .ref q), (1, .int (nI i)), (2, .long (lN (z8 (fun j => L.getD (i + j) 0) (j + 1)))), (4, .int (nI (j + 1)))]) ⟨rfl, rfl, rfl, rfl, trivial⟩ ?_
      exact ih (j + 1) (by omega)
  refine g_lconst (v := lN 0) (pc := 0) hc dRow_eightFrom_0 (by decide) ?_
  refine g_lstore_n (pc := 1) hc dRow_eightFrom_1 (by decide) rfl ?_
  refine g_iconst (v := nI 0) (pc := 2) hc dRow_eightFrom_2 (by decide) ?_
  refine g_istore (pc := 3) hc dRow_eightFrom_3 (by decide) rfl ?_
  refine g_lv (lv' := [(0, .ref q), (1, .int (nI i)), (2, .long (lN (z8 (fun j => L.getD (i + j) 0) 0))), (4, .int (nI (0)))]) ⟨rfl, rfl, rfl, rfl, trivial⟩ ?_
  exact loop 8 0 rfl
set_option maxHeartbeats 4000000 in
set_option maxRecDepth 100000 in
theorem s_Row_hasWord (V : mm_V) {q cap : Nat} {L : List Nat} {a i : Nat} {mem : mm_M} {nx : Nat} (h : zRow q cap L mem) (ha : a < 65536) (hi : i < mm_nS) : mm_S V yRow_hasWord cRow_hasWord 4 (some .boolean) 4 0 0 [.ref q, .int (nI a), .ref (V.2.2.2.2.1 i)] mem nx (fun r m x => r = some (.int (zb (zhw L a (zs i)))) ∧ mem = m ∧ nx = x) := by
  refine mm_met (by decide) (Nat.le_of_ble_eq_true rfl) ?_
  intro X hc he hnm
  have hk := zs_ok i hi
  have loop : ∀ (w v : List Nat), v ++ w = zs i → zhw L (a + v.length) w = zhw L a (zs i) → mm_G V X 4 2 [(0, .ref q), (1, .int (nI a)), (2, .ref (V.2.2.2.2.1 i)), (3, .int (nI v.length))] [] mem nx 0 0 := by
    intro w
    induction w with
    | nil =>
      intro v e1 e2
      have e3 : v.length = (zs i).length := by rw [← e1]; simp
      refine g_iload_n (pc := 2) hc dRow_hasWord_2 rfl ?_
      refine g_aload_n (pc := 3) hc dRow_hasWord_3 rfl ?_
      refine g_callT (pc := 4) hc dRow_hasWord_4 x_Row_23 (s_Str_length V hi) hi (Nat.le_of_ble_eq_true rfl) (Nat.le_of_ble_eq_true rfl) (Nat.le_of_ble_eq_true rfl) (Nat.le_of_ble_eq_true rfl) rfl rfl (Nat.le_of_ble_eq_true rfl) (fun r m x hp => ?_)
      obtain ⟨rfl, rfl, rfl⟩ := hp
      refine g_icmp_ge (tgt := 39) (pc := 7) hc dRow_hasWord_7 (by decide) (fun _ => ?_) (fun c7 => absurd (nI_le (by omega) (by omega)) c7)
      refine g_iconst (v := nI 1) (pc := 39) hc dRow_hasWord_39 (by decide) ?_
      exact g_zret (pc := 40) hc he dRow_hasWord_40 rfl (Nat.le_refl _) (Nat.le_refl _) ⟨by rw [← e2]; rfl, rfl, rfl⟩
    | cons c w ih =>
      intro v e1 e2
      have e3 : v.length < (zs i).length := by rw [← e1]; simp
      have e4 : (zs i).getD v.length 0 = c := by rw [← e1, zgetD_mid]
      have hc8 : c < 128 := hk.2 c (by rw [← e1]; simp)
      have e5 : zlow (L.getD (a + v.length) 0) < 65536 ∧ zlow c < 65536 := by
        have := h.dlt (a + v.length)
        unfold zlow
        constructor <;> split <;> omega
      refine g_iload_n (pc := 2) hc dRow_hasWord_2 rfl ?_
      refine g_aload_n (pc := 3) hc dRow_hasWord_3 rfl ?_
      refine g_callT (pc := 4) hc dRow_hasWord_4 x_Row_23 (s_Str_length V hi) hi (Nat.le_of_ble_eq_true rfl) (Nat.le_of_ble_eq_true rfl) (Nat.le_of_ble_eq_true rfl) (Nat.le_of_ble_eq_true rfl) rfl rfl (Nat.le_of_ble_eq_true rfl) (fun r m x hp => ?_)
      obtain ⟨rfl, rfl, rfl⟩ := hp
      refine g_icmp_ge (tgt := 39) (pc := 7) hc dRow_hasWord_7 (by decide) (fun c7 => absurd c7 (nI_ge (by omega) (by omega))) (fun _ => ?_)
      refine g_aload_n (pc := 10) hc dRow_hasWord_10 rfl ?_
      refine g_iload_n (pc := 11) hc dRow_hasWord_11 rfl ?_
      refine g_iload_n (pc := 12) hc dRow_hasWord_12 rfl ?_
      refine g_iadd (pc := 13) hc dRow_hasWord_13 ?_
      rw [nI_add]
      refine g_callV (pc := 14) hc dRow_hasWord_14 x_Row_36 (s_Row_at V (nI (a + v.length)) h) cl_Row (h.obj) (Nat.le_of_ble_eq_true rfl) (Nat.le_of_ble_eq_true rfl) (Nat.le_of_ble_eq_true rfl) (Nat.le_of_ble_eq_true rfl) rfl rfl (Nat.le_of_ble_eq_true rfl) (fun r m x hp => ?_)
      obtain ⟨rfl, rfl, rfl⟩ := hp
      rw [zatI_nI (by omega)]
      refine g_callS (pc := 17) hc dRow_hasWord_17 x_Row_46 (s_Row_withoutCase V (h.dlt _)) (Nat.le_of_ble_eq_true rfl) (Nat.le_of_ble_eq_true rfl) (Nat.le_of_ble_eq_true rfl) (Nat.le_of_ble_eq_true rfl) rfl rfl (Nat.le_of_ble_eq_true rfl) (fun r m x hp => ?_)
      obtain ⟨rfl, rfl, rfl⟩ := hp
      refine g_aload_n (pc := 20) hc dRow_hasWord_20 rfl ?_
      refine g_iload_n (pc := 21) hc dRow_hasWord_21 rfl ?_
      refine g_callT (pc := 22) hc dRow_hasWord_22 x_Row_28 (s_Str_charAt V hi e3) hi (Nat.le_of_ble_eq_true rfl) (Nat.le_of_ble_eq_true rfl) (Nat.le_of_ble_eq_true rfl) (Nat.le_of_ble_eq_true rfl) rfl rfl (Nat.le_of_ble_eq_true rfl) (fun r m x hp => ?_)
      obtain ⟨rfl, rfl, rfl⟩ := hp
      rw [e4]
      refine g_callS (pc := 25) hc dRow_hasWord_25 x_Row_46 (s_Row_withoutCase V (show c < 256 by omega)) (Nat.le_of_ble_eq_true rfl) (Nat.le_of_ble_eq_true rfl) (Nat.le_of_ble_eq_true rfl) (Nat.le_of_ble_eq_true rfl) rfl rfl (Nat.le_of_ble_eq_true rfl) (fun r m x hp => ?_)
      obtain ⟨rfl, rfl, rfl⟩ := hp
      refine g_icmp_eq (tgt := 33) (pc := 28) hc dRow_hasWord_28 (by decide) (fun c28 => ?_) (fun c28 => ?_)
      · refine g_iinc (pc := 33) hc dRow_hasWord_33 rfl (zinc _) (by decide) rfl ?_
        refine g_goto (tgt := 2) (pc := 36) hc dRow_hasWord_36 (by decide) ?_
        simp (disch := omega) only [nI_leI, nI_ltI, nI_eq, nI_eq0, nI_lt0, nI_0le, nI_0lt, nI_le0, zb_0] at c28
        refine g_lv (lv' := [(0, .ref q), (1, .int (nI a)), (2, .ref (V.2.2.2.2.1 i)), (3, .int (nI (v ++ [c]).length))]) (by rw [List.length_append]; exact ⟨rfl, rfl, rfl, rfl, trivial⟩) ?_
        exact ih (v ++ [c]) (by rw [← e1]; simp) (by rw [← e2, zhw, c28, beq_self_eq_true, Bool.true_and, List.length_append]; rfl)
      · refine g_iconst (v := nI 0) (pc := 31) hc dRow_hasWord_31 (by decide) ?_
        simp (disch := omega) only [nI_leI, nI_ltI, nI_eq, nI_eq0, nI_lt0, nI_0le, nI_0lt, nI_le0, zb_0] at c28
        exact g_zret (pc := 32) hc he dRow_hasWord_32 rfl (Nat.le_refl _) (Nat.le_refl _) ⟨by rw [← e2, zhw, beq_eq_false_iff_ne.mpr c28]; rfl, rfl, rfl⟩
  refine g_iconst (v := nI 0) (pc := 0) hc dRow_hasWord_0 (by decide) ?_
  refine g_istore_n (pc := 1) hc dRow_hasWord_1 (by decide) rfl ?_
  refine g_lv (lv' := [(0, .ref q), (1, .int (nI a)), (2, .ref (V.2.2.2.2.1 i)), (3, .int (nI ([] : List Nat).length))]) ⟨rfl, rfl, rfl, rfl, trivial⟩ ?_
  exact loop (zs i) [] rfl rfl
set_option maxHeartbeats 4000000 in
set_option maxRecDepth 100000 in
theorem s_Row_init (V : mm_V) {q cap : Nat} {mem : mm_M} {nx : Nat} (hq : mem q = some (.inr (kRow, [.null, .int 0]))) (hnx : nx = q + 1) (hcap : cap < 65536) : mm_S V yRow_init cRow_init 2 none 1 1 cap [.ref q, .int (nI cap)] mem nx (fun r m x => r = none ∧ x = q + 2 ∧ zRow q cap [] m ∧ zsame q (q + 2) mem m) := by
  refine mm_met (by decide) (Nat.le_of_ble_eq_true rfl) ?_
  intro X hc he hnm
  refine g_aload_n (pc := 0) hc dRow_init_0 rfl ?_
  refine g_objInit (pc := 1) hc dRow_init_1 x_Row_1 (by decide) (Nat.le_of_ble_eq_true rfl) ?_
  refine g_aload_n (pc := 4) hc dRow_init_4 rfl ?_
  refine g_iload_n (pc := 5) hc dRow_init_5 rfl ?_
  refine g_iconst (v := nI 0) (pc := 6) hc dRow_init_6 (by decide) ?_
  refine g_mmax (pc := 7) hc dRow_init_7 x_Row_7 (by decide) (Nat.zero_le _) (Nat.zero_le _) (Nat.le_of_ble_eq_true rfl) ?_
  rw [show (if nI cap < nI 0 then nI 0 else nI cap) = nI cap from if_neg (nI_pos (by omega))]
  refine g_newb (pc := 10) (t := kB) hc dRow_init_10 rfl xw_arrB (nI_pos (by omega)) (nI_clamp (by omega)) (by omega) (by omega) (by omega) (fun m1 h1 o1 => ?_)
  have hq1 := (o1 q (by omega)).trans hq
  refine g_putF (pc := 12) hc dRow_init_12 hnm x_Row_13 ft_Row rfl rfl hq1 rfl rfl (zlt rfl) (fun m2 h2 o2 => ?_)
  subst hnx
  exact g_vret (pc := 15) hc he dRow_init_15 (by omega) (by omega) ⟨rfl, rfl, ⟨fun _ => 0, h2, (o2 _ (by omega)).trans h1, Nat.zero_le _, hcap, fun j hj => absurd hj (Nat.not_lt_zero j), fun x hx => by cases hx⟩, fun a h9 => (o2 a (by omega)).trans (o1 a (by omega))⟩
