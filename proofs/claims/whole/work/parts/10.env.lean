theorem zrf (a : Nat) : va_rf (some a) = Value.ref a := rfl
/-- the envelope at p: its sender's row p + 1, the row of rows p + 3, the addresses' rows from p + 4 on -/
def zEnv (p : Nat) (S : List Nat) (told : Bool) (Rs : List (List Nat)) (m : mm_M) : Prop := m p = some (.inr (kEnv, [.ref (p + 1), .ref (p + 3), .int (zb told), .int (nI Rs.length)])) ∧ (∃ L0, zRow (p + 1) 100 L0 m ∧ (told = true ∨ 0 < Rs.length → S = L0)) ∧ (∃ g : Nat → Option Nat, m (p + 3) = some (.inl (kRA, 4, .inr (.inr (.inr (.inr g))))) ∧ ∀ i, i < 4 → g i = some (p + 4 + 2 * i)) ∧ Rs.length ≤ 4 ∧ ∀ i, i < 4 → ∃ L, zRow (p + 4 + 2 * i) 100 L m ∧ (i < Rs.length → Rs.getD i [] = L)
theorem zEnv.off {p lo hi : Nat} {S : List Nat} {told : Bool} {Rs : List (List Nat)} {m m' : mm_M} (h : zEnv p S told Rs m) (hs : zsame lo hi m m') (hq : p + 12 ≤ lo ∨ hi ≤ p) : zEnv p S told Rs m' := by
  obtain ⟨h1, ⟨L0, h2, h20⟩, ⟨g, h3, h4⟩, h5, h6⟩ := h
  refine ⟨(hs p (by omega)).trans h1, ⟨L0, h2.off hs (by omega), h20⟩, ⟨g, (hs _ (by omega)).trans h3, h4⟩, h5, fun i hi => ?_⟩
  obtain ⟨L, a, b⟩ := h6 i hi
  exact ⟨L, a.off hs (by omega), b⟩
theorem zEnv.row {p i : Nat} {S : List Nat} {told : Bool} {Rs : List (List Nat)} {m : mm_M} (h : zEnv p S told Rs m) (hi : i < Rs.length) : zRow (p + 4 + 2 * i) 100 (Rs.getD i []) m := by
  obtain ⟨h1, h2, h3, h5, h6⟩ := h
  obtain ⟨L, a, b⟩ := h6 i (by omega)
  rw [b hi]
  exact a
theorem zEnv.sender {p : Nat} {S : List Nat} {told : Bool} {Rs : List (List Nat)} {m : mm_M} (h : zEnv p S told Rs m) (hi : 0 < Rs.length) : zRow (p + 1) 100 S m := by
  obtain ⟨h1, ⟨L0, h2, h20⟩, h3, h5, h6⟩ := h
  rw [h20 (Or.inr hi)]
  exact h2
set_option maxHeartbeats 4000000 in
set_option maxRecDepth 100000 in
theorem s_Env_clear (V : mm_V) {p : Nat} {S : List Nat} {told : Bool} {Rs : List (List Nat)} {mem : mm_M} {nx : Nat} (h : zEnv p S told Rs mem) : mm_S V yEnv_clear cEnv_clear 1 none 1 0 0 [.ref p] mem nx (fun r m x => r = none ∧ nx = x ∧ zEnv p [] false [] m ∧ zsame p (p + 12) mem m) := by
  obtain ⟨hm, ⟨S0, hS, hS0⟩, ⟨g, hg, hg4⟩, hle, hR⟩ := id h
  refine mm_met (by decide) (Nat.le_of_ble_eq_true rfl) ?_
  intro X hc he hnm
  refine g_aload_n (pc := 0) hc dEnv_clear_0 rfl ?_
  refine g_iconst (v := nI 0) (pc := 1) hc dEnv_clear_1 (by decide) ?_
  refine g_put (pc := 2) hc dEnv_clear_2 x_Env_24 ft_Env rfl hm rfl rfl (zlt rfl) (fun m2 h2 o2 => ?_)
  refine g_aload_n (pc := 5) hc dEnv_clear_5 rfl ?_
  refine g_iconst (v := nI 0) (pc := 6) hc dEnv_clear_6 (by decide) ?_
  refine g_put (pc := 7) hc dEnv_clear_7 x_Env_28 ft_Env rfl h2 rfl rfl (zlt rfl) (fun m3 h3 o3 => ?_)
  refine g_vret (pc := 10) hc he dEnv_clear_10 (Nat.le_refl _) (Nat.le_refl _) ⟨rfl, rfl, ⟨h3, ⟨S0, hS.kept ((o3 _ (by omega)).trans (o2 _ (by omega))) ((o3 _ (by omega)).trans (o2 _ (by omega))), fun h => by simp at h⟩, ⟨g, (o3 _ (by omega)).trans ((o2 _ (by omega)).trans hg), hg4⟩, by simp, fun i hi => ?_⟩, fun a h9 => (o3 a (by omega)).trans (o2 a (by omega))⟩
  obtain ⟨L, a, b⟩ := hR i hi
  refine ⟨L, a.kept ((o3 _ (by omega)).trans (o2 _ (by omega))) ((o3 _ (by omega)).trans (o2 _ (by omega))), fun h => absurd h (by simp)⟩
set_option maxHeartbeats 4000000 in
set_option maxRecDepth 100000 in
theorem s_Env_hasSender (V : mm_V) {p : Nat} {S : List Nat} {told : Bool} {Rs : List (List Nat)} {mem : mm_M} {nx : Nat} (h : zEnv p S told Rs mem) : mm_S V yEnv_hasSender cEnv_hasSender 1 (some .boolean) 0 0 0 [.ref p] mem nx (fun r m x => r = some (.int (zb told)) ∧ mem = m ∧ nx = x) := by
  obtain ⟨hm, ⟨S0, hS, hS0⟩, ⟨g, hg, hg4⟩, hle, hR⟩ := id h
  refine mm_met (by decide) (Nat.le_of_ble_eq_true rfl) ?_
  intro X hc he hnm
  refine g_aload_n (pc := 0) hc dEnv_hasSender_0 rfl ?_
  refine g_get (pc := 1) hc dEnv_hasSender_1 x_Env_24 (by assumption) (by rfl) ?_
  exact g_zret (pc := 4) hc he dEnv_hasSender_4 (zb_z _) (Nat.le_refl _) (Nat.le_refl _) ⟨rfl, rfl, rfl⟩
set_option maxHeartbeats 4000000 in
set_option maxRecDepth 100000 in
theorem s_Env_sender (V : mm_V) {p : Nat} {S : List Nat} {told : Bool} {Rs : List (List Nat)} {mem : mm_M} {nx : Nat} (h : zEnv p S told Rs mem) : mm_S V yEnv_sender cEnv_sender 1 (some (.object "MailLines$Row")) 0 0 0 [.ref p] mem nx (fun r m x => r = some (.ref (p + 1)) ∧ mem = m ∧ nx = x) := by
  obtain ⟨hm, ⟨S0, hS, hS0⟩, ⟨g, hg, hg4⟩, hle, hR⟩ := id h
  refine mm_met (by decide) (Nat.le_of_ble_eq_true rfl) ?_
  intro X hc he hnm
  refine g_aload_n (pc := 0) hc dEnv_sender_0 rfl ?_
  refine g_get (pc := 1) hc dEnv_sender_1 x_Env_14 (by assumption) (by rfl) ?_
  exact g_aret (pc := 4) hc he dEnv_sender_4 (Or.inr ⟨_, rfl⟩) (Nat.le_refl _) (Nat.le_refl _) ⟨rfl, rfl, rfl⟩
set_option maxHeartbeats 4000000 in
set_option maxRecDepth 100000 in
theorem s_Env_recipients (V : mm_V) {p : Nat} {S : List Nat} {told : Bool} {Rs : List (List Nat)} {mem : mm_M} {nx : Nat} (h : zEnv p S told Rs mem) : mm_S V yEnv_recipients cEnv_recipients 1 (some .int) 0 0 0 [.ref p] mem nx (fun r m x => r = some (.int (nI Rs.length)) ∧ mem = m ∧ nx = x) := by
  obtain ⟨hm, ⟨S0, hS, hS0⟩, ⟨g, hg, hg4⟩, hle, hR⟩ := id h
  refine mm_met (by decide) (Nat.le_of_ble_eq_true rfl) ?_
  intro X hc he hnm
  refine g_aload_n (pc := 0) hc dEnv_recipients_0 rfl ?_
  refine g_get (pc := 1) hc dEnv_recipients_1 x_Env_28 (by assumption) (by rfl) ?_
  exact g_iret (pc := 4) hc he dEnv_recipients_4 (Nat.le_refl _) (Nat.le_refl _) ⟨rfl, rfl, rfl⟩
set_option maxHeartbeats 4000000 in
set_option maxRecDepth 100000 in
theorem s_Env_setSender (V : mm_V) {p : Nat} {S : List Nat} {told : Bool} {Rs : List (List Nat)} {q cap fr to : Nat} {L : List Nat} {mem : mm_M} {nx : Nat} (h : zEnv p S told Rs mem) (hq : zRow q cap L mem) (hd : q + 2 ≤ p) (hto : to ≤ L.length) (hfr : fr < 65536) (hl : to - fr ≤ 100) : mm_S V yEnv_setSender cEnv_setSender 4 none 2 0 0 [.ref p, .ref q, .int (nI fr), .int (nI to)] mem nx (fun r m x => r = none ∧ nx = x ∧ zEnv p ((L.drop fr).take (to - fr)) true Rs m ∧ zsame p (p + 12) mem m) := by
  obtain ⟨hm, ⟨S0, hS, hS0⟩, ⟨g, hg, hg4⟩, hle, hR⟩ := id h
  refine mm_met (by decide) (Nat.le_of_ble_eq_true rfl) ?_
  intro X hc he hnm
  refine g_aload_n (pc := 0) hc dEnv_setSender_0 rfl ?_
  refine g_get (pc := 1) hc dEnv_setSender_1 x_Env_14 (by assumption) (by rfl) ?_
  refine g_callV (pc := 4) hc dEnv_setSender_4 x_Env_32 (s_Row_clear V hS) cl_Row (hS.obj) (Nat.le_of_ble_eq_true rfl) (Nat.le_of_ble_eq_true rfl) (Nat.le_of_ble_eq_true rfl) (Nat.le_of_ble_eq_true rfl) rfl rfl (Nat.le_of_ble_eq_true rfl) (fun r m x hp => ?_)
  obtain ⟨rfl, rfl, hr1, hs1⟩ := hp
  have hm1 := (hs1 p (by omega)).trans hm
  have hq1 := hq.off hs1 (by omega)
  refine g_aload_n (pc := 7) hc dEnv_setSender_7 rfl ?_
  refine g_get (pc := 8) hc dEnv_setSender_8 x_Env_14 (by assumption) (by rfl) ?_
  refine g_aload_n (pc := 11) hc dEnv_setSender_11 rfl ?_
  refine g_iload_n (pc := 12) hc dEnv_setSender_12 rfl ?_
  refine g_iload_n (pc := 13) hc dEnv_setSender_13 rfl ?_
  refine g_callV (pc := 14) hc dEnv_setSender_14 x_Env_35 (s_Row_addPart V hr1 hq1 (by omega) hto hfr) cl_Row (hr1.obj) (Nat.le_of_ble_eq_true rfl) (Nat.le_of_ble_eq_true rfl) (Nat.le_of_ble_eq_true rfl) (Nat.le_of_ble_eq_true rfl) rfl rfl (Nat.le_of_ble_eq_true rfl) (fun r m x hp => ?_)
  obtain ⟨rfl, rfl, hr2, hs2⟩ := hp
  have hm2 := (hs2 p (by omega)).trans hm1
  rw [List.nil_append, List.take_of_length_le (by simp; omega)] at hr2
  refine g_aload_n (pc := 17) hc dEnv_setSender_17 rfl ?_
  refine g_iconst (v := nI 1) (pc := 18) hc dEnv_setSender_18 (by decide) ?_
  refine g_put (pc := 19) hc dEnv_setSender_19 x_Env_24 ft_Env rfl hm2 rfl rfl (zlt rfl) (fun m3 h3 o3 => ?_)
  refine g_vret (pc := 22) hc he dEnv_setSender_22 (Nat.le_refl _) (Nat.le_refl _) ⟨rfl, rfl, ⟨h3, ⟨_, hr2.kept (o3 _ (by omega)) (o3 _ (by omega)), fun _ => rfl⟩, ⟨g, (o3 _ (by omega)).trans ((hs2 _ (by omega)).trans ((hs1 _ (by omega)).trans hg)), hg4⟩, hle, fun i hi => ?_⟩, fun a h9 => (o3 a (by omega)).trans ((hs2 a (by omega)).trans (hs1 a (by omega)))⟩
  obtain ⟨L, a, b⟩ := hR i hi
  refine ⟨L, ((a.off hs1 (by omega)).off hs2 (by omega)).kept (o3 _ (by omega)) (o3 _ (by omega)), b⟩
set_option maxHeartbeats 4000000 in
set_option maxRecDepth 100000 in
theorem s_Env_recipientOrNull (V : mm_V) {p : Nat} {S : List Nat} {told : Bool} {Rs : List (List Nat)} {i : Nat} {mem : mm_M} {nx : Nat} (h : zEnv p S told Rs mem) (hi : i < 65536) : mm_S V yEnv_recipientOrNull cEnv_recipientOrNull 2 (some (.object "MailLines$Row")) 0 0 0 [.ref p, .int (nI i)] mem nx (fun r m x => r = some (if i < Rs.length then .ref (p + 4 + 2 * i) else .null) ∧ mem = m ∧ nx = x) := by
  obtain ⟨hm, ⟨S0, hS, hS0⟩, ⟨g, hg, hg4⟩, hle, hR⟩ := id h
  refine mm_met (by decide) (Nat.le_of_ble_eq_true rfl) ?_
  intro X hc he hnm
  refine g_iload_n (pc := 0) hc dEnv_recipientOrNull_0 rfl ?_
  refine g_if_lt (tgt := 30) (pc := 1) hc dEnv_recipientOrNull_1 (by decide) (fun c1 => absurd c1 (nI_pos (by omega))) (fun _ => ?_)
  refine g_iload_n (pc := 4) hc dEnv_recipientOrNull_4 rfl ?_
  refine g_aload_n (pc := 5) hc dEnv_recipientOrNull_5 rfl ?_
  refine g_get (pc := 6) hc dEnv_recipientOrNull_6 x_Env_28 (by assumption) (by rfl) ?_
  refine g_icmp_ge (tgt := 30) (pc := 9) hc dEnv_recipientOrNull_9 (by decide) (fun c9 => ?_) (fun c9 => ?_)
  · refine g_null (pc := 30) hc dEnv_recipientOrNull_30 ?_
    simp (disch := omega) only [nI_leI, nI_ltI, nI_eq, nI_eq0, nI_lt0, nI_0le, nI_0lt, nI_le0, zb_0] at c9
    exact g_aret (pc := 31) hc he dEnv_recipientOrNull_31 (Or.inl rfl) (Nat.le_refl _) (Nat.le_refl _) ⟨by rw [if_neg (by omega)], rfl, rfl⟩
  · refine g_iload_n (pc := 12) hc dEnv_recipientOrNull_12 rfl ?_
    refine g_aload_n (pc := 13) hc dEnv_recipientOrNull_13 rfl ?_
    refine g_get (pc := 14) hc dEnv_recipientOrNull_14 x_Env_20 (by assumption) (by rfl) ?_
    refine g_alen (pc := 17) (t := kRA) (v := nI 4) hc dEnv_recipientOrNull_17 rfl hg rfl ?_
    refine g_icmp_ge (tgt := 30) (pc := 18) hc dEnv_recipientOrNull_18 (by decide) (fun c18 => absurd c18 (fun h => by rw [nI_leI (by omega) (by omega)] at c9 h; omega)) (fun _ => ?_)
    refine g_aload_n (pc := 21) hc dEnv_recipientOrNull_21 rfl ?_
    refine g_get (pc := 22) hc dEnv_recipientOrNull_22 x_Env_20 (by assumption) (by rfl) ?_
    refine g_iload_n (pc := 25) hc dEnv_recipientOrNull_25 rfl ?_
    simp (disch := omega) only [nI_leI, nI_ltI, nI_eq, nI_eq0, nI_lt0, nI_0le, nI_0lt, nI_le0, zb_0] at c9
    refine g_aald (pc := 26) (t := kRA) hc dEnv_recipientOrNull_26 rfl hg (vp_in_nI (by omega) (by omega)) ?_
    rw [nI_clamp (by omega), hg4 i (by omega), zrf]
    refine g_goto (tgt := 31) (pc := 27) hc dEnv_recipientOrNull_27 (by decide) ?_
    exact g_aret (pc := 31) hc he dEnv_recipientOrNull_31 (Or.inr ⟨_, rfl⟩) (Nat.le_refl _) (Nat.le_refl _) ⟨by rw [if_pos (by omega)], rfl, rfl⟩
theorem zgetD_app {α : Type} (l : List α) (x d : α) (i : Nat) : (l ++ [x]).getD i d = if i < l.length then l.getD i d else if i = l.length then x else d := by
  simp only [List.getD_eq_getElem?_getD]
  by_cases h : i < l.length
  · rw [if_pos h, List.getElem?_append_left h]
  · rw [if_neg h]
    by_cases e : i = l.length
    · subst e; simp
    · rw [if_neg e, List.getElem?_eq_none (by simp; omega)]; rfl
set_option maxHeartbeats 4000000 in
set_option maxRecDepth 100000 in
theorem s_Env_addRecipient (V : mm_V) {p : Nat} {S : List Nat} {told : Bool} {Rs : List (List Nat)} {q cap fr to : Nat} {L : List Nat} {mem : mm_M} {nx : Nat} (h : zEnv p S told Rs mem) (hq : zRow q cap L mem) (hd : q + 2 ≤ p) (hto : to ≤ L.length) (hfr : fr < 65536) (hl : to - fr ≤ 100) (h4 : Rs.length < 4) (htold : told = true) : mm_S V yEnv_addRecipient cEnv_addRecipient 5 none 2 0 0 [.ref p, .ref q, .int (nI fr), .int (nI to)] mem nx (fun r m x => r = none ∧ nx = x ∧ zEnv p S told (Rs ++ [(L.drop fr).take (to - fr)]) m ∧ zsame p (p + 12) mem m) := by
  obtain ⟨hm, ⟨S0, hS, hS0⟩, ⟨g, hg, hg4⟩, hle, hR⟩ := id h
  refine mm_met (by decide) (Nat.le_of_ble_eq_true rfl) ?_
  intro X hc he hnm
  obtain ⟨L0, hr0, -⟩ := hR Rs.length h4
  refine g_aload_n (pc := 0) hc dEnv_addRecipient_0 rfl ?_
  refine g_get (pc := 1) hc dEnv_addRecipient_1 x_Env_28 (by assumption) (by rfl) ?_
  refine g_aload_n (pc := 4) hc dEnv_addRecipient_4 rfl ?_
  refine g_get (pc := 5) hc dEnv_addRecipient_5 x_Env_20 (by assumption) (by rfl) ?_
  refine g_alen (pc := 8) (t := kRA) (v := nI 4) hc dEnv_addRecipient_8 rfl hg rfl ?_
  refine g_icmp_ge (tgt := 46) (pc := 9) hc dEnv_addRecipient_9 (by decide) (fun c9 => absurd c9 (nI_ge (by omega) (by omega))) (fun _ => ?_)
  refine g_aload_n (pc := 12) hc dEnv_addRecipient_12 rfl ?_
  refine g_get (pc := 13) hc dEnv_addRecipient_13 x_Env_20 (by assumption) (by rfl) ?_
  refine g_aload_n (pc := 16) hc dEnv_addRecipient_16 rfl ?_
  refine g_get (pc := 17) hc dEnv_addRecipient_17 x_Env_28 (by assumption) (by rfl) ?_
  refine g_aald (pc := 20) (t := kRA) hc dEnv_addRecipient_20 rfl hg (vp_in_nI (by omega) (by omega)) ?_
  rw [nI_clamp (by omega), hg4 _ h4, zrf]
  refine g_astore (pc := 21) hc dEnv_addRecipient_21 (by decide) rfl ?_
  refine g_aload (pc := 23) hc dEnv_addRecipient_23 rfl ?_
  refine g_callV (pc := 25) hc dEnv_addRecipient_25 x_Env_32 (s_Row_clear V hr0) cl_Row (hr0.obj) (Nat.le_of_ble_eq_true rfl) (Nat.le_of_ble_eq_true rfl) (Nat.le_of_ble_eq_true rfl) (Nat.le_of_ble_eq_true rfl) rfl rfl (Nat.le_of_ble_eq_true rfl) (fun r m x hp => ?_)
  obtain ⟨rfl, rfl, hr1, hs1⟩ := hp
  have hm1 := (hs1 p (by omega)).trans hm
  have hq1 := hq.off hs1 (by omega)
  refine g_aload (pc := 28) hc dEnv_addRecipient_28 rfl ?_
  refine g_aload_n (pc := 30) hc dEnv_addRecipient_30 rfl ?_
  refine g_iload_n (pc := 31) hc dEnv_addRecipient_31 rfl ?_
  refine g_iload_n (pc := 32) hc dEnv_addRecipient_32 rfl ?_
  refine g_callV (pc := 33) hc dEnv_addRecipient_33 x_Env_35 (s_Row_addPart V hr1 hq1 (by omega) hto hfr) cl_Row (hr1.obj) (Nat.le_of_ble_eq_true rfl) (Nat.le_of_ble_eq_true rfl) (Nat.le_of_ble_eq_true rfl) (Nat.le_of_ble_eq_true rfl) rfl rfl (Nat.le_of_ble_eq_true rfl) (fun r m x hp => ?_)
  obtain ⟨rfl, rfl, hr2, hs2⟩ := hp
  have hm2 := (hs2 p (by omega)).trans hm1
  rw [List.nil_append, List.take_of_length_le (by simp; omega)] at hr2
  refine g_aload_n (pc := 36) hc dEnv_addRecipient_36 rfl ?_
  refine g_dup (pc := 37) hc dEnv_addRecipient_37 rfl ?_
  refine g_get (pc := 38) hc dEnv_addRecipient_38 x_Env_28 hm2 (by rfl) ?_
  refine g_iconst (v := nI 1) (pc := 41) hc dEnv_addRecipient_41 (by decide) ?_
  refine g_iadd (pc := 42) hc dEnv_addRecipient_42 ?_
  rw [nI_add]
  refine g_put (pc := 43) hc dEnv_addRecipient_43 x_Env_28 ft_Env rfl hm2 rfl rfl (zlt rfl) (fun m3 h3 o3 => ?_)
  refine g_vret (pc := 46) hc he dEnv_addRecipient_46 (Nat.le_refl _) (Nat.le_refl _) ⟨rfl, rfl, ⟨?_, ⟨S0, ((hS.off hs1 (by omega)).off hs2 (by omega)).kept (o3 _ (by omega)) (o3 _ (by omega)), fun _ => hS0 (Or.inl htold)⟩, ⟨g, (o3 _ (by omega)).trans ((hs2 _ (by omega)).trans ((hs1 _ (by omega)).trans hg)), hg4⟩, by simp; omega, fun i hi => ?_⟩, fun a h9 => (o3 a (by omega)).trans ((hs2 a (by omega)).trans (hs1 a (by omega)))⟩
  · rw [h3]; simp [nI_add]
  · by_cases e : i = Rs.length
    · subst e
      exact ⟨_, hr2.kept (o3 _ (by omega)) (o3 _ (by omega)), fun _ => by simp [List.getD_eq_getElem?_getD]⟩
    · obtain ⟨L, a, b⟩ := hR i hi
      refine ⟨L, ((a.off hs1 (by omega)).off hs2 (by omega)).kept (o3 _ (by omega)) (o3 _ (by omega)), fun h => ?_⟩
      have h7 : i < Rs.length := by simp at h; omega
      rw [zgetD_app, if_pos h7]
      exact b h7
/-- a message at p: text, sender, first recipient -/
def zLet (p : Nat) (T S F : List Nat) (n : Nat) (m : mm_M) : Prop := m p = some (.inr (kLet, [.ref (p + 1), .ref (p + 3), .ref (p + 5), .int (nI n)])) ∧ zRow (p + 1) 200 T m ∧ zRow (p + 3) 100 S m ∧ zRow (p + 5) 100 F m
theorem zLet.off {p lo hi n : Nat} {T S F : List Nat} {m m' : mm_M} (h : zLet p T S F n m) (hs : zsame lo hi m m') (hq : p + 7 ≤ lo ∨ hi ≤ p) : zLet p T S F n m' := ⟨(hs p (by omega)).trans h.1, h.2.1.off hs (by omega), h.2.2.1.off hs (by omega), h.2.2.2.off hs (by omega)⟩
set_option maxHeartbeats 4000000 in
set_option maxRecDepth 100000 in
theorem s_Let_recipients (V : mm_V) {p n : Nat} {T S F : List Nat} {mem : mm_M} {nx : Nat} (h : zLet p T S F n mem) : mm_S V yLet_recipients cLet_recipients 1 (some .int) 0 0 0 [.ref p] mem nx (fun r m x => r = some (.int (nI n)) ∧ mem = m ∧ nx = x) := by
  obtain ⟨hm, hT, hS, hF⟩ := id h
  refine mm_met (by decide) (Nat.le_of_ble_eq_true rfl) ?_
  intro X hc he hnm
  refine g_aload_n (pc := 0) hc dLet_recipients_0 rfl ?_
  refine g_get (pc := 1) hc dLet_recipients_1 x_Let_46 (by assumption) (by rfl) ?_
  exact g_iret (pc := 4) hc he dLet_recipients_4 (Nat.le_refl _) (Nat.le_refl _) ⟨rfl, rfl, rfl⟩
set_option maxHeartbeats 4000000 in
set_option maxRecDepth 100000 in
theorem s_Let_text (V : mm_V) {p n : Nat} {T S F : List Nat} {mem : mm_M} {nx : Nat} (h : zLet p T S F n mem) : mm_S V yLet_text cLet_text 1 (some (.object "MailLines$Row")) 0 0 0 [.ref p] mem nx (fun r m x => r = some (.ref (p + 1)) ∧ mem = m ∧ nx = x) := by
  obtain ⟨hm, hT, hS, hF⟩ := id h
  refine mm_met (by decide) (Nat.le_of_ble_eq_true rfl) ?_
  intro X hc he hnm
  refine g_aload_n (pc := 0) hc dLet_text_0 rfl ?_
  refine g_get (pc := 1) hc dLet_text_1 x_Let_14 (by assumption) (by rfl) ?_
  exact g_aret (pc := 4) hc he dLet_text_4 (Or.inr ⟨_, rfl⟩) (Nat.le_refl _) (Nat.le_refl _) ⟨rfl, rfl, rfl⟩
set_option maxHeartbeats 4000000 in
set_option maxRecDepth 100000 in
theorem s_Let_sender (V : mm_V) {p n : Nat} {T S F : List Nat} {mem : mm_M} {nx : Nat} (h : zLet p T S F n mem) : mm_S V yLet_sender cLet_sender 1 (some (.object "MailLines$Row")) 0 0 0 [.ref p] mem nx (fun r m x => r = some (.ref (p + 3)) ∧ mem = m ∧ nx = x) := by
  obtain ⟨hm, hT, hS, hF⟩ := id h
  refine mm_met (by decide) (Nat.le_of_ble_eq_true rfl) ?_
  intro X hc he hnm
  refine g_aload_n (pc := 0) hc dLet_sender_0 rfl ?_
  refine g_get (pc := 1) hc dLet_sender_1 x_Let_20 (by assumption) (by rfl) ?_
  exact g_aret (pc := 4) hc he dLet_sender_4 (Or.inr ⟨_, rfl⟩) (Nat.le_refl _) (Nat.le_refl _) ⟨rfl, rfl, rfl⟩
set_option maxHeartbeats 4000000 in
set_option maxRecDepth 100000 in
theorem s_Let_firstRecipient (V : mm_V) {p n : Nat} {T S F : List Nat} {mem : mm_M} {nx : Nat} (h : zLet p T S F n mem) : mm_S V yLet_firstRecipient cLet_firstRecipient 1 (some (.object "MailLines$Row")) 0 0 0 [.ref p] mem nx (fun r m x => r = some (.ref (p + 5)) ∧ mem = m ∧ nx = x) := by
  obtain ⟨hm, hT, hS, hF⟩ := id h
  refine mm_met (by decide) (Nat.le_of_ble_eq_true rfl) ?_
  intro X hc he hnm
  refine g_aload_n (pc := 0) hc dLet_firstRecipient_0 rfl ?_
  refine g_get (pc := 1) hc dLet_firstRecipient_1 x_Let_23 (by assumption) (by rfl) ?_
  exact g_aret (pc := 4) hc he dLet_firstRecipient_4 (Or.inr ⟨_, rfl⟩) (Nat.le_refl _) (Nat.le_refl _) ⟨rfl, rfl, rfl⟩
set_option maxHeartbeats 4000000 in
set_option maxRecDepth 100000 in
theorem s_Let_fill (V : mm_V) {p q e n : Nat} {L S : List Nat} {told : Bool} {Rs : List (List Nat)} {mem : mm_M} {nx : Nat} (h : zLet p [] [] [] n mem) (hL : zRow q 202 L mem) (hl : L.length ≤ 200) (hE : zEnv e S told Rs mem) (h0 : 0 < Rs.length) (hd : q + 2 ≤ e) (hd2 : e + 12 ≤ p) : mm_S V yLet_fill cLet_fill 4 none 2 0 0 [.ref p, .ref q, .ref e] mem nx (fun r m x => r = none ∧ nx = x ∧ zLet p L S (Rs.getD 0 []) Rs.length m ∧ zsame p (p + 7) mem m) := by
  obtain ⟨hm, hT, hS, hF⟩ := id h
  refine mm_met (by decide) (Nat.le_of_ble_eq_true rfl) ?_
  intro X hc he hnm
  refine g_aload_n (pc := 0) hc dLet_fill_0 rfl ?_
  refine g_get (pc := 1) hc dLet_fill_1 x_Let_14 (by assumption) (by rfl) ?_
  refine g_aload_n (pc := 4) hc dLet_fill_4 rfl ?_
  refine g_iconst (v := nI 0) (pc := 5) hc dLet_fill_5 (by decide) ?_
  refine g_aload_n (pc := 6) hc dLet_fill_6 rfl ?_
  refine g_callV (pc := 7) hc dLet_fill_7 x_Let_26 (s_Row_length V hL) cl_Row (hL.obj) (Nat.le_of_ble_eq_true rfl) (Nat.le_of_ble_eq_true rfl) (Nat.le_of_ble_eq_true rfl) (Nat.le_of_ble_eq_true rfl) rfl rfl (Nat.le_of_ble_eq_true rfl) (fun r m x hp => ?_)
  obtain ⟨rfl, rfl, rfl⟩ := hp
  refine g_callV (pc := 10) hc dLet_fill_10 x_Let_30 (s_Row_addPart V hT hL (by omega) (Nat.le_refl _) (by decide)) cl_Row (hT.obj) (Nat.le_of_ble_eq_true rfl) (Nat.le_of_ble_eq_true rfl) (Nat.le_of_ble_eq_true rfl) (Nat.le_of_ble_eq_true rfl) rfl rfl (Nat.le_of_ble_eq_true rfl) (fun r m x hp => ?_)
  obtain ⟨rfl, rfl, hr1, hs1⟩ := hp
  rw [List.nil_append, List.drop_zero, Nat.sub_zero, List.take_length, List.take_of_length_le (by have := hL.le; omega)] at hr1
  have hm1 := (hs1 p (by omega)).trans hm
  have hE1 := hE.off hs1 (by omega)
  have hS1 := hS.off hs1 (by omega)
  have hF1 := hF.off hs1 (by omega)
  have hes := hE1.sender h0
  refine g_aload_n (pc := 13) hc dLet_fill_13 rfl ?_
  refine g_get (pc := 14) hc dLet_fill_14 x_Let_20 hm1 (by rfl) ?_
  refine g_aload_n (pc := 17) hc dLet_fill_17 rfl ?_
  refine g_callV (pc := 18) hc dLet_fill_18 x_Let_34 (s_Env_sender V hE1) cl_Env (hE1.1) (Nat.le_of_ble_eq_true rfl) (Nat.le_of_ble_eq_true rfl) (Nat.le_of_ble_eq_true rfl) (Nat.le_of_ble_eq_true rfl) rfl rfl (Nat.le_of_ble_eq_true rfl) (fun r m x hp => ?_)
  obtain ⟨rfl, rfl, rfl⟩ := hp
  refine g_iconst (v := nI 0) (pc := 21) hc dLet_fill_21 (by decide) ?_
  refine g_aload_n (pc := 22) hc dLet_fill_22 rfl ?_
  refine g_callV (pc := 23) hc dLet_fill_23 x_Let_34 (s_Env_sender V hE1) cl_Env (hE1.1) (Nat.le_of_ble_eq_true rfl) (Nat.le_of_ble_eq_true rfl) (Nat.le_of_ble_eq_true rfl) (Nat.le_of_ble_eq_true rfl) rfl rfl (Nat.le_of_ble_eq_true rfl) (fun r m x hp => ?_)
  obtain ⟨rfl, rfl, rfl⟩ := hp
  refine g_callV (pc := 26) hc dLet_fill_26 x_Let_26 (s_Row_length V hes) cl_Row (hes.obj) (Nat.le_of_ble_eq_true rfl) (Nat.le_of_ble_eq_true rfl) (Nat.le_of_ble_eq_true rfl) (Nat.le_of_ble_eq_true rfl) rfl rfl (Nat.le_of_ble_eq_true rfl) (fun r m x hp => ?_)
  obtain ⟨rfl, rfl, rfl⟩ := hp
  refine g_callV (pc := 29) hc dLet_fill_29 x_Let_30 (s_Row_addPart V hS1 hes (by omega) (Nat.le_refl _) (by decide)) cl_Row (hS1.obj) (Nat.le_of_ble_eq_true rfl) (Nat.le_of_ble_eq_true rfl) (Nat.le_of_ble_eq_true rfl) (Nat.le_of_ble_eq_true rfl) rfl rfl (Nat.le_of_ble_eq_true rfl) (fun r m x hp => ?_)
  obtain ⟨rfl, rfl, hr2, hs2⟩ := hp
  rw [List.nil_append, List.drop_zero, Nat.sub_zero, List.take_length, List.take_of_length_le (by have := hes.le; omega)] at hr2
  have hm2 := (hs2 p (by omega)).trans hm1
  have hE2 := hE1.off hs2 (by omega)
  have hF2 := hF1.off hs2 (by omega)
  have hT2 := hr1.off hs2 (by omega)
  have her := hE2.row h0
  refine g_aload_n (pc := 32) hc dLet_fill_32 rfl ?_
  refine g_iconst (v := nI 0) (pc := 33) hc dLet_fill_33 (by decide) ?_
  refine g_callV (pc := 34) hc dLet_fill_34 x_Let_39 (s_Env_recipientOrNull V (i := 0) hE2 (by decide)) cl_Env (hE2.1) (Nat.le_of_ble_eq_true rfl) (Nat.le_of_ble_eq_true rfl) (Nat.le_of_ble_eq_true rfl) (Nat.le_of_ble_eq_true rfl) rfl rfl (Nat.le_of_ble_eq_true rfl) (fun r m x hp => ?_)
  rw [if_pos h0] at hp
  obtain ⟨rfl, rfl, rfl⟩ := hp
  refine g_astore_n (pc := 37) hc dLet_fill_37 (by decide) rfl ?_
  refine g_aload_n (pc := 38) hc dLet_fill_38 rfl ?_
  refine g_ifnull (pc := 39) hc dLet_fill_39 ?_
  refine g_aload_n (pc := 42) hc dLet_fill_42 rfl ?_
  refine g_get (pc := 43) hc dLet_fill_43 x_Let_23 hm2 (by rfl) ?_
  refine g_aload_n (pc := 46) hc dLet_fill_46 rfl ?_
  refine g_iconst (v := nI 0) (pc := 47) hc dLet_fill_47 (by decide) ?_
  refine g_aload_n (pc := 48) hc dLet_fill_48 rfl ?_
  refine g_callV (pc := 49) hc dLet_fill_49 x_Let_26 (s_Row_length V her) cl_Row (her.obj) (Nat.le_of_ble_eq_true rfl) (Nat.le_of_ble_eq_true rfl) (Nat.le_of_ble_eq_true rfl) (Nat.le_of_ble_eq_true rfl) rfl rfl (Nat.le_of_ble_eq_true rfl) (fun r m x hp => ?_)
  obtain ⟨rfl, rfl, rfl⟩ := hp
  refine g_callV (pc := 52) hc dLet_fill_52 x_Let_30 (s_Row_addPart V hF2 her (by omega) (Nat.le_refl _) (by decide)) cl_Row (hF2.obj) (Nat.le_of_ble_eq_true rfl) (Nat.le_of_ble_eq_true rfl) (Nat.le_of_ble_eq_true rfl) (Nat.le_of_ble_eq_true rfl) rfl rfl (Nat.le_of_ble_eq_true rfl) (fun r m x hp => ?_)
  obtain ⟨rfl, rfl, hr3, hs3⟩ := hp
  rw [List.nil_append, List.drop_zero, Nat.sub_zero, List.take_length, List.take_of_length_le (by have := her.le; omega)] at hr3
  have hm3 := (hs3 p (by omega)).trans hm2
  have hE3 := hE2.off hs3 (by omega)
  have hT3 := hT2.off hs3 (by omega)
  have hS3 := hr2.off hs3 (by omega)
  refine g_aload_n (pc := 55) hc dLet_fill_55 rfl ?_
  refine g_aload_n (pc := 56) hc dLet_fill_56 rfl ?_
  refine g_callV (pc := 57) hc dLet_fill_57 x_Let_43 (s_Env_recipients V hE3) cl_Env (hE3.1) (Nat.le_of_ble_eq_true rfl) (Nat.le_of_ble_eq_true rfl) (Nat.le_of_ble_eq_true rfl) (Nat.le_of_ble_eq_true rfl) rfl rfl (Nat.le_of_ble_eq_true rfl) (fun r m x hp => ?_)
  obtain ⟨rfl, rfl, rfl⟩ := hp
  refine g_put (pc := 60) hc dLet_fill_60 x_Let_46 ft_Let rfl hm3 rfl rfl (zlt rfl) (fun m4 h4 o4 => ?_)
  exact g_vret (pc := 63) hc he dLet_fill_63 (Nat.le_refl _) (Nat.le_refl _) ⟨rfl, rfl, ⟨h4, hT3.kept (o4 _ (by omega)) (o4 _ (by omega)), hS3.kept (o4 _ (by omega)) (o4 _ (by omega)), hr3.kept (o4 _ (by omega)) (o4 _ (by omega))⟩, fun a h9 => (o4 a (by omega)).trans ((hs3 a (by omega)).trans ((hs2 a (by omega)).trans (hs1 a (by omega))))⟩
set_option maxHeartbeats 4000000 in
set_option maxRecDepth 100000 in
theorem s_Let_init (V : mm_V) {p : Nat} {mem : mm_M} {nx : Nat} (hm : mem p = some (.inr (kLet, [.null, .null, .null, .int 0]))) (hnx : nx = p + 1) : mm_S V yLet_init cLet_init 1 none 2 6 406 [.ref p] mem nx (fun r m x => r = none ∧ x = p + 7 ∧ zLet p [] [] [] 0 m ∧ zsame p (p + 7) mem m) := by
  refine mm_met (by decide) (Nat.le_of_ble_eq_true rfl) ?_
  intro X hc he hnm
  refine g_aload_n (pc := 0) hc dLet_init_0 rfl ?_
  refine g_objInit (pc := 1) hc dLet_init_1 x_Let_3 (by decide) (Nat.le_of_ble_eq_true rfl) ?_
  refine g_aload_n (pc := 4) hc dLet_init_4 rfl ?_
  refine g_new (pc := 5) (fs := [.null, .int 0]) hc dLet_init_5 cl_Row in_Row xn_Let_9 ft_Row (fun j hj => by rcases (show j = 0 ∨ j = 1 by omega) with rfl | rfl <;> rfl) (by omega) (by omega) (fun m1 h1 o1 => ?_)
  subst hnx
  have hm1 := (o1 p (by omega)).trans hm
  refine g_dup (pc := 8) hc dLet_init_8 rfl ?_
  refine g_sipush (v := nI 200) (pc := 9) hc dLet_init_9 (by decide) ?_
  refine g_callI (pc := 12) hc dLet_init_12 x_Let_11 (s_Row_init V h1 rfl (by decide)) (Nat.le_of_ble_eq_true rfl) (Nat.le_of_ble_eq_true rfl) (by omega) (by omega) rfl rfl (Nat.le_of_ble_eq_true rfl) (fun r m x hp => ?_)
  obtain ⟨rfl, rfl, hr2, hs2⟩ := hp
  have hm2 := (hs2 p (by omega)).trans hm1
  refine g_putF (pc := 15) hc dLet_init_15 hnm x_Let_14 ft_Let rfl rfl hm2 rfl rfl (zlt rfl) (fun m3 h3 o3 => ?_)
  replace hr2 := hr2.kept (o3 _ (by omega)) (o3 _ (by omega))
  refine g_aload_n (pc := 18) hc dLet_init_18 rfl ?_
  refine g_new (pc := 19) (fs := [.null, .int 0]) hc dLet_init_19 cl_Row in_Row xn_Let_9 ft_Row (fun j hj => by rcases (show j = 0 ∨ j = 1 by omega) with rfl | rfl <;> rfl) (by omega) (by omega) (fun m4 h4 o4 => ?_)
  have hm4 := (o4 p (by omega)).trans h3
  replace hr2 := hr2.kept (o4 _ (by omega)) (o4 _ (by omega))
  refine g_dup (pc := 22) hc dLet_init_22 rfl ?_
  refine g_bipush (v := nI 100) (pc := 23) hc dLet_init_23 (by decide) ?_
  refine g_callI (pc := 25) hc dLet_init_25 x_Let_11 (s_Row_init V h4 rfl (by decide)) (Nat.le_of_ble_eq_true rfl) (Nat.le_of_ble_eq_true rfl) (by omega) (by omega) rfl rfl (Nat.le_of_ble_eq_true rfl) (fun r m x hp => ?_)
  obtain ⟨rfl, rfl, hr5, hs5⟩ := hp
  have hm5 := (hs5 p (by omega)).trans hm4
  replace hr2 := hr2.off hs5 (by omega)
  refine g_putF (pc := 28) hc dLet_init_28 hnm x_Let_20 ft_Let rfl rfl hm5 rfl rfl (zlt rfl) (fun m6 h6 o6 => ?_)
  replace hr2 := hr2.kept (o6 _ (by omega)) (o6 _ (by omega))
  replace hr5 := hr5.kept (o6 _ (by omega)) (o6 _ (by omega))
  refine g_aload_n (pc := 31) hc dLet_init_31 rfl ?_
  refine g_new (pc := 32) (fs := [.null, .int 0]) hc dLet_init_32 cl_Row in_Row xn_Let_9 ft_Row (fun j hj => by rcases (show j = 0 ∨ j = 1 by omega) with rfl | rfl <;> rfl) (by omega) (by omega) (fun m7 h7 o7 => ?_)
  have hm7 := (o7 p (by omega)).trans h6
  replace hr2 := hr2.kept (o7 _ (by omega)) (o7 _ (by omega))
  replace hr5 := hr5.kept (o7 _ (by omega)) (o7 _ (by omega))
  refine g_dup (pc := 35) hc dLet_init_35 rfl ?_
  refine g_bipush (v := nI 100) (pc := 36) hc dLet_init_36 (by decide) ?_
  refine g_callI (pc := 38) hc dLet_init_38 x_Let_11 (s_Row_init V h7 rfl (by decide)) (Nat.le_of_ble_eq_true rfl) (Nat.le_of_ble_eq_true rfl) (by omega) (by omega) rfl rfl (Nat.le_of_ble_eq_true rfl) (fun r m x hp => ?_)
  obtain ⟨rfl, rfl, hr8, hs8⟩ := hp
  have hm8 := (hs8 p (by omega)).trans hm7
  replace hr2 := hr2.off hs8 (by omega)
  replace hr5 := hr5.off hs8 (by omega)
  refine g_putF (pc := 41) hc dLet_init_41 hnm x_Let_23 ft_Let rfl rfl hm8 rfl rfl (zlt rfl) (fun m9 h9 o9 => ?_)
  replace hr2 := hr2.kept (o9 _ (by omega)) (o9 _ (by omega))
  replace hr5 := hr5.kept (o9 _ (by omega)) (o9 _ (by omega))
  replace hr8 := hr8.kept (o9 _ (by omega)) (o9 _ (by omega))
  exact g_vret (pc := 44) hc he dLet_init_44 (Nat.le_of_ble_eq_true rfl) (Nat.le_of_ble_eq_true rfl) ⟨rfl, rfl, ⟨h9, hr2, hr5, hr8⟩, fun a h => (o9 a (by omega)).trans ((hs8 a (by omega)).trans ((o7 a (by omega)).trans ((o6 a (by omega)).trans ((hs5 a (by omega)).trans ((o4 a (by omega)).trans ((o3 a (by omega)).trans ((hs2 a (by omega)).trans (o1 a (by omega)))))))))⟩
set_option maxHeartbeats 4000000 in
set_option maxRecDepth 100000 in
theorem s_Env_init (V : mm_V) {p : Nat} {mem : mm_M} {nx : Nat} (hm : mem p = some (.inr (kEnv, [.null, .null, .int 0, .int 0]))) (hnx : nx = p + 1) : mm_S V yEnv_init cEnv_init 2 none 2 11 514 [.ref p] mem nx (fun r m x => r = none ∧ x = p + 12 ∧ zEnv p [] false [] m ∧ zsame p (p + 12) mem m) := by
  refine mm_met (by decide) (Nat.le_of_ble_eq_true rfl) ?_
  intro X hc he hnm
  have loop : ∀ (n i : Nat) (mem1 : mm_M) (nx1 c1 s1 : Nat), n + i = 4 → nx1 = p + 4 + 2 * i → c1 ≤ 3 + 2 * i → s1 ≤ 106 + 102 * i → mem1 p = some (.inr (kEnv, [.ref (p + 1), .ref (p + 3), .int 0, .int 0])) ∧ zRow (p + 1) 100 [] mem1 ∧ (∃ g : Nat → Option Nat, mem1 (p + 3) = some (.inl (kRA, 4, .inr (.inr (.inr (.inr g))))) ∧ ∀ j, j < i → g j = some (p + 4 + 2 * j)) ∧ (∀ j, j < i → zRow (p + 4 + 2 * j) 100 [] mem1) ∧ zsame p (p + 12) mem mem1 → mm_G V X 2 27 [(0, .ref p), (1, .int (nI i))] [] mem1 nx1 c1 s1 := by
    intro n
    induction n with
    | zero =>
      intro i mem1 nx1 c1 s1 e1 en ec es hI
      obtain ⟨hp1, hr1, ⟨g, hg, hg4⟩, hR, hs⟩ := hI
      obtain rfl : i = 4 := by omega
      subst en
      refine g_iload_n (pc := 27) hc dEnv_init_27 rfl ?_
      refine g_aload_n (pc := 28) hc dEnv_init_28 rfl ?_
      refine g_get (pc := 29) hc dEnv_init_29 x_Env_20 (by assumption) (by rfl) ?_
      refine g_alen (pc := 32) (t := kRA) (v := nI 4) hc dEnv_init_32 rfl hg rfl ?_
      refine g_icmp_ge (tgt := 57) (pc := 33) hc dEnv_init_33 (by decide) (fun _ => ?_) (fun c33 => absurd (by decide) c33)
      exact g_vret (pc := 57) hc he dEnv_init_57 (by omega) (by omega) ⟨rfl, rfl, ⟨hp1, ⟨[], hr1, fun _ => rfl⟩, ⟨g, hg, hg4⟩, by simp, fun j hj => ⟨[], hR j hj, fun h => absurd h (by simp)⟩⟩, hs⟩
    | succ n ih =>
      intro i mem1 nx1 c1 s1 e1 en ec es hI
      obtain ⟨hp1, hr1, ⟨g, hg, hg4⟩, hR, hs⟩ := hI
      subst en
      refine g_iload_n (pc := 27) hc dEnv_init_27 rfl ?_
      refine g_aload_n (pc := 28) hc dEnv_init_28 rfl ?_
      refine g_get (pc := 29) hc dEnv_init_29 x_Env_20 (by assumption) (by rfl) ?_
      refine g_alen (pc := 32) (t := kRA) (v := nI 4) hc dEnv_init_32 rfl hg rfl ?_
      refine g_icmp_ge (tgt := 57) (pc := 33) hc dEnv_init_33 (by decide) (fun c33 => absurd c33 (nI_ge (by omega) (by omega))) (fun _ => ?_)
      refine g_aload_n (pc := 36) hc dEnv_init_36 rfl ?_
      refine g_get (pc := 37) hc dEnv_init_37 x_Env_20 (by assumption) (by rfl) ?_
      refine g_iload_n (pc := 40) hc dEnv_init_40 rfl ?_
      refine g_new (pc := 41) (fs := [.null, .int 0]) hc dEnv_init_41 cl_Row in_Row xn_Env_9 ft_Row (fun j hj => by rcases (show j = 0 ∨ j = 1 by omega) with rfl | rfl <;> rfl) (by omega) (by omega) (fun m1 h1 o1 => ?_)
      refine g_dup (pc := 44) hc dEnv_init_44 rfl ?_
      refine g_bipush (v := nI 100) (pc := 45) hc dEnv_init_45 (by decide) ?_
      refine g_callI (pc := 47) hc dEnv_init_47 x_Env_11 (s_Row_init V h1 rfl (by decide)) (Nat.le_of_ble_eq_true rfl) (Nat.le_of_ble_eq_true rfl) (by omega) (by omega) rfl rfl (Nat.le_of_ble_eq_true rfl) (fun r m x hp => ?_)
      obtain ⟨rfl, rfl, hr2, hs2⟩ := hp
      refine g_aast (pc := 50) (t := kRA) hc dEnv_init_50 rfl cl_Row ((hs2 _ (by omega)).trans ((o1 _ (by omega)).trans hg)) hr2.obj (vp_in_nI (by omega) (by omega)) (fun m3 h3 o3 => ?_)
      rw [nI_clamp (by omega)] at h3
      refine g_iinc (pc := 51) hc dEnv_init_51 rfl (zinc _) (by decide) rfl ?_
      refine g_goto (tgt := 27) (pc := 54) hc dEnv_init_54 (by decide) ?_
      refine g_lv (lv' := [(0, .ref p), (1, .int (nI (i + 1)))]) ⟨rfl, rfl, trivial⟩ ?_
      refine ih (i + 1) m3 _ _ _ (by omega) (by omega) (by omega) (by omega) ⟨(o3 _ (by omega)).trans ((hs2 _ (by omega)).trans ((o1 _ (by omega)).trans hp1)), ((hr1.kept (o1 _ (by omega)) (o1 _ (by omega))).off hs2 (by omega)).kept (o3 _ (by omega)) (o3 _ (by omega)), ⟨_, h3, fun j hj => ?_⟩, fun j hj => ?_, fun a h9 => (o3 a (by omega)).trans ((hs2 a (by omega)).trans ((o1 a (by omega)).trans (hs a h9)))⟩
      · by_cases e : j = i
        · subst e; rw [va_up_self]
        · rw [va_up_ne _ _ e]; exact hg4 j (by omega)
      · by_cases e : j = i
        · subst e; exact hr2.kept (o3 _ (by omega)) (o3 _ (by omega))
        · exact (((hR j (by omega)).kept (o1 _ (by omega)) (o1 _ (by omega))).off hs2 (by omega)).kept (o3 _ (by omega)) (o3 _ (by omega))
  refine g_aload_n (pc := 0) hc dEnv_init_0 rfl ?_
  refine g_objInit (pc := 1) hc dEnv_init_1 x_Env_3 (by decide) (Nat.le_of_ble_eq_true rfl) ?_
  refine g_aload_n (pc := 4) hc dEnv_init_4 rfl ?_
  refine g_new (pc := 5) (fs := [.null, .int 0]) hc dEnv_init_5 cl_Row in_Row xn_Env_9 ft_Row (fun j hj => by rcases (show j = 0 ∨ j = 1 by omega) with rfl | rfl <;> rfl) (by omega) (by omega) (fun m1 h1 o1 => ?_)
  subst hnx
  have hm1 := (o1 p (by omega)).trans hm
  refine g_dup (pc := 8) hc dEnv_init_8 rfl ?_
  refine g_bipush (v := nI 100) (pc := 9) hc dEnv_init_9 (by decide) ?_
  refine g_callI (pc := 11) hc dEnv_init_11 x_Env_11 (s_Row_init V h1 rfl (by decide)) (Nat.le_of_ble_eq_true rfl) (Nat.le_of_ble_eq_true rfl) (by omega) (by omega) rfl rfl (Nat.le_of_ble_eq_true rfl) (fun r m x hp => ?_)
  obtain ⟨rfl, rfl, hr2, hs2⟩ := hp
  have hm2 := (hs2 p (by omega)).trans hm1
  refine g_putF (pc := 14) hc dEnv_init_14 hnm x_Env_14 ft_Env rfl rfl hm2 rfl rfl (zlt rfl) (fun m3 h3 o3 => ?_)
  replace hr2 := hr2.kept (o3 _ (by omega)) (o3 _ (by omega))
  refine g_aload_n (pc := 17) hc dEnv_init_17 rfl ?_
  refine g_iconst (v := nI 4) (pc := 18) hc dEnv_init_18 (by decide) ?_
  refine g_anew (pc := 19) (t := kRA) (N := 4) hc dEnv_init_19 rfl xa_Env_9 (by simp [mm_aov]) (by decide) (by decide) (by decide) (by decide) (by decide) (fun m4 h4 o4 => ?_)
  have hm4 := (o4 p (by omega)).trans h3
  replace hr2 := hr2.kept (o4 _ (by omega)) (o4 _ (by omega))
  refine g_putF (pc := 22) hc dEnv_init_22 hnm x_Env_20 ft_Env rfl rfl hm4 rfl rfl (zlt rfl) (fun m5 h5 o5 => ?_)
  replace hr2 := hr2.kept (o5 _ (by omega)) (o5 _ (by omega))
  refine g_iconst (v := nI 0) (pc := 25) hc dEnv_init_25 (by decide) ?_
  refine g_istore_n (pc := 26) hc dEnv_init_26 (by decide) rfl ?_
  refine g_lv (lv' := [(0, .ref p), (1, .int (nI 0))]) ⟨rfl, rfl, trivial⟩ ?_
  exact loop 4 0 m5 _ _ _ rfl (by omega) (by omega) (by omega) ⟨h5, hr2, ⟨_, (o5 _ (by omega)).trans h4, fun j hj => absurd hj (Nat.not_lt_zero j)⟩, fun j hj => absurd hj (Nat.not_lt_zero j), fun a h => (o5 a (by omega)).trans ((o4 a (by omega)).trans ((o3 a (by omega)).trans ((hs2 a (by omega)).trans (o1 a (by omega)))))⟩
