set_option maxHeartbeats 4000000 in
set_option maxRecDepth 100000 in
theorem s_ML_endAnswer (V : mm_V) {z tn : Nat} {A Ln : List Nat} {lc : Bool} {T : List Nat} {tc td : Bool} {E : zEv} {Ms : List zMsg} {ses gr tx : Bool} {mem : mm_M} {nx : Nat} (h : zML z A Ln lc T tc td tn E Ms ses gr tx mem) : mm_S V yML_endAnswer cML_endAnswer 1 none 1 0 0 [.ref z] mem nx (fun r m x => r = none ∧ nx = x ∧ zML z (((A ++ [13]).take 400 ++ [10]).take 400) Ln lc T tc td tn E Ms ses gr tx m ∧ zsame (z + 1) (z + 3) mem m) := by
  obtain ⟨hm, hA, hLn, hT, hE, ⟨g, hg, hg7⟩, hMs, hLe⟩ := id h
  refine mm_met (by decide) (Nat.le_of_ble_eq_true rfl) ?_
  intro X hc he hnm
  refine g_aload_n (pc := 0) hc dML_endAnswer_0 rfl ?_
  refine g_get (pc := 1) hc dML_endAnswer_1 x_ML_14 (by assumption) (by rfl) ?_
  refine g_bipush (v := nI 13) (pc := 4) hc dML_endAnswer_4 (by decide) ?_
  refine g_callV (pc := 6) hc dML_endAnswer_6 x_ML_140 (s_Row_add V hA (show 13 < 256 by decide)) cl_Row (hA.obj) (Nat.le_of_ble_eq_true rfl) (Nat.le_of_ble_eq_true rfl) (Nat.le_of_ble_eq_true rfl) (Nat.le_of_ble_eq_true rfl) rfl rfl (Nat.le_of_ble_eq_true rfl) (fun r m x hp => ?_)
  obtain ⟨rfl, rfl, hr1, hs1⟩ := hp
  have h1 := h.ans hr1 hs1
  have hm1 := h1.1
  refine g_aload_n (pc := 9) hc dML_endAnswer_9 rfl ?_
  refine g_get (pc := 10) hc dML_endAnswer_10 x_ML_14 hm1 (by rfl) ?_
  refine g_bipush (v := nI 10) (pc := 13) hc dML_endAnswer_13 (by decide) ?_
  refine g_callV (pc := 15) hc dML_endAnswer_15 x_ML_140 (s_Row_add V hr1 (show 10 < 256 by decide)) cl_Row (hr1.obj) (Nat.le_of_ble_eq_true rfl) (Nat.le_of_ble_eq_true rfl) (Nat.le_of_ble_eq_true rfl) (Nat.le_of_ble_eq_true rfl) rfl rfl (Nat.le_of_ble_eq_true rfl) (fun r m x hp => ?_)
  obtain ⟨rfl, rfl, hr2, hs2⟩ := hp
  exact g_vret (pc := 18) hc he dML_endAnswer_18 (Nat.le_refl _) (Nat.le_refl _) ⟨rfl, rfl, h1.ans hr2 hs2, hs1.tr hs2⟩
set_option maxHeartbeats 4000000 in
set_option maxRecDepth 100000 in
theorem s_ML_answer (V : mm_V) {z tn : Nat} {A Ln : List Nat} {lc : Bool} {T : List Nat} {tc td : Bool} {E : zEv} {Ms : List zMsg} {ses gr tx : Bool} {i : Nat} {mem : mm_M} {nx : Nat} (h : zML z A Ln lc T tc td tn E Ms ses gr tx mem) (hi : i < mm_nS) : mm_S V yML_answer cML_answer 2 none 5 0 0 [.ref z, .ref (V.2.2.2.2.1 i)] mem nx (fun r m x => r = none ∧ nx = x ∧ zML z (zans A (zs i)) Ln lc T tc td tn E Ms ses gr tx m ∧ zsame (z + 1) (z + 3) mem m) := by
  obtain ⟨hm, hA, hLn, hT, hE, ⟨g, hg, hg7⟩, hMs, hLe⟩ := id h
  refine mm_met (by decide) (Nat.le_of_ble_eq_true rfl) ?_
  intro X hc he hnm
  refine g_aload_n (pc := 0) hc dML_answer_0 rfl ?_
  refine g_get (pc := 1) hc dML_answer_1 x_ML_14 (by assumption) (by rfl) ?_
  refine g_aload_n (pc := 4) hc dML_answer_4 rfl ?_
  refine g_callV (pc := 5) hc dML_answer_5 x_ML_128 (s_Row_addText V hA hi) cl_Row (hA.obj) (Nat.le_of_ble_eq_true rfl) (Nat.le_of_ble_eq_true rfl) (Nat.le_of_ble_eq_true rfl) (Nat.le_of_ble_eq_true rfl) rfl rfl (Nat.le_of_ble_eq_true rfl) (fun r m x hp => ?_)
  obtain ⟨rfl, rfl, hr1, hs1⟩ := hp
  have h1 := h.ans hr1 hs1
  refine g_aload_n (pc := 8) hc dML_answer_8 rfl ?_
  refine g_callV (pc := 9) hc dML_answer_9 x_ML_131 (s_ML_endAnswer V h1) cl_ML (h1.1) (Nat.le_of_ble_eq_true rfl) (Nat.le_of_ble_eq_true rfl) (Nat.le_of_ble_eq_true rfl) (Nat.le_of_ble_eq_true rfl) rfl rfl (Nat.le_of_ble_eq_true rfl) (fun r m x hp => ?_)
  obtain ⟨rfl, rfl, h2, hs2⟩ := hp
  rw [zans3] at h2
  exact g_vret (pc := 12) hc he dML_answer_12 (Nat.le_refl _) (Nat.le_refl _) ⟨rfl, rfl, h2, hs1.tr hs2⟩
set_option maxHeartbeats 4000000 in
set_option maxRecDepth 100000 in
theorem s_ML_answerTaken (V : mm_V) {z tn : Nat} {A Ln : List Nat} {lc : Bool} {T : List Nat} {tc td : Bool} {E : zEv} {Ms : List zMsg} {ses gr tx : Bool} {k : Nat} {mem : mm_M} {nx : Nat} (h : zML z A Ln lc T tc td tn E Ms ses gr tx mem) (hk : k < E.2.2.length) : mm_S V yML_answerTaken cML_answerTaken 2 none 5 0 0 [.ref z, .ref (z + 9 + 4 + 2 * k)] mem nx (fun r m x => r = none ∧ nx = x ∧ zML z (zans A (zs t_250l ++ E.2.2.getD k [] ++ [62])) Ln lc T tc td tn E Ms ses gr tx m ∧ zsame (z + 1) (z + 3) mem m) := by
  obtain ⟨hm, hA, hLn, hT, hE, ⟨g, hg, hg7⟩, hMs, hLe⟩ := id h
  refine mm_met (by decide) (Nat.le_of_ble_eq_true rfl) ?_
  intro X hc he hnm
  have hr0 := hE.row hk
  have hk4 := hE.2.2.2.1
  refine g_aload_n (pc := 0) hc dML_answerTaken_0 rfl ?_
  refine g_get (pc := 1) hc dML_answerTaken_1 x_ML_14 (by assumption) (by rfl) ?_
  refine g_ldcS (pc := 4) hc dML_answerTaken_4 xt_ML_134 ?_
  refine g_callV (pc := 6) hc dML_answerTaken_6 x_ML_128 (s_Row_addText V hA (show t_250l < mm_nS by decide)) cl_Row (hA.obj) (Nat.le_of_ble_eq_true rfl) (Nat.le_of_ble_eq_true rfl) (Nat.le_of_ble_eq_true rfl) (Nat.le_of_ble_eq_true rfl) rfl rfl (Nat.le_of_ble_eq_true rfl) (fun r m x hp => ?_)
  obtain ⟨rfl, rfl, hr1, hs1⟩ := hp
  have h1 := h.ans hr1 hs1
  have hm1 := h1.1
  have hr2 := hr0.off hs1 (by omega)
  refine g_aload_n (pc := 9) hc dML_answerTaken_9 rfl ?_
  refine g_get (pc := 10) hc dML_answerTaken_10 x_ML_14 hm1 (by rfl) ?_
  refine g_aload_n (pc := 13) hc dML_answerTaken_13 rfl ?_
  refine g_iconst (v := nI 0) (pc := 14) hc dML_answerTaken_14 (by decide) ?_
  refine g_aload_n (pc := 15) hc dML_answerTaken_15 rfl ?_
  refine g_callV (pc := 16) hc dML_answerTaken_16 x_ML_53 (s_Row_length V hr2) cl_Row (hr2.obj) (Nat.le_of_ble_eq_true rfl) (Nat.le_of_ble_eq_true rfl) (Nat.le_of_ble_eq_true rfl) (Nat.le_of_ble_eq_true rfl) rfl rfl (Nat.le_of_ble_eq_true rfl) (fun r m x hp => ?_)
  obtain ⟨rfl, rfl, rfl⟩ := hp
  refine g_callV (pc := 19) hc dML_answerTaken_19 x_ML_136 (s_Row_addPart V hr1 hr2 (by omega) (Nat.le_refl _) (by decide)) cl_Row (hr1.obj) (Nat.le_of_ble_eq_true rfl) (Nat.le_of_ble_eq_true rfl) (Nat.le_of_ble_eq_true rfl) (Nat.le_of_ble_eq_true rfl) rfl rfl (Nat.le_of_ble_eq_true rfl) (fun r m x hp => ?_)
  obtain ⟨rfl, rfl, hr3, hs3⟩ := hp
  have h3 := h1.ans hr3 hs3
  have hm3 := h3.1
  refine g_aload_n (pc := 22) hc dML_answerTaken_22 rfl ?_
  refine g_get (pc := 23) hc dML_answerTaken_23 x_ML_14 hm3 (by rfl) ?_
  refine g_bipush (v := nI 62) (pc := 26) hc dML_answerTaken_26 (by decide) ?_
  refine g_callV (pc := 28) hc dML_answerTaken_28 x_ML_140 (s_Row_add V hr3 (show 62 < 256 by decide)) cl_Row (hr3.obj) (Nat.le_of_ble_eq_true rfl) (Nat.le_of_ble_eq_true rfl) (Nat.le_of_ble_eq_true rfl) (Nat.le_of_ble_eq_true rfl) rfl rfl (Nat.le_of_ble_eq_true rfl) (fun r m x hp => ?_)
  obtain ⟨rfl, rfl, hr4, hs4⟩ := hp
  have h4 := h3.ans hr4 hs4
  refine g_aload_n (pc := 31) hc dML_answerTaken_31 rfl ?_
  refine g_callV (pc := 32) hc dML_answerTaken_32 x_ML_131 (s_ML_endAnswer V h4) cl_ML (h4.1) (Nat.le_of_ble_eq_true rfl) (Nat.le_of_ble_eq_true rfl) (Nat.le_of_ble_eq_true rfl) (Nat.le_of_ble_eq_true rfl) rfl rfl (Nat.le_of_ble_eq_true rfl) (fun r m x hp => ?_)
  obtain ⟨rfl, rfl, h5, hs5⟩ := hp
  refine g_vret (pc := 35) hc he dML_answerTaken_35 (Nat.le_refl _) (Nat.le_refl _) ⟨rfl, rfl, ?_, ((hs1.tr hs3).tr hs4).tr hs5⟩
  have e9 : ((((((A ++ zs t_250l).take 400 ++ ((E.2.2.getD k []).drop 0).take ((E.2.2.getD k []).length - 0)).take 400 ++ [62]).take 400 ++ [13]).take 400) ++ [10]).take 400 = zans A (zs t_250l ++ E.2.2.getD k [] ++ [62]) := by
    rw [List.drop_zero, Nat.sub_zero, List.take_length]
    simp only [ztake_take, zans, List.append_assoc, List.singleton_append, List.cons_append, List.nil_append]
  rw [← e9]
  exact h5
set_option maxHeartbeats 4000000 in
set_option maxRecDepth 100000 in
theorem s_ML_letterOrNull (V : mm_V) {z tn : Nat} {A Ln : List Nat} {lc : Bool} {T : List Nat} {tc td : Bool} {E : zEv} {Ms : List zMsg} {ses gr tx : Bool} (i : Int32) {mem : mm_M} {nx : Nat} (h : zML z A Ln lc T tc td tn E Ms ses gr tx mem) : mm_S V yML_letterOrNull cML_letterOrNull 2 (some (.object "MailLines$Letter")) 0 0 0 [.ref z, .int i] mem nx (fun r m x => (∃ k : Nat, k < Ms.length ∧ i = nI k ∧ r = some (.ref (z + 22 + 7 * k)) ∧ mem = m ∧ nx = x) ∨ ((∀ k : Nat, k < Ms.length → i ≠ nI k) ∧ r = some .null ∧ mem = m ∧ nx = x)) := by
  obtain ⟨hm, hA, hLn, hT, hE, ⟨g, hg, hg7⟩, hMs, hLe⟩ := id h
  refine mm_met (by decide) (Nat.le_of_ble_eq_true rfl) ?_
  intro X hc he hnm
  refine g_iload_n (pc := 0) hc dML_letterOrNull_0 rfl ?_
  refine g_if_lt (tgt := 30) (pc := 1) hc dML_letterOrNull_1 (by decide) (fun c1 => ?_) (fun c1 => ?_)
  · refine g_null (pc := 30) hc dML_letterOrNull_30 ?_
    exact g_aret (pc := 31) hc he dML_letterOrNull_31 (Or.inl rfl) (Nat.le_refl _) (Nat.le_refl _) (Or.inr ⟨fun k hk e => by rw [e] at c1; exact nI_pos (by omega) c1, rfl, rfl, rfl⟩)
  · refine g_iload_n (pc := 4) hc dML_letterOrNull_4 rfl ?_
    refine g_aload_n (pc := 5) hc dML_letterOrNull_5 rfl ?_
    refine g_get (pc := 6) hc dML_letterOrNull_6 x_ML_102 (by assumption) (by rfl) ?_
    refine g_icmp_ge (tgt := 30) (pc := 9) hc dML_letterOrNull_9 (by decide) (fun c9 => ?_) (fun c9 => ?_)
    · refine g_null (pc := 30) hc dML_letterOrNull_30 ?_
      exact g_aret (pc := 31) hc he dML_letterOrNull_31 (Or.inl rfl) (Nat.le_refl _) (Nat.le_refl _) (Or.inr ⟨fun k hk e => by rw [e, nI_leI (by omega) (by omega)] at c9; omega, rfl, rfl, rfl⟩)
    · refine g_iload_n (pc := 12) hc dML_letterOrNull_12 rfl ?_
      refine g_aload_n (pc := 13) hc dML_letterOrNull_13 rfl ?_
      refine g_get (pc := 14) hc dML_letterOrNull_14 x_ML_41 (by assumption) (by rfl) ?_
      refine g_alen (pc := 17) (t := kLA) (v := nI 10) hc dML_letterOrNull_17 rfl hg rfl ?_
      refine g_icmp_ge (tgt := 30) (pc := 18) hc dML_letterOrNull_18 (by decide) (fun c18 => absurd c18 (fun h9 => by
          obtain ⟨j, hj, rfl⟩ := nI_of c1
          rw [nI_leI (by omega) (by omega)] at c9 h9
          omega)) (fun _ => ?_)
      refine g_aload_n (pc := 21) hc dML_letterOrNull_21 rfl ?_
      refine g_get (pc := 22) hc dML_letterOrNull_22 x_ML_41 (by assumption) (by rfl) ?_
      refine g_iload_n (pc := 25) hc dML_letterOrNull_25 rfl ?_
      obtain ⟨j, hj, rfl⟩ := nI_of c1
      have h2 : j < Ms.length := by
        rcases Nat.lt_or_ge j Ms.length with z | z
        · exact z
        · exact absurd (nI_le z hj) c9
      refine g_aald (pc := 26) (t := kLA) hc dML_letterOrNull_26 rfl hg (vp_in_nI (by omega) (by omega)) ?_
      rw [nI_clamp (by omega), hg7 j (by omega), zrf]
      refine g_goto (tgt := 31) (pc := 27) hc dML_letterOrNull_27 (by decide) ?_
      exact g_aret (pc := 31) hc he dML_letterOrNull_31 (Or.inr ⟨_, rfl⟩) (Nat.le_refl _) (Nat.le_refl _) (Or.inl ⟨j, h2, rfl, rfl, rfl, rfl⟩)
set_option maxHeartbeats 4000000 in
set_option maxRecDepth 100000 in
theorem s_ML_replyToGreeting (V : mm_V) {z tn : Nat} {A Ln : List Nat} {lc : Bool} {T : List Nat} {tc td : Bool} {E : zEv} {Ms : List zMsg} {ses gr tx : Bool} {mem : mm_M} {nx : Nat} (h : zML z A Ln lc T tc td tn E Ms ses gr tx mem) : mm_S V yML_replyToGreeting cML_replyToGreeting 2 (some (.object "java/lang/String")) 7 0 0 [.ref z, .ref (z + 3 + 1)] mem nx (fun r m x => ∃ i : Nat, i < mm_nS ∧ r = some (.ref (V.2.2.2.2.1 i)) ∧ nx = x ∧ zs i = (if zgr (zs t_dm) Ln then zs t_250h else zs t_501) ∧ zML z A Ln lc T tc td tn (if zgr (zs t_dm) Ln then ([], false, []) else E) Ms ses (gr || zgr (zs t_dm) Ln) tx m ∧ zsame z (z + 92) mem m) := by
  obtain ⟨hm, hA, hLn, hT, hE, ⟨g, hg, hg7⟩, hMs, hLe⟩ := id h
  refine mm_met (by decide) (Nat.le_of_ble_eq_true rfl) ?_
  intro X hc he hnm
  refine g_aload_n (pc := 0) hc dML_replyToGreeting_0 rfl ?_
  refine g_callS (pc := 1) hc dML_replyToGreeting_1 x_ML_195 (s_Gr_isGreeting V hLn.2) (Nat.le_of_ble_eq_true rfl) (Nat.le_of_ble_eq_true rfl) (Nat.le_of_ble_eq_true rfl) (Nat.le_of_ble_eq_true rfl) rfl rfl (Nat.le_of_ble_eq_true rfl) (fun r m x hp => ?_)
  obtain ⟨rfl, rfl, rfl⟩ := hp
  refine g_if_ne (tgt := 10) (pc := 4) hc dML_replyToGreeting_4 (by decide) (fun c4 => ?_) (fun c4 => ?_)
  · simp (disch := omega) only [nI_leI, nI_ltI, nI_eq, nI_eq0, nI_lt0, nI_0le, nI_0lt, nI_le0, zb_0] at c4
    have d4 : zgr (zs t_dm) Ln = true := by simpa using c4
    refine g_aload_n (pc := 10) hc dML_replyToGreeting_10 rfl ?_
    refine g_iconst (v := nI 1) (pc := 11) hc dML_replyToGreeting_11 (by decide) ?_
    refine g_put (pc := 12) hc dML_replyToGreeting_12 x_ML_70 ft_ML rfl hm rfl rfl (zlt rfl) (fun m1 h1 o1 => ?_)
    have H1 : zML z A Ln lc T tc td tn E Ms ses true tx m1 := h.flag h1 o1
    have hE1 := H1.2.2.2.2.1
    have hm1 := H1.1
    refine g_aload_n (pc := 15) hc dML_replyToGreeting_15 rfl ?_
    refine g_get (pc := 16) hc dML_replyToGreeting_16 x_ML_35 hm1 (by rfl) ?_
    refine g_callV (pc := 19) hc dML_replyToGreeting_19 x_ML_79 (s_Env_clear V hE1) cl_Env (hE1.1) (Nat.le_of_ble_eq_true rfl) (Nat.le_of_ble_eq_true rfl) (Nat.le_of_ble_eq_true rfl) (Nat.le_of_ble_eq_true rfl) rfl rfl (Nat.le_of_ble_eq_true rfl) (fun r m x hp => ?_)
    obtain ⟨rfl, rfl, hE2, hs2⟩ := hp
    have H2 := H1.env hE2 hs2
    refine g_ldcS (pc := 22) hc dML_replyToGreeting_22 xt_ML_198 ?_
    exact g_aret (pc := 24) hc he dML_replyToGreeting_24 (Or.inr ⟨_, rfl⟩) (Nat.le_refl _) (Nat.le_refl _) ⟨t_250h, by decide, rfl, rfl, by rw [d4]; rfl, by rw [d4, Bool.or_true]; exact H2, fun a h9 => (hs2 a (by omega)).trans (o1 a (by omega))⟩
  · simp (disch := omega) only [nI_leI, nI_ltI, nI_eq, nI_eq0, nI_lt0, nI_0le, nI_0lt, nI_le0, zb_0] at c4
    refine g_ldcS (pc := 7) hc dML_replyToGreeting_7 xt_ML_186 ?_
    exact g_aret (pc := 9) hc he dML_replyToGreeting_9 (Or.inr ⟨_, rfl⟩) (Nat.le_refl _) (Nat.le_refl _) ⟨t_501, by decide, rfl, rfl, by rw [c4]; rfl, by rw [c4, Bool.or_false]; exact h, zsame.rf⟩
set_option maxHeartbeats 4000000 in
set_option maxRecDepth 100000 in
theorem s_ML_replyToData (V : mm_V) {z tn : Nat} {A Ln : List Nat} {lc : Bool} {T : List Nat} {tc td : Bool} {E : zEv} {Ms : List zMsg} {ses gr tx : Bool} {mem : mm_M} {nx : Nat} (h : zML z A Ln lc T tc td tn E Ms ses gr tx mem) : mm_S V yML_replyToData cML_replyToData 2 (some (.object "java/lang/String")) 2 0 0 [.ref z, .ref (z + 3 + 1)] mem nx (fun r m x => ∃ i : Nat, i < mm_nS ∧ r = some (.ref (V.2.2.2.2.1 i)) ∧ nx = x ∧ zs i = (if Ln.length == 4 then (if E.2.2.length = 0 then zs t_503 else zs t_354) else zs t_501) ∧ zML z A Ln lc (if Ln.length == 4 ∧ ¬ E.2.2.length = 0 then [] else T) (if Ln.length == 4 ∧ ¬ E.2.2.length = 0 then false else tc) (if Ln.length == 4 ∧ ¬ E.2.2.length = 0 then false else td) (if Ln.length == 4 ∧ ¬ E.2.2.length = 0 then 0 else tn) E Ms ses gr (tx || decide (Ln.length == 4 ∧ ¬ E.2.2.length = 0)) m ∧ zsame z (z + 92) mem m) := by
  obtain ⟨hm, hA, hLn, hT, hE, ⟨g, hg, hg7⟩, hMs, hLe⟩ := id h
  refine mm_met (by decide) (Nat.le_of_ble_eq_true rfl) ?_
  intro X hc he hnm
  have hb4 := hE.2.2.2.1
  refine g_aload_n (pc := 0) hc dML_replyToData_0 rfl ?_
  refine g_callS (pc := 1) hc dML_replyToData_1 x_ML_180 (s_Gr_isBareWord V hLn.2) (Nat.le_of_ble_eq_true rfl) (Nat.le_of_ble_eq_true rfl) (Nat.le_of_ble_eq_true rfl) (Nat.le_of_ble_eq_true rfl) rfl rfl (Nat.le_of_ble_eq_true rfl) (fun r m x hp => ?_)
  obtain ⟨rfl, rfl, rfl⟩ := hp
  refine g_if_ne (tgt := 10) (pc := 4) hc dML_replyToData_4 (by decide) (fun c4 => ?_) (fun c4 => ?_)
  · simp (disch := omega) only [nI_leI, nI_ltI, nI_eq, nI_eq0, nI_lt0, nI_0le, nI_0lt, nI_le0, zb_0] at c4
    have d4 : (Ln.length == 4) = true := by simpa using c4
    have d5 : Ln.length = 4 := by simpa using d4
    refine g_aload_n (pc := 10) hc dML_replyToData_10 rfl ?_
    refine g_get (pc := 11) hc dML_replyToData_11 x_ML_35 (by assumption) (by rfl) ?_
    refine g_callV (pc := 14) hc dML_replyToData_14 x_ML_106 (s_Env_recipients V hE) cl_Env (hE.1) (Nat.le_of_ble_eq_true rfl) (Nat.le_of_ble_eq_true rfl) (Nat.le_of_ble_eq_true rfl) (Nat.le_of_ble_eq_true rfl) rfl rfl (Nat.le_of_ble_eq_true rfl) (fun r m x hp => ?_)
    obtain ⟨rfl, rfl, rfl⟩ := hp
    refine g_if_ne (tgt := 23) (pc := 17) hc dML_replyToData_17 (by decide) (fun c17 => ?_) (fun c17 => ?_)
    · simp (disch := omega) only [nI_leI, nI_ltI, nI_eq, nI_eq0, nI_lt0, nI_0le, nI_0lt, nI_le0, zb_0] at c17
      refine g_aload_n (pc := 23) hc dML_replyToData_23 rfl ?_
      refine g_iconst (v := nI 1) (pc := 24) hc dML_replyToData_24 (by decide) ?_
      refine g_put (pc := 25) hc dML_replyToData_25 x_ML_73 ft_ML rfl hm rfl rfl (zlt rfl) (fun m1 h1 o1 => ?_)
      have H1 : zML z A Ln lc T tc td tn E Ms ses gr true m1 := h.flag h1 o1
      have hT1 := H1.2.2.2.1
      have hm1 := H1.1
      refine g_aload_n (pc := 28) hc dML_replyToData_28 rfl ?_
      refine g_get (pc := 29) hc dML_replyToData_29 x_ML_28 hm1 (by rfl) ?_
      refine g_callV (pc := 32) hc dML_replyToData_32 x_ML_245 (s_TR_clear V hT1) cl_TR (hT1.1) (Nat.le_of_ble_eq_true rfl) (Nat.le_of_ble_eq_true rfl) (Nat.le_of_ble_eq_true rfl) (Nat.le_of_ble_eq_true rfl) rfl rfl (Nat.le_of_ble_eq_true rfl) (fun r m x hp => ?_)
      obtain ⟨rfl, rfl, hT2, hs2⟩ := hp
      have H2 := H1.text hT2 hs2
      refine g_ldcS (pc := 35) hc dML_replyToData_35 xt_ML_246 ?_
      exact g_aret (pc := 37) hc he dML_replyToData_37 (Or.inr ⟨_, rfl⟩) (Nat.le_refl _) (Nat.le_refl _) ⟨t_354, by decide, rfl, rfl, by rw [d4, if_pos rfl, if_neg c17], by simpa [d5, c17] using H2, fun a h9 => (hs2 a (by omega)).trans (o1 a (by omega))⟩
    · simp (disch := omega) only [nI_leI, nI_ltI, nI_eq, nI_eq0, nI_lt0, nI_0le, nI_0lt, nI_le0, zb_0] at c17
      refine g_ldcS (pc := 20) hc dML_replyToData_20 xt_ML_161 ?_
      exact g_aret (pc := 22) hc he dML_replyToData_22 (Or.inr ⟨_, rfl⟩) (Nat.le_refl _) (Nat.le_refl _) ⟨t_503, by decide, rfl, rfl, by rw [d4, c17]; rfl, by simpa [c17] using h, zsame.rf⟩
  · simp (disch := omega) only [nI_leI, nI_ltI, nI_eq, nI_eq0, nI_lt0, nI_0le, nI_0lt, nI_le0, zb_0] at c4
    refine g_ldcS (pc := 7) hc dML_replyToData_7 xt_ML_186 ?_
    exact g_aret (pc := 9) hc he dML_replyToData_9 (Or.inr ⟨_, rfl⟩) (Nat.le_refl _) (Nat.le_refl _) ⟨t_501, by decide, rfl, rfl, by rw [c4]; rfl, by simpa [c4] using h, zsame.rf⟩
set_option maxHeartbeats 4000000 in
set_option maxRecDepth 100000 in
theorem s_ML_replyToReset (V : mm_V) {z tn : Nat} {A Ln : List Nat} {lc : Bool} {T : List Nat} {tc td : Bool} {E : zEv} {Ms : List zMsg} {ses gr tx : Bool} {mem : mm_M} {nx : Nat} (h : zML z A Ln lc T tc td tn E Ms ses gr tx mem) : mm_S V yML_replyToReset cML_replyToReset 2 (some (.object "java/lang/String")) 2 0 0 [.ref z, .ref (z + 3 + 1)] mem nx (fun r m x => ∃ i : Nat, i < mm_nS ∧ r = some (.ref (V.2.2.2.2.1 i)) ∧ nx = x ∧ zs i = (if Ln.length == 4 then zs t_250o else zs t_501) ∧ zML z A Ln lc T tc td tn (if Ln.length == 4 then ([], false, []) else E) Ms ses gr tx m ∧ zsame z (z + 92) mem m) := by
  obtain ⟨hm, hA, hLn, hT, hE, ⟨g, hg, hg7⟩, hMs, hLe⟩ := id h
  refine mm_met (by decide) (Nat.le_of_ble_eq_true rfl) ?_
  intro X hc he hnm
  refine g_aload_n (pc := 0) hc dML_replyToReset_0 rfl ?_
  refine g_callS (pc := 1) hc dML_replyToReset_1 x_ML_180 (s_Gr_isBareWord V hLn.2) (Nat.le_of_ble_eq_true rfl) (Nat.le_of_ble_eq_true rfl) (Nat.le_of_ble_eq_true rfl) (Nat.le_of_ble_eq_true rfl) rfl rfl (Nat.le_of_ble_eq_true rfl) (fun r m x hp => ?_)
  obtain ⟨rfl, rfl, rfl⟩ := hp
  refine g_if_ne (tgt := 10) (pc := 4) hc dML_replyToReset_4 (by decide) (fun c4 => ?_) (fun c4 => ?_)
  · simp (disch := omega) only [nI_leI, nI_ltI, nI_eq, nI_eq0, nI_lt0, nI_0le, nI_0lt, nI_le0, zb_0] at c4
    have d4 : (Ln.length == 4) = true := by simpa using c4
    refine g_aload_n (pc := 10) hc dML_replyToReset_10 rfl ?_
    refine g_get (pc := 11) hc dML_replyToReset_11 x_ML_35 (by assumption) (by rfl) ?_
    refine g_callV (pc := 14) hc dML_replyToReset_14 x_ML_79 (s_Env_clear V hE) cl_Env (hE.1) (Nat.le_of_ble_eq_true rfl) (Nat.le_of_ble_eq_true rfl) (Nat.le_of_ble_eq_true rfl) (Nat.le_of_ble_eq_true rfl) rfl rfl (Nat.le_of_ble_eq_true rfl) (fun r m x hp => ?_)
    obtain ⟨rfl, rfl, hE2, hs2⟩ := hp
    have H2 := h.env hE2 hs2
    refine g_ldcS (pc := 17) hc dML_replyToReset_17 xt_ML_184 ?_
    exact g_aret (pc := 19) hc he dML_replyToReset_19 (Or.inr ⟨_, rfl⟩) (Nat.le_refl _) (Nat.le_refl _) ⟨t_250o, by decide, rfl, rfl, by rw [d4]; rfl, by rw [d4]; exact H2, fun a h9 => hs2 a (by omega)⟩
  · simp (disch := omega) only [nI_leI, nI_ltI, nI_eq, nI_eq0, nI_lt0, nI_0le, nI_0lt, nI_le0, zb_0] at c4
    refine g_ldcS (pc := 7) hc dML_replyToReset_7 xt_ML_186 ?_
    exact g_aret (pc := 9) hc he dML_replyToReset_9 (Or.inr ⟨_, rfl⟩) (Nat.le_refl _) (Nat.le_refl _) ⟨t_501, by decide, rfl, rfl, by rw [c4]; rfl, by simpa [c4] using h, zsame.rf⟩
set_option maxHeartbeats 4000000 in
set_option maxRecDepth 100000 in
theorem s_ML_replyToQuit (V : mm_V) {z tn : Nat} {A Ln : List Nat} {lc : Bool} {T : List Nat} {tc td : Bool} {E : zEv} {Ms : List zMsg} {ses gr tx : Bool} {mem : mm_M} {nx : Nat} (h : zML z A Ln lc T tc td tn E Ms ses gr tx mem) : mm_S V yML_replyToQuit cML_replyToQuit 2 (some (.object "java/lang/String")) 2 0 0 [.ref z, .ref (z + 3 + 1)] mem nx (fun r m x => ∃ i : Nat, i < mm_nS ∧ r = some (.ref (V.2.2.2.2.1 i)) ∧ nx = x ∧ zs i = (if Ln.length == 4 then zs t_221 else zs t_501) ∧ zML z A Ln lc T tc td tn E Ms (ses && !(Ln.length == 4)) gr tx m ∧ zsame z (z + 92) mem m) := by
  obtain ⟨hm, hA, hLn, hT, hE, ⟨g, hg, hg7⟩, hMs, hLe⟩ := id h
  refine mm_met (by decide) (Nat.le_of_ble_eq_true rfl) ?_
  intro X hc he hnm
  refine g_aload_n (pc := 0) hc dML_replyToQuit_0 rfl ?_
  refine g_callS (pc := 1) hc dML_replyToQuit_1 x_ML_180 (s_Gr_isBareWord V hLn.2) (Nat.le_of_ble_eq_true rfl) (Nat.le_of_ble_eq_true rfl) (Nat.le_of_ble_eq_true rfl) (Nat.le_of_ble_eq_true rfl) rfl rfl (Nat.le_of_ble_eq_true rfl) (fun r m x hp => ?_)
  obtain ⟨rfl, rfl, rfl⟩ := hp
  refine g_if_ne (tgt := 10) (pc := 4) hc dML_replyToQuit_4 (by decide) (fun c4 => ?_) (fun c4 => ?_)
  · simp (disch := omega) only [nI_leI, nI_ltI, nI_eq, nI_eq0, nI_lt0, nI_0le, nI_0lt, nI_le0, zb_0] at c4
    have d4 : (Ln.length == 4) = true := by simpa using c4
    refine g_aload_n (pc := 10) hc dML_replyToQuit_10 rfl ?_
    refine g_iconst (v := nI 0) (pc := 11) hc dML_replyToQuit_11 (by decide) ?_
    refine g_put (pc := 12) hc dML_replyToQuit_12 x_ML_46 ft_ML rfl hm rfl rfl (zlt rfl) (fun m1 h1 o1 => ?_)
    have H1 : zML z A Ln lc T tc td tn E Ms false gr tx m1 := h.flag h1 o1
    refine g_ldcS (pc := 15) hc dML_replyToQuit_15 xt_ML_248 ?_
    exact g_aret (pc := 17) hc he dML_replyToQuit_17 (Or.inr ⟨_, rfl⟩) (Nat.le_refl _) (Nat.le_refl _) ⟨t_221, by decide, rfl, rfl, by rw [d4]; rfl, by rw [d4]; simpa using H1, fun a h9 => o1 a (by omega)⟩
  · simp (disch := omega) only [nI_leI, nI_ltI, nI_eq, nI_eq0, nI_lt0, nI_0le, nI_0lt, nI_le0, zb_0] at c4
    refine g_ldcS (pc := 7) hc dML_replyToQuit_7 xt_ML_186 ?_
    exact g_aret (pc := 9) hc he dML_replyToQuit_9 (Or.inr ⟨_, rfl⟩) (Nat.le_refl _) (Nat.le_refl _) ⟨t_501, by decide, rfl, rfl, by rw [c4]; rfl, by simpa [c4] using h, zsame.rf⟩
set_option maxHeartbeats 4000000 in
set_option maxRecDepth 100000 in
theorem s_ML_replyToSender (V : mm_V) {z tn : Nat} {A Ln : List Nat} {lc : Bool} {T : List Nat} {tc td : Bool} {E : zEv} {Ms : List zMsg} {ses gr tx : Bool} {mem : mm_M} {nx : Nat} (h : zML z A Ln lc T tc td tn E Ms ses gr tx mem) (hln : Ln.length ≤ 100) : mm_S V yML_replyToSender cML_replyToSender 5 (some (.object "java/lang/String")) 7 0 0 [.ref z, .ref (z + 3 + 1)] mem nx (fun r m x => ∃ i : Nat, i < mm_nS ∧ r = some (.ref (V.2.2.2.2.1 i)) ∧ nx = x ∧ zs i = (zrM E Ln).1 ∧ zML z A Ln lc T tc td tn ((zrM E Ln).2) Ms ses gr tx m ∧ zsame z (z + 92) mem m) := by
  obtain ⟨hm, hA, hLn, hT, hE, ⟨g, hg, hg7⟩, hMs, hLe⟩ := id h
  refine mm_met (by decide) (Nat.le_of_ble_eq_true rfl) ?_
  intro X hc he hnm
  have ln1 : (zs t_ns).length = 12 := rfl
  have ln2 : (zs t_mf).length = 10 := rfl
  have J26 : ∀ e : Nat, (if zhw Ln 0 (zs t_ns) then some (zs t_ns).length else zpe (zs t_lm) (zs t_dm) Ln (zs t_mf)) = some e → 12 ≤ e → e ≤ Ln.length → mm_G V X 5 26 [(0, .ref z), (1, .ref (z + 3 + 1))] [.int (nI e)] mem nx 0 0 := by
    intro e he9 hlo hhi
    refine g_istore_n (pc := 26) hc dML_replyToSender_26 (by decide) rfl ?_
    refine g_iload_n (pc := 27) hc dML_replyToSender_27 rfl ?_
    refine g_if_ge (tgt := 35) (pc := 28) hc dML_replyToSender_28 (by decide) (fun _ => ?_) (fun c28 => absurd (nI_pos' (by omega)) c28)
    refine g_aload_n (pc := 35) hc dML_replyToSender_35 rfl ?_
    refine g_iload_n (pc := 36) hc dML_replyToSender_36 rfl ?_
    refine g_callS (pc := 37) hc dML_replyToSender_37 x_ML_215 (s_Gr_largestSize V (fr := e) hLn.2 (by omega) hhi) (Nat.le_of_ble_eq_true rfl) (Nat.le_of_ble_eq_true rfl) (Nat.le_of_ble_eq_true rfl) (Nat.le_of_ble_eq_true rfl) rfl rfl (Nat.le_of_ble_eq_true rfl) (fun r m x hp => ?_)
    obtain ⟨rfl, rfl, rfl⟩ := hp
    rcases e8 : zls (zs t_bo) (zs t_si) Ln 100 e 0 with _ | sz
    · rw [show zoI none = -1 from rfl]
      refine g_istore (pc := 40) hc dML_replyToSender_40 (by decide) rfl ?_
      refine g_iload (pc := 42) hc dML_replyToSender_42 rfl ?_
      refine g_if_ge (tgt := 50) (pc := 44) hc dML_replyToSender_44 (by decide) (fun c44 => absurd c44 (by decide)) (fun _ => ?_)
      refine g_ldcS (pc := 47) hc dML_replyToSender_47 xt_ML_186 ?_
      exact g_aret (pc := 49) hc he dML_replyToSender_49 (Or.inr ⟨_, rfl⟩) (Nat.le_refl _) (Nat.le_refl _) ⟨t_501, by decide, rfl, rfl, by rw [zrM, he9]; simp only []; rw [e8], by rw [zrM, he9]; simp only []; rw [e8]; exact h, zsame.rf⟩
    · rw [show zoI (some sz) = nI sz from rfl]
      have q8 := zls_lt _ _ _ _ (by decide) e8
      refine g_istore (pc := 40) hc dML_replyToSender_40 (by decide) rfl ?_
      refine g_iload (pc := 42) hc dML_replyToSender_42 rfl ?_
      refine g_if_ge (tgt := 50) (pc := 44) hc dML_replyToSender_44 (by decide) (fun _ => ?_) (fun c44 => absurd (nI_pos' (by omega)) c44)
      refine g_aload_n (pc := 50) hc dML_replyToSender_50 rfl ?_
      refine g_get (pc := 51) hc dML_replyToSender_51 x_ML_35 (by assumption) (by rfl) ?_
      refine g_callV (pc := 54) hc dML_replyToSender_54 x_ML_219 (s_Env_hasSender V hE) cl_Env (hE.1) (Nat.le_of_ble_eq_true rfl) (Nat.le_of_ble_eq_true rfl) (Nat.le_of_ble_eq_true rfl) (Nat.le_of_ble_eq_true rfl) rfl rfl (Nat.le_of_ble_eq_true rfl) (fun r m x hp => ?_)
      obtain ⟨rfl, rfl, rfl⟩ := hp
      refine g_if_eq (tgt := 63) (pc := 57) hc dML_replyToSender_57 (by decide) (fun c57 => ?_) (fun c57 => ?_)
      · simp (disch := omega) only [nI_leI, nI_ltI, nI_eq, nI_eq0, nI_lt0, nI_0le, nI_0lt, nI_le0, zb_0] at c57
        refine g_iload (pc := 63) hc dML_replyToSender_63 rfl ?_
        refine g_sipush (v := nI 200) (pc := 65) hc dML_replyToSender_65 (by decide) ?_
        refine g_icmp_le (tgt := 74) (pc := 68) hc dML_replyToSender_68 (by decide) (fun c68 => ?_) (fun c68 => ?_)
        · simp (disch := omega) only [nI_leI, nI_ltI, nI_eq, nI_eq0, nI_lt0, nI_0le, nI_0lt, nI_le0, zb_0] at c68
          refine g_aload_n (pc := 74) hc dML_replyToSender_74 rfl ?_
          refine g_get (pc := 75) hc dML_replyToSender_75 x_ML_35 (by assumption) (by rfl) ?_
          refine g_aload_n (pc := 78) hc dML_replyToSender_78 rfl ?_
          refine g_ldcS (pc := 79) hc dML_replyToSender_79 xt_ML_209 ?_
          refine g_callT (pc := 81) hc dML_replyToSender_81 x_ML_206 (s_Str_length V (show t_mf < mm_nS by decide)) (show t_mf < mm_nS by decide) (Nat.le_of_ble_eq_true rfl) (Nat.le_of_ble_eq_true rfl) (Nat.le_of_ble_eq_true rfl) (Nat.le_of_ble_eq_true rfl) rfl rfl (Nat.le_of_ble_eq_true rfl) (fun r m x hp => ?_)
          obtain ⟨rfl, rfl, rfl⟩ := hp
          refine g_iconst (v := nI 1) (pc := 84) hc dML_replyToSender_84 (by decide) ?_
          refine g_iadd (pc := 85) hc dML_replyToSender_85 ?_
          rw [nI_add]
          refine g_iload_n (pc := 86) hc dML_replyToSender_86 rfl ?_
          refine g_iconst (v := nI 1) (pc := 87) hc dML_replyToSender_87 (by decide) ?_
          refine g_isub (pc := 88) hc dML_replyToSender_88 ?_
          rw [pk_sub (show 1 ≤ e by omega)]
          refine g_callV (pc := 89) hc dML_replyToSender_89 x_ML_225 (s_Env_setSender V (fr := (zs t_mf).length + 1) (to := e - 1) hE hLn.2 (by omega) (by omega) (by omega) (by omega)) cl_Env (hE.1) (Nat.le_of_ble_eq_true rfl) (Nat.le_of_ble_eq_true rfl) (Nat.le_of_ble_eq_true rfl) (Nat.le_of_ble_eq_true rfl) rfl rfl (Nat.le_of_ble_eq_true rfl) (fun r m x hp => ?_)
          obtain ⟨rfl, rfl, hE2, hs2⟩ := hp
          have H2 := h.env hE2 hs2
          refine g_ldcS (pc := 92) hc dML_replyToSender_92 xt_ML_228 ?_
          exact g_aret (pc := 94) hc he dML_replyToSender_94 (Or.inr ⟨_, rfl⟩) (Nat.le_refl _) (Nat.le_refl _) ⟨t_250s, by decide, rfl, rfl, by rw [zrM, he9]; simp only []; rw [e8]; simp only []; rw [c57, if_neg (by decide), if_neg (by omega)], by rw [zrM, he9]; simp only []; rw [e8]; simp only []; rw [c57, if_neg (by decide), if_neg (by omega)]; exact H2, fun a h9 => hs2 a (by omega)⟩
        · simp (disch := omega) only [nI_leI, nI_ltI, nI_eq, nI_eq0, nI_lt0, nI_0le, nI_0lt, nI_le0, zb_0] at c68
          refine g_ldcS (pc := 71) hc dML_replyToSender_71 xt_ML_223 ?_
          exact g_aret (pc := 73) hc he dML_replyToSender_73 (Or.inr ⟨_, rfl⟩) (Nat.le_refl _) (Nat.le_refl _) ⟨t_552, by decide, rfl, rfl, by rw [zrM, he9]; simp only []; rw [e8]; simp only []; rw [c57, if_neg (by decide), if_pos (by omega)], by rw [zrM, he9]; simp only []; rw [e8]; simp only []; rw [c57, if_neg (by decide), if_pos (by omega)]; exact h, zsame.rf⟩
      · simp (disch := omega) only [nI_leI, nI_ltI, nI_eq, nI_eq0, nI_lt0, nI_0le, nI_0lt, nI_le0, zb_0] at c57
        have d57 : E.2.1 = true := by simpa using c57
        refine g_ldcS (pc := 60) hc dML_replyToSender_60 xt_ML_161 ?_
        exact g_aret (pc := 62) hc he dML_replyToSender_62 (Or.inr ⟨_, rfl⟩) (Nat.le_refl _) (Nat.le_refl _) ⟨t_503, by decide, rfl, rfl, by rw [zrM, he9]; simp only []; rw [e8]; simp only []; rw [d57]; rfl, by rw [zrM, he9]; simp only []; rw [e8]; simp only []; rw [d57]; exact h, zsame.rf⟩
  refine g_aload_n (pc := 0) hc dML_replyToSender_0 rfl ?_
  refine g_iconst (v := nI 0) (pc := 1) hc dML_replyToSender_1 (by decide) ?_
  refine g_ldcS (pc := 2) hc dML_replyToSender_2 xt_ML_200 ?_
  refine g_callV (pc := 4) hc dML_replyToSender_4 x_ML_202 (s_Row_hasWord V (a := 0) hLn.2 (by decide) (show t_ns < mm_nS by decide)) cl_Row (hLn.2.obj) (Nat.le_of_ble_eq_true rfl) (Nat.le_of_ble_eq_true rfl) (Nat.le_of_ble_eq_true rfl) (Nat.le_of_ble_eq_true rfl) rfl rfl (Nat.le_of_ble_eq_true rfl) (fun r m x hp => ?_)
  obtain ⟨rfl, rfl, rfl⟩ := hp
  refine g_istore_n (pc := 7) hc dML_replyToSender_7 (by decide) rfl ?_
  refine g_iload_n (pc := 8) hc dML_replyToSender_8 rfl ?_
  refine g_if_eq (tgt := 20) (pc := 9) hc dML_replyToSender_9 (by decide) (fun c9 => ?_) (fun c9 => ?_)
  · simp (disch := omega) only [nI_leI, nI_ltI, nI_eq, nI_eq0, nI_lt0, nI_0le, nI_0lt, nI_le0, zb_0] at c9
    refine g_aload_n (pc := 20) hc dML_replyToSender_20 rfl ?_
    refine g_ldcS (pc := 21) hc dML_replyToSender_21 xt_ML_209 ?_
    refine g_callS (pc := 23) hc dML_replyToSender_23 x_ML_211 (s_Gr_pathEnd V hLn.2 (show t_mf < mm_nS by decide)) (Nat.le_of_ble_eq_true rfl) (Nat.le_of_ble_eq_true rfl) (Nat.le_of_ble_eq_true rfl) (Nat.le_of_ble_eq_true rfl) rfl rfl (Nat.le_of_ble_eq_true rfl) (fun r m x hp => ?_)
    obtain ⟨rfl, rfl, rfl⟩ := hp
    rcases e9 : zpe (zs t_lm) (zs t_dm) Ln (zs t_mf) with _ | e
    · rw [show zoI none = -1 from rfl]
      refine g_istore_n (pc := 26) hc dML_replyToSender_26 (by decide) rfl ?_
      refine g_iload_n (pc := 27) hc dML_replyToSender_27 rfl ?_
      refine g_if_ge (tgt := 35) (pc := 28) hc dML_replyToSender_28 (by decide) (fun c28 => absurd c28 (by decide)) (fun _ => ?_)
      refine g_iconst (v := -1) (pc := 31) hc dML_replyToSender_31 (by decide) ?_
      refine g_goto (tgt := 40) (pc := 32) hc dML_replyToSender_32 (by decide) ?_
      refine g_istore (pc := 40) hc dML_replyToSender_40 (by decide) rfl ?_
      refine g_iload (pc := 42) hc dML_replyToSender_42 rfl ?_
      refine g_if_ge (tgt := 50) (pc := 44) hc dML_replyToSender_44 (by decide) (fun c44 => absurd c44 (by decide)) (fun _ => ?_)
      refine g_ldcS (pc := 47) hc dML_replyToSender_47 xt_ML_186 ?_
      exact g_aret (pc := 49) hc he dML_replyToSender_49 (Or.inr ⟨_, rfl⟩) (Nat.le_refl _) (Nat.le_refl _) ⟨t_501, by decide, rfl, rfl, by rw [zrM, c9, if_neg (by decide), e9], by rw [zrM, c9, if_neg (by decide), e9]; exact h, zsame.rf⟩
    · rw [show zoI (some e) = nI e from rfl]
      have q9 := zpe_lt e9
      refine g_lv (lv' := [(0, .ref z), (1, .ref (z + 3 + 1))]) ⟨rfl, rfl, trivial⟩ ?_
      exact J26 e (by rw [c9, if_neg (by decide), e9]) (by omega) (by omega)
  · simp (disch := omega) only [nI_leI, nI_ltI, nI_eq, nI_eq0, nI_lt0, nI_0le, nI_0lt, nI_le0, zb_0] at c9
    have d9 : zhw Ln 0 (zs t_ns) = true := by simpa using c9
    refine g_ldcS (pc := 12) hc dML_replyToSender_12 xt_ML_200 ?_
    refine g_callT (pc := 14) hc dML_replyToSender_14 x_ML_206 (s_Str_length V (show t_ns < mm_nS by decide)) (show t_ns < mm_nS by decide) (Nat.le_of_ble_eq_true rfl) (Nat.le_of_ble_eq_true rfl) (Nat.le_of_ble_eq_true rfl) (Nat.le_of_ble_eq_true rfl) rfl rfl (Nat.le_of_ble_eq_true rfl) (fun r m x hp => ?_)
    obtain ⟨rfl, rfl, rfl⟩ := hp
    refine g_goto (tgt := 26) (pc := 17) hc dML_replyToSender_17 (by decide) ?_
    have q9 := zhw_len _ _ 0 d9 (by decide) (Nat.zero_le _)
    refine g_lv (lv' := [(0, .ref z), (1, .ref (z + 3 + 1))]) ⟨rfl, rfl, trivial⟩ ?_
    exact J26 _ (by rw [d9, if_pos rfl]) (by omega) (by omega)
set_option maxHeartbeats 4000000 in
set_option maxRecDepth 100000 in
theorem s_ML_replyToRecipient (V : mm_V) {z tn : Nat} {A Ln : List Nat} {lc : Bool} {T : List Nat} {tc td : Bool} {E : zEv} {Ms : List zMsg} {ses gr tx : Bool} {mem : mm_M} {nx : Nat} (h : zML z A Ln lc T tc td tn E Ms ses gr tx mem) (hln : Ln.length ≤ 100) : mm_S V yML_replyToRecipient cML_replyToRecipient 3 (some (.object "java/lang/String")) 7 0 0 [.ref z, .ref (z + 3 + 1)] mem nx (fun r m x => ∃ i : Nat, i < mm_nS ∧ r = some (.ref (V.2.2.2.2.1 i)) ∧ nx = x ∧ zs i = (zrR E Ln).1 ∧ zML z A Ln lc T tc td tn ((zrR E Ln).2) Ms ses gr tx m ∧ zsame z (z + 92) mem m) := by
  obtain ⟨hm, hA, hLn, hT, hE, ⟨g, hg, hg7⟩, hMs, hLe⟩ := id h
  refine mm_met (by decide) (Nat.le_of_ble_eq_true rfl) ?_
  intro X hc he hnm
  have ln2 : (zs t_rt).length = 8 := rfl
  have hb4 := hE.2.2.2.1
  have hz : ∀ a, zpe (zs t_lm) (zs t_dm) Ln (zs t_rt) = some a → a < 2 ^ 31 := fun a e => by have := zpe_lt e; omega
  refine g_aload_n (pc := 0) hc dML_replyToRecipient_0 rfl ?_
  refine g_ldcS (pc := 1) hc dML_replyToRecipient_1 xt_ML_230 ?_
  refine g_callS (pc := 3) hc dML_replyToRecipient_3 x_ML_211 (s_Gr_pathEnd V hLn.2 (show t_rt < mm_nS by decide)) (Nat.le_of_ble_eq_true rfl) (Nat.le_of_ble_eq_true rfl) (Nat.le_of_ble_eq_true rfl) (Nat.le_of_ble_eq_true rfl) rfl rfl (Nat.le_of_ble_eq_true rfl) (fun r m x hp => ?_)
  obtain ⟨rfl, rfl, rfl⟩ := hp
  refine g_istore_n (pc := 6) hc dML_replyToRecipient_6 (by decide) rfl ?_
  refine g_iload_n (pc := 7) hc dML_replyToRecipient_7 rfl ?_
  refine g_aload_n (pc := 8) hc dML_replyToRecipient_8 rfl ?_
  refine g_callV (pc := 9) hc dML_replyToRecipient_9 x_ML_53 (s_Row_length V hLn.2) cl_Row (hLn.2.obj) (Nat.le_of_ble_eq_true rfl) (Nat.le_of_ble_eq_true rfl) (Nat.le_of_ble_eq_true rfl) (Nat.le_of_ble_eq_true rfl) rfl rfl (Nat.le_of_ble_eq_true rfl) (fun r m x hp => ?_)
  obtain ⟨rfl, rfl, rfl⟩ := hp
  refine g_icmp_eq (tgt := 18) (pc := 12) hc dML_replyToRecipient_12 (by decide) (fun c12 => ?_) (fun c12 => ?_)
  · rw [zoI_eq hz (by omega)] at c12
    refine g_aload_n (pc := 18) hc dML_replyToRecipient_18 rfl ?_
    refine g_get (pc := 19) hc dML_replyToRecipient_19 x_ML_35 (by assumption) (by rfl) ?_
    refine g_callV (pc := 22) hc dML_replyToRecipient_22 x_ML_219 (s_Env_hasSender V hE) cl_Env (hE.1) (Nat.le_of_ble_eq_true rfl) (Nat.le_of_ble_eq_true rfl) (Nat.le_of_ble_eq_true rfl) (Nat.le_of_ble_eq_true rfl) rfl rfl (Nat.le_of_ble_eq_true rfl) (fun r m x hp => ?_)
    obtain ⟨rfl, rfl, rfl⟩ := hp
    refine g_if_ne (tgt := 31) (pc := 25) hc dML_replyToRecipient_25 (by decide) (fun c25 => ?_) (fun c25 => ?_)
    · simp (disch := omega) only [nI_leI, nI_ltI, nI_eq, nI_eq0, nI_lt0, nI_0le, nI_0lt, nI_le0, zb_0] at c25
      have d25 : ¬ E.2.1 = false := by simpa using c25
      refine g_aload_n (pc := 31) hc dML_replyToRecipient_31 rfl ?_
      refine g_ldcS (pc := 32) hc dML_replyToRecipient_32 xt_ML_230 ?_
      refine g_callT (pc := 34) hc dML_replyToRecipient_34 x_ML_206 (s_Str_length V (show t_rt < mm_nS by decide)) (show t_rt < mm_nS by decide) (Nat.le_of_ble_eq_true rfl) (Nat.le_of_ble_eq_true rfl) (Nat.le_of_ble_eq_true rfl) (Nat.le_of_ble_eq_true rfl) rfl rfl (Nat.le_of_ble_eq_true rfl) (fun r m x hp => ?_)
      obtain ⟨rfl, rfl, rfl⟩ := hp
      refine g_iconst (v := nI 1) (pc := 37) hc dML_replyToRecipient_37 (by decide) ?_
      refine g_iadd (pc := 38) hc dML_replyToRecipient_38 ?_
      rw [nI_add]
      refine g_callS (pc := 39) hc dML_replyToRecipient_39 x_ML_232 (s_Gr_isHere V (fr := (zs t_rt).length + 1) hLn.2 (by omega)) (Nat.le_of_ble_eq_true rfl) (Nat.le_of_ble_eq_true rfl) (Nat.le_of_ble_eq_true rfl) (Nat.le_of_ble_eq_true rfl) rfl rfl (Nat.le_of_ble_eq_true rfl) (fun r m x hp => ?_)
      obtain ⟨rfl, rfl, rfl⟩ := hp
      refine g_if_ne (tgt := 48) (pc := 42) hc dML_replyToRecipient_42 (by decide) (fun c42 => ?_) (fun c42 => ?_)
      · simp (disch := omega) only [nI_leI, nI_ltI, nI_eq, nI_eq0, nI_lt0, nI_0le, nI_0lt, nI_le0, zb_0] at c42
        have d42 : ¬ zhe (zs t_lm) (zs t_he) Ln ((zs t_rt).length + 1) = false := by simpa using c42
        refine g_aload_n (pc := 48) hc dML_replyToRecipient_48 rfl ?_
        refine g_get (pc := 49) hc dML_replyToRecipient_49 x_ML_35 (by assumption) (by rfl) ?_
        refine g_callV (pc := 52) hc dML_replyToRecipient_52 x_ML_106 (s_Env_recipients V hE) cl_Env (hE.1) (Nat.le_of_ble_eq_true rfl) (Nat.le_of_ble_eq_true rfl) (Nat.le_of_ble_eq_true rfl) (Nat.le_of_ble_eq_true rfl) rfl rfl (Nat.le_of_ble_eq_true rfl) (fun r m x hp => ?_)
        obtain ⟨rfl, rfl, rfl⟩ := hp
        refine g_iconst (v := nI 4) (pc := 55) hc dML_replyToRecipient_55 (by decide) ?_
        refine g_icmp_lt (tgt := 62) (pc := 56) hc dML_replyToRecipient_56 (by decide) (fun c56 => ?_) (fun c56 => ?_)
        · simp (disch := omega) only [nI_leI, nI_ltI, nI_eq, nI_eq0, nI_lt0, nI_0le, nI_0lt, nI_le0, zb_0] at c56
          refine g_aload_n (pc := 62) hc dML_replyToRecipient_62 rfl ?_
          refine g_get (pc := 63) hc dML_replyToRecipient_63 x_ML_35 (by assumption) (by rfl) ?_
          refine g_aload_n (pc := 66) hc dML_replyToRecipient_66 rfl ?_
          refine g_ldcS (pc := 67) hc dML_replyToRecipient_67 xt_ML_230 ?_
          refine g_callT (pc := 69) hc dML_replyToRecipient_69 x_ML_206 (s_Str_length V (show t_rt < mm_nS by decide)) (show t_rt < mm_nS by decide) (Nat.le_of_ble_eq_true rfl) (Nat.le_of_ble_eq_true rfl) (Nat.le_of_ble_eq_true rfl) (Nat.le_of_ble_eq_true rfl) rfl rfl (Nat.le_of_ble_eq_true rfl) (fun r m x hp => ?_)
          obtain ⟨rfl, rfl, rfl⟩ := hp
          refine g_iconst (v := nI 1) (pc := 72) hc dML_replyToRecipient_72 (by decide) ?_
          refine g_iadd (pc := 73) hc dML_replyToRecipient_73 ?_
          rw [nI_add]
          have q9 := zpe_lt c12
          refine g_iload_n (pc := 74) (x := nI Ln.length) hc dML_replyToRecipient_74 (by rw [c12]; rfl) ?_
          refine g_iconst (v := nI 1) (pc := 75) hc dML_replyToRecipient_75 (by decide) ?_
          refine g_isub (pc := 76) hc dML_replyToRecipient_76 ?_
          rw [pk_sub (show 1 ≤ Ln.length by omega)]
          refine g_callV (pc := 77) hc dML_replyToRecipient_77 x_ML_240 (s_Env_addRecipient V (fr := (zs t_rt).length + 1) (to := Ln.length - 1) hE hLn.2 (by omega) (by omega) (by omega) (by omega) (by omega) (by simpa using d25)) cl_Env (hE.1) (Nat.le_of_ble_eq_true rfl) (Nat.le_of_ble_eq_true rfl) (Nat.le_of_ble_eq_true rfl) (Nat.le_of_ble_eq_true rfl) rfl rfl (Nat.le_of_ble_eq_true rfl) (fun r m x hp => ?_)
          obtain ⟨rfl, rfl, hE2, hs2⟩ := hp
          have H2 := h.env hE2 hs2
          refine g_ldcS (pc := 80) hc dML_replyToRecipient_80 xt_ML_243 ?_
          exact g_aret (pc := 82) hc he dML_replyToRecipient_82 (Or.inr ⟨_, rfl⟩) (Nat.le_refl _) (Nat.le_refl _) ⟨t_250r, by decide, rfl, rfl, by rw [zrR, if_pos c12, if_neg d25, if_neg d42, if_neg (by omega)], by rw [zrR, if_pos c12, if_neg d25, if_neg d42, if_neg (by omega)]; exact H2, fun a h9 => hs2 a (by omega)⟩
        · simp (disch := omega) only [nI_leI, nI_ltI, nI_eq, nI_eq0, nI_lt0, nI_0le, nI_0lt, nI_le0, zb_0] at c56
          refine g_ldcS (pc := 59) hc dML_replyToRecipient_59 xt_ML_238 ?_
          exact g_aret (pc := 61) hc he dML_replyToRecipient_61 (Or.inr ⟨_, rfl⟩) (Nat.le_refl _) (Nat.le_refl _) ⟨t_452m, by decide, rfl, rfl, by rw [zrR, if_pos c12, if_neg d25, if_neg d42, if_pos (by omega)], by rw [zrR, if_pos c12, if_neg d25, if_neg d42, if_pos (by omega)]; exact h, zsame.rf⟩
      · simp (disch := omega) only [nI_leI, nI_ltI, nI_eq, nI_eq0, nI_lt0, nI_0le, nI_0lt, nI_le0, zb_0] at c42
        refine g_ldcS (pc := 45) hc dML_replyToRecipient_45 xt_ML_236 ?_
        exact g_aret (pc := 47) hc he dML_replyToRecipient_47 (Or.inr ⟨_, rfl⟩) (Nat.le_refl _) (Nat.le_refl _) ⟨t_550, by decide, rfl, rfl, by rw [zrR, if_pos c12, if_neg d25, if_pos c42], by rw [zrR, if_pos c12, if_neg d25, if_pos c42]; exact h, zsame.rf⟩
    · simp (disch := omega) only [nI_leI, nI_ltI, nI_eq, nI_eq0, nI_lt0, nI_0le, nI_0lt, nI_le0, zb_0] at c25
      refine g_ldcS (pc := 28) hc dML_replyToRecipient_28 xt_ML_161 ?_
      exact g_aret (pc := 30) hc he dML_replyToRecipient_30 (Or.inr ⟨_, rfl⟩) (Nat.le_refl _) (Nat.le_refl _) ⟨t_503, by decide, rfl, rfl, by rw [zrR, if_pos c12, if_pos c25], by rw [zrR, if_pos c12, if_pos c25]; exact h, zsame.rf⟩
  · rw [zoI_eq hz (by omega)] at c12
    refine g_ldcS (pc := 15) hc dML_replyToRecipient_15 xt_ML_186 ?_
    exact g_aret (pc := 17) hc he dML_replyToRecipient_17 (Or.inr ⟨_, rfl⟩) (Nat.le_refl _) (Nat.le_refl _) ⟨t_501, by decide, rfl, rfl, by rw [zrR, if_neg c12], by rw [zrR, if_neg c12]; exact h, zsame.rf⟩
