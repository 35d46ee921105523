theorem zdec (a : Nat) : nI a + Int32.ofInt (-1) = nI a - 1 := by
  rw [Int32.sub_eq_add_neg]; rfl
theorem zlt1 {n : Int32} (h : n < 0) : n < nI 1 := by
  have h1 := Int32.lt_iff_toInt_lt.mp h
  refine Int32.lt_iff_toInt_lt.mpr ?_
  rw [nI_toInt (by decide)]
  simp at h1 ⊢
  omega
set_option maxHeartbeats 4000000 in
set_option maxRecDepth 100000 in
theorem s_ML_send (V : mm_V) {z tn : Nat} {A Ln : List Nat} {lc : Bool} {T : List Nat} {tc td : Bool} {E : zEv} {Ms : List zMsg} {ses gr tx : Bool} {v : Int64} {n : Int32} {N : Nat} {mem : mm_M} {nx : Nat} (h : zML z A Ln lc T tc td tn E Ms ses gr tx mem) (hN : N < 65000) (hI : zInv N (A, (Ln, lc), (T, tc, td, tn), E, Ms, ses, gr, tx)) : mm_S V yML_send cML_send 5 (some .boolean) 10 0 0 [.ref z, .long v, .int n] mem nx (fun r m x => r = some (.int (zb (zok n && ses))) ∧ nx = x ∧ zM z (if zok n && ses then zfeed (A, (Ln, lc), (T, tc, td, tn), E, Ms, ses, gr, tx) (zbs v n.toNatClampNeg) else (A, (Ln, lc), (T, tc, td, tn), E, Ms, ses, gr, tx)) m ∧ zsame z (z + 92) mem m) := by
  obtain ⟨hm, hA, hLn, hT, hE, ⟨g, hg, hg7⟩, hMs, hLe⟩ := id h
  refine mm_met (by decide) (Nat.le_of_ble_eq_true rfl) ?_
  intro X hc he hnm
  have loop : ∀ (c N : Nat) (σ : zSt) (m1 : mm_M), c ≤ 8 → N + c < 65536 → zInv N σ → zM z σ m1 → zsame z (z + 92) mem m1 → (zok n && ses) = true → zfeed σ (zbs v c) = zfeed (A, (Ln, lc), (T, tc, td, tn), E, Ms, ses, gr, tx) (zbs v n.toNatClampNeg) → mm_G V X 5 25 [(0, .ref z), (1, .long v), (4, .int (nI (c) - 1))] [] m1 nx 0 0 := by
    intro c
    induction c with
    | zero =>
      intro N σ m1 h8 hN hI h1 hs1 eo e2
      refine g_iload (pc := 25) hc dML_send_25 rfl ?_
      refine g_if_lt (tgt := 59) (pc := 27) hc dML_send_27 (by decide) (fun _ => ?_) (fun c27 => absurd (by decide) c27)
      refine g_iconst (v := nI 1) (pc := 59) hc dML_send_59 (by decide) ?_
      exact g_zret (pc := 60) hc he dML_send_60 rfl (Nat.le_refl _) (Nat.le_refl _) ⟨by rw [eo]; rfl, rfl, by rw [eo, if_pos rfl, ← e2]; exact h1, hs1⟩
    | succ c ih =>
      intro N σ m1 h8 hN hI h1 hs1 eo e2
      obtain ⟨A1, ⟨Ln1, lc1⟩, ⟨T1, tc1, td1, tn1⟩, E1, Ms1, ses1, gr1, tx1⟩ := σ
      have h1 : zML z A1 Ln1 lc1 T1 tc1 td1 tn1 E1 Ms1 ses1 gr1 tx1 m1 := h1
      have hm1 := h1.1
      have hI1 : tn1 ≤ N := hI.1
      have hb9 : zby v c < 256 := Nat.mod_lt _ (by decide)
      rw [nI_pred]
      refine g_iload (pc := 25) hc dML_send_25 rfl ?_
      refine g_if_lt (tgt := 59) (pc := 27) hc dML_send_27 (by decide) (fun c27 => absurd c27 (nI_pos (by omega))) (fun _ => ?_)
      refine g_aload_n (pc := 30) hc dML_send_30 rfl ?_
      refine g_get (pc := 31) hc dML_send_31 x_ML_46 hm1 (by rfl) ?_
      refine g_if_eq (tgt := 59) (pc := 34) hc dML_send_34 (by decide) (fun c34 => ?_) (fun c34 => ?_)
      · simp (disch := omega) only [nI_leI, nI_ltI, nI_eq, nI_eq0, nI_lt0, nI_0le, nI_0lt, nI_le0, zb_0] at c34
        refine g_iconst (v := nI 1) (pc := 59) hc dML_send_59 (by decide) ?_
        exact g_zret (pc := 60) hc he dML_send_60 rfl (Nat.le_refl _) (Nat.le_refl _) ⟨by rw [eo]; rfl, rfl, by rw [eo, if_pos rfl, ← e2, zbs, zfeed_stop (σ := (A1, (Ln1, lc1), (T1, tc1, td1, tn1), E1, Ms1, ses1, gr1, tx1)) c34]; exact h1, hs1⟩
      · simp (disch := omega) only [nI_leI, nI_ltI, nI_eq, nI_eq0, nI_lt0, nI_0le, nI_0lt, nI_le0, zb_0] at c34
        have d34 : ses1 = true := by simpa using c34
        refine g_aload_n (pc := 37) hc dML_send_37 rfl ?_
        refine g_lload_n (pc := 38) hc dML_send_38 rfl ?_
        refine g_bipush (v := nI 8) (pc := 39) hc dML_send_39 (by decide) ?_
        refine g_iload (pc := 41) hc dML_send_41 rfl ?_
        refine g_imul (pc := 43) hc dML_send_43 ?_
        refine g_lushr (pc := 44) hc dML_send_44 rfl ?_
        refine g_l2i (pc := 45) hc dML_send_45 rfl ?_
        refine g_sipush (v := nI 255) (pc := 46) hc dML_send_46 (by decide) ?_
        refine g_iand (pc := 49) hc dML_send_49 ?_
        rw [zby_eq v (by omega)]
        refine g_callV (pc := 50) hc dML_send_50 x_ML_50 (s_ML_takeByte V h1 hb9 (by omega) hI.2) cl_ML (hm1) (Nat.le_of_ble_eq_true rfl) (Nat.le_of_ble_eq_true rfl) (Nat.le_of_ble_eq_true rfl) (Nat.le_of_ble_eq_true rfl) rfl rfl (Nat.le_of_ble_eq_true rfl) (fun r m x hp => ?_)
        obtain ⟨rfl, rfl, h2, hs2⟩ := hp
        refine g_iinc (pc := 53) (v := nI c - 1) hc dML_send_53 rfl (zdec _) (by decide) rfl ?_
        refine g_goto (tgt := 25) (pc := 56) hc dML_send_56 (by decide) ?_
        refine g_lv (lv' := [(0, .ref z), (1, .long v), (4, .int (nI (c) - 1))]) ⟨rfl, rfl, rfl, trivial⟩ ?_
        exact ih (N + 1) _ _ (by omega) (by omega) (hI.step _) h2 (hs1.tr hs2) eo (by rw [← e2, zbs, zfeed_go (σ := (A1, (Ln1, lc1), (T1, tc1, td1, tn1), E1, Ms1, ses1, gr1, tx1)) d34])
  refine g_iload_n (pc := 0) hc dML_send_0 rfl ?_
  refine g_iconst (v := nI 1) (pc := 1) hc dML_send_1 (by decide) ?_
  refine g_icmp_lt (tgt := 18) (pc := 2) hc dML_send_2 (by decide) (fun c2 => ?_) (fun c2 => ?_)
  · have e9 : (zok n && ses) = false := by
      have : zok n = false := by unfold zok; simp only [decide_eq_false_iff_not]; exact fun q => Int32.not_lt.mpr q.1 c2
      rw [this]; rfl
    refine g_iconst (v := nI 0) (pc := 18) hc dML_send_18 (by decide) ?_
    exact g_zret (pc := 19) hc he dML_send_19 rfl (Nat.le_refl _) (Nat.le_refl _) ⟨by rw [e9]; rfl, rfl, by rw [e9]; exact h, zsame.rf⟩
  · refine g_iload_n (pc := 5) hc dML_send_5 rfl ?_
    refine g_bipush (v := nI 8) (pc := 6) hc dML_send_6 (by decide) ?_
    refine g_icmp_gt (tgt := 18) (pc := 8) hc dML_send_8 (by decide) (fun c8 => ?_) (fun c8 => ?_)
    · have e9 : (zok n && ses) = false := by
        have : zok n = false := by unfold zok; simp only [decide_eq_false_iff_not]; exact fun q => Int32.not_lt.mpr q.2 c8
        rw [this]; rfl
      refine g_iconst (v := nI 0) (pc := 18) hc dML_send_18 (by decide) ?_
      exact g_zret (pc := 19) hc he dML_send_19 rfl (Nat.le_refl _) (Nat.le_refl _) ⟨by rw [e9]; rfl, rfl, by rw [e9]; exact h, zsame.rf⟩
    · refine g_aload_n (pc := 11) hc dML_send_11 rfl ?_
      refine g_get (pc := 12) hc dML_send_12 x_ML_46 hm (by rfl) ?_
      refine g_if_ne (tgt := 20) (pc := 15) hc dML_send_15 (by decide) (fun c15 => ?_) (fun c15 => ?_)
      · simp (disch := omega) only [nI_leI, nI_ltI, nI_eq, nI_eq0, nI_lt0, nI_0le, nI_0lt, nI_le0, zb_0] at c15
        have d15 : ses = true := by simpa using c15
        have e8 : (zok n && ses) = true := by
          have : zok n = true := by unfold zok; simp only [decide_eq_true_eq]; exact ⟨Int32.not_lt.mp c2, Int32.not_lt.mp c8⟩
          rw [this, d15]; rfl
        refine g_iload_n (pc := 20) hc dML_send_20 rfl ?_
        refine g_iconst (v := nI 1) (pc := 21) hc dML_send_21 (by decide) ?_
        obtain ⟨k, hk, rfl⟩ := nI_of (show ¬ n < 0 from fun q => c2 (zlt1 q))
        rw [nI_ltI (by omega) (by decide)] at c2
        rw [nI_ltI (by decide) (by omega)] at c8
        refine g_isub (pc := 22) hc dML_send_22 ?_
        refine g_istore (pc := 23) hc dML_send_23 (by decide) rfl ?_
        refine g_lv (lv' := [(0, .ref z), (1, .long v), (4, .int (nI (k) - 1))]) ⟨rfl, rfl, rfl, trivial⟩ ?_
        exact loop k N _ mem (by omega) (by omega) hI h zsame.rf e8 (by rw [nI_clamp (by omega)])
      · simp (disch := omega) only [nI_leI, nI_ltI, nI_eq, nI_eq0, nI_lt0, nI_0le, nI_0lt, nI_le0, zb_0] at c15
        have e9 : (zok n && ses) = false := by rw [c15]; simp
        refine g_iconst (v := nI 0) (pc := 18) hc dML_send_18 (by decide) ?_
        exact g_zret (pc := 19) hc he dML_send_19 rfl (Nat.le_refl _) (Nat.le_refl _) ⟨by rw [e9]; rfl, rfl, by rw [e9]; exact h, zsame.rf⟩
set_option maxHeartbeats 4000000 in
set_option maxRecDepth 100000 in
theorem s_ML_reply (V : mm_V) {z tn : Nat} {A Ln : List Nat} {lc : Bool} {T : List Nat} {tc td : Bool} {E : zEv} {Ms : List zMsg} {ses gr tx : Bool} {mem : mm_M} {nx : Nat} (h : zML z A Ln lc T tc td tn E Ms ses gr tx mem) : mm_S V yML_reply cML_reply 5 (some .long) 2 0 0 [.ref z] mem nx (fun r m x => r = some (.long (lN (zrw (min 7 A.length) (fun j => A.getD j 0) 7))) ∧ nx = x ∧ zML z (A.drop (min 7 A.length)) Ln lc T tc td tn E Ms ses gr tx m ∧ zsame z (z + 92) mem m) := by
  obtain ⟨hm, hA, hLn, hT, hE, ⟨g, hg, hg7⟩, hMs, hLe⟩ := id h
  refine mm_met (by decide) (Nat.le_of_ble_eq_true rfl) ?_
  intro X hc he hnm
  have hAl := hA.le
  have hlt : ∀ j, A.getD j 0 < 256 := fun j => hA.dlt j
  have loop : ∀ (n j : Nat), n + j = 7 → mm_G V X 5 19 [(0, .ref z), (1, .int (nI (min 7 A.length))), (2, .long (lN (zrw (min 7 A.length) (fun j => A.getD j 0) (j)))), (4, .int (nI (j)))] [] mem nx 0 0 := by
    intro n
    induction n with
    | zero =>
      intro j e1
      obtain rfl : j = 7 := by omega
      refine g_iload (pc := 19) hc dML_reply_19 rfl ?_
      refine g_bipush (v := nI 7) (pc := 21) hc dML_reply_21 (by decide) ?_
      refine g_icmp_ge (tgt := 48) (pc := 23) hc dML_reply_23 (by decide) (fun _ => ?_) (fun c23 => absurd (by decide) c23)
      refine g_aload_n (pc := 48) hc dML_reply_48 rfl ?_
      refine g_get (pc := 49) hc dML_reply_49 x_ML_14 (by assumption) (by rfl) ?_
      refine g_iload_n (pc := 52) hc dML_reply_52 rfl ?_
      refine g_callV (pc := 53) hc dML_reply_53 x_ML_67 (s_Row_dropFirst V (k := min 7 A.length) hA (Nat.min_le_right _ _)) cl_Row (hA.obj) (Nat.le_of_ble_eq_true rfl) (Nat.le_of_ble_eq_true rfl) (Nat.le_of_ble_eq_true rfl) (Nat.le_of_ble_eq_true rfl) rfl rfl (Nat.le_of_ble_eq_true rfl) (fun r m x hp => ?_)
      obtain ⟨rfl, rfl, hr1, hs1⟩ := hp
      have h1 := h.ans hr1 hs1
      refine g_lload_n (pc := 56) hc dML_reply_56 rfl ?_
      exact g_lret (pc := 57) hc he dML_reply_57 (Nat.le_refl _) (Nat.le_refl _) ⟨rfl, rfl, h1, fun a q => hs1 a (by omega)⟩
    | succ n ih =>
      intro j e1
      have e3 := zrw_lt (t := min 7 A.length) (by omega) hlt j
      have e4 : zrw (min 7 A.length) (fun j => A.getD j 0) j < 2 ^ 56 := Nat.lt_of_lt_of_le e3 (by
        have : 256 ^ j ≤ 256 ^ 6 := Nat.pow_le_pow_right (by decide) (by omega)
        omega)
      refine g_iload (pc := 19) hc dML_reply_19 rfl ?_
      refine g_bipush (v := nI 7) (pc := 21) hc dML_reply_21 (by decide) ?_
      refine g_icmp_ge (tgt := 48) (pc := 23) hc dML_reply_23 (by decide) (fun c23 => absurd c23 (nI_ge (by omega) (by omega))) (fun _ => ?_)
      refine g_lload_n (pc := 26) hc dML_reply_26 rfl ?_
      refine g_bipush (v := nI 8) (pc := 27) hc dML_reply_27 (by decide) ?_
      refine g_lshl (pc := 29) hc dML_reply_29 rfl ?_
      refine g_aload_n (pc := 30) hc dML_reply_30 rfl ?_
      refine g_get (pc := 31) hc dML_reply_31 x_ML_14 (by assumption) (by rfl) ?_
      refine g_iload (pc := 34) hc dML_reply_34 rfl ?_
      refine g_callV (pc := 36) hc dML_reply_36 x_ML_63 (s_Row_at V (nI j) hA) cl_Row (hA.obj) (Nat.le_of_ble_eq_true rfl) (Nat.le_of_ble_eq_true rfl) (Nat.le_of_ble_eq_true rfl) (Nat.le_of_ble_eq_true rfl) rfl rfl (Nat.le_of_ble_eq_true rfl) (fun r m x hp => ?_)
      obtain ⟨rfl, rfl, rfl⟩ := hp
      rw [zatI_nI (by omega)]
      refine g_i2l (pc := 39) hc dML_reply_39 rfl ?_
      refine g_lor (pc := 40) hc dML_reply_40 ?_
      rw [zshl8 e4 (hlt j)]
      refine g_lstore_n (pc := 41) hc dML_reply_41 (by decide) rfl ?_
      refine g_iinc (pc := 42) hc dML_reply_42 rfl (zinc _) (by decide) rfl ?_
      refine g_goto (tgt := 19) (pc := 45) hc dML_reply_45 (by decide) ?_
      refine g_lv (lv' := [(0, .ref z), (1, .int (nI (min 7 A.length))), (2, .long (lN (zrw (min 7 A.length) (fun j => A.getD j 0) (j + 1)))), (4, .int (nI (j + 1)))]) ⟨rfl, rfl, rfl, rfl, trivial⟩ ?_
      exact ih (j + 1) (by omega)
  refine g_bipush (v := nI 7) (pc := 0) hc dML_reply_0 (by decide) ?_
  refine g_aload_n (pc := 2) hc dML_reply_2 rfl ?_
  refine g_get (pc := 3) hc dML_reply_3 x_ML_14 (by assumption) (by rfl) ?_
  refine g_callV (pc := 6) hc dML_reply_6 x_ML_53 (s_Row_length V hA) cl_Row (hA.obj) (Nat.le_of_ble_eq_true rfl) (Nat.le_of_ble_eq_true rfl) (Nat.le_of_ble_eq_true rfl) (Nat.le_of_ble_eq_true rfl) rfl rfl (Nat.le_of_ble_eq_true rfl) (fun r m x hp => ?_)
  obtain ⟨rfl, rfl, rfl⟩ := hp
  refine g_mmin (pc := 9) hc dML_reply_9 x_ML_57 (by decide) (Nat.zero_le _) (Nat.zero_le _) (Nat.le_of_ble_eq_true rfl) ?_
  rw [zmin (by omega) (by omega)]
  refine g_istore_n (pc := 12) hc dML_reply_12 (by decide) rfl ?_
  refine g_iload_n (pc := 13) hc dML_reply_13 rfl ?_
  refine g_i2l (pc := 14) hc dML_reply_14 (nI_l (by omega)) ?_
  refine g_lstore_n (pc := 15) hc dML_reply_15 (by decide) rfl ?_
  refine g_iconst (v := nI 0) (pc := 16) hc dML_reply_16 (by decide) ?_
  refine g_istore (pc := 17) hc dML_reply_17 (by decide) rfl ?_
  refine g_lv (lv' := [(0, .ref z), (1, .int (nI (min 7 A.length))), (2, .long (lN (zrw (min 7 A.length) (fun j => A.getD j 0) (0)))), (4, .int (nI (0)))]) ⟨rfl, rfl, rfl, rfl, trivial⟩ ?_
  exact loop 7 0 rfl
set_option maxHeartbeats 4000000 in
set_option maxRecDepth 100000 in
theorem s_ML_open (V : mm_V) {z tn : Nat} {A Ln : List Nat} {lc : Bool} {T : List Nat} {tc td : Bool} {E : zEv} {Ms : List zMsg} {ses gr tx : Bool} {mem : mm_M} {nx : Nat} (h : zML z A Ln lc T tc td tn E Ms ses gr tx mem) : mm_S V yML_open cML_open 2 (some .boolean) 2 0 0 [.ref z] mem nx (fun r m x => r = some (.int (zb ses)) ∧ nx = x ∧ zM z (zopen (A, (Ln, lc), (T, tc, td, tn), E, Ms, ses, gr, tx)) m ∧ zsame z (z + 92) mem m) := by
  obtain ⟨hm, hA, hLn, hT, hE, ⟨g, hg, hg7⟩, hMs, hLe⟩ := id h
  refine mm_met (by decide) (Nat.le_of_ble_eq_true rfl) ?_
  intro X hc he hnm
  refine g_aload_n (pc := 0) hc dML_open_0 rfl ?_
  refine g_get (pc := 1) hc dML_open_1 x_ML_46 (by assumption) (by rfl) ?_
  refine g_istore_n (pc := 4) hc dML_open_4 (by decide) rfl ?_
  refine g_aload_n (pc := 5) hc dML_open_5 rfl ?_
  refine g_iconst (v := nI 1) (pc := 6) hc dML_open_6 (by decide) ?_
  refine g_put (pc := 7) hc dML_open_7 x_ML_46 ft_ML rfl hm rfl rfl (zlt rfl) (fun m1 h1 o1 => ?_)
  have H1 : zML z A Ln lc T tc td tn E Ms true gr tx m1 := h.flag h1 o1
  refine g_aload_n (pc := 10) hc dML_open_10 rfl ?_
  refine g_iconst (v := nI 0) (pc := 11) hc dML_open_11 (by decide) ?_
  refine g_put (pc := 12) hc dML_open_12 x_ML_70 ft_ML rfl H1.1 rfl rfl (zlt rfl) (fun m2 h2 o2 => ?_)
  have H2 : zML z A Ln lc T tc td tn E Ms true false tx m2 := H1.flag h2 o2
  refine g_aload_n (pc := 15) hc dML_open_15 rfl ?_
  refine g_iconst (v := nI 0) (pc := 16) hc dML_open_16 (by decide) ?_
  refine g_put (pc := 17) hc dML_open_17 x_ML_73 ft_ML rfl H2.1 rfl rfl (zlt rfl) (fun m3 h3 o3 => ?_)
  have H3 : zML z A Ln lc T tc td tn E Ms true false false m3 := H2.flag h3 o3
  have hm3 := H3.1
  have hL3 := H3.2.2.1
  refine g_aload_n (pc := 20) hc dML_open_20 rfl ?_
  refine g_get (pc := 21) hc dML_open_21 x_ML_21 hm3 (by rfl) ?_
  refine g_callV (pc := 24) hc dML_open_24 x_ML_76 (s_LR_clear V hL3) cl_LR (hL3.1) (Nat.le_of_ble_eq_true rfl) (Nat.le_of_ble_eq_true rfl) (Nat.le_of_ble_eq_true rfl) (Nat.le_of_ble_eq_true rfl) rfl rfl (Nat.le_of_ble_eq_true rfl) (fun r m x hp => ?_)
  obtain ⟨rfl, rfl, hL4, hs4⟩ := hp
  have H4 := H3.line hL4 hs4
  have hm4 := H4.1
  have hE4 := H4.2.2.2.2.1
  refine g_aload_n (pc := 27) hc dML_open_27 rfl ?_
  refine g_get (pc := 28) hc dML_open_28 x_ML_35 hm4 (by rfl) ?_
  refine g_callV (pc := 31) hc dML_open_31 x_ML_79 (s_Env_clear V hE4) cl_Env (hE4.1) (Nat.le_of_ble_eq_true rfl) (Nat.le_of_ble_eq_true rfl) (Nat.le_of_ble_eq_true rfl) (Nat.le_of_ble_eq_true rfl) rfl rfl (Nat.le_of_ble_eq_true rfl) (fun r m x hp => ?_)
  obtain ⟨rfl, rfl, hE5, hs5⟩ := hp
  have H5 := H4.env hE5 hs5
  refine g_iload_n (pc := 34) hc dML_open_34 rfl ?_
  exact g_zret (pc := 35) hc he dML_open_35 (zb_z _) (Nat.le_refl _) (Nat.le_refl _) ⟨rfl, rfl, H5, fun a q => (hs5 a (by omega)).trans ((hs4 a (by omega)).trans ((o3 a (by omega)).trans ((o2 a (by omega)).trans (o1 a (by omega)))))⟩
set_option maxHeartbeats 4000000 in
set_option maxRecDepth 100000 in
theorem s_ML_message (V : mm_V) {z tn : Nat} {A Ln : List Nat} {lc : Bool} {T : List Nat} {tc td : Bool} {E : zEv} {Ms : List zMsg} {ses gr tx : Bool} {k w : Int32} {mem : mm_M} {nx : Nat} (h : zML z A Ln lc T tc td tn E Ms ses gr tx mem) : mm_S V yML_message cML_message 4 (some .int) 1 0 0 [.ref z, .int k, .int w] mem nx (fun r m x => r = some (.int (zmsg Ms k w)) ∧ mem = m ∧ nx = x) := by
  obtain ⟨hm, hA, hLn, hT, hE, ⟨g, hg, hg7⟩, hMs, hLe⟩ := id h
  refine mm_met (by decide) (Nat.le_of_ble_eq_true rfl) ?_
  intro X hc he hnm
  refine g_aload_n (pc := 0) hc dML_message_0 rfl ?_
  refine g_iload_n (pc := 1) hc dML_message_1 rfl ?_
  refine g_callV (pc := 2) hc dML_message_2 x_ML_80 (s_ML_letterOrNull V k h) cl_ML (h.1) (Nat.le_of_ble_eq_true rfl) (Nat.le_of_ble_eq_true rfl) (Nat.le_of_ble_eq_true rfl) (Nat.le_of_ble_eq_true rfl) rfl rfl (Nat.le_of_ble_eq_true rfl) (fun r m x hp => ?_)
  rcases hp with ⟨j, hj, rfl, rfl, rfl, rfl⟩ | ⟨hno, rfl, rfl, rfl⟩
  · have hl := hLe j (by omega)
    have eg := zget_some hj hMs
    refine g_astore_n (pc := 5) hc dML_message_5 (by decide) rfl ?_
    refine g_aload_n (pc := 6) hc dML_message_6 rfl ?_
    refine g_ifnonnull (pc := 7) (tgt := 12) hc dML_message_7 (by decide) ?_
    refine g_iload_n (pc := 12) hc dML_message_12 rfl ?_
    by_cases w0 : w = nI 0
    · subst w0
      refine g_tableIn (pc := 13) (tgt := 44) (off := 31) hc dML_message_13 (by decide) (by decide) (by decide) (by decide) ?_
      refine g_aload_n (pc := 44) hc dML_message_44 rfl ?_
      refine g_callV (pc := 45) hc dML_message_45 x_ML_84 (s_Let_text V hl) cl_Let (hl.1) (Nat.le_of_ble_eq_true rfl) (Nat.le_of_ble_eq_true rfl) (Nat.le_of_ble_eq_true rfl) (Nat.le_of_ble_eq_true rfl) rfl rfl (Nat.le_of_ble_eq_true rfl) (fun r m x hp => ?_)
      obtain ⟨rfl, rfl, rfl⟩ := hp
      refine g_callV (pc := 48) hc dML_message_48 x_ML_53 (s_Row_length V hl.2.1) cl_Row (hl.2.1.obj) (Nat.le_of_ble_eq_true rfl) (Nat.le_of_ble_eq_true rfl) (Nat.le_of_ble_eq_true rfl) (Nat.le_of_ble_eq_true rfl) rfl rfl (Nat.le_of_ble_eq_true rfl) (fun r m x hp => ?_)
      obtain ⟨rfl, rfl, rfl⟩ := hp
      exact g_iret (pc := 51) hc he dML_message_51 (Nat.le_refl _) (Nat.le_refl _) ⟨by rw [zmsg, eg]; rfl, rfl, rfl⟩
    by_cases w1 : w = nI 1
    · subst w1
      refine g_tableIn (pc := 13) (tgt := 52) (off := 39) hc dML_message_13 (by decide) (by decide) (by decide) (by decide) ?_
      refine g_aload_n (pc := 52) hc dML_message_52 rfl ?_
      refine g_callV (pc := 53) hc dML_message_53 x_ML_87 (s_Let_recipients V hl) cl_Let (hl.1) (Nat.le_of_ble_eq_true rfl) (Nat.le_of_ble_eq_true rfl) (Nat.le_of_ble_eq_true rfl) (Nat.le_of_ble_eq_true rfl) rfl rfl (Nat.le_of_ble_eq_true rfl) (fun r m x hp => ?_)
      obtain ⟨rfl, rfl, rfl⟩ := hp
      exact g_iret (pc := 56) hc he dML_message_56 (Nat.le_refl _) (Nat.le_refl _) ⟨by rw [zmsg, eg]; rfl, rfl, rfl⟩
    by_cases w2 : w = nI 2
    · subst w2
      refine g_tableIn (pc := 13) (tgt := 57) (off := 44) hc dML_message_13 (by decide) (by decide) (by decide) (by decide) ?_
      refine g_aload_n (pc := 57) hc dML_message_57 rfl ?_
      refine g_callV (pc := 58) hc dML_message_58 x_ML_90 (s_Let_sender V hl) cl_Let (hl.1) (Nat.le_of_ble_eq_true rfl) (Nat.le_of_ble_eq_true rfl) (Nat.le_of_ble_eq_true rfl) (Nat.le_of_ble_eq_true rfl) rfl rfl (Nat.le_of_ble_eq_true rfl) (fun r m x hp => ?_)
      obtain ⟨rfl, rfl, rfl⟩ := hp
      refine g_callV (pc := 61) hc dML_message_61 x_ML_53 (s_Row_length V hl.2.2.1) cl_Row (hl.2.2.1.obj) (Nat.le_of_ble_eq_true rfl) (Nat.le_of_ble_eq_true rfl) (Nat.le_of_ble_eq_true rfl) (Nat.le_of_ble_eq_true rfl) rfl rfl (Nat.le_of_ble_eq_true rfl) (fun r m x hp => ?_)
      obtain ⟨rfl, rfl, rfl⟩ := hp
      exact g_iret (pc := 64) hc he dML_message_64 (Nat.le_refl _) (Nat.le_refl _) ⟨by rw [zmsg, eg]; rfl, rfl, rfl⟩
    by_cases w3 : w = nI 3
    · subst w3
      refine g_tableIn (pc := 13) (tgt := 65) (off := 52) hc dML_message_13 (by decide) (by decide) (by decide) (by decide) ?_
      refine g_aload_n (pc := 65) hc dML_message_65 rfl ?_
      refine g_callV (pc := 66) hc dML_message_66 x_ML_93 (s_Let_firstRecipient V hl) cl_Let (hl.1) (Nat.le_of_ble_eq_true rfl) (Nat.le_of_ble_eq_true rfl) (Nat.le_of_ble_eq_true rfl) (Nat.le_of_ble_eq_true rfl) rfl rfl (Nat.le_of_ble_eq_true rfl) (fun r m x hp => ?_)
      obtain ⟨rfl, rfl, rfl⟩ := hp
      refine g_callV (pc := 69) hc dML_message_69 x_ML_53 (s_Row_length V hl.2.2.2) cl_Row (hl.2.2.2.obj) (Nat.le_of_ble_eq_true rfl) (Nat.le_of_ble_eq_true rfl) (Nat.le_of_ble_eq_true rfl) (Nat.le_of_ble_eq_true rfl) rfl rfl (Nat.le_of_ble_eq_true rfl) (fun r m x hp => ?_)
      obtain ⟨rfl, rfl, rfl⟩ := hp
      exact g_iret (pc := 72) hc he dML_message_72 (Nat.le_refl _) (Nat.le_refl _) ⟨by rw [zmsg, eg]; rfl, rfl, rfl⟩
    refine g_tableOut (pc := 13) (tgt := 73) hc dML_message_13 (zsw 4 (by decide) (fun j hj => by
      rcases (show j = 0 ∨ j = 1 ∨ j = 2 ∨ j = 3 by omega) with rfl | rfl | rfl | rfl
      · exact w0
      · exact w1
      · exact w2
      · exact w3)) (by decide) ?_
    refine g_iconst (v := -1) (pc := 73) hc dML_message_73 (by decide) ?_
    exact g_iret (pc := 74) hc he dML_message_74 (Nat.le_refl _) (Nat.le_refl _) ⟨by rw [zmsg, eg]; simp only []; rw [if_neg w0, if_neg w1, if_neg w2, if_neg w3], rfl, rfl⟩
  · have eg := zget_none hno
    refine g_astoreN_n (pc := 5) hc dML_message_5 (by decide) rfl ?_
    refine g_aloadN_n (pc := 6) hc dML_message_6 rfl ?_
    refine g_ifnonnullN (pc := 7) hc dML_message_7 ?_
    refine g_iconst (v := -1) (pc := 10) hc dML_message_10 (by decide) ?_
    exact g_iret (pc := 11) hc he dML_message_11 (Nat.le_refl _) (Nat.le_refl _) ⟨by rw [zmsg, eg], rfl, rfl⟩
set_option maxHeartbeats 4000000 in
set_option maxRecDepth 100000 in
theorem s_ML_bytes (V : mm_V) {z tn : Nat} {A Ln : List Nat} {lc : Bool} {T : List Nat} {tc td : Bool} {E : zEv} {Ms : List zMsg} {ses gr tx : Bool} {k w i : Int32} {mem : mm_M} {nx : Nat} (h : zML z A Ln lc T tc td tn E Ms ses gr tx mem) : mm_S V yML_bytes cML_bytes 5 (some .long) 2 0 0 [.ref z, .int k, .int w, .int i] mem nx (fun r m x => r = some (.long (zbyt Ms k w i)) ∧ mem = m ∧ nx = x) := by
  obtain ⟨hm, hA, hLn, hT, hE, ⟨g, hg, hg7⟩, hMs, hLe⟩ := id h
  refine mm_met (by decide) (Nat.le_of_ble_eq_true rfl) ?_
  intro X hc he hnm
  refine g_aload_n (pc := 0) hc dML_bytes_0 rfl ?_
  refine g_iload_n (pc := 1) hc dML_bytes_1 rfl ?_
  refine g_callV (pc := 2) hc dML_bytes_2 x_ML_80 (s_ML_letterOrNull V k h) cl_ML (h.1) (Nat.le_of_ble_eq_true rfl) (Nat.le_of_ble_eq_true rfl) (Nat.le_of_ble_eq_true rfl) (Nat.le_of_ble_eq_true rfl) rfl rfl (Nat.le_of_ble_eq_true rfl) (fun r m x hp => ?_)
  rcases hp with ⟨j, hj, rfl, rfl, rfl, rfl⟩ | ⟨hno, rfl, rfl, rfl⟩
  · have hl := hLe j (by omega)
    have eg := zget_some hj hMs
    refine g_astore (pc := 5) hc dML_bytes_5 (by decide) rfl ?_
    refine g_aload (pc := 7) hc dML_bytes_7 rfl ?_
    refine g_ifnull (pc := 9) hc dML_bytes_9 ?_
    refine g_iload_n (pc := 12) hc dML_bytes_12 rfl ?_
    refine g_if_ge (tgt := 20) (pc := 13) hc dML_bytes_13 (by decide) (fun c13 => ?_) (fun c13 => ?_)
    · refine g_iload_n (pc := 20) hc dML_bytes_20 rfl ?_
      obtain ⟨i9, hi9, rfl⟩ := nI_of (Int32.not_lt.mpr c13)
      by_cases w0 : w = nI 0
      · subst w0
        refine g_tableIn (pc := 21) (tgt := 48) (off := 27) hc dML_bytes_21 (by decide) (by decide) (by decide) (by decide) ?_
        refine g_aload (pc := 48) hc dML_bytes_48 rfl ?_
        refine g_callV (pc := 50) hc dML_bytes_50 x_ML_84 (s_Let_text V hl) cl_Let (hl.1) (Nat.le_of_ble_eq_true rfl) (Nat.le_of_ble_eq_true rfl) (Nat.le_of_ble_eq_true rfl) (Nat.le_of_ble_eq_true rfl) rfl rfl (Nat.le_of_ble_eq_true rfl) (fun r m x hp => ?_)
        obtain ⟨rfl, rfl, rfl⟩ := hp
        refine g_iload_n (pc := 53) hc dML_bytes_53 rfl ?_
        refine g_callV (pc := 54) hc dML_bytes_54 x_ML_98 (s_Row_eightFrom V hl.2.1 hi9) cl_Row (hl.2.1.obj) (Nat.le_of_ble_eq_true rfl) (Nat.le_of_ble_eq_true rfl) (Nat.le_of_ble_eq_true rfl) (Nat.le_of_ble_eq_true rfl) rfl rfl (Nat.le_of_ble_eq_true rfl) (fun r m x hp => ?_)
        obtain ⟨rfl, rfl, rfl⟩ := hp
        exact g_lret (pc := 57) hc he dML_bytes_57 (Nat.le_refl _) (Nat.le_refl _) ⟨by rw [zbyt, eg]; simp only []; rw [if_neg (nI_pos hi9), nI_clamp hi9]; rfl, rfl, rfl⟩
      by_cases w1 : w = nI 1
      · subst w1
        refine g_tableIn (pc := 21) (tgt := 58) (off := 37) hc dML_bytes_21 (by decide) (by decide) (by decide) (by decide) ?_
        refine g_aload (pc := 58) hc dML_bytes_58 rfl ?_
        refine g_callV (pc := 60) hc dML_bytes_60 x_ML_90 (s_Let_sender V hl) cl_Let (hl.1) (Nat.le_of_ble_eq_true rfl) (Nat.le_of_ble_eq_true rfl) (Nat.le_of_ble_eq_true rfl) (Nat.le_of_ble_eq_true rfl) rfl rfl (Nat.le_of_ble_eq_true rfl) (fun r m x hp => ?_)
        obtain ⟨rfl, rfl, rfl⟩ := hp
        refine g_iload_n (pc := 63) hc dML_bytes_63 rfl ?_
        refine g_callV (pc := 64) hc dML_bytes_64 x_ML_98 (s_Row_eightFrom V hl.2.2.1 hi9) cl_Row (hl.2.2.1.obj) (Nat.le_of_ble_eq_true rfl) (Nat.le_of_ble_eq_true rfl) (Nat.le_of_ble_eq_true rfl) (Nat.le_of_ble_eq_true rfl) rfl rfl (Nat.le_of_ble_eq_true rfl) (fun r m x hp => ?_)
        obtain ⟨rfl, rfl, rfl⟩ := hp
        exact g_lret (pc := 67) hc he dML_bytes_67 (Nat.le_refl _) (Nat.le_refl _) ⟨by rw [zbyt, eg]; simp only []; rw [if_neg (nI_pos hi9), nI_clamp hi9]; rfl, rfl, rfl⟩
      by_cases w2 : w = nI 2
      · subst w2
        refine g_tableIn (pc := 21) (tgt := 68) (off := 47) hc dML_bytes_21 (by decide) (by decide) (by decide) (by decide) ?_
        refine g_aload (pc := 68) hc dML_bytes_68 rfl ?_
        refine g_callV (pc := 70) hc dML_bytes_70 x_ML_93 (s_Let_firstRecipient V hl) cl_Let (hl.1) (Nat.le_of_ble_eq_true rfl) (Nat.le_of_ble_eq_true rfl) (Nat.le_of_ble_eq_true rfl) (Nat.le_of_ble_eq_true rfl) rfl rfl (Nat.le_of_ble_eq_true rfl) (fun r m x hp => ?_)
        obtain ⟨rfl, rfl, rfl⟩ := hp
        refine g_iload_n (pc := 73) hc dML_bytes_73 rfl ?_
        refine g_callV (pc := 74) hc dML_bytes_74 x_ML_98 (s_Row_eightFrom V hl.2.2.2 hi9) cl_Row (hl.2.2.2.obj) (Nat.le_of_ble_eq_true rfl) (Nat.le_of_ble_eq_true rfl) (Nat.le_of_ble_eq_true rfl) (Nat.le_of_ble_eq_true rfl) rfl rfl (Nat.le_of_ble_eq_true rfl) (fun r m x hp => ?_)
        obtain ⟨rfl, rfl, rfl⟩ := hp
        exact g_lret (pc := 77) hc he dML_bytes_77 (Nat.le_refl _) (Nat.le_refl _) ⟨by rw [zbyt, eg]; simp only []; rw [if_neg (nI_pos hi9), nI_clamp hi9]; rfl, rfl, rfl⟩
      refine g_tableOut (pc := 21) (tgt := 78) hc dML_bytes_21 (zsw 3 (by decide) (fun j hj => by
        rcases (show j = 0 ∨ j = 1 ∨ j = 2 by omega) with rfl | rfl | rfl
        · exact w0
        · exact w1
        · exact w2)) (by decide) ?_
      refine g_ldc2 (pc := 78) hc dML_bytes_78 x_ML_96 ?_
      exact g_lret (pc := 81) hc he dML_bytes_81 (Nat.le_refl _) (Nat.le_refl _) ⟨by rw [zbyt, eg]; simp only []; rw [if_neg (nI_pos hi9), if_neg w0, if_neg w1, if_neg w2], rfl, rfl⟩
    · have d13 : i < 0 := Int32.not_le.mp c13
      refine g_ldc2 (pc := 16) hc dML_bytes_16 x_ML_96 ?_
      exact g_lret (pc := 19) hc he dML_bytes_19 (Nat.le_refl _) (Nat.le_refl _) ⟨by rw [zbyt, eg]; simp only []; rw [if_pos d13], rfl, rfl⟩
  · have eg := zget_none hno
    refine g_astoreN (pc := 5) hc dML_bytes_5 (by decide) rfl ?_
    refine g_aloadN (pc := 7) hc dML_bytes_7 rfl ?_
    refine g_ifnullN (pc := 9) (tgt := 16) hc dML_bytes_9 (by decide) ?_
    refine g_ldc2 (pc := 16) hc dML_bytes_16 x_ML_96 ?_
    exact g_lret (pc := 19) hc he dML_bytes_19 (Nat.le_refl _) (Nat.le_refl _) ⟨by rw [zbyt, eg], rfl, rfl⟩
set_option maxHeartbeats 4000000 in
set_option maxRecDepth 100000 in
theorem s_ML_count (V : mm_V) {z tn : Nat} {A Ln : List Nat} {lc : Bool} {T : List Nat} {tc td : Bool} {E : zEv} {Ms : List zMsg} {ses gr tx : Bool} {w : Int32} {mem : mm_M} {nx : Nat} (h : zML z A Ln lc T tc td tn E Ms ses gr tx mem) : mm_S V yML_count cML_count 2 (some .int) 1 0 0 [.ref z, .int w] mem nx (fun r m x => r = some (.int (zcnt (A, (Ln, lc), (T, tc, td, tn), E, Ms, ses, gr, tx) w)) ∧ mem = m ∧ nx = x) := by
  obtain ⟨hm, hA, hLn, hT, hE, ⟨g, hg, hg7⟩, hMs, hLe⟩ := id h
  refine mm_met (by decide) (Nat.le_of_ble_eq_true rfl) ?_
  intro X hc he hnm
  refine g_iload_n (pc := 0) hc dML_count_0 rfl ?_
  by_cases w0 : w = nI 0
  · subst w0
    refine g_tableIn (pc := 1) (tgt := 40) (off := 39) hc dML_count_1 (by decide) (by decide) (by decide) (by decide) ?_
    refine g_aload_n (pc := 40) hc dML_count_40 rfl ?_
    refine g_get (pc := 41) hc dML_count_41 x_ML_102 (by assumption) (by rfl) ?_
    exact g_iret (pc := 44) hc he dML_count_44 (Nat.le_refl _) (Nat.le_refl _) ⟨rfl, rfl, rfl⟩
  by_cases w1 : w = nI 1
  · subst w1
    refine g_tableIn (pc := 1) (tgt := 45) (off := 44) hc dML_count_1 (by decide) (by decide) (by decide) (by decide) ?_
    refine g_aload_n (pc := 45) hc dML_count_45 rfl ?_
    refine g_get (pc := 46) hc dML_count_46 x_ML_46 (by assumption) (by rfl) ?_
    refine g_if_eq (tgt := 56) (pc := 49) hc dML_count_49 (by decide) (fun c49 => ?_) (fun c49 => ?_)
    · simp (disch := omega) only [nI_leI, nI_ltI, nI_eq, nI_eq0, nI_lt0, nI_0le, nI_0lt, nI_le0, zb_0] at c49
      refine g_iconst (v := nI 0) (pc := 56) hc dML_count_56 (by decide) ?_
      exact g_iret (pc := 57) hc he dML_count_57 (Nat.le_refl _) (Nat.le_refl _) ⟨by rw [c49]; rfl, rfl, rfl⟩
    · simp (disch := omega) only [nI_leI, nI_ltI, nI_eq, nI_eq0, nI_lt0, nI_0le, nI_0lt, nI_le0, zb_0] at c49
      have d49 : ses = true := by simpa using c49
      refine g_iconst (v := nI 1) (pc := 52) hc dML_count_52 (by decide) ?_
      refine g_goto (tgt := 57) (pc := 53) hc dML_count_53 (by decide) ?_
      exact g_iret (pc := 57) hc he dML_count_57 (Nat.le_refl _) (Nat.le_refl _) ⟨by rw [d49]; rfl, rfl, rfl⟩
  by_cases w2 : w = nI 2
  · subst w2
    refine g_tableIn (pc := 1) (tgt := 58) (off := 57) hc dML_count_1 (by decide) (by decide) (by decide) (by decide) ?_
    refine g_aload_n (pc := 58) hc dML_count_58 rfl ?_
    refine g_get (pc := 59) hc dML_count_59 x_ML_73 (by assumption) (by rfl) ?_
    refine g_if_eq (tgt := 69) (pc := 62) hc dML_count_62 (by decide) (fun c62 => ?_) (fun c62 => ?_)
    · simp (disch := omega) only [nI_leI, nI_ltI, nI_eq, nI_eq0, nI_lt0, nI_0le, nI_0lt, nI_le0, zb_0] at c62
      refine g_iconst (v := nI 0) (pc := 69) hc dML_count_69 (by decide) ?_
      exact g_iret (pc := 70) hc he dML_count_70 (Nat.le_refl _) (Nat.le_refl _) ⟨by rw [c62]; rfl, rfl, rfl⟩
    · simp (disch := omega) only [nI_leI, nI_ltI, nI_eq, nI_eq0, nI_lt0, nI_0le, nI_0lt, nI_le0, zb_0] at c62
      have d62 : tx = true := by simpa using c62
      refine g_iconst (v := nI 1) (pc := 65) hc dML_count_65 (by decide) ?_
      refine g_goto (tgt := 70) (pc := 66) hc dML_count_66 (by decide) ?_
      exact g_iret (pc := 70) hc he dML_count_70 (Nat.le_refl _) (Nat.le_refl _) ⟨by rw [d62]; rfl, rfl, rfl⟩
  by_cases w3 : w = nI 3
  · subst w3
    refine g_tableIn (pc := 1) (tgt := 71) (off := 70) hc dML_count_1 (by decide) (by decide) (by decide) (by decide) ?_
    refine g_aload_n (pc := 71) hc dML_count_71 rfl ?_
    refine g_get (pc := 72) hc dML_count_72 x_ML_35 (by assumption) (by rfl) ?_
    refine g_callV (pc := 75) hc dML_count_75 x_ML_106 (s_Env_recipients V hE) cl_Env (hE.1) (Nat.le_of_ble_eq_true rfl) (Nat.le_of_ble_eq_true rfl) (Nat.le_of_ble_eq_true rfl) (Nat.le_of_ble_eq_true rfl) rfl rfl (Nat.le_of_ble_eq_true rfl) (fun r m x hp => ?_)
    obtain ⟨rfl, rfl, rfl⟩ := hp
    exact g_iret (pc := 78) hc he dML_count_78 (Nat.le_refl _) (Nat.le_refl _) ⟨rfl, rfl, rfl⟩
  by_cases w4 : w = nI 4
  · subst w4
    refine g_tableIn (pc := 1) (tgt := 79) (off := 78) hc dML_count_1 (by decide) (by decide) (by decide) (by decide) ?_
    refine g_aload_n (pc := 79) hc dML_count_79 rfl ?_
    refine g_get (pc := 80) hc dML_count_80 x_ML_73 (by assumption) (by rfl) ?_
    refine g_if_eq (tgt := 99) (pc := 83) hc dML_count_83 (by decide) (fun c83 => ?_) (fun c83 => ?_)
    · simp (disch := omega) only [nI_leI, nI_ltI, nI_eq, nI_eq0, nI_lt0, nI_0le, nI_0lt, nI_le0, zb_0] at c83
      refine g_aload_n (pc := 99) hc dML_count_99 rfl ?_
      refine g_get (pc := 100) hc dML_count_100 x_ML_21 (by assumption) (by rfl) ?_
      refine g_callV (pc := 103) hc dML_count_103 x_ML_110 (s_LR_row V hLn) cl_LR (hLn.1) (Nat.le_of_ble_eq_true rfl) (Nat.le_of_ble_eq_true rfl) (Nat.le_of_ble_eq_true rfl) (Nat.le_of_ble_eq_true rfl) rfl rfl (Nat.le_of_ble_eq_true rfl) (fun r m x hp => ?_)
      obtain ⟨rfl, rfl, rfl⟩ := hp
      refine g_callV (pc := 106) hc dML_count_106 x_ML_53 (s_Row_length V hLn.2) cl_Row (hLn.2.obj) (Nat.le_of_ble_eq_true rfl) (Nat.le_of_ble_eq_true rfl) (Nat.le_of_ble_eq_true rfl) (Nat.le_of_ble_eq_true rfl) rfl rfl (Nat.le_of_ble_eq_true rfl) (fun r m x hp => ?_)
      obtain ⟨rfl, rfl, rfl⟩ := hp
      exact g_iret (pc := 109) hc he dML_count_109 (Nat.le_refl _) (Nat.le_refl _) ⟨by rw [c83]; rfl, rfl, rfl⟩
    · simp (disch := omega) only [nI_leI, nI_ltI, nI_eq, nI_eq0, nI_lt0, nI_0le, nI_0lt, nI_le0, zb_0] at c83
      have d83 : tx = true := by simpa using c83
      refine g_aload_n (pc := 86) hc dML_count_86 rfl ?_
      refine g_get (pc := 87) hc dML_count_87 x_ML_28 (by assumption) (by rfl) ?_
      refine g_callV (pc := 90) hc dML_count_90 x_ML_107 (s_TR_row V hT) cl_TR (hT.1) (Nat.le_of_ble_eq_true rfl) (Nat.le_of_ble_eq_true rfl) (Nat.le_of_ble_eq_true rfl) (Nat.le_of_ble_eq_true rfl) rfl rfl (Nat.le_of_ble_eq_true rfl) (fun r m x hp => ?_)
      obtain ⟨rfl, rfl, rfl⟩ := hp
      refine g_callV (pc := 93) hc dML_count_93 x_ML_53 (s_Row_length V hT.2) cl_Row (hT.2.obj) (Nat.le_of_ble_eq_true rfl) (Nat.le_of_ble_eq_true rfl) (Nat.le_of_ble_eq_true rfl) (Nat.le_of_ble_eq_true rfl) rfl rfl (Nat.le_of_ble_eq_true rfl) (fun r m x hp => ?_)
      obtain ⟨rfl, rfl, rfl⟩ := hp
      refine g_goto (tgt := 109) (pc := 96) hc dML_count_96 (by decide) ?_
      exact g_iret (pc := 109) hc he dML_count_109 (Nat.le_refl _) (Nat.le_refl _) ⟨by rw [d83]; rfl, rfl, rfl⟩
  by_cases w5 : w = nI 5
  · subst w5
    refine g_tableIn (pc := 1) (tgt := 110) (off := 109) hc dML_count_1 (by decide) (by decide) (by decide) (by decide) ?_
    refine g_aload_n (pc := 110) hc dML_count_110 rfl ?_
    refine g_get (pc := 111) hc dML_count_111 x_ML_14 (by assumption) (by rfl) ?_
    refine g_callV (pc := 114) hc dML_count_114 x_ML_53 (s_Row_length V hA) cl_Row (hA.obj) (Nat.le_of_ble_eq_true rfl) (Nat.le_of_ble_eq_true rfl) (Nat.le_of_ble_eq_true rfl) (Nat.le_of_ble_eq_true rfl) rfl rfl (Nat.le_of_ble_eq_true rfl) (fun r m x hp => ?_)
    obtain ⟨rfl, rfl, rfl⟩ := hp
    exact g_iret (pc := 117) hc he dML_count_117 (Nat.le_refl _) (Nat.le_refl _) ⟨rfl, rfl, rfl⟩
  refine g_tableOut (pc := 1) (tgt := 118) hc dML_count_1 (zsw 6 (by decide) (fun j hj => by
    rcases (show j = 0 ∨ j = 1 ∨ j = 2 ∨ j = 3 ∨ j = 4 ∨ j = 5 by omega) with rfl | rfl | rfl | rfl | rfl | rfl
    · exact w0
    · exact w1
    · exact w2
    · exact w3
    · exact w4
    · exact w5)) (by decide) ?_
  refine g_iconst (v := -1) (pc := 118) hc dML_count_118 (by decide) ?_
  exact g_iret (pc := 119) hc he dML_count_119 (Nat.le_refl _) (Nat.le_refl _) ⟨by unfold zcnt; simp only []; rw [if_neg w0, if_neg w1, if_neg w2, if_neg w3, if_neg w4, if_neg w5], rfl, rfl⟩
