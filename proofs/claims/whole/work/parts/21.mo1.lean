theorem zWf.ans {A A' : List Nat} {E : zEv} {Ms : List zMsg} {ss : Nat} (h : zWf A E Ms ss) (hA : ∀ b ∈ A', b < 256) : zWf A' E Ms ss := ⟨hA, h.2⟩
theorem zlt_app {A : List Nat} {b : Nat} (h : ∀ x ∈ A, x < 256) (hb : b < 256) : ∀ x ∈ A ++ [b], x < 256 := by
  intro x hx
  rcases List.mem_append.mp hx with q | q
  · exact h x q
  · rw [List.mem_singleton.mp q]; exact hb
set_option maxHeartbeats 4000000 in
set_option maxRecDepth 100000 in
theorem s_Mo_sayByte (V : mm_V) {y sz la il ss rc : Nat} {th gr hs ln pt : Bool} {fi av be : Int32} {L A : List Nat} {E : zEv} {Ms : List zMsg} {b : Nat} {mem : mm_M} {nx : Nat} (h : zK y th gr hs ln sz la il pt ss rc fi av be L A E Ms mem) (hb : b < 256) : mm_S V yMo_sayByte cMo_sayByte 2 none 0 0 0 [.ref y, .int (nI b)] mem nx (fun r m x => r = none ∧ nx = x ∧ zK y th gr hs ln sz la il pt ss rc fi av be L ((A ++ [b]).take 400) E Ms m ∧ zsame y (y + 13) mem m) := by
  obtain ⟨hm, hT⟩ := id h
  obtain ⟨hL, hS, hR, hRs, hA, hMs, hW⟩ := id hT
  refine mm_met (by decide) (Nat.le_of_ble_eq_true rfl) ?_
  intro X hc he hnm
  obtain ⟨f, ha, hle, hf⟩ := id hA
  refine g_aload_n (pc := 0) hc dMo_sayByte_0 rfl ?_
  refine g_get (pc := 1) hc dMo_sayByte_1 x_Mo_50 (by assumption) (by rfl) ?_
  refine g_sipush (v := nI 400) (pc := 4) hc dMo_sayByte_4 (by decide) ?_
  refine g_icmp_ne (tgt := 11) (pc := 7) hc dMo_sayByte_7 (by decide) (fun c7 => ?_) (fun c7 => ?_)
  · simp (disch := omega) only [nI_leI, nI_ltI, nI_eq, nI_eq0, nI_lt0, nI_0le, nI_0lt, nI_le0, zb_0] at c7
    refine g_aload_n (pc := 11) hc dMo_sayByte_11 rfl ?_
    refine g_get (pc := 12) hc dMo_sayByte_12 x_Mo_26 (by assumption) (by rfl) ?_
    refine g_aload_n (pc := 15) hc dMo_sayByte_15 rfl ?_
    refine g_get (pc := 16) hc dMo_sayByte_16 x_Mo_50 (by assumption) (by rfl) ?_
    refine g_iload_n (pc := 19) hc dMo_sayByte_19 rfl ?_
    refine g_iast (pc := 20) (t := kI) hc dMo_sayByte_20 rfl ha (vp_in_nI (show A.length < 400 by omega) (by decide)) (fun m1 h1 o1 => ?_)
    rw [nI_clamp (by omega)] at h1
    have hm1 := (o1 y (by omega)).trans hm
    refine g_aload_n (pc := 21) hc dMo_sayByte_21 rfl ?_
    refine g_aload_n (pc := 22) hc dMo_sayByte_22 rfl ?_
    refine g_get (pc := 23) hc dMo_sayByte_23 x_Mo_50 hm1 (by rfl) ?_
    refine g_iconst (v := nI 1) (pc := 26) hc dMo_sayByte_26 (by decide) ?_
    refine g_iadd (pc := 27) hc dMo_sayByte_27 ?_
    rw [nI_add]
    refine g_put (pc := 28) hc dMo_sayByte_28 x_Mo_50 ft_Mo rfl hm1 rfl rfl (zlt rfl) (fun m2 h20 o2 => ?_)
    have h2 : m2 y = some (.inr (kMo, fMo y th gr hs ln sz la il pt ss rc fi av be (A.length + 1) Ms.length)) := h20
    rw [show A.length + 1 = (A ++ [b]).length by simp] at h2
    refine g_vret (pc := 31) hc he dMo_sayByte_31 (Nat.le_refl _) (Nat.le_refl _) ⟨rfl, rfl, ?_, fun a q => (o2 a (by omega)).trans (o1 a (by omega))⟩
    rw [ztake_room (by omega)]
    exact ⟨h2, (hL.kpt o1 (by omega)).kpt o2 (by omega), (hS.kpt o1 (by omega)).kpt o2 (by omega), (hR.kpt o1 (by omega)).kpt o2 (by omega), (hRs.kpt o1 (by omega)).kpt o2 (by omega), ⟨_, (o2 _ (by omega)).trans h1, by simp; omega, zupd_app hf⟩, (hMs.kpt o1 (by omega)).kpt o2 (by omega), hW.ans (zlt_app hW.1 hb)⟩
  · simp (disch := omega) only [nI_leI, nI_ltI, nI_eq, nI_eq0, nI_lt0, nI_0le, nI_0lt, nI_le0, zb_0] at c7
    exact g_vret (pc := 10) hc he dMo_sayByte_10 (Nat.le_refl _) (Nat.le_refl _) ⟨rfl, rfl, by rw [ztake_full c7]; exact h, zsame.rf⟩
set_option maxHeartbeats 4000000 in
set_option maxRecDepth 100000 in
theorem s_Mo_say (V : mm_V) {y sz la il ss rc : Nat} {th gr hs ln pt : Bool} {fi av be : Int32} {L A : List Nat} {E : zEv} {Ms : List zMsg} {v : Int64} {n : Nat} {mem : mm_M} {nx : Nat} (h : zK y th gr hs ln sz la il pt ss rc fi av be L A E Ms mem) (hn : n ≤ 8) : mm_S V yMo_say cMo_say 5 none 1 0 0 [.ref y, .long v, .int (nI n)] mem nx (fun r m x => r = none ∧ nx = x ∧ zK y th gr hs ln sz la il pt ss rc fi av be L ((A ++ zsay v n).take 400) E Ms m ∧ zsame y (y + 13) mem m) := by
  obtain ⟨hm, hT⟩ := id h
  obtain ⟨hL, hS, hR, hRs, hA, hMs, hW⟩ := id hT
  refine mm_met (by decide) (Nat.le_of_ble_eq_true rfl) ?_
  intro X hc he hnm
  have loop : ∀ (i k : Nat) (m1 : mm_M), i + k = n → zK y th gr hs ln sz la il pt ss rc fi av be L ((A ++ zsay v k).take 400) E Ms m1 → zsame y (y + 13) mem m1 → mm_G V X 5 3 [(0, .ref y), (1, .long v), (3, .int (nI n)), (4, .int (nI (k)))] [] m1 nx 0 0 := by
    intro i
    induction i with
    | zero =>
      intro k m1 e1 h1 hs1
      obtain rfl : k = n := by omega
      refine g_iload (pc := 3) hc dMo_say_3 rfl ?_
      refine g_iload_n (pc := 5) hc dMo_say_5 rfl ?_
      refine g_icmp_ge (tgt := 34) (pc := 6) hc dMo_say_6 (by decide) (fun _ => ?_) (fun c6 => absurd (nI_le (by omega) (by omega)) c6)
      exact g_vret (pc := 34) hc he dMo_say_34 (Nat.le_refl _) (Nat.le_refl _) ⟨rfl, rfl, h1, hs1⟩
    | succ i ih =>
      intro k m1 e1 h1 hs1
      refine g_iload (pc := 3) hc dMo_say_3 rfl ?_
      refine g_iload_n (pc := 5) hc dMo_say_5 rfl ?_
      refine g_icmp_ge (tgt := 34) (pc := 6) hc dMo_say_6 (by decide) (fun c6 => absurd c6 (nI_ge (by omega) (by omega))) (fun _ => ?_)
      refine g_aload_n (pc := 9) hc dMo_say_9 rfl ?_
      refine g_lload_n (pc := 10) hc dMo_say_10 rfl ?_
      refine g_bipush (v := nI 56) (pc := 11) hc dMo_say_11 (by decide) ?_
      refine g_bipush (v := nI 8) (pc := 13) hc dMo_say_13 (by decide) ?_
      refine g_iload (pc := 15) hc dMo_say_15 rfl ?_
      refine g_imul (pc := 17) hc dMo_say_17 ?_
      rw [pk_mul]
      refine g_isub (pc := 18) hc dMo_say_18 ?_
      rw [pk_sub (by omega), show 56 - 8 * k = 8 * (7 - k) by omega]
      refine g_lshr (pc := 19) hc dMo_say_19 rfl ?_
      refine g_l2i (pc := 20) hc dMo_say_20 rfl ?_
      refine g_sipush (v := nI 255) (pc := 21) hc dMo_say_21 (by decide) ?_
      refine g_iand (pc := 24) hc dMo_say_24 ?_
      rw [zsar v (show 7 - k < 8 by omega)]
      refine g_callV (pc := 25) hc dMo_say_25 x_Mo_54 (s_Mo_sayByte V h1 (zby_lt v (7 - k))) cl_Mo (h1.1) (Nat.le_of_ble_eq_true rfl) (Nat.le_of_ble_eq_true rfl) (Nat.le_of_ble_eq_true rfl) (Nat.le_of_ble_eq_true rfl) rfl rfl (Nat.le_of_ble_eq_true rfl) (fun r m x hp => ?_)
      obtain ⟨rfl, rfl, h2, hs2⟩ := hp
      rw [ztake_take, List.append_assoc, ← zsay_succ] at h2
      refine g_iinc (pc := 28) hc dMo_say_28 rfl (zinc _) (by decide) rfl ?_
      refine g_goto (tgt := 3) (pc := 31) hc dMo_say_31 (by decide) ?_
      refine g_lv (lv' := [(0, .ref y), (1, .long v), (3, .int (nI n)), (4, .int (nI (k + 1)))]) ⟨rfl, rfl, rfl, rfl, trivial⟩ ?_
      exact ih (k + 1) _ (by omega) h2 (hs1.tr hs2)
  refine g_iconst (v := nI 0) (pc := 0) hc dMo_say_0 (by decide) ?_
  refine g_istore (pc := 1) hc dMo_say_1 (by decide) rfl ?_
  refine g_lv (lv' := [(0, .ref y), (1, .long v), (3, .int (nI n)), (4, .int (nI (0)))]) ⟨rfl, rfl, rfl, rfl, trivial⟩ ?_
  exact loop n 0 mem rfl (by rw [show zsay v 0 = [] from rfl, List.append_nil, List.take_of_length_le (by obtain ⟨f, -, q, -⟩ := hA; exact q)]; exact h) zsame.rf
set_option maxHeartbeats 4000000 in
set_option maxRecDepth 100000 in
theorem s_Mo_end (V : mm_V) {y sz la il ss rc : Nat} {th gr hs ln pt : Bool} {fi av be : Int32} {L A : List Nat} {E : zEv} {Ms : List zMsg} {mem : mm_M} {nx : Nat} (h : zK y th gr hs ln sz la il pt ss rc fi av be L A E Ms mem) : mm_S V yMo_end cMo_end 1 none 1 0 0 [.ref y] mem nx (fun r m x => r = none ∧ nx = x ∧ zK y th gr hs ln sz la il pt ss rc fi av be L (((A ++ [13]).take 400 ++ [10]).take 400) E Ms m ∧ zsame y (y + 13) mem m) := by
  obtain ⟨hm, hT⟩ := id h
  obtain ⟨hL, hS, hR, hRs, hA, hMs, hW⟩ := id hT
  refine mm_met (by decide) (Nat.le_of_ble_eq_true rfl) ?_
  intro X hc he hnm
  refine g_aload_n (pc := 0) hc dMo_end_0 rfl ?_
  refine g_bipush (v := nI 13) (pc := 1) hc dMo_end_1 (by decide) ?_
  refine g_callV (pc := 3) hc dMo_end_3 x_Mo_54 (s_Mo_sayByte V h (show 13 < 256 by decide)) cl_Mo (h.1) (Nat.le_of_ble_eq_true rfl) (Nat.le_of_ble_eq_true rfl) (Nat.le_of_ble_eq_true rfl) (Nat.le_of_ble_eq_true rfl) rfl rfl (Nat.le_of_ble_eq_true rfl) (fun r m x hp => ?_)
  obtain ⟨rfl, rfl, h1, hs1⟩ := hp
  refine g_aload_n (pc := 6) hc dMo_end_6 rfl ?_
  refine g_bipush (v := nI 10) (pc := 7) hc dMo_end_7 (by decide) ?_
  refine g_callV (pc := 9) hc dMo_end_9 x_Mo_54 (s_Mo_sayByte V h1 (show 10 < 256 by decide)) cl_Mo (h1.1) (Nat.le_of_ble_eq_true rfl) (Nat.le_of_ble_eq_true rfl) (Nat.le_of_ble_eq_true rfl) (Nat.le_of_ble_eq_true rfl) rfl rfl (Nat.le_of_ble_eq_true rfl) (fun r m x hp => ?_)
  obtain ⟨rfl, rfl, h2, hs2⟩ := hp
  exact g_vret (pc := 12) hc he dMo_end_12 (Nat.le_refl _) (Nat.le_refl _) ⟨rfl, rfl, h2, hs1.tr hs2⟩
theorem zans1 (A u : List Nat) : (((((A ++ u).take 400) ++ [13]).take 400) ++ [10]).take 400 = zans A u := zans3 A u
theorem zans2 (A u w : List Nat) : ((((((A ++ u).take 400 ++ w).take 400) ++ [13]).take 400) ++ [10]).take 400 = zans A (u ++ w) := by
  rw [ztake_take (A := A ++ u) (B := w), List.append_assoc A u w, zans3]
set_option maxHeartbeats 4000000 in
set_option maxRecDepth 100000 in
theorem s_Mo_order (V : mm_V) {y sz la il ss rc : Nat} {th gr hs ln pt : Bool} {fi av be : Int32} {L A : List Nat} {E : zEv} {Ms : List zMsg} {mem : mm_M} {nx : Nat} (h : zK y th gr hs ln sz la il pt ss rc fi av be L A E Ms mem) : mm_S V yMo_order cMo_order 1 none 2 0 0 [.ref y] mem nx (fun r m x => r = none ∧ nx = x ∧ zK y th gr hs ln sz la il pt ss rc fi av be L (zans A (zs t_503)) E Ms m ∧ zsame y (y + 13) mem m) := by
  obtain ⟨hm, hT⟩ := id h
  obtain ⟨hL, hS, hR, hRs, hA, hMs, hW⟩ := id hT
  refine mm_met (by decide) (Nat.le_of_ble_eq_true rfl) ?_
  intro X hc he hnm
  refine g_aload_n (pc := 0) hc dMo_order_0 rfl ?_
  refine g_ldc2 (pc := 1) hc dMo_order_1 x_Mo_58 ?_
  refine g_bipush (v := nI 8) (pc := 4) hc dMo_order_4 (by decide) ?_
  refine g_callV (pc := 6) hc dMo_order_6 x_Mo_60 (s_Mo_say V (n := 8) h (by decide)) cl_Mo (h.1) (Nat.le_of_ble_eq_true rfl) (Nat.le_of_ble_eq_true rfl) (Nat.le_of_ble_eq_true rfl) (Nat.le_of_ble_eq_true rfl) rfl rfl (Nat.le_of_ble_eq_true rfl) (fun r m x hp => ?_)
  obtain ⟨rfl, rfl, h1, hs1⟩ := hp
  refine g_aload_n (pc := 9) hc dMo_order_9 rfl ?_
  refine g_ldc2 (pc := 10) hc dMo_order_10 x_Mo_64 ?_
  refine g_iconst (v := nI 1) (pc := 13) hc dMo_order_13 (by decide) ?_
  refine g_callV (pc := 14) hc dMo_order_14 x_Mo_60 (s_Mo_say V (n := 1) h1 (by decide)) cl_Mo (h1.1) (Nat.le_of_ble_eq_true rfl) (Nat.le_of_ble_eq_true rfl) (Nat.le_of_ble_eq_true rfl) (Nat.le_of_ble_eq_true rfl) rfl rfl (Nat.le_of_ble_eq_true rfl) (fun r m x hp => ?_)
  obtain ⟨rfl, rfl, h2, hs2⟩ := hp
  refine g_aload_n (pc := 17) hc dMo_order_17 rfl ?_
  refine g_callV (pc := 18) hc dMo_order_18 x_Mo_66 (s_Mo_end V h2) cl_Mo (h2.1) (Nat.le_of_ble_eq_true rfl) (Nat.le_of_ble_eq_true rfl) (Nat.le_of_ble_eq_true rfl) (Nat.le_of_ble_eq_true rfl) rfl rfl (Nat.le_of_ble_eq_true rfl) (fun r m x hp => ?_)
  obtain ⟨rfl, rfl, h3, hs3⟩ := hp
  rw [zans2] at h3
  exact g_vret (pc := 21) hc he dMo_order_21 (Nat.le_refl _) (Nat.le_refl _) ⟨rfl, rfl, h3, (hs1.tr hs2).tr hs3⟩
set_option maxHeartbeats 4000000 in
set_option maxRecDepth 100000 in
theorem s_Mo_syntax (V : mm_V) {y sz la il ss rc : Nat} {th gr hs ln pt : Bool} {fi av be : Int32} {L A : List Nat} {E : zEv} {Ms : List zMsg} {mem : mm_M} {nx : Nat} (h : zK y th gr hs ln sz la il pt ss rc fi av be L A E Ms mem) : mm_S V yMo_syntax cMo_syntax 1 none 2 0 0 [.ref y] mem nx (fun r m x => r = none ∧ nx = x ∧ zK y th gr hs ln sz la il pt ss rc fi av be L (zans A (zs t_501)) E Ms m ∧ zsame y (y + 13) mem m) := by
  obtain ⟨hm, hT⟩ := id h
  obtain ⟨hL, hS, hR, hRs, hA, hMs, hW⟩ := id hT
  refine mm_met (by decide) (Nat.le_of_ble_eq_true rfl) ?_
  intro X hc he hnm
  refine g_aload_n (pc := 0) hc dMo_syntax_0 rfl ?_
  refine g_ldc2 (pc := 1) hc dMo_syntax_1 x_Mo_69 ?_
  refine g_bipush (v := nI 8) (pc := 4) hc dMo_syntax_4 (by decide) ?_
  refine g_callV (pc := 6) hc dMo_syntax_6 x_Mo_60 (s_Mo_say V (n := 8) h (by decide)) cl_Mo (h.1) (Nat.le_of_ble_eq_true rfl) (Nat.le_of_ble_eq_true rfl) (Nat.le_of_ble_eq_true rfl) (Nat.le_of_ble_eq_true rfl) rfl rfl (Nat.le_of_ble_eq_true rfl) (fun r m x hp => ?_)
  obtain ⟨rfl, rfl, h1, hs1⟩ := hp
  refine g_aload_n (pc := 9) hc dMo_syntax_9 rfl ?_
  refine g_ldc2 (pc := 10) hc dMo_syntax_10 x_Mo_71 ?_
  refine g_iconst (v := nI 2) (pc := 13) hc dMo_syntax_13 (by decide) ?_
  refine g_callV (pc := 14) hc dMo_syntax_14 x_Mo_60 (s_Mo_say V (n := 2) h1 (by decide)) cl_Mo (h1.1) (Nat.le_of_ble_eq_true rfl) (Nat.le_of_ble_eq_true rfl) (Nat.le_of_ble_eq_true rfl) (Nat.le_of_ble_eq_true rfl) rfl rfl (Nat.le_of_ble_eq_true rfl) (fun r m x hp => ?_)
  obtain ⟨rfl, rfl, h2, hs2⟩ := hp
  refine g_aload_n (pc := 17) hc dMo_syntax_17 rfl ?_
  refine g_callV (pc := 18) hc dMo_syntax_18 x_Mo_66 (s_Mo_end V h2) cl_Mo (h2.1) (Nat.le_of_ble_eq_true rfl) (Nat.le_of_ble_eq_true rfl) (Nat.le_of_ble_eq_true rfl) (Nat.le_of_ble_eq_true rfl) rfl rfl (Nat.le_of_ble_eq_true rfl) (fun r m x hp => ?_)
  obtain ⟨rfl, rfl, h3, hs3⟩ := hp
  rw [zans2] at h3
  exact g_vret (pc := 21) hc he dMo_syntax_21 (Nat.le_refl _) (Nat.le_refl _) ⟨rfl, rfl, h3, (hs1.tr hs2).tr hs3⟩
set_option maxHeartbeats 4000000 in
set_option maxRecDepth 100000 in
theorem s_Mo_keep (V : mm_V) {y sz la il ss rc : Nat} {th gr hs ln pt : Bool} {fi av be : Int32} {L A : List Nat} {E : zEv} {Ms : List zMsg} {b : Nat} {mem : mm_M} {nx : Nat} (h : zK y th gr hs ln sz la il pt ss rc fi av be L A E Ms mem) (hb : b < 256) (hsz : sz = L.length) (hl2 : L.length ≤ 202) : mm_S V yMo_keep cMo_keep 2 none 0 0 0 [.ref y, .int (nI b)] mem nx (fun r m x => r = none ∧ nx = x ∧ zK y th gr hs ln (((L ++ [b]).take 202).length) la il pt ss rc fi av be ((L ++ [b]).take 202) A E Ms m ∧ zsame y (y + 13) mem m) := by
  obtain ⟨hm, hT⟩ := id h
  obtain ⟨hL, hS, hR, hRs, hA, hMs, hW⟩ := id hT
  refine mm_met (by decide) (Nat.le_of_ble_eq_true rfl) ?_
  intro X hc he hnm
  subst hsz
  obtain ⟨f, ha, hle, hf⟩ := id hL
  refine g_aload_n (pc := 0) hc dMo_keep_0 rfl ?_
  refine g_get (pc := 1) hc dMo_keep_1 x_Mo_76 (by assumption) (by rfl) ?_
  refine g_sipush (v := nI 210) (pc := 4) hc dMo_keep_4 (by decide) ?_
  refine g_icmp_ge (tgt := 20) (pc := 7) hc dMo_keep_7 (by decide) (fun c7 => absurd c7 (nI_ge (by omega) (by omega))) (fun _ => ?_)
  refine g_aload_n (pc := 10) hc dMo_keep_10 rfl ?_
  refine g_get (pc := 11) hc dMo_keep_11 x_Mo_13 (by assumption) (by rfl) ?_
  refine g_aload_n (pc := 14) hc dMo_keep_14 rfl ?_
  refine g_get (pc := 15) hc dMo_keep_15 x_Mo_76 (by assumption) (by rfl) ?_
  refine g_iload_n (pc := 18) hc dMo_keep_18 rfl ?_
  refine g_iast (pc := 19) (t := kI) hc dMo_keep_19 rfl ha (vp_in_nI (show L.length < 210 by omega) (by decide)) (fun m1 h1 o1 => ?_)
  rw [nI_clamp (by omega)] at h1
  have hm1 := (o1 y (by omega)).trans hm
  have hT1 : zT y ((L ++ [b]).take 202) A E Ms ss m1 := ⟨zA.take ⟨_, h1, by simp; omega, zupd_app hf⟩, hS.kpt o1 (by omega), hR.kpt o1 (by omega), hRs.kpt o1 (by omega), hA.kpt o1 (by omega), hMs.kpt o1 (by omega), hW⟩
  refine g_aload_n (pc := 20) hc dMo_keep_20 rfl ?_
  refine g_aload_n (pc := 21) hc dMo_keep_21 rfl ?_
  refine g_get (pc := 22) hc dMo_keep_22 x_Mo_76 hm1 (by rfl) ?_
  refine g_sipush (v := nI 202) (pc := 25) hc dMo_keep_25 (by decide) ?_
  refine g_icmp_ge (tgt := 40) (pc := 28) hc dMo_keep_28 (by decide) (fun c28 => ?_) (fun c28 => ?_)
  · simp (disch := omega) only [nI_leI, nI_ltI, nI_eq, nI_eq0, nI_lt0, nI_0le, nI_0lt, nI_le0, zb_0] at c28
    refine g_sipush (v := nI 202) (pc := 40) hc dMo_keep_40 (by decide) ?_
    refine g_put (pc := 43) hc dMo_keep_43 x_Mo_76 ft_Mo rfl hm1 rfl rfl (zlt rfl) (fun m2 h20 o2 => ?_)
    have h2 : m2 y = some (.inr (kMo, fMo y th gr hs ln 202 la il pt ss rc fi av be A.length Ms.length)) := h20
    refine g_vret (pc := 46) hc he dMo_keep_46 (Nat.le_refl _) (Nat.le_refl _) ⟨rfl, rfl, ?_, fun a q => (o2 a (by omega)).trans (o1 a (by omega))⟩
    rw [show 202 = ((L ++ [b]).take 202).length by simp; omega] at h2
    exact ⟨h2, hT1.kpt o2⟩
  · simp (disch := omega) only [nI_leI, nI_ltI, nI_eq, nI_eq0, nI_lt0, nI_0le, nI_0lt, nI_le0, zb_0] at c28
    refine g_aload_n (pc := 31) hc dMo_keep_31 rfl ?_
    refine g_get (pc := 32) hc dMo_keep_32 x_Mo_76 hm1 (by rfl) ?_
    refine g_iconst (v := nI 1) (pc := 35) hc dMo_keep_35 (by decide) ?_
    refine g_iadd (pc := 36) hc dMo_keep_36 ?_
    rw [nI_add]
    refine g_goto (tgt := 43) (pc := 37) hc dMo_keep_37 (by decide) ?_
    refine g_put (pc := 43) hc dMo_keep_43 x_Mo_76 ft_Mo rfl hm1 rfl rfl (zlt rfl) (fun m2 h20 o2 => ?_)
    have h2 : m2 y = some (.inr (kMo, fMo y th gr hs ln (L.length + 1) la il pt ss rc fi av be A.length Ms.length)) := h20
    refine g_vret (pc := 46) hc he dMo_keep_46 (Nat.le_refl _) (Nat.le_refl _) ⟨rfl, rfl, ?_, fun a q => (o2 a (by omega)).trans (o1 a (by omega))⟩
    rw [show L.length + 1 = ((L ++ [b]).take 202).length by simp; omega] at h2
    exact ⟨h2, hT1.kpt o2⟩
set_option maxHeartbeats 4000000 in
set_option maxRecDepth 100000 in
theorem s_Mo_forget (V : mm_V) {y sz la il ss rc : Nat} {th gr hs ln pt : Bool} {fi av be : Int32} {L A : List Nat} {E : zEv} {Ms : List zMsg} {mem : mm_M} {nx : Nat} (h : zK y th gr hs ln sz la il pt ss rc fi av be L A E Ms mem) : mm_S V yMo_forget cMo_forget 1 none 0 0 0 [.ref y] mem nx (fun r m x => r = none ∧ nx = x ∧ zK y th gr false ln sz la il pt ss 0 fi av be L A ([], false, []) Ms m ∧ zsame y (y + 13) mem m) := by
  obtain ⟨hm, hT⟩ := id h
  obtain ⟨hL, hS, hR, hRs, hA, hMs, hW⟩ := id hT
  refine mm_met (by decide) (Nat.le_of_ble_eq_true rfl) ?_
  intro X hc he hnm
  refine g_aload_n (pc := 0) hc dMo_forget_0 rfl ?_
  refine g_iconst (v := nI 0) (pc := 1) hc dMo_forget_1 (by decide) ?_
  refine g_put (pc := 2) hc dMo_forget_2 x_Mo_135 ft_Mo rfl hm rfl rfl (zlt rfl) (fun m1 h10 o1 => ?_)
  have h1 : m1 y = some (.inr (kMo, fMo y th gr false ln sz la il pt ss rc fi av be A.length Ms.length)) := h10
  refine g_aload_n (pc := 5) hc dMo_forget_5 rfl ?_
  refine g_iconst (v := nI 0) (pc := 6) hc dMo_forget_6 (by decide) ?_
  refine g_put (pc := 7) hc dMo_forget_7 x_Mo_138 ft_Mo rfl h1 rfl rfl (zlt rfl) (fun m2 h20 o2 => ?_)
  have h2 : m2 y = some (.inr (kMo, fMo y th gr false ln sz la il pt ss 0 fi av be A.length Ms.length)) := h20
  exact g_vret (pc := 10) hc he dMo_forget_10 (Nat.le_refl _) (Nat.le_refl _) ⟨rfl, rfl, ⟨h2, ((hT.kpt o1).kpt o2).forget⟩, fun a q => (o2 a (by omega)).trans (o1 a (by omega))⟩
def zhigh (b : Nat) : Nat := if 97 ≤ b ∧ b ≤ 122 then b - 32 else b
def zDm (b : Nat) : Bool := decide (65 ≤ zhigh b ∧ zhigh b ≤ 90) || zdg b || b == 45
def zLo (b : Nat) : Bool := zDm b || b == 33 || decide (35 ≤ b ∧ b ≤ 39) || b == 42 || b == 43 || b == 47 || b == 61 || b == 63 || decide (94 ≤ b ∧ b ≤ 96) || decide (123 ≤ b ∧ b ≤ 126)
theorem zDm_eq : ∀ b, b < 256 → zDm b = znm (zs t_dm) b := by decide +kernel
theorem zLo_eq : ∀ b, b < 256 → zLo b = znm (zs t_lm) b := by decide +kernel
theorem zhigh_lt {b : Nat} (h : b < 256) : zhigh b < 256 := by unfold zhigh; split <;> omega
set_option maxHeartbeats 4000000 in
set_option maxRecDepth 100000 in
theorem s_Mo_high (V : mm_V) {b : Nat} {mem : mm_M} {nx : Nat} (hb : b < 256) : mm_S V yMo_high cMo_high 1 (some .int) 0 0 0 [.int (nI b)] mem nx (fun r m x => r = some (.int (nI (zhigh b))) ∧ mem = m ∧ nx = x) := by
  refine mm_met (by decide) (Nat.le_of_ble_eq_true rfl) ?_
  intro X hc he hnm
  refine g_iload_n (pc := 0) hc dMo_high_0 rfl ?_
  refine g_bipush (v := nI 97) (pc := 1) hc dMo_high_1 (by decide) ?_
  refine g_icmp_lt (tgt := 19) (pc := 3) hc dMo_high_3 (by decide) (fun c3 => ?_) (fun c3 => ?_)
  · refine g_iload_n (pc := 19) hc dMo_high_19 rfl ?_
    simp (disch := omega) only [nI_leI, nI_ltI, nI_eq, nI_eq0, nI_lt0, nI_0le, nI_0lt, nI_le0, zb_0] at c3
    exact g_iret (pc := 20) hc he dMo_high_20 (Nat.le_refl _) (Nat.le_refl _) ⟨by rw [zhigh, if_neg (by omega)], rfl, rfl⟩
  · refine g_iload_n (pc := 6) hc dMo_high_6 rfl ?_
    refine g_bipush (v := nI 122) (pc := 7) hc dMo_high_7 (by decide) ?_
    refine g_icmp_gt (tgt := 19) (pc := 9) hc dMo_high_9 (by decide) (fun c9 => ?_) (fun c9 => ?_)
    · refine g_iload_n (pc := 19) hc dMo_high_19 rfl ?_
      simp (disch := omega) only [nI_leI, nI_ltI, nI_eq, nI_eq0, nI_lt0, nI_0le, nI_0lt, nI_le0, zb_0] at c3 c9
      exact g_iret (pc := 20) hc he dMo_high_20 (Nat.le_refl _) (Nat.le_refl _) ⟨by rw [zhigh, if_neg (by omega)], rfl, rfl⟩
    · refine g_iload_n (pc := 12) hc dMo_high_12 rfl ?_
      refine g_bipush (v := nI 32) (pc := 13) hc dMo_high_13 (by decide) ?_
      simp (disch := omega) only [nI_leI, nI_ltI, nI_eq, nI_eq0, nI_lt0, nI_0le, nI_0lt, nI_le0, zb_0] at c3 c9
      refine g_isub (pc := 15) hc dMo_high_15 ?_
      rw [pk_sub (by omega)]
      refine g_goto (tgt := 20) (pc := 16) hc dMo_high_16 (by decide) ?_
      exact g_iret (pc := 20) hc he dMo_high_20 (Nat.le_refl _) (Nat.le_refl _) ⟨by rw [zhigh, if_pos (by omega)], rfl, rfl⟩
set_option maxHeartbeats 4000000 in
set_option maxRecDepth 100000 in
theorem s_Mo_isDigit (V : mm_V) {b : Nat} {mem : mm_M} {nx : Nat} (hb : b < 256) : mm_S V yMo_isDigit cMo_isDigit 1 (some .boolean) 0 0 0 [.int (nI b)] mem nx (fun r m x => r = some (.int (zb (zdg b))) ∧ mem = m ∧ nx = x) := by
  refine mm_met (by decide) (Nat.le_of_ble_eq_true rfl) ?_
  intro X hc he hnm
  refine g_iload_n (pc := 0) hc dMo_isDigit_0 rfl ?_
  refine g_bipush (v := nI 48) (pc := 1) hc dMo_isDigit_1 (by decide) ?_
  refine g_icmp_lt (tgt := 16) (pc := 3) hc dMo_isDigit_3 (by decide) (fun c3 => ?_) (fun c3 => ?_)
  · simp (disch := omega) only [nI_leI, nI_ltI, nI_eq, nI_eq0, nI_lt0, nI_0le, nI_0lt, nI_le0, zb_0] at c3
    refine g_iconst (v := nI 0) (pc := 16) hc dMo_isDigit_16 (by decide) ?_
    exact g_zret (pc := 17) hc he dMo_isDigit_17 rfl (Nat.le_refl _) (Nat.le_refl _) ⟨by rw [show zdg b = false by simp [zdg]; omega]; rfl, rfl, rfl⟩
  · simp (disch := omega) only [nI_leI, nI_ltI, nI_eq, nI_eq0, nI_lt0, nI_0le, nI_0lt, nI_le0, zb_0] at c3
    refine g_iload_n (pc := 6) hc dMo_isDigit_6 rfl ?_
    refine g_bipush (v := nI 57) (pc := 7) hc dMo_isDigit_7 (by decide) ?_
    refine g_icmp_gt (tgt := 16) (pc := 9) hc dMo_isDigit_9 (by decide) (fun c9 => ?_) (fun c9 => ?_)
    · simp (disch := omega) only [nI_leI, nI_ltI, nI_eq, nI_eq0, nI_lt0, nI_0le, nI_0lt, nI_le0, zb_0] at c9
      refine g_iconst (v := nI 0) (pc := 16) hc dMo_isDigit_16 (by decide) ?_
      exact g_zret (pc := 17) hc he dMo_isDigit_17 rfl (Nat.le_refl _) (Nat.le_refl _) ⟨by rw [show zdg b = false by simp [zdg]; omega]; rfl, rfl, rfl⟩
    · simp (disch := omega) only [nI_leI, nI_ltI, nI_eq, nI_eq0, nI_lt0, nI_0le, nI_0lt, nI_le0, zb_0] at c9
      refine g_iconst (v := nI 1) (pc := 12) hc dMo_isDigit_12 (by decide) ?_
      refine g_goto (tgt := 17) (pc := 13) hc dMo_isDigit_13 (by decide) ?_
      exact g_zret (pc := 17) hc he dMo_isDigit_17 rfl (Nat.le_refl _) (Nat.le_refl _) ⟨by rw [show zdg b = true by simp [zdg]; omega]; rfl, rfl, rfl⟩
set_option maxHeartbeats 4000000 in
set_option maxRecDepth 100000 in
theorem s_Mo_isDomain (V : mm_V) {b : Nat} {mem : mm_M} {nx : Nat} (hb : b < 256) : mm_S V yMo_isDomain cMo_isDomain 1 (some .boolean) 1 0 0 [.int (nI b)] mem nx (fun r m x => r = some (.int (zb (zDm b))) ∧ mem = m ∧ nx = x) := by
  refine mm_met (by decide) (Nat.le_of_ble_eq_true rfl) ?_
  intro X hc he hnm
  have hh := zhigh_lt hb
  have J31 : zDm b = true → mm_G V X 1 31 [(0, .int (nI b))] [] mem nx 0 0 := by
    intro e
    refine g_iconst (v := nI 1) (pc := 31) hc dMo_isDomain_31 (by decide) ?_
    refine g_goto (tgt := 36) (pc := 32) hc dMo_isDomain_32 (by decide) ?_
    exact g_zret (pc := 36) hc he dMo_isDomain_36 rfl (Nat.le_refl _) (Nat.le_refl _) ⟨by rw [e]; rfl, rfl, rfl⟩
  have J18 : ¬ (65 ≤ zhigh b ∧ zhigh b ≤ 90) → mm_G V X 1 18 [(0, .int (nI b))] [] mem nx 0 0 := by
    intro n1
    refine g_iload_n (pc := 18) hc dMo_isDomain_18 rfl ?_
    refine g_callS (pc := 19) hc dMo_isDomain_19 x_Mo_112 (s_Mo_isDigit V hb) (Nat.le_of_ble_eq_true rfl) (Nat.le_of_ble_eq_true rfl) (Nat.le_of_ble_eq_true rfl) (Nat.le_of_ble_eq_true rfl) rfl rfl (Nat.le_of_ble_eq_true rfl) (fun r m x hp => ?_)
    obtain ⟨rfl, rfl, rfl⟩ := hp
    refine g_if_ne (tgt := 31) (pc := 22) hc dMo_isDomain_22 (by decide) (fun c22 => ?_) (fun c22 => ?_)
    · simp (disch := omega) only [nI_leI, nI_ltI, nI_eq, nI_eq0, nI_lt0, nI_0le, nI_0lt, nI_le0, zb_0] at c22
      have d22 : zdg b = true := by simpa using c22
      exact J31 (by simp [zDm, d22])
    · simp (disch := omega) only [nI_leI, nI_ltI, nI_eq, nI_eq0, nI_lt0, nI_0le, nI_0lt, nI_le0, zb_0] at c22
      refine g_iload_n (pc := 25) hc dMo_isDomain_25 rfl ?_
      refine g_bipush (v := nI 45) (pc := 26) hc dMo_isDomain_26 (by decide) ?_
      refine g_icmp_ne (tgt := 35) (pc := 28) hc dMo_isDomain_28 (by decide) (fun c28 => ?_) (fun c28 => ?_)
      · simp (disch := omega) only [nI_leI, nI_ltI, nI_eq, nI_eq0, nI_lt0, nI_0le, nI_0lt, nI_le0, zb_0] at c28
        refine g_iconst (v := nI 0) (pc := 35) hc dMo_isDomain_35 (by decide) ?_
        exact g_zret (pc := 36) hc he dMo_isDomain_36 rfl (Nat.le_refl _) (Nat.le_refl _) ⟨by rw [show zDm b = false by simp [zDm, c22, c28]; omega]; rfl, rfl, rfl⟩
      · simp (disch := omega) only [nI_leI, nI_ltI, nI_eq, nI_eq0, nI_lt0, nI_0le, nI_0lt, nI_le0, zb_0] at c28
        exact J31 (by simp [zDm, c28])
  refine g_iload_n (pc := 0) hc dMo_isDomain_0 rfl ?_
  refine g_callS (pc := 1) hc dMo_isDomain_1 x_Mo_108 (s_Mo_high V hb) (Nat.le_of_ble_eq_true rfl) (Nat.le_of_ble_eq_true rfl) (Nat.le_of_ble_eq_true rfl) (Nat.le_of_ble_eq_true rfl) rfl rfl (Nat.le_of_ble_eq_true rfl) (fun r m x hp => ?_)
  obtain ⟨rfl, rfl, rfl⟩ := hp
  refine g_bipush (v := nI 65) (pc := 4) hc dMo_isDomain_4 (by decide) ?_
  refine g_icmp_lt (tgt := 18) (pc := 6) hc dMo_isDomain_6 (by decide) (fun c6 => ?_) (fun c6 => ?_)
  · simp (disch := omega) only [nI_leI, nI_ltI, nI_eq, nI_eq0, nI_lt0, nI_0le, nI_0lt, nI_le0, zb_0] at c6
    exact J18 (by omega)
  · simp (disch := omega) only [nI_leI, nI_ltI, nI_eq, nI_eq0, nI_lt0, nI_0le, nI_0lt, nI_le0, zb_0] at c6
    refine g_iload_n (pc := 9) hc dMo_isDomain_9 rfl ?_
    refine g_callS (pc := 10) hc dMo_isDomain_10 x_Mo_108 (s_Mo_high V hb) (Nat.le_of_ble_eq_true rfl) (Nat.le_of_ble_eq_true rfl) (Nat.le_of_ble_eq_true rfl) (Nat.le_of_ble_eq_true rfl) rfl rfl (Nat.le_of_ble_eq_true rfl) (fun r m x hp => ?_)
    obtain ⟨rfl, rfl, rfl⟩ := hp
    refine g_bipush (v := nI 90) (pc := 13) hc dMo_isDomain_13 (by decide) ?_
    refine g_icmp_le (tgt := 31) (pc := 15) hc dMo_isDomain_15 (by decide) (fun c15 => ?_) (fun c15 => ?_)
    · simp (disch := omega) only [nI_leI, nI_ltI, nI_eq, nI_eq0, nI_lt0, nI_0le, nI_0lt, nI_le0, zb_0] at c15
      exact J31 (by simp [zDm]; omega)
    · simp (disch := omega) only [nI_leI, nI_ltI, nI_eq, nI_eq0, nI_lt0, nI_0le, nI_0lt, nI_le0, zb_0] at c15
      exact J18 (by omega)
set_option maxHeartbeats 4000000 in
set_option maxRecDepth 100000 in
theorem s_Mo_isLocal (V : mm_V) {b : Nat} {mem : mm_M} {nx : Nat} (hb : b < 256) : mm_S V yMo_isLocal cMo_isLocal 1 (some .boolean) 2 0 0 [.int (nI b)] mem nx (fun r m x => r = some (.int (zb (zLo b))) ∧ mem = m ∧ nx = x) := by
  refine mm_met (by decide) (Nat.le_of_ble_eq_true rfl) ?_
  intro X hc he hnm
  have J79 : zLo b = true → mm_G V X 1 79 [(0, .int (nI b))] [] mem nx 0 0 := by
    intro e
    refine g_iconst (v := nI 1) (pc := 79) hc dMo_isLocal_79 (by decide) ?_
    refine g_goto (tgt := 84) (pc := 80) hc dMo_isLocal_80 (by decide) ?_
    exact g_zret (pc := 84) hc he dMo_isLocal_84 rfl (Nat.le_refl _) (Nat.le_refl _) ⟨by rw [e]; rfl, rfl, rfl⟩
  have J83 : zLo b = false → mm_G V X 1 83 [(0, .int (nI b))] [] mem nx 0 0 := by
    intro e
    refine g_iconst (v := nI 0) (pc := 83) hc dMo_isLocal_83 (by decide) ?_
    exact g_zret (pc := 84) hc he dMo_isLocal_84 rfl (Nat.le_refl _) (Nat.le_refl _) ⟨by rw [e]; rfl, rfl, rfl⟩
  have J67 : zDm b = false → (¬ b = 33 ∧ ¬ (35 ≤ b ∧ b ≤ 39) ∧ ¬ b = 42 ∧ ¬ b = 43 ∧ ¬ b = 47 ∧ ¬ b = 61 ∧ ¬ b = 63) ∧ ¬ (94 ≤ b ∧ b ≤ 96) → mm_G V X 1 67 [(0, .int (nI b))] [] mem nx 0 0 := by
    intro n0 n1
    refine g_iload_n (pc := 67) hc dMo_isLocal_67 rfl ?_
    refine g_bipush (v := nI 123) (pc := 68) hc dMo_isLocal_68 (by decide) ?_
    refine g_icmp_lt (tgt := 83) (pc := 70) hc dMo_isLocal_70 (by decide) (fun c70 => ?_) (fun c70 => ?_)
    · simp (disch := omega) only [nI_leI, nI_ltI, nI_eq, nI_eq0, nI_lt0, nI_0le, nI_0lt, nI_le0, zb_0] at c70
      exact J83 (by simp [zLo, n0]; omega)
    · simp (disch := omega) only [nI_leI, nI_ltI, nI_eq, nI_eq0, nI_lt0, nI_0le, nI_0lt, nI_le0, zb_0] at c70
      refine g_iload_n (pc := 73) hc dMo_isLocal_73 rfl ?_
      refine g_bipush (v := nI 126) (pc := 74) hc dMo_isLocal_74 (by decide) ?_
      refine g_icmp_gt (tgt := 83) (pc := 76) hc dMo_isLocal_76 (by decide) (fun c76 => ?_) (fun c76 => ?_)
      · simp (disch := omega) only [nI_leI, nI_ltI, nI_eq, nI_eq0, nI_lt0, nI_0le, nI_0lt, nI_le0, zb_0] at c76
        exact J83 (by simp [zLo, n0]; omega)
      · simp (disch := omega) only [nI_leI, nI_ltI, nI_eq, nI_eq0, nI_lt0, nI_0le, nI_0lt, nI_le0, zb_0] at c76
        exact J79 (by simp [zLo]; omega)
  have J25 : zDm b = false → (¬ b = 33 ∧ ¬ (35 ≤ b ∧ b ≤ 39)) → mm_G V X 1 25 [(0, .int (nI b))] [] mem nx 0 0 := by
    intro n0 n1
    refine g_iload_n (pc := 25) hc dMo_isLocal_25 rfl ?_
    refine g_bipush (v := nI 42) (pc := 26) hc dMo_isLocal_26 (by decide) ?_
    refine g_icmp_eq (tgt := 79) (pc := 28) hc dMo_isLocal_28 (by decide) (fun c28 => ?_) (fun c28 => ?_)
    · simp (disch := omega) only [nI_leI, nI_ltI, nI_eq, nI_eq0, nI_lt0, nI_0le, nI_0lt, nI_le0, zb_0] at c28
      exact J79 (by simp [zLo]; omega)
    · simp (disch := omega) only [nI_leI, nI_ltI, nI_eq, nI_eq0, nI_lt0, nI_0le, nI_0lt, nI_le0, zb_0] at c28
      refine g_iload_n (pc := 31) hc dMo_isLocal_31 rfl ?_
      refine g_bipush (v := nI 43) (pc := 32) hc dMo_isLocal_32 (by decide) ?_
      refine g_icmp_eq (tgt := 79) (pc := 34) hc dMo_isLocal_34 (by decide) (fun c34 => ?_) (fun c34 => ?_)
      · simp (disch := omega) only [nI_leI, nI_ltI, nI_eq, nI_eq0, nI_lt0, nI_0le, nI_0lt, nI_le0, zb_0] at c34
        exact J79 (by simp [zLo]; omega)
      · simp (disch := omega) only [nI_leI, nI_ltI, nI_eq, nI_eq0, nI_lt0, nI_0le, nI_0lt, nI_le0, zb_0] at c34
        refine g_iload_n (pc := 37) hc dMo_isLocal_37 rfl ?_
        refine g_bipush (v := nI 47) (pc := 38) hc dMo_isLocal_38 (by decide) ?_
        refine g_icmp_eq (tgt := 79) (pc := 40) hc dMo_isLocal_40 (by decide) (fun c40 => ?_) (fun c40 => ?_)
        · simp (disch := omega) only [nI_leI, nI_ltI, nI_eq, nI_eq0, nI_lt0, nI_0le, nI_0lt, nI_le0, zb_0] at c40
          exact J79 (by simp [zLo]; omega)
        · simp (disch := omega) only [nI_leI, nI_ltI, nI_eq, nI_eq0, nI_lt0, nI_0le, nI_0lt, nI_le0, zb_0] at c40
          refine g_iload_n (pc := 43) hc dMo_isLocal_43 rfl ?_
          refine g_bipush (v := nI 61) (pc := 44) hc dMo_isLocal_44 (by decide) ?_
          refine g_icmp_eq (tgt := 79) (pc := 46) hc dMo_isLocal_46 (by decide) (fun c46 => ?_) (fun c46 => ?_)
          · simp (disch := omega) only [nI_leI, nI_ltI, nI_eq, nI_eq0, nI_lt0, nI_0le, nI_0lt, nI_le0, zb_0] at c46
            exact J79 (by simp [zLo]; omega)
          · simp (disch := omega) only [nI_leI, nI_ltI, nI_eq, nI_eq0, nI_lt0, nI_0le, nI_0lt, nI_le0, zb_0] at c46
            refine g_iload_n (pc := 49) hc dMo_isLocal_49 rfl ?_
            refine g_bipush (v := nI 63) (pc := 50) hc dMo_isLocal_50 (by decide) ?_
            refine g_icmp_eq (tgt := 79) (pc := 52) hc dMo_isLocal_52 (by decide) (fun c52 => ?_) (fun c52 => ?_)
            · simp (disch := omega) only [nI_leI, nI_ltI, nI_eq, nI_eq0, nI_lt0, nI_0le, nI_0lt, nI_le0, zb_0] at c52
              exact J79 (by simp [zLo]; omega)
            · simp (disch := omega) only [nI_leI, nI_ltI, nI_eq, nI_eq0, nI_lt0, nI_0le, nI_0lt, nI_le0, zb_0] at c52
              refine g_iload_n (pc := 55) hc dMo_isLocal_55 rfl ?_
              refine g_bipush (v := nI 94) (pc := 56) hc dMo_isLocal_56 (by decide) ?_
              refine g_icmp_lt (tgt := 67) (pc := 58) hc dMo_isLocal_58 (by decide) (fun c58 => ?_) (fun c58 => ?_)
              · simp (disch := omega) only [nI_leI, nI_ltI, nI_eq, nI_eq0, nI_lt0, nI_0le, nI_0lt, nI_le0, zb_0] at c58
                exact J67 n0 (by omega)
              · simp (disch := omega) only [nI_leI, nI_ltI, nI_eq, nI_eq0, nI_lt0, nI_0le, nI_0lt, nI_le0, zb_0] at c58
                refine g_iload_n (pc := 61) hc dMo_isLocal_61 rfl ?_
                refine g_bipush (v := nI 96) (pc := 62) hc dMo_isLocal_62 (by decide) ?_
                refine g_icmp_le (tgt := 79) (pc := 64) hc dMo_isLocal_64 (by decide) (fun c64 => ?_) (fun c64 => ?_)
                · simp (disch := omega) only [nI_leI, nI_ltI, nI_eq, nI_eq0, nI_lt0, nI_0le, nI_0lt, nI_le0, zb_0] at c64
                  exact J79 (by simp [zLo]; omega)
                · simp (disch := omega) only [nI_leI, nI_ltI, nI_eq, nI_eq0, nI_lt0, nI_0le, nI_0lt, nI_le0, zb_0] at c64
                  exact J67 n0 (by omega)
  refine g_iload_n (pc := 0) hc dMo_isLocal_0 rfl ?_
  refine g_callS (pc := 1) hc dMo_isLocal_1 x_Mo_116 (s_Mo_isDomain V hb) (Nat.le_of_ble_eq_true rfl) (Nat.le_of_ble_eq_true rfl) (Nat.le_of_ble_eq_true rfl) (Nat.le_of_ble_eq_true rfl) rfl rfl (Nat.le_of_ble_eq_true rfl) (fun r m x hp => ?_)
  obtain ⟨rfl, rfl, rfl⟩ := hp
  refine g_if_ne (tgt := 79) (pc := 4) hc dMo_isLocal_4 (by decide) (fun c4 => ?_) (fun c4 => ?_)
  · simp (disch := omega) only [nI_leI, nI_ltI, nI_eq, nI_eq0, nI_lt0, nI_0le, nI_0lt, nI_le0, zb_0] at c4
    have d4 : zDm b = true := by simpa using c4
    exact J79 (by simp [zLo, d4])
  · simp (disch := omega) only [nI_leI, nI_ltI, nI_eq, nI_eq0, nI_lt0, nI_0le, nI_0lt, nI_le0, zb_0] at c4
    refine g_iload_n (pc := 7) hc dMo_isLocal_7 rfl ?_
    refine g_bipush (v := nI 33) (pc := 8) hc dMo_isLocal_8 (by decide) ?_
    refine g_icmp_eq (tgt := 79) (pc := 10) hc dMo_isLocal_10 (by decide) (fun c10 => ?_) (fun c10 => ?_)
    · simp (disch := omega) only [nI_leI, nI_ltI, nI_eq, nI_eq0, nI_lt0, nI_0le, nI_0lt, nI_le0, zb_0] at c10
      exact J79 (by simp [zLo]; omega)
    · simp (disch := omega) only [nI_leI, nI_ltI, nI_eq, nI_eq0, nI_lt0, nI_0le, nI_0lt, nI_le0, zb_0] at c10
      refine g_iload_n (pc := 13) hc dMo_isLocal_13 rfl ?_
      refine g_bipush (v := nI 35) (pc := 14) hc dMo_isLocal_14 (by decide) ?_
      refine g_icmp_lt (tgt := 25) (pc := 16) hc dMo_isLocal_16 (by decide) (fun c16 => ?_) (fun c16 => ?_)
      · simp (disch := omega) only [nI_leI, nI_ltI, nI_eq, nI_eq0, nI_lt0, nI_0le, nI_0lt, nI_le0, zb_0] at c16
        exact J25 c4 (by omega)
      · simp (disch := omega) only [nI_leI, nI_ltI, nI_eq, nI_eq0, nI_lt0, nI_0le, nI_0lt, nI_le0, zb_0] at c16
        refine g_iload_n (pc := 19) hc dMo_isLocal_19 rfl ?_
        refine g_bipush (v := nI 39) (pc := 20) hc dMo_isLocal_20 (by decide) ?_
        refine g_icmp_le (tgt := 79) (pc := 22) hc dMo_isLocal_22 (by decide) (fun c22 => ?_) (fun c22 => ?_)
        · simp (disch := omega) only [nI_leI, nI_ltI, nI_eq, nI_eq0, nI_lt0, nI_0le, nI_0lt, nI_le0, zb_0] at c22
          exact J79 (by simp [zLo]; omega)
        · simp (disch := omega) only [nI_leI, nI_ltI, nI_eq, nI_eq0, nI_lt0, nI_0le, nI_0lt, nI_le0, zb_0] at c22
          exact J25 c4 (by omega)
