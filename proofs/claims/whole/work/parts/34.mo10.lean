theorem zrw_step {t k : Nat} {g : Nat → Nat} (hk : k < 7) (h : zrw t g k < 8 * 256 ^ k) (hg : g k < 256) : lN (zrw t g k * 2 ^ (8 * (7 - k))) ||| lN (g k * 2 ^ (48 - 8 * k)) = lN (zrw t g (k + 1) * 2 ^ (8 * (7 - (k + 1)))) := by
  have h1 : g k * 2 ^ (48 - 8 * k) < 2 ^ (8 * (7 - k)) := by
    rw [show 8 * (7 - k) = 8 + (48 - 8 * k) by omega, Nat.pow_add]
    exact Nat.mul_lt_mul_of_lt_of_le hg (Nat.le_refl _) (Nat.two_pow_pos _)
  have h2 : zrw t g k * 2 ^ (8 * (7 - k)) + g k * 2 ^ (48 - 8 * k) < 2 ^ 64 := by
    have h3 : (zrw t g k + 1) * 2 ^ (8 * (7 - k)) ≤ 8 * 256 ^ k * 2 ^ (8 * (7 - k)) := Nat.mul_le_mul_right _ h
    have h4 : 8 * 256 ^ k * 2 ^ (8 * (7 - k)) = 2 ^ 59 := by
      rw [show (256 : Nat) = 2 ^ 8 from rfl, ← Nat.pow_mul, show (8 : Nat) * 2 ^ (8 * k) = 2 ^ 3 * 2 ^ (8 * k) from rfl, ← Nat.pow_add, ← Nat.pow_add]
      congr 1
      omega
    rw [Nat.add_mul, Nat.one_mul] at h3
    omega
  rw [zor_add h1 h2]
  congr 1
  rw [zrw, Nat.add_mul, show 8 * (7 - k) = 8 + 8 * (7 - (k + 1)) by omega, Nat.pow_add, ← Nat.mul_assoc, show 48 - 8 * k = 8 * (7 - (k + 1)) by omega]
set_option maxHeartbeats 4000000 in
set_option maxRecDepth 100000 in
theorem s_Mo_reply (V : mm_V) {y tn : Nat} {A Ln T : List Nat} {lc tc td : Bool} {E : zEv} {Ms : List zMsg} {ses gr tx : Bool} {mem : mm_M} {nx : Nat} (h : zR y (A, (Ln, lc), (T, tc, td, tn), E, Ms, ses, gr, tx) mem) : mm_S V yMo_reply cMo_reply 5 (some .long) 0 0 0 [.ref y] mem nx (fun r m x => r = some (.long (lN (zrw (min 7 A.length) (fun j => A.getD j 0) 7))) ∧ nx = x ∧ zR y (A.drop (min 7 A.length), (Ln, lc), (T, tc, td, tn), E, Ms, ses, gr, tx) m ∧ zsame y (y + 13) mem m) := by
  obtain ⟨la, il, ss, pt, fi, av, be, hK, q1, q2, q3, q4, q5, q6⟩ := id h
  have hK : zK y ses gr E.2.1 tx ((zLT (A, (Ln, lc), (T, tc, td, tn), E, Ms, ses, gr, tx)).length) la il pt ss E.2.2.length fi av be (zLT (A, (Ln, lc), (T, tc, td, tn), E, Ms, ses, gr, tx)) A E Ms mem := hK
  obtain ⟨hm, hT⟩ := id hK
  obtain ⟨hL, hS, hR, hRs, hA, hMs, hW⟩ := id hT
  refine mm_met (by decide) (Nat.le_of_ble_eq_true rfl) ?_
  intro X hc he hnm
  obtain ⟨f, ha, hle, hf⟩ := id hA
  have hlt : ∀ j, A.getD j 0 < 256 := fun j => by
    rcases Nat.lt_or_ge j A.length with z | z
    · exact hW.1 _ (zmem_getD z)
    · rw [zgetD_out z]; decide
  have hdl : (A.drop (min 7 A.length)).length = A.length - (min 7 A.length) := List.length_drop
  have J79 : ∀ (j k : Nat) (m2 : mm_M) (f2 : Nat → Int32), j + k = A.length - (min 7 A.length) → m2 y = some (.inr (kMo, fMo y ses gr E.2.1 tx ((zLT (A, (Ln, lc), (T, tc, td, tn), E, Ms, ses, gr, tx)).length) la il pt ss E.2.2.length fi av be (A.length - (min 7 A.length)) Ms.length)) → m2 (y + 5) = some (.inl (kI, 400, .inl f2)) → (∀ i, i < k → f2 i = nI (A.getD (min 7 A.length + i) 0)) → (∀ i, k ≤ i → f2 i = f i) → (∀ a : Nat, a ≠ y → a ≠ y + 5 → m2 a = mem a) → mm_G V X 5 79 [(0, .ref y), (1, .int (nI (min 7 A.length))), (2, .long (lN (zrw (min 7 A.length) (fun j => A.getD j 0) 7))), (4, .int (nI (k)))] [] m2 nx 0 0 := by
    intro j
    induction j with
    | zero =>
      intro k m2 f2 e1 h2 h3 h4 h5 h6
      refine g_iload (pc := 79) hc dMo_reply_79 rfl ?_
      refine g_aload_n (pc := 81) hc dMo_reply_81 rfl ?_
      refine g_get (pc := 82) hc dMo_reply_82 x_Mo_50 h2 (by rfl) ?_
      refine g_icmp_ge (tgt := 110) (pc := 85) hc dMo_reply_85 (by decide) (fun _ => ?_) (fun c85 => absurd (nI_le (by omega) (by omega)) c85)
      refine g_lload_n (pc := 110) hc dMo_reply_110 rfl ?_
      rw [← hdl] at h2
      have kp : ∀ {a N : Nat} {l : List Nat}, zA a N l mem → a ≠ y → a ≠ y + 5 → zA a N l m2 := fun ⟨q, z1, z2⟩ n1 n2 => ⟨q, (h6 _ n1 n2).trans z1, z2⟩
      have kg : ∀ {a N w : Nat} {l : List (List Nat)}, zG a N w l mem → a ≠ y → a ≠ y + 5 → zG a N w l m2 := fun ⟨q, z1, z2⟩ n1 n2 => ⟨q, (h6 _ n1 n2).trans z1, z2⟩
      refine g_lret (pc := 111) hc he dMo_reply_111 (Nat.le_refl _) (Nat.le_refl _) ⟨rfl, rfl, ⟨la, il, ss, pt, fi, av, be, ⟨h2, kp hL (by omega) (by omega), kp hS (by omega) (by omega), kg hR (by omega) (by omega), kp hRs (by omega) (by omega), ⟨f2, h3, by rw [hdl]; omega, fun i hi => ?_⟩, ⟨kg hMs.1 (by omega) (by omega), kp hMs.2.1 (by omega) (by omega), kp hMs.2.2.1 (by omega) (by omega), kg hMs.2.2.2.1 (by omega) (by omega), kp hMs.2.2.2.2.1 (by omega) (by omega), kg hMs.2.2.2.2.2.1 (by omega) (by omega), kp hMs.2.2.2.2.2.2 (by omega) (by omega)⟩, fun b hb => hW.1 b (List.mem_of_mem_drop hb), hW.2⟩, q1, q2, q3, q4, q5, q6⟩, fun a q => h6 a (by omega) (by omega)⟩
      rw [hdl] at hi
      rw [h4 i (by omega)]
      simp [List.getD_eq_getElem?_getD]
    | succ j ih =>
      intro k m2 f2 e1 h2 h3 h4 h5 h6
      refine g_iload (pc := 79) hc dMo_reply_79 rfl ?_
      refine g_aload_n (pc := 81) hc dMo_reply_81 rfl ?_
      refine g_get (pc := 82) hc dMo_reply_82 x_Mo_50 h2 (by rfl) ?_
      refine g_icmp_ge (tgt := 110) (pc := 85) hc dMo_reply_85 (by decide) (fun c85 => absurd c85 (nI_ge (by omega) (by omega))) (fun _ => ?_)
      refine g_aload_n (pc := 88) hc dMo_reply_88 rfl ?_
      refine g_get (pc := 89) hc dMo_reply_89 x_Mo_26 h2 (by rfl) ?_
      refine g_iload (pc := 92) hc dMo_reply_92 rfl ?_
      refine g_aload_n (pc := 94) hc dMo_reply_94 rfl ?_
      refine g_get (pc := 95) hc dMo_reply_95 x_Mo_26 h2 (by rfl) ?_
      refine g_iload (pc := 98) hc dMo_reply_98 rfl ?_
      refine g_iload_n (pc := 100) hc dMo_reply_100 rfl ?_
      refine g_iadd (pc := 101) hc dMo_reply_101 ?_
      rw [nI_add]
      refine g_iald (pc := 102) (t := kI) hc dMo_reply_102 rfl h3 (vp_in_nI (show k + (min 7 A.length) < 400 by omega) (by decide)) ?_
      rw [nI_clamp (by omega), h5 _ (by omega), hf _ (by omega)]
      refine g_iast (pc := 103) (t := kI) hc dMo_reply_103 rfl h3 (vp_in_nI (show k < 400 by omega) (by decide)) (fun m3 h7 o7 => ?_)
      rw [nI_clamp (by omega)] at h7
      refine g_iinc (pc := 104) hc dMo_reply_104 rfl (zinc _) (by decide) rfl ?_
      refine g_goto (tgt := 79) (pc := 107) hc dMo_reply_107 (by decide) ?_
      refine g_lv (lv' := [(0, .ref y), (1, .int (nI (min 7 A.length))), (2, .long (lN (zrw (min 7 A.length) (fun j => A.getD j 0) 7))), (4, .int (nI (k + 1)))]) ⟨rfl, rfl, rfl, rfl, trivial⟩ ?_
      refine ih (k + 1) m3 _ (by omega) ((o7 y (by omega)).trans h2) h7 (fun i hi => ?_) (fun i hi => ?_) (fun a n1 n2 => (o7 a n2).trans (h6 a n1 n2))
      · by_cases e : i = k
        · subst e; rw [pk_us, Nat.add_comm]
        · rw [pk_un e]; exact h4 i (by omega)
      · rw [pk_un (by omega)]; exact h5 i (by omega)
  have J34 : ∀ (j k : Nat), j + k = min 7 A.length → mm_G V X 5 34 [(0, .ref y), (1, .int (nI (min 7 A.length))), (2, .long (lN (zrw (min 7 A.length) (fun j => A.getD j 0) (k) * 2 ^ (8 * (7 - (k)))))), (4, .int (nI (k)))] [] mem nx 0 0 := by
    intro j
    induction j with
    | zero =>
      intro k e1
      obtain rfl : k = min 7 A.length := by omega
      have ev : zrw (min 7 A.length) (fun j => A.getD j 0) (min 7 A.length) * 2 ^ (8 * (7 - (min 7 A.length))) = zrw (min 7 A.length) (fun j => A.getD j 0) 7 := by
        rcases Nat.lt_or_ge A.length 7 with z | z
        · have q := zrw_pad (t := min 7 A.length) (n := min 7 A.length) (g := (fun j => A.getD j 0)) (fun i hi => zgetD_out (by omega)) (7 - (min 7 A.length))
          rw [show min 7 A.length + (7 - (min 7 A.length)) = 7 by omega] at q
          rw [q, Nat.pow_mul]
        · rw [show min 7 A.length = 7 by omega]; exact Nat.mul_one _
      refine g_iload (pc := 34) hc dMo_reply_34 rfl ?_
      refine g_iload_n (pc := 36) hc dMo_reply_36 rfl ?_
      refine g_icmp_ge (tgt := 66) (pc := 37) hc dMo_reply_37 (by decide) (fun _ => ?_) (fun c37 => absurd (nI_le (by omega) (by omega)) c37)
      refine g_aload_n (pc := 66) hc dMo_reply_66 rfl ?_
      refine g_aload_n (pc := 67) hc dMo_reply_67 rfl ?_
      refine g_get (pc := 68) hc dMo_reply_68 x_Mo_50 hm (by rfl) ?_
      refine g_iload_n (pc := 71) hc dMo_reply_71 rfl ?_
      refine g_isub (pc := 72) hc dMo_reply_72 ?_
      rw [pk_sub (show min 7 A.length ≤ A.length by omega)]
      refine g_put (pc := 73) hc dMo_reply_73 x_Mo_50 ft_Mo rfl hm rfl rfl (zlt rfl) (fun m2 h20 o2 => ?_)
      have h2 : m2 y = some (.inr (kMo, fMo y ses gr E.2.1 tx ((zLT (A, (Ln, lc), (T, tc, td, tn), E, Ms, ses, gr, tx)).length) la il pt ss E.2.2.length fi av be (A.length - (min 7 A.length)) Ms.length)) := h20
      refine g_iconst (v := nI 0) (pc := 76) hc dMo_reply_76 (by decide) ?_
      refine g_istore (pc := 77) hc dMo_reply_77 (by decide) rfl ?_
      refine g_lv (lv' := [(0, .ref y), (1, .int (nI (min 7 A.length))), (2, .long (lN (zrw (min 7 A.length) (fun j => A.getD j 0) 7))), (4, .int (nI (0)))]) (by rw [← ev]; exact ⟨rfl, rfl, rfl, rfl, trivial⟩) ?_
      exact J79 (A.length - (min 7 A.length)) 0 m2 f rfl h2 ((o2 _ (by omega)).trans ha) (fun i hi => absurd hi (Nat.not_lt_zero i)) (fun i _ => rfl) (fun a n1 _ => o2 a n1)
    | succ j ih =>
      intro k e1
      have e3 := zrw_lt (t := min 7 A.length) (g := (fun j => A.getD j 0)) (by omega) hlt k
      have e4 : (nI (A.getD k 0)).toInt64 <<< ((nI (48 - 8 * k)).toInt64 &&& 63) = lN (A.getD k 0 * 2 ^ (48 - 8 * k)) := by
        rw [nI_l (by have := hlt k; omega), wb_shl _ (by omega)]
      have e5 : lN (zrw (min 7 A.length) (fun j => A.getD j 0) (k) * 2 ^ (8 * (7 - (k)))) ||| lN (A.getD k 0 * 2 ^ (48 - 8 * k)) = lN (zrw (min 7 A.length) (fun j => A.getD j 0) (k + 1) * 2 ^ (8 * (7 - (k + 1)))) := zrw_step (by omega) e3 (hlt k)
      refine g_iload (pc := 34) hc dMo_reply_34 rfl ?_
      refine g_iload_n (pc := 36) hc dMo_reply_36 rfl ?_
      refine g_icmp_ge (tgt := 66) (pc := 37) hc dMo_reply_37 (by decide) (fun c37 => absurd c37 (nI_ge (by omega) (by omega))) (fun _ => ?_)
      refine g_lload_n (pc := 40) hc dMo_reply_40 rfl ?_
      refine g_aload_n (pc := 41) hc dMo_reply_41 rfl ?_
      refine g_get (pc := 42) hc dMo_reply_42 x_Mo_26 hm (by rfl) ?_
      refine g_iload (pc := 45) hc dMo_reply_45 rfl ?_
      refine g_iald (pc := 47) (t := kI) hc dMo_reply_47 rfl ha (vp_in_nI (show k < 400 by omega) (by decide)) ?_
      rw [nI_clamp (by omega), hf _ (by omega)]
      refine g_i2l (pc := 48) hc dMo_reply_48 rfl ?_
      refine g_bipush (v := nI 48) (pc := 49) hc dMo_reply_49 (by decide) ?_
      refine g_bipush (v := nI 8) (pc := 51) hc dMo_reply_51 (by decide) ?_
      refine g_iload (pc := 53) hc dMo_reply_53 rfl ?_
      refine g_imul (pc := 55) hc dMo_reply_55 ?_
      rw [pk_mul]
      refine g_isub (pc := 56) hc dMo_reply_56 ?_
      rw [pk_sub (by omega)]
      refine g_lshl (pc := 57) hc dMo_reply_57 e4 ?_
      refine g_lor (pc := 58) hc dMo_reply_58 ?_
      rw [e5]
      refine g_lstore_n (pc := 59) hc dMo_reply_59 (by decide) rfl ?_
      refine g_iinc (pc := 60) hc dMo_reply_60 rfl (zinc _) (by decide) rfl ?_
      refine g_goto (tgt := 34) (pc := 63) hc dMo_reply_63 (by decide) ?_
      refine g_lv (lv' := [(0, .ref y), (1, .int (nI (min 7 A.length))), (2, .long (lN (zrw (min 7 A.length) (fun j => A.getD j 0) (k + 1) * 2 ^ (8 * (7 - (k + 1)))))), (4, .int (nI (k + 1)))]) ⟨rfl, rfl, rfl, rfl, trivial⟩ ?_
      exact ih (k + 1) (by omega)
  have J18 : mm_G V X 5 18 [(0, .ref y)] [.int (nI (min 7 A.length))] mem nx 0 0 := by
    refine g_istore_n (pc := 18) hc dMo_reply_18 (by decide) rfl ?_
    refine g_iload_n (pc := 19) hc dMo_reply_19 rfl ?_
    refine g_if_ne (tgt := 25) (pc := 20) hc dMo_reply_20 (by decide) (fun c20 => ?_) (fun c20 => ?_)
    · simp (disch := omega) only [nI_leI, nI_ltI, nI_eq, nI_eq0, nI_lt0, nI_0le, nI_0lt, nI_le0, zb_0] at c20
      refine g_iload_n (pc := 25) hc dMo_reply_25 rfl ?_
      refine g_i2l (pc := 26) hc dMo_reply_26 (nI_l (by omega)) ?_
      refine g_bipush (v := nI 56) (pc := 27) hc dMo_reply_27 (by decide) ?_
      refine g_lshl (pc := 29) hc dMo_reply_29 (show lN (min 7 A.length) <<< ((nI 56).toInt64 &&& 63) = lN ((min 7 A.length) * 2 ^ 56) from wb_shl _ (by decide)) ?_
      refine g_lstore_n (pc := 30) hc dMo_reply_30 (by decide) rfl ?_
      refine g_iconst (v := nI 0) (pc := 31) hc dMo_reply_31 (by decide) ?_
      refine g_istore (pc := 32) hc dMo_reply_32 (by decide) rfl ?_
      refine g_lv (lv' := [(0, .ref y), (1, .int (nI (min 7 A.length))), (2, .long (lN (zrw (min 7 A.length) (fun j => A.getD j 0) (0) * 2 ^ (8 * (7 - (0)))))), (4, .int (nI (0)))]) ⟨rfl, rfl, rfl, rfl, trivial⟩ ?_
      exact J34 (min 7 A.length) 0 rfl
    · simp (disch := omega) only [nI_leI, nI_ltI, nI_eq, nI_eq0, nI_lt0, nI_0le, nI_0lt, nI_le0, zb_0] at c20
      refine g_lconst (v := lN 0) (pc := 23) hc dMo_reply_23 (by decide) ?_
      have e0 : A = [] := List.length_eq_zero_iff.mp (by omega)
      subst e0
      exact g_lret (pc := 24) hc he dMo_reply_24 (Nat.le_refl _) (Nat.le_refl _) ⟨rfl, rfl, h, zsame.rf⟩
  refine g_aload_n (pc := 0) hc dMo_reply_0 rfl ?_
  refine g_get (pc := 1) hc dMo_reply_1 x_Mo_50 (by assumption) (by rfl) ?_
  refine g_bipush (v := nI 7) (pc := 4) hc dMo_reply_4 (by decide) ?_
  refine g_icmp_ge (tgt := 16) (pc := 6) hc dMo_reply_6 (by decide) (fun c6 => ?_) (fun c6 => ?_)
  · simp (disch := omega) only [nI_leI, nI_ltI, nI_eq, nI_eq0, nI_lt0, nI_0le, nI_0lt, nI_le0, zb_0] at c6
    refine g_bipush (v := nI 7) (pc := 16) hc dMo_reply_16 (by decide) ?_
    rw [show min 7 A.length = 7 by omega] at J18
    exact J18
  · simp (disch := omega) only [nI_leI, nI_ltI, nI_eq, nI_eq0, nI_lt0, nI_0le, nI_0lt, nI_le0, zb_0] at c6
    refine g_aload_n (pc := 9) hc dMo_reply_9 rfl ?_
    refine g_get (pc := 10) hc dMo_reply_10 x_Mo_50 (by assumption) (by rfl) ?_
    refine g_goto (tgt := 18) (pc := 13) hc dMo_reply_13 (by decide) ?_
    rw [show min 7 A.length = A.length by omega] at J18
    exact J18
set_option maxHeartbeats 4000000 in
set_option maxRecDepth 100000 in
theorem s_Mo_open (V : mm_V) {y tn : Nat} {A Ln T : List Nat} {lc tc td : Bool} {E : zEv} {Ms : List zMsg} {ses gr tx : Bool} {mem : mm_M} {nx : Nat} (h : zR y (A, (Ln, lc), (T, tc, td, tn), E, Ms, ses, gr, tx) mem) : mm_S V yMo_open cMo_open 2 (some .boolean) 1 0 0 [.ref y] mem nx (fun r m x => r = some (.int (zb ses)) ∧ nx = x ∧ zR y (zopen (A, (Ln, lc), (T, tc, td, tn), E, Ms, ses, gr, tx)) m ∧ zsame y (y + 13) mem m) := by
  obtain ⟨la, il, ss, pt, fi, av, be, hK, q1, q2, q3, q4, q5, q6⟩ := id h
  have hK : zK y ses gr E.2.1 tx ((zLT (A, (Ln, lc), (T, tc, td, tn), E, Ms, ses, gr, tx)).length) la il pt ss E.2.2.length fi av be (zLT (A, (Ln, lc), (T, tc, td, tn), E, Ms, ses, gr, tx)) A E Ms mem := hK
  obtain ⟨hm, hT⟩ := id hK
  obtain ⟨hL, hS, hR, hRs, hA, hMs, hW⟩ := id hT
  refine mm_met (by decide) (Nat.le_of_ble_eq_true rfl) ?_
  intro X hc he hnm
  refine g_aload_n (pc := 0) hc dMo_open_0 rfl ?_
  refine g_get (pc := 1) hc dMo_open_1 x_Mo_7 (by assumption) (by rfl) ?_
  refine g_istore_n (pc := 4) hc dMo_open_4 (by decide) rfl ?_
  refine g_aload_n (pc := 5) hc dMo_open_5 rfl ?_
  refine g_iconst (v := nI 1) (pc := 6) hc dMo_open_6 (by decide) ?_
  refine g_put (pc := 7) hc dMo_open_7 x_Mo_7 ft_Mo rfl hm rfl rfl (zlt rfl) (fun m1 h10 o1 => ?_)
  have h1 : m1 y = some (.inr (kMo, fMo y true gr E.2.1 tx ((zLT (A, (Ln, lc), (T, tc, td, tn), E, Ms, ses, gr, tx)).length) la il pt ss E.2.2.length fi av be A.length Ms.length)) := h10
  refine g_aload_n (pc := 10) hc dMo_open_10 rfl ?_
  refine g_iconst (v := nI 0) (pc := 11) hc dMo_open_11 (by decide) ?_
  refine g_put (pc := 12) hc dMo_open_12 x_Mo_163 ft_Mo rfl h1 rfl rfl (zlt rfl) (fun m2 h20 o2 => ?_)
  have h2 : m2 y = some (.inr (kMo, fMo y true false E.2.1 tx ((zLT (A, (Ln, lc), (T, tc, td, tn), E, Ms, ses, gr, tx)).length) la il pt ss E.2.2.length fi av be A.length Ms.length)) := h20
  refine g_aload_n (pc := 15) hc dMo_open_15 rfl ?_
  refine g_iconst (v := nI 0) (pc := 16) hc dMo_open_16 (by decide) ?_
  refine g_put (pc := 17) hc dMo_open_17 x_Mo_82 ft_Mo rfl h2 rfl rfl (zlt rfl) (fun m3 h30 o3 => ?_)
  have h3 : m3 y = some (.inr (kMo, fMo y true false E.2.1 false ((zLT (A, (Ln, lc), (T, tc, td, tn), E, Ms, ses, gr, tx)).length) la il pt ss E.2.2.length fi av be A.length Ms.length)) := h30
  refine g_aload_n (pc := 20) hc dMo_open_20 rfl ?_
  refine g_iconst (v := nI 0) (pc := 21) hc dMo_open_21 (by decide) ?_
  refine g_put (pc := 22) hc dMo_open_22 x_Mo_76 ft_Mo rfl h3 rfl rfl (zlt rfl) (fun m4 h40 o4 => ?_)
  have h4 : m4 y = some (.inr (kMo, fMo y true false E.2.1 false 0 la il pt ss E.2.2.length fi av be A.length Ms.length)) := h40
  refine g_aload_n (pc := 25) hc dMo_open_25 rfl ?_
  refine g_iconst (v := nI 0) (pc := 26) hc dMo_open_26 (by decide) ?_
  refine g_put (pc := 27) hc dMo_open_27 x_Mo_79 ft_Mo rfl h4 rfl rfl (zlt rfl) (fun m5 h50 o5 => ?_)
  have h5 : m5 y = some (.inr (kMo, fMo y true false E.2.1 false 0 0 il pt ss E.2.2.length fi av be A.length Ms.length)) := h50
  have hK5 : zK y true false E.2.1 false 0 0 il pt ss E.2.2.length fi av be [] A E Ms m5 := ⟨h5, (((((hT.kpt o1).kpt o2).kpt o3).kpt o4).kpt o5).lin ((((((hT.kpt o1).kpt o2).kpt o3).kpt o4).kpt o5).1.nil)⟩
  refine g_aload_n (pc := 30) hc dMo_open_30 rfl ?_
  refine g_callV (pc := 31) hc dMo_open_31 x_Mo_184 (s_Mo_forget V hK5) cl_Mo (hK5.1) (Nat.le_of_ble_eq_true rfl) (Nat.le_of_ble_eq_true rfl) (Nat.le_of_ble_eq_true rfl) (Nat.le_of_ble_eq_true rfl) rfl rfl (Nat.le_of_ble_eq_true rfl) (fun r m x hp => ?_)
  obtain ⟨rfl, rfl, h6, hs6⟩ := hp
  refine g_iload_n (pc := 34) hc dMo_open_34 rfl ?_
  exact g_zret (pc := 35) hc he dMo_open_35 (zb_z _) (Nat.le_refl _) (Nat.le_refl _) ⟨rfl, rfl, zC.R (E := ([], false, [])) (ln := false) (zC.of (E := ([], false, [])) h6) (fun q => absurd (show false = true from q) (by decide)), fun a q => (hs6 a q).trans ((o5 a (by omega)).trans ((o4 a (by omega)).trans ((o3 a (by omega)).trans ((o2 a (by omega)).trans (o1 a (by omega))))))⟩
set_option maxHeartbeats 4000000 in
set_option maxRecDepth 100000 in
theorem s_Mo_count (V : mm_V) {y tn : Nat} {A Ln T : List Nat} {lc tc td : Bool} {E : zEv} {Ms : List zMsg} {ses gr tx : Bool} {w : Int32} {mem : mm_M} {nx : Nat} (h : zR y (A, (Ln, lc), (T, tc, td, tn), E, Ms, ses, gr, tx) mem) : mm_S V yMo_count cMo_count 2 (some .int) 0 0 0 [.ref y, .int w] mem nx (fun r m x => r = some (.int (zcnt (A, (Ln, lc), (T, tc, td, tn), E, Ms, ses, gr, tx) w)) ∧ mem = m ∧ nx = x) := by
  obtain ⟨la, il, ss, pt, fi, av, be, hK, q1, q2, q3, q4, q5, q6⟩ := id h
  have hK : zK y ses gr E.2.1 tx ((zLT (A, (Ln, lc), (T, tc, td, tn), E, Ms, ses, gr, tx)).length) la il pt ss E.2.2.length fi av be (zLT (A, (Ln, lc), (T, tc, td, tn), E, Ms, ses, gr, tx)) A E Ms mem := hK
  obtain ⟨hm, hT⟩ := id hK
  obtain ⟨hL, hS, hR, hRs, hA, hMs, hW⟩ := id hT
  refine mm_met (by decide) (Nat.le_of_ble_eq_true rfl) ?_
  intro X hc he hnm
  refine g_iload_n (pc := 0) hc dMo_count_0 rfl ?_
  by_cases w0 : w = nI 0
  · subst w0
    refine g_tableIn (pc := 1) (tgt := 40) (off := 39) hc dMo_count_1 (by decide) (by decide) (by decide) (by decide) ?_
    refine g_aload_n (pc := 40) hc dMo_count_40 rfl ?_
    refine g_get (pc := 41) hc dMo_count_41 x_Mo_230 (by assumption) (by rfl) ?_
    exact g_iret (pc := 44) hc he dMo_count_44 (Nat.le_refl _) (Nat.le_refl _) ⟨rfl, rfl, rfl⟩
  by_cases w1 : w = nI 1
  · subst w1
    refine g_tableIn (pc := 1) (tgt := 45) (off := 44) hc dMo_count_1 (by decide) (by decide) (by decide) (by decide) ?_
    refine g_aload_n (pc := 45) hc dMo_count_45 rfl ?_
    refine g_get (pc := 46) hc dMo_count_46 x_Mo_7 (by assumption) (by rfl) ?_
    refine g_if_eq (tgt := 56) (pc := 49) hc dMo_count_49 (by decide) (fun c49 => ?_) (fun c49 => ?_)
    · simp (disch := omega) only [nI_leI, nI_ltI, nI_eq, nI_eq0, nI_lt0, nI_0le, nI_0lt, nI_le0, zb_0] at c49
      refine g_iconst (v := nI 0) (pc := 56) hc dMo_count_56 (by decide) ?_
      exact g_iret (pc := 57) hc he dMo_count_57 (Nat.le_refl _) (Nat.le_refl _) ⟨by rw [c49]; rfl, rfl, rfl⟩
    · simp (disch := omega) only [nI_leI, nI_ltI, nI_eq, nI_eq0, nI_lt0, nI_0le, nI_0lt, nI_le0, zb_0] at c49
      have d49 : ses = true := by simpa using c49
      refine g_iconst (v := nI 1) (pc := 52) hc dMo_count_52 (by decide) ?_
      refine g_goto (tgt := 57) (pc := 53) hc dMo_count_53 (by decide) ?_
      exact g_iret (pc := 57) hc he dMo_count_57 (Nat.le_refl _) (Nat.le_refl _) ⟨by rw [d49]; rfl, rfl, rfl⟩
  by_cases w2 : w = nI 2
  · subst w2
    refine g_tableIn (pc := 1) (tgt := 58) (off := 57) hc dMo_count_1 (by decide) (by decide) (by decide) (by decide) ?_
    refine g_aload_n (pc := 58) hc dMo_count_58 rfl ?_
    refine g_get (pc := 59) hc dMo_count_59 x_Mo_82 (by assumption) (by rfl) ?_
    refine g_if_eq (tgt := 69) (pc := 62) hc dMo_count_62 (by decide) (fun c62 => ?_) (fun c62 => ?_)
    · simp (disch := omega) only [nI_leI, nI_ltI, nI_eq, nI_eq0, nI_lt0, nI_0le, nI_0lt, nI_le0, zb_0] at c62
      refine g_iconst (v := nI 0) (pc := 69) hc dMo_count_69 (by decide) ?_
      exact g_iret (pc := 70) hc he dMo_count_70 (Nat.le_refl _) (Nat.le_refl _) ⟨by rw [c62]; rfl, rfl, rfl⟩
    · simp (disch := omega) only [nI_leI, nI_ltI, nI_eq, nI_eq0, nI_lt0, nI_0le, nI_0lt, nI_le0, zb_0] at c62
      have d62 : tx = true := by simpa using c62
      refine g_iconst (v := nI 1) (pc := 65) hc dMo_count_65 (by decide) ?_
      refine g_goto (tgt := 70) (pc := 66) hc dMo_count_66 (by decide) ?_
      exact g_iret (pc := 70) hc he dMo_count_70 (Nat.le_refl _) (Nat.le_refl _) ⟨by rw [d62]; rfl, rfl, rfl⟩
  by_cases w3 : w = nI 3
  · subst w3
    refine g_tableIn (pc := 1) (tgt := 71) (off := 70) hc dMo_count_1 (by decide) (by decide) (by decide) (by decide) ?_
    refine g_aload_n (pc := 71) hc dMo_count_71 rfl ?_
    refine g_get (pc := 72) hc dMo_count_72 x_Mo_138 (by assumption) (by rfl) ?_
    exact g_iret (pc := 75) hc he dMo_count_75 (Nat.le_refl _) (Nat.le_refl _) ⟨rfl, rfl, rfl⟩
  by_cases w4 : w = nI 4
  · subst w4
    refine g_tableIn (pc := 1) (tgt := 76) (off := 75) hc dMo_count_1 (by decide) (by decide) (by decide) (by decide) ?_
    refine g_aload_n (pc := 76) hc dMo_count_76 rfl ?_
    refine g_get (pc := 77) hc dMo_count_77 x_Mo_76 (by assumption) (by rfl) ?_
    exact g_iret (pc := 80) hc he dMo_count_80 (Nat.le_refl _) (Nat.le_refl _) ⟨by cases tx <;> rfl, rfl, rfl⟩
  by_cases w5 : w = nI 5
  · subst w5
    refine g_tableIn (pc := 1) (tgt := 81) (off := 80) hc dMo_count_1 (by decide) (by decide) (by decide) (by decide) ?_
    refine g_aload_n (pc := 81) hc dMo_count_81 rfl ?_
    refine g_get (pc := 82) hc dMo_count_82 x_Mo_50 (by assumption) (by rfl) ?_
    exact g_iret (pc := 85) hc he dMo_count_85 (Nat.le_refl _) (Nat.le_refl _) ⟨rfl, rfl, rfl⟩
  refine g_tableOut (pc := 1) (tgt := 86) hc dMo_count_1 (zsw 6 (by decide) (fun j hj => by
    rcases (show j = 0 ∨ j = 1 ∨ j = 2 ∨ j = 3 ∨ j = 4 ∨ j = 5 by omega) with rfl | rfl | rfl | rfl | rfl | rfl
    · exact w0
    · exact w1
    · exact w2
    · exact w3
    · exact w4
    · exact w5)) (by decide) ?_
  refine g_iconst (v := -1) (pc := 86) hc dMo_count_86 (by decide) ?_
  exact g_iret (pc := 87) hc he dMo_count_87 (Nat.le_refl _) (Nat.le_refl _) ⟨by unfold zcnt; simp only []; rw [if_neg w0, if_neg w1, if_neg w2, if_neg w3, if_neg w4, if_neg w5], rfl, rfl⟩
theorem zget_iff {Ms : List zMsg} {k : Int32} (h10 : Ms.length ≤ 10) : (¬ k < 0 ∧ k < nI Ms.length) → ∃ j, j < Ms.length ∧ k = nI j := by
  rintro ⟨h1, h2⟩
  obtain ⟨j, hj, rfl⟩ := nI_of h1
  exact ⟨j, (nI_ltI hj (by omega)).mp h2, rfl⟩
set_option maxHeartbeats 4000000 in
set_option maxRecDepth 100000 in
theorem s_Mo_isMessage (V : mm_V) {y tn : Nat} {A Ln T : List Nat} {lc tc td : Bool} {E : zEv} {Ms : List zMsg} {ses gr tx : Bool} {k : Int32} {mem : mm_M} {nx : Nat} (h : zR y (A, (Ln, lc), (T, tc, td, tn), E, Ms, ses, gr, tx) mem) : mm_S V yMo_isMessage cMo_isMessage 2 (some .boolean) 0 0 0 [.ref y, .int k] mem nx (fun r m x => ((∃ j : Nat, j < Ms.length ∧ k = nI j ∧ r = some (.int (nI 1))) ∨ (zget Ms k = none ∧ r = some (.int (nI 0)))) ∧ mem = m ∧ nx = x) := by
  obtain ⟨la, il, ss, pt, fi, av, be, hK, q1, q2, q3, q4, q5, q6⟩ := id h
  have hK : zK y ses gr E.2.1 tx ((zLT (A, (Ln, lc), (T, tc, td, tn), E, Ms, ses, gr, tx)).length) la il pt ss E.2.2.length fi av be (zLT (A, (Ln, lc), (T, tc, td, tn), E, Ms, ses, gr, tx)) A E Ms mem := hK
  obtain ⟨hm, hT⟩ := id hK
  obtain ⟨hL, hS, hR, hRs, hA, hMs, hW⟩ := id hT
  refine mm_met (by decide) (Nat.le_of_ble_eq_true rfl) ?_
  intro X hc he hnm
  have h10 := hW.2.2.2.2.2.1
  refine g_iload_n (pc := 0) hc dMo_isMessage_0 rfl ?_
  refine g_if_lt (tgt := 16) (pc := 1) hc dMo_isMessage_1 (by decide) (fun c1 => ?_) (fun c1 => ?_)
  · refine g_iconst (v := nI 0) (pc := 16) hc dMo_isMessage_16 (by decide) ?_
    exact g_zret (pc := 17) hc he dMo_isMessage_17 rfl (Nat.le_refl _) (Nat.le_refl _) ⟨Or.inr ⟨by rw [zget, if_pos c1], rfl⟩, rfl, rfl⟩
  · refine g_iload_n (pc := 4) hc dMo_isMessage_4 rfl ?_
    refine g_aload_n (pc := 5) hc dMo_isMessage_5 rfl ?_
    refine g_get (pc := 6) hc dMo_isMessage_6 x_Mo_230 (by assumption) (by rfl) ?_
    refine g_icmp_ge (tgt := 16) (pc := 9) hc dMo_isMessage_9 (by decide) (fun c9 => ?_) (fun c9 => ?_)
    · refine g_iconst (v := nI 0) (pc := 16) hc dMo_isMessage_16 (by decide) ?_
      exact g_zret (pc := 17) hc he dMo_isMessage_17 rfl (Nat.le_refl _) (Nat.le_refl _) ⟨Or.inr ⟨by obtain ⟨j, hj, rfl⟩ := nI_of c1; rw [nI_leI (by omega) (by omega)] at c9; rw [zget, if_neg c1, nI_clamp (by omega)]; exact List.getElem?_eq_none c9, rfl⟩, rfl, rfl⟩
    · refine g_iconst (v := nI 1) (pc := 12) hc dMo_isMessage_12 (by decide) ?_
      refine g_goto (tgt := 17) (pc := 13) hc dMo_isMessage_13 (by decide) ?_
      exact g_zret (pc := 17) hc he dMo_isMessage_17 rfl (Nat.le_refl _) (Nat.le_refl _) ⟨Or.inl (by obtain ⟨j, hj, e⟩ := zget_iff h10 ⟨c1, Int32.not_le.mp c9⟩; exact ⟨j, hj, e, rfl⟩), rfl, rfl⟩
theorem zgmap {Ms : List zMsg} {j : Nat} (f : zMsg → Nat) (_h0 : True = True) (hj : j < Ms.length) : (Ms.map f).getD j 0 = f (Ms.getD j zm0) := by
  simp [List.getD_eq_getElem?_getD, List.getElem?_map, List.getElem?_eq_getElem hj]
theorem zgmapL {Ms : List zMsg} {j : Nat} (f : zMsg → List Nat) (hj : j < Ms.length) : (Ms.map f).getD j [] = f (Ms.getD j zm0) := by
  simp [List.getD_eq_getElem?_getD, List.getElem?_map, List.getElem?_eq_getElem hj]
theorem zgmem {Ms : List zMsg} {j : Nat} (hj : j < Ms.length) : Ms.getD j zm0 ∈ Ms := by
  rw [List.getD_eq_getElem?_getD, List.getElem?_eq_getElem hj]
  exact List.getElem_mem hj
set_option maxHeartbeats 4000000 in
set_option maxRecDepth 100000 in
theorem s_Mo_message (V : mm_V) {y tn : Nat} {A Ln T : List Nat} {lc tc td : Bool} {E : zEv} {Ms : List zMsg} {ses gr tx : Bool} {k w : Int32} {mem : mm_M} {nx : Nat} (h : zR y (A, (Ln, lc), (T, tc, td, tn), E, Ms, ses, gr, tx) mem) : mm_S V yMo_message cMo_message 3 (some .int) 1 0 0 [.ref y, .int k, .int w] mem nx (fun r m x => r = some (.int (zmsg Ms k w)) ∧ mem = m ∧ nx = x) := by
  obtain ⟨la, il, ss, pt, fi, av, be, hK, q1, q2, q3, q4, q5, q6⟩ := id h
  have hK : zK y ses gr E.2.1 tx ((zLT (A, (Ln, lc), (T, tc, td, tn), E, Ms, ses, gr, tx)).length) la il pt ss E.2.2.length fi av be (zLT (A, (Ln, lc), (T, tc, td, tn), E, Ms, ses, gr, tx)) A E Ms mem := hK
  obtain ⟨hm, hT⟩ := id hK
  obtain ⟨hL, hS, hR, hRs, hA, hMs, hW⟩ := id hT
  refine mm_met (by decide) (Nat.le_of_ble_eq_true rfl) ?_
  intro X hc he hnm
  have h10 := hW.2.2.2.2.2.1
  refine g_aload_n (pc := 0) hc dMo_message_0 rfl ?_
  refine g_iload_n (pc := 1) hc dMo_message_1 rfl ?_
  refine g_callV (pc := 2) hc dMo_message_2 x_Mo_240 (s_Mo_isMessage V (k := k) h) cl_Mo (hm) (Nat.le_of_ble_eq_true rfl) (Nat.le_of_ble_eq_true rfl) (Nat.le_of_ble_eq_true rfl) (Nat.le_of_ble_eq_true rfl) rfl rfl (Nat.le_of_ble_eq_true rfl) (fun r m x hp => ?_)
  obtain ⟨hor, rfl, rfl⟩ := hp
  rcases hor with ⟨j, hj, rfl, rfl⟩ | ⟨hno, rfl⟩
  · have eg := zget_some hj h10
    refine g_if_ne (tgt := 12) (pc := 5) hc dMo_message_5 (by decide) (fun _ => ?_) (fun c5 => absurd c5 (by decide))
    refine g_iload_n (pc := 12) hc dMo_message_12 rfl ?_
    refine g_if_ne (tgt := 25) (pc := 13) hc dMo_message_13 (by decide) (fun c13 => ?_) (fun c13 => ?_)
    · have w0 : ¬ w = nI 0 := c13
      refine g_iload_n (pc := 25) hc dMo_message_25 rfl ?_
      refine g_iconst (v := nI 1) (pc := 26) hc dMo_message_26 (by decide) ?_
      refine g_icmp_ne (tgt := 39) (pc := 27) hc dMo_message_27 (by decide) (fun c27 => ?_) (fun c27 => ?_)
      · refine g_iload_n (pc := 39) hc dMo_message_39 rfl ?_
        refine g_iconst (v := nI 2) (pc := 40) hc dMo_message_40 (by decide) ?_
        refine g_icmp_ne (tgt := 53) (pc := 41) hc dMo_message_41 (by decide) (fun c41 => ?_) (fun c41 => ?_)
        · refine g_iload_n (pc := 53) hc dMo_message_53 rfl ?_
          refine g_iconst (v := nI 3) (pc := 54) hc dMo_message_54 (by decide) ?_
          refine g_icmp_ne (tgt := 67) (pc := 55) hc dMo_message_55 (by decide) (fun c55 => ?_) (fun c55 => ?_)
          · refine g_iconst (v := -1) (pc := 67) hc dMo_message_67 (by decide) ?_
            exact g_iret (pc := 68) hc he dMo_message_68 (Nat.le_refl _) (Nat.le_refl _) ⟨by rw [zmsg, eg]; simp only []; rw [if_neg w0, if_neg c27, if_neg c41, if_neg c55], rfl, rfl⟩
          · refine g_aload_n (pc := 58) hc dMo_message_58 rfl ?_
            refine g_get (pc := 59) hc dMo_message_59 x_Mo_47 (by assumption) (by rfl) ?_
            refine g_iload_n (pc := 62) hc dMo_message_62 rfl ?_
            obtain ⟨gq, hgq, hglq, hgfq⟩ := id hMs.2.2.2.2.2.2
            refine g_iald (pc := 63) (t := kI) hc dMo_message_63 rfl hgq (vp_in_nI (show j < 10 by omega) (by decide)) ?_
            rw [nI_clamp (by omega), hgfq _ (by simp; omega), zgmap (fun μ => μ.2.2.1.length) (by rfl) hj]
            refine g_goto (tgt := 68) (pc := 64) hc dMo_message_64 (by decide) ?_
            exact g_iret (pc := 68) hc he dMo_message_68 (Nat.le_refl _) (Nat.le_refl _) ⟨by rw [zmsg, eg]; simp only []; rw [if_neg w0, if_neg c27, if_neg c41, if_pos c55], rfl, rfl⟩
        · refine g_aload_n (pc := 44) hc dMo_message_44 rfl ?_
          refine g_get (pc := 45) hc dMo_message_45 x_Mo_41 (by assumption) (by rfl) ?_
          refine g_iload_n (pc := 48) hc dMo_message_48 rfl ?_
          obtain ⟨gq, hgq, hglq, hgfq⟩ := id hMs.2.2.2.2.1
          refine g_iald (pc := 49) (t := kI) hc dMo_message_49 rfl hgq (vp_in_nI (show j < 10 by omega) (by decide)) ?_
          rw [nI_clamp (by omega), hgfq _ (by simp; omega), zgmap (fun μ => μ.2.1.length) (by rfl) hj]
          refine g_goto (tgt := 68) (pc := 50) hc dMo_message_50 (by decide) ?_
          exact g_iret (pc := 68) hc he dMo_message_68 (Nat.le_refl _) (Nat.le_refl _) ⟨by rw [zmsg, eg]; simp only []; rw [if_neg w0, if_neg c27, if_pos c41], rfl, rfl⟩
      · refine g_aload_n (pc := 30) hc dMo_message_30 rfl ?_
        refine g_get (pc := 31) hc dMo_message_31 x_Mo_35 (by assumption) (by rfl) ?_
        refine g_iload_n (pc := 34) hc dMo_message_34 rfl ?_
        obtain ⟨gq, hgq, hglq, hgfq⟩ := id hMs.2.2.1
        refine g_iald (pc := 35) (t := kI) hc dMo_message_35 rfl hgq (vp_in_nI (show j < 10 by omega) (by decide)) ?_
        rw [nI_clamp (by omega), hgfq _ (by simp; omega), zgmap (fun μ => μ.2.2.2) (by rfl) hj]
        refine g_goto (tgt := 68) (pc := 36) hc dMo_message_36 (by decide) ?_
        exact g_iret (pc := 68) hc he dMo_message_68 (Nat.le_refl _) (Nat.le_refl _) ⟨by rw [zmsg, eg]; simp only []; rw [if_neg w0, if_pos c27], rfl, rfl⟩
    · have w0 : w = nI 0 := c13
      refine g_aload_n (pc := 16) hc dMo_message_16 rfl ?_
      refine g_get (pc := 17) hc dMo_message_17 x_Mo_32 (by assumption) (by rfl) ?_
      refine g_iload_n (pc := 20) hc dMo_message_20 rfl ?_
      obtain ⟨gq, hgq, hglq, hgfq⟩ := id hMs.2.1
      refine g_iald (pc := 21) (t := kI) hc dMo_message_21 rfl hgq (vp_in_nI (show j < 10 by omega) (by decide)) ?_
      rw [nI_clamp (by omega), hgfq _ (by simp; omega), zgmap (fun μ => μ.1.length) (by rfl) hj]
      refine g_goto (tgt := 68) (pc := 22) hc dMo_message_22 (by decide) ?_
      exact g_iret (pc := 68) hc he dMo_message_68 (Nat.le_refl _) (Nat.le_refl _) ⟨by rw [zmsg, eg]; simp only []; rw [if_pos w0], rfl, rfl⟩
  · refine g_if_ne (tgt := 12) (pc := 5) hc dMo_message_5 (by decide) (fun c5 => absurd c5 (fun q => q rfl)) (fun _ => ?_)
    refine g_iconst (v := -1) (pc := 8) hc dMo_message_8 (by decide) ?_
    refine g_goto (tgt := 68) (pc := 9) hc dMo_message_9 (by decide) ?_
    exact g_iret (pc := 68) hc he dMo_message_68 (Nat.le_refl _) (Nat.le_refl _) ⟨by rw [zmsg, hno], rfl, rfl⟩
