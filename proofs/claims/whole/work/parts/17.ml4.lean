theorem zRow.kpt {q cap a : Nat} {L : List Nat} {m m' : mm_M} (h : zRow q cap L m) (o : ∀ b : Nat, b ≠ a → m' b = m b) (ha : a < q ∨ q + 2 ≤ a) : zRow q cap L m' := h.kept (o _ (by omega)) (o _ (by omega))
theorem zLR.kpt {p a : Nat} {L : List Nat} {cr : Bool} {m m' : mm_M} (h : zLR p L cr m) (o : ∀ b : Nat, b ≠ a → m' b = m b) (ha : a < p ∨ p + 3 ≤ a) : zLR p L cr m' := h.off (zsame.one o (Nat.le_refl a) (Nat.lt_succ_self a)) (by omega)
theorem zTR.kpt {p a n : Nat} {L : List Nat} {cr dot : Bool} {m m' : mm_M} (h : zTR p L cr dot n m) (o : ∀ b : Nat, b ≠ a → m' b = m b) (ha : a < p ∨ p + 3 ≤ a) : zTR p L cr dot n m' := h.off (zsame.one o (Nat.le_refl a) (Nat.lt_succ_self a)) (by omega)
theorem zEnv.kpt {p a : Nat} {S : List Nat} {told : Bool} {Rs : List (List Nat)} {m m' : mm_M} (h : zEnv p S told Rs m) (o : ∀ b : Nat, b ≠ a → m' b = m b) (ha : a < p ∨ p + 12 ≤ a) : zEnv p S told Rs m' := h.off (zsame.one o (Nat.le_refl a) (Nat.lt_succ_self a)) (by omega)
theorem zLet.kpt {p a n : Nat} {T S F : List Nat} {m m' : mm_M} (h : zLet p T S F n m) (o : ∀ b : Nat, b ≠ a → m' b = m b) (ha : a < p ∨ p + 7 ≤ a) : zLet p T S F n m' := h.off (zsame.one o (Nat.le_refl a) (Nat.lt_succ_self a)) (by omega)
def zst0 : zSt := ([], ([], false), ([], false, false, 0), ([], false, []), [], true, false, false)
set_option maxHeartbeats 4000000 in
set_option maxRecDepth 100000 in
theorem s_ML_init (V : mm_V) {z : Nat} {mem : mm_M} {nx : Nat} (hm : mem z = some (.inr (kML, [.null, .null, .null, .null, .null, .int 0, .int 0, .int 0, .int 0]))) (hnx : nx = z + 1) : mm_S V yML_init cML_init 2 none 3 91 5454 [.ref z] mem nx (fun r m x => r = none ∧ x = z + 92 ∧ zM z zst0 m ∧ zsame z (z + 92) mem m) := by
  refine mm_met (by decide) (Nat.le_of_ble_eq_true rfl) ?_
  intro X hc he hnm
  have loop : ∀ (n i : Nat) (mem1 : mm_M) (nx1 c1 s1 : Nat), n + i = 10 → nx1 = z + 22 + 7 * i → c1 ≤ 21 + 7 * i → s1 ≤ 1354 + 410 * i → mem1 z = some (.inr (kML, [.ref (z + 1), .ref (z + 3), .ref (z + 6), .ref (z + 9), .ref (z + 21), .int 0, .int 0, .int 0, .int 0])) ∧ zRow (z + 1) 400 [] mem1 ∧ zLR (z + 3) [] false mem1 ∧ zTR (z + 6) [] false false 0 mem1 ∧ zEnv (z + 9) [] false [] mem1 ∧ (∃ g : Nat → Option Nat, mem1 (z + 21) = some (.inl (kLA, 10, .inr (.inr (.inr (.inr g))))) ∧ ∀ j, j < i → g j = some (z + 22 + 7 * j)) ∧ (∀ j, j < i → zLet (z + 22 + 7 * j) [] [] [] 0 mem1) ∧ zsame z (z + 92) mem mem1 → mm_G V X 2 62 [(0, .ref z), (1, .int (nI (i)))] [] mem1 nx1 c1 s1 := by
    intro n
    induction n with
    | zero =>
      intro i mem1 nx1 c1 s1 e1 en ec es hI
      obtain ⟨hp1, hr1, hl1, ht1, hv1, ⟨g, hg, hg4⟩, hR, hs⟩ := hI
      obtain rfl : i = 10 := by omega
      subst en
      refine g_iload_n (pc := 62) hc dML_init_62 rfl ?_
      refine g_aload_n (pc := 63) hc dML_init_63 rfl ?_
      refine g_get (pc := 64) hc dML_init_64 x_ML_41 (by assumption) (by rfl) ?_
      refine g_alen (pc := 67) (t := kLA) (v := nI 10) hc dML_init_67 rfl hg rfl ?_
      refine g_icmp_ge (tgt := 90) (pc := 68) hc dML_init_68 (by decide) (fun _ => ?_) (fun c68 => absurd (by decide) c68)
      refine g_aload_n (pc := 90) hc dML_init_90 rfl ?_
      refine g_iconst (v := nI 1) (pc := 91) hc dML_init_91 (by decide) ?_
      refine g_put (pc := 92) hc dML_init_92 x_ML_46 ft_ML rfl hp1 rfl rfl (zlt rfl) (fun m2 h2 o2 => ?_)
      exact g_vret (pc := 95) hc he dML_init_95 (by omega) (by omega) ⟨rfl, rfl, ⟨h2, hr1.kpt o2 (by omega), hl1.kpt o2 (by omega), ht1.kpt o2 (by omega), hv1.kpt o2 (by omega), ⟨g, (o2 _ (by omega)).trans hg, hg4⟩, Nat.zero_le _, fun j hj => (hR j hj).kpt o2 (by omega)⟩, fun a q => (o2 a (by omega)).trans (hs a q)⟩
    | succ n ih =>
      intro i mem1 nx1 c1 s1 e1 en ec es hI
      obtain ⟨hp1, hr1, hl1, ht1, hv1, ⟨g, hg, hg4⟩, hR, hs⟩ := hI
      subst en
      refine g_iload_n (pc := 62) hc dML_init_62 rfl ?_
      refine g_aload_n (pc := 63) hc dML_init_63 rfl ?_
      refine g_get (pc := 64) hc dML_init_64 x_ML_41 (by assumption) (by rfl) ?_
      refine g_alen (pc := 67) (t := kLA) (v := nI 10) hc dML_init_67 rfl hg rfl ?_
      refine g_icmp_ge (tgt := 90) (pc := 68) hc dML_init_68 (by decide) (fun c68 => absurd c68 (nI_ge (by omega) (by omega))) (fun _ => ?_)
      refine g_aload_n (pc := 71) hc dML_init_71 rfl ?_
      refine g_get (pc := 72) hc dML_init_72 x_ML_41 (by assumption) (by rfl) ?_
      refine g_iload_n (pc := 75) hc dML_init_75 rfl ?_
      refine g_new (pc := 76) (fs := [.null, .null, .null, .int 0]) hc dML_init_76 cl_Let in_Let xn_ML_39 ft_Let (fun j hj => by rcases (show j = 0 ∨ j = 1 ∨ j = 2 ∨ j = 3 by omega) with rfl | rfl | rfl | rfl <;> rfl) (by omega) (by omega) (fun m1 h1 o1 => ?_)
      refine g_dup (pc := 79) hc dML_init_79 rfl ?_
      refine g_callI (pc := 80) hc dML_init_80 x_ML_45 (s_Let_init V h1 rfl) (Nat.le_of_ble_eq_true rfl) (Nat.le_of_ble_eq_true rfl) (by omega) (by omega) rfl rfl (Nat.le_of_ble_eq_true rfl) (fun r m x hp => ?_)
      obtain ⟨rfl, rfl, hl2, hs2⟩ := hp
      refine g_aast (pc := 83) (t := kLA) hc dML_init_83 rfl cl_Let ((hs2 _ (by omega)).trans ((o1 _ (by omega)).trans hg)) hl2.1 (vp_in_nI (by omega) (by omega)) (fun m3 h3 o3 => ?_)
      rw [nI_clamp (by omega)] at h3
      refine g_iinc (pc := 84) hc dML_init_84 rfl (zinc _) (by decide) rfl ?_
      refine g_goto (tgt := 62) (pc := 87) hc dML_init_87 (by decide) ?_
      refine g_lv (lv' := [(0, .ref z), (1, .int (nI (i + 1)))]) ⟨rfl, rfl, trivial⟩ ?_
      refine ih (i + 1) m3 _ _ _ (by omega) (by omega) (by omega) (by omega) ⟨(o3 _ (by omega)).trans ((hs2 _ (by omega)).trans ((o1 _ (by omega)).trans hp1)), ((hr1.kpt o1 (by omega)).off hs2 (by omega)).kpt o3 (by omega), ((hl1.kpt o1 (by omega)).off hs2 (by omega)).kpt o3 (by omega), ((ht1.kpt o1 (by omega)).off hs2 (by omega)).kpt o3 (by omega), ((hv1.kpt o1 (by omega)).off hs2 (by omega)).kpt o3 (by omega), ⟨_, h3, fun j hj => ?_⟩, fun j hj => ?_, fun a h9 => (o3 a (by omega)).trans ((hs2 a (by omega)).trans ((o1 a (by omega)).trans (hs a h9)))⟩
      · by_cases e : j = i
        · subst e; rw [va_up_self]
        · rw [va_up_ne _ _ e]; exact hg4 j (by omega)
      · by_cases e : j = i
        · subst e; exact hl2.kpt o3 (by omega)
        · exact (((hR j (by omega)).kpt o1 (by omega)).off hs2 (by omega)).kpt o3 (by omega)
  subst hnx
  refine g_aload_n (pc := 0) hc dML_init_0 rfl ?_
  refine g_objInit (pc := 1) hc dML_init_1 x_ML_1 (by decide) (Nat.le_of_ble_eq_true rfl) ?_
  refine g_aload_n (pc := 4) hc dML_init_4 rfl ?_
  refine g_new (pc := 5) (fs := [.null, .int 0]) hc dML_init_5 cl_Row in_Row xn_ML_7 ft_Row (fun j hj => by rcases (show j = 0 ∨ j = 1 by omega) with rfl | rfl <;> rfl) (by omega) (by omega) (fun a1 b1 q1 => ?_)
  have hm1 := (q1 z (by omega)).trans hm
  refine g_dup (pc := 8) hc dML_init_8 rfl ?_
  refine g_sipush (v := nI 400) (pc := 9) hc dML_init_9 (by decide) ?_
  refine g_callI (pc := 12) hc dML_init_12 x_ML_11 (s_Row_init V b1 rfl (by decide)) (Nat.le_of_ble_eq_true rfl) (Nat.le_of_ble_eq_true rfl) (by omega) (by omega) rfl rfl (Nat.le_of_ble_eq_true rfl) (fun r m x hp => ?_)
  obtain ⟨rfl, rfl, hr, hs1⟩ := hp
  have hm2 := (hs1 z (by omega)).trans hm1
  refine g_putF (pc := 15) hc dML_init_15 hnm x_ML_14 ft_ML rfl rfl hm2 rfl rfl (zlt rfl) (fun a2 hm3 q2 => ?_)
  replace hr := hr.kpt q2 (by omega)
  refine g_aload_n (pc := 18) hc dML_init_18 rfl ?_
  refine g_new (pc := 19) (fs := [.null, .int 0]) hc dML_init_19 cl_LR in_LR xn_ML_18 ft_LR (fun j hj => by rcases (show j = 0 ∨ j = 1 by omega) with rfl | rfl <;> rfl) (by omega) (by omega) (fun a3 b3 q3 => ?_)
  replace hr := hr.kpt q3 (by omega)
  have hm4 := (q3 z (by omega)).trans hm3
  refine g_dup (pc := 22) hc dML_init_22 rfl ?_
  refine g_callI (pc := 23) hc dML_init_23 x_ML_20 (s_LR_init V b3 rfl) (Nat.le_of_ble_eq_true rfl) (Nat.le_of_ble_eq_true rfl) (by omega) (by omega) rfl rfl (Nat.le_of_ble_eq_true rfl) (fun r m x hp => ?_)
  obtain ⟨rfl, rfl, hl, hs3⟩ := hp
  replace hr := hr.off hs3 (by omega)
  have hm5 := (hs3 z (by omega)).trans hm4
  refine g_putF (pc := 26) hc dML_init_26 hnm x_ML_21 ft_ML rfl rfl hm5 rfl rfl (zlt rfl) (fun a4 hm6 q4 => ?_)
  replace hr := hr.kpt q4 (by omega)
  replace hl := hl.kpt q4 (by omega)
  refine g_aload_n (pc := 29) hc dML_init_29 rfl ?_
  refine g_new (pc := 30) (fs := [.null, .int 0, .int 0, .int 0]) hc dML_init_30 cl_TR in_TR xn_ML_25 ft_TR (fun j hj => by rcases (show j = 0 ∨ j = 1 ∨ j = 2 ∨ j = 3 by omega) with rfl | rfl | rfl | rfl <;> rfl) (by omega) (by omega) (fun a5 b5 q5 => ?_)
  replace hr := hr.kpt q5 (by omega)
  replace hl := hl.kpt q5 (by omega)
  have hm7 := (q5 z (by omega)).trans hm6
  refine g_dup (pc := 33) hc dML_init_33 rfl ?_
  refine g_callI (pc := 34) hc dML_init_34 x_ML_27 (s_TR_init V b5 rfl) (Nat.le_of_ble_eq_true rfl) (Nat.le_of_ble_eq_true rfl) (by omega) (by omega) rfl rfl (Nat.le_of_ble_eq_true rfl) (fun r m x hp => ?_)
  obtain ⟨rfl, rfl, ht, hs5⟩ := hp
  replace hr := hr.off hs5 (by omega)
  replace hl := hl.off hs5 (by omega)
  have hm8 := (hs5 z (by omega)).trans hm7
  refine g_putF (pc := 37) hc dML_init_37 hnm x_ML_28 ft_ML rfl rfl hm8 rfl rfl (zlt rfl) (fun a6 hm9 q6 => ?_)
  replace hr := hr.kpt q6 (by omega)
  replace hl := hl.kpt q6 (by omega)
  replace ht := ht.kpt q6 (by omega)
  refine g_aload_n (pc := 40) hc dML_init_40 rfl ?_
  refine g_new (pc := 41) (fs := [.null, .null, .int 0, .int 0]) hc dML_init_41 cl_Env in_Env xn_ML_32 ft_Env (fun j hj => by rcases (show j = 0 ∨ j = 1 ∨ j = 2 ∨ j = 3 by omega) with rfl | rfl | rfl | rfl <;> rfl) (by omega) (by omega) (fun a7 b7 q7 => ?_)
  replace hr := hr.kpt q7 (by omega)
  replace hl := hl.kpt q7 (by omega)
  replace ht := ht.kpt q7 (by omega)
  have hm10 := (q7 z (by omega)).trans hm9
  refine g_dup (pc := 44) hc dML_init_44 rfl ?_
  refine g_callI (pc := 45) hc dML_init_45 x_ML_34 (s_Env_init V b7 rfl) (Nat.le_of_ble_eq_true rfl) (Nat.le_of_ble_eq_true rfl) (by omega) (by omega) rfl rfl (Nat.le_of_ble_eq_true rfl) (fun r m x hp => ?_)
  obtain ⟨rfl, rfl, hv, hs7⟩ := hp
  replace hr := hr.off hs7 (by omega)
  replace hl := hl.off hs7 (by omega)
  replace ht := ht.off hs7 (by omega)
  have hm11 := (hs7 z (by omega)).trans hm10
  refine g_putF (pc := 48) hc dML_init_48 hnm x_ML_35 ft_ML rfl rfl hm11 rfl rfl (zlt rfl) (fun a8 hm12 q8 => ?_)
  replace hr := hr.kpt q8 (by omega)
  replace hl := hl.kpt q8 (by omega)
  replace ht := ht.kpt q8 (by omega)
  replace hv := hv.kpt q8 (by omega)
  refine g_aload_n (pc := 51) hc dML_init_51 rfl ?_
  refine g_bipush (v := nI 10) (pc := 52) hc dML_init_52 (by decide) ?_
  refine g_anew (pc := 54) (t := kLA) (N := 10) hc dML_init_54 rfl xa_ML_39 (by simp [mm_aov]) (by decide) (by decide) (by decide) (by omega) (by omega) (fun a9 b9 q9 => ?_)
  replace hr := hr.kpt q9 (by omega)
  replace hl := hl.kpt q9 (by omega)
  replace ht := ht.kpt q9 (by omega)
  replace hv := hv.kpt q9 (by omega)
  have hm13 := (q9 z (by omega)).trans hm12
  refine g_putF (pc := 57) hc dML_init_57 hnm x_ML_41 ft_ML rfl rfl hm13 rfl rfl (zlt rfl) (fun a10 hm14 q10 => ?_)
  replace hr := hr.kpt q10 (by omega)
  replace hl := hl.kpt q10 (by omega)
  replace ht := ht.kpt q10 (by omega)
  replace hv := hv.kpt q10 (by omega)
  refine g_iconst (v := nI 0) (pc := 60) hc dML_init_60 (by decide) ?_
  refine g_istore_n (pc := 61) hc dML_init_61 (by decide) rfl ?_
  refine g_lv (lv' := [(0, .ref z), (1, .int (nI (0)))]) ⟨rfl, rfl, trivial⟩ ?_
  refine loop 10 0 a10 _ _ _ rfl (by omega) (by omega) (by omega) ⟨hm14, hr, hl, ht, hv, ⟨_, (q10 _ (by omega)).trans b9, fun j hj => absurd hj (Nat.not_lt_zero j)⟩, fun j hj => absurd hj (Nat.not_lt_zero j), fun a q => ?_⟩
  exact (q10 a (by omega)).trans ((q9 a (by omega)).trans ((q8 a (by omega)).trans ((hs7 a (by omega)).trans ((q7 a (by omega)).trans ((q6 a (by omega)).trans ((hs5 a (by omega)).trans ((q5 a (by omega)).trans ((q4 a (by omega)).trans ((hs3 a (by omega)).trans ((q3 a (by omega)).trans ((q2 a (by omega)).trans ((hs1 a (by omega)).trans (q1 a (by omega))))))))))))))
