/-- the line reader at p -/
def zLR (p : Nat) (L : List Nat) (cr : Bool) (m : mm_M) : Prop := m p = some (.inr (kLR, [.ref (p + 1), .int (zb cr)])) ∧ zRow (p + 1) 202 L m
theorem zLR.off {p lo hi : Nat} {L : List Nat} {cr : Bool} {m m' : mm_M} (h : zLR p L cr m) (hs : zsame lo hi m m') (hq : p + 3 ≤ lo ∨ hi ≤ p) : zLR p L cr m' := ⟨(hs p (by omega)).trans h.1, h.2.off hs (by omega)⟩
def zlrE (cr : Bool) (b : Nat) : Bool := b == 10 && cr
/-- the text reader at p -/
def zTR (p : Nat) (L : List Nat) (cr dot : Bool) (n : Nat) (m : mm_M) : Prop := m p = some (.inr (kTR, [.ref (p + 1), .int (zb cr), .int (zb dot), .int (nI n)])) ∧ zRow (p + 1) 202 L m
theorem zTR.off {p lo hi n : Nat} {L : List Nat} {cr dot : Bool} {m m' : mm_M} (h : zTR p L cr dot n m) (hs : zsame lo hi m m') (hq : p + 3 ≤ lo ∨ hi ≤ p) : zTR p L cr dot n m' := ⟨(hs p (by omega)).trans h.1, h.2.off hs (by omega)⟩
set_option maxHeartbeats 4000000 in
set_option maxRecDepth 100000 in
theorem s_LR_row (V : mm_V) {p : Nat} {L : List Nat} {cr : Bool} {mem : mm_M} {nx : Nat} (h : zLR p L cr mem) : mm_S V yLR_row cLR_row 1 (some (.object "MailLines$Row")) 0 0 0 [.ref p] mem nx (fun r m x => r = some (.ref (p + 1)) ∧ mem = m ∧ nx = x) := by
  obtain ⟨hm, hr⟩ := id h
  refine mm_met (by decide) (Nat.le_of_ble_eq_true rfl) ?_
  intro X hc he hnm
  refine g_aload_n (pc := 0) hc dLR_row_0 rfl ?_
  refine g_get (pc := 1) hc dLR_row_1 x_LR_14 (by assumption) (by rfl) ?_
  exact g_aret (pc := 4) hc he dLR_row_4 (Or.inr ⟨_, rfl⟩) (Nat.le_refl _) (Nat.le_refl _) ⟨rfl, rfl, rfl⟩
set_option maxHeartbeats 4000000 in
set_option maxRecDepth 100000 in
theorem s_LR_clear (V : mm_V) {p : Nat} {L : List Nat} {cr : Bool} {mem : mm_M} {nx : Nat} (h : zLR p L cr mem) : mm_S V yLR_clear cLR_clear 1 none 1 0 0 [.ref p] mem nx (fun r m x => r = none ∧ nx = x ∧ zLR p [] false m ∧ zsame p (p + 3) mem m) := by
  obtain ⟨hm, hr⟩ := id h
  refine mm_met (by decide) (Nat.le_of_ble_eq_true rfl) ?_
  intro X hc he hnm
  refine g_aload_n (pc := 0) hc dLR_clear_0 rfl ?_
  refine g_get (pc := 1) hc dLR_clear_1 x_LR_14 (by assumption) (by rfl) ?_
  refine g_callV (pc := 4) hc dLR_clear_4 x_LR_20 (s_Row_clear V hr) cl_Row (hr.obj) (Nat.le_of_ble_eq_true rfl) (Nat.le_of_ble_eq_true rfl) (Nat.le_of_ble_eq_true rfl) (Nat.le_of_ble_eq_true rfl) rfl rfl (Nat.le_of_ble_eq_true rfl) (fun r m x hp => ?_)
  obtain ⟨rfl, rfl, hr1, hs1⟩ := hp
  have hm1 := (hs1 p (by omega)).trans hm
  refine g_aload_n (pc := 7) hc dLR_clear_7 rfl ?_
  refine g_iconst (v := nI 0) (pc := 8) hc dLR_clear_8 (by decide) ?_
  refine g_put (pc := 9) hc dLR_clear_9 x_LR_23 ft_LR rfl hm1 rfl rfl (zlt rfl) (fun m2 h2 o2 => ?_)
  exact g_vret (pc := 12) hc he dLR_clear_12 (Nat.le_refl _) (Nat.le_refl _) ⟨rfl, rfl, ⟨h2, hr1.kept (o2 _ (by omega)) (o2 _ (by omega))⟩, fun a h9 => (o2 a (by omega)).trans (hs1 a (by omega))⟩
set_option maxHeartbeats 4000000 in
set_option maxRecDepth 100000 in
theorem s_LR_endsWith (V : mm_V) {p : Nat} {L : List Nat} {cr : Bool} {b : Nat} {mem : mm_M} {nx : Nat} (h : zLR p L cr mem) (hb : b < 256) : mm_S V yLR_endsWith cLR_endsWith 2 (some .boolean) 1 0 0 [.ref p, .int (nI b)] mem nx (fun r m x => r = some (.int (zb (zlrE cr b))) ∧ nx = x ∧ zLR p (if zlrE cr b then L.dropLast else (L ++ [b]).take 202) (if zlrE cr b then cr else b == 13) m ∧ zsame p (p + 3) mem m) := by
  obtain ⟨hm, hr⟩ := id h
  refine mm_met (by decide) (Nat.le_of_ble_eq_true rfl) ?_
  intro X hc he hnm
  refine g_iload_n (pc := 0) hc dLR_endsWith_0 rfl ?_
  refine g_bipush (v := nI 10) (pc := 1) hc dLR_endsWith_1 (by decide) ?_
  refine g_icmp_ne (tgt := 22) (pc := 3) hc dLR_endsWith_3 (by decide) (fun c3 => ?_) (fun c3 => ?_)
  · simp (disch := omega) only [nI_leI, nI_ltI, nI_eq, nI_eq0, nI_lt0, nI_0le, nI_0lt, nI_le0, zb_0] at c3
    have e : zlrE cr b = false := by simp [zlrE, c3]
    refine g_aload_n (pc := 22) hc dLR_endsWith_22 rfl ?_
    refine g_get (pc := 23) hc dLR_endsWith_23 x_LR_14 (by assumption) (by rfl) ?_
    refine g_iload_n (pc := 26) hc dLR_endsWith_26 rfl ?_
    refine g_callV (pc := 27) hc dLR_endsWith_27 x_LR_30 (s_Row_add V hr hb) cl_Row (hr.obj) (Nat.le_of_ble_eq_true rfl) (Nat.le_of_ble_eq_true rfl) (Nat.le_of_ble_eq_true rfl) (Nat.le_of_ble_eq_true rfl) rfl rfl (Nat.le_of_ble_eq_true rfl) (fun r m x hp => ?_)
    obtain ⟨rfl, rfl, hr1, hs1⟩ := hp
    have hm1 := (hs1 p (by omega)).trans hm
    refine g_aload_n (pc := 30) hc dLR_endsWith_30 rfl ?_
    refine g_iload_n (pc := 31) hc dLR_endsWith_31 rfl ?_
    refine g_bipush (v := nI 13) (pc := 32) hc dLR_endsWith_32 (by decide) ?_
    refine g_icmp_ne (tgt := 41) (pc := 34) hc dLR_endsWith_34 (by decide) (fun c34 => ?_) (fun c34 => ?_)
    · simp (disch := omega) only [nI_leI, nI_ltI, nI_eq, nI_eq0, nI_lt0, nI_0le, nI_0lt, nI_le0, zb_0] at c34
      have d34 : (b == 13) = false := by simpa using c34
      refine g_iconst (v := nI 0) (pc := 41) hc dLR_endsWith_41 (by decide) ?_
      refine g_put (pc := 42) hc dLR_endsWith_42 x_LR_23 ft_LR rfl hm1 rfl rfl (zlt rfl) (fun m2 h2 o2 => ?_)
      refine g_iconst (v := nI 0) (pc := 45) hc dLR_endsWith_45 (by decide) ?_
      exact g_zret (pc := 46) hc he dLR_endsWith_46 rfl (Nat.le_refl _) (Nat.le_refl _) ⟨by rw [e]; rfl, rfl, by rw [e]; exact ⟨by rw [h2, d34]; rfl, hr1.kept (o2 _ (by omega)) (o2 _ (by omega))⟩, fun a h9 => (o2 a (by omega)).trans (hs1 a (by omega))⟩
    · simp (disch := omega) only [nI_leI, nI_ltI, nI_eq, nI_eq0, nI_lt0, nI_0le, nI_0lt, nI_le0, zb_0] at c34
      have d34 : (b == 13) = true := by simpa using c34
      refine g_iconst (v := nI 1) (pc := 37) hc dLR_endsWith_37 (by decide) ?_
      refine g_goto (tgt := 42) (pc := 38) hc dLR_endsWith_38 (by decide) ?_
      refine g_put (pc := 42) hc dLR_endsWith_42 x_LR_23 ft_LR rfl hm1 rfl rfl (zlt rfl) (fun m2 h2 o2 => ?_)
      refine g_iconst (v := nI 0) (pc := 45) hc dLR_endsWith_45 (by decide) ?_
      exact g_zret (pc := 46) hc he dLR_endsWith_46 rfl (Nat.le_refl _) (Nat.le_refl _) ⟨by rw [e]; rfl, rfl, by rw [e]; exact ⟨by rw [h2, d34]; rfl, hr1.kept (o2 _ (by omega)) (o2 _ (by omega))⟩, fun a h9 => (o2 a (by omega)).trans (hs1 a (by omega))⟩
  · simp (disch := omega) only [nI_leI, nI_ltI, nI_eq, nI_eq0, nI_lt0, nI_0le, nI_0lt, nI_le0, zb_0] at c3
    refine g_aload_n (pc := 6) hc dLR_endsWith_6 rfl ?_
    refine g_get (pc := 7) hc dLR_endsWith_7 x_LR_23 (by assumption) (by rfl) ?_
    refine g_if_eq (tgt := 22) (pc := 10) hc dLR_endsWith_10 (by decide) (fun c10 => ?_) (fun c10 => ?_)
    · simp (disch := omega) only [nI_leI, nI_ltI, nI_eq, nI_eq0, nI_lt0, nI_0le, nI_0lt, nI_le0, zb_0] at c10
      have e : zlrE cr b = false := by simp [zlrE, c10]
      refine g_aload_n (pc := 22) hc dLR_endsWith_22 rfl ?_
      refine g_get (pc := 23) hc dLR_endsWith_23 x_LR_14 (by assumption) (by rfl) ?_
      refine g_iload_n (pc := 26) hc dLR_endsWith_26 rfl ?_
      refine g_callV (pc := 27) hc dLR_endsWith_27 x_LR_30 (s_Row_add V hr hb) cl_Row (hr.obj) (Nat.le_of_ble_eq_true rfl) (Nat.le_of_ble_eq_true rfl) (Nat.le_of_ble_eq_true rfl) (Nat.le_of_ble_eq_true rfl) rfl rfl (Nat.le_of_ble_eq_true rfl) (fun r m x hp => ?_)
      obtain ⟨rfl, rfl, hr1, hs1⟩ := hp
      have hm1 := (hs1 p (by omega)).trans hm
      refine g_aload_n (pc := 30) hc dLR_endsWith_30 rfl ?_
      refine g_iload_n (pc := 31) hc dLR_endsWith_31 rfl ?_
      refine g_bipush (v := nI 13) (pc := 32) hc dLR_endsWith_32 (by decide) ?_
      refine g_icmp_ne (tgt := 41) (pc := 34) hc dLR_endsWith_34 (by decide) (fun c34 => ?_) (fun c34 => ?_)
      · simp (disch := omega) only [nI_leI, nI_ltI, nI_eq, nI_eq0, nI_lt0, nI_0le, nI_0lt, nI_le0, zb_0] at c34
        have d34 : (b == 13) = false := by simpa using c34
        refine g_iconst (v := nI 0) (pc := 41) hc dLR_endsWith_41 (by decide) ?_
        refine g_put (pc := 42) hc dLR_endsWith_42 x_LR_23 ft_LR rfl hm1 rfl rfl (zlt rfl) (fun m2 h2 o2 => ?_)
        refine g_iconst (v := nI 0) (pc := 45) hc dLR_endsWith_45 (by decide) ?_
        exact g_zret (pc := 46) hc he dLR_endsWith_46 rfl (Nat.le_refl _) (Nat.le_refl _) ⟨by rw [e]; rfl, rfl, by rw [e]; exact ⟨by rw [h2, d34]; rfl, hr1.kept (o2 _ (by omega)) (o2 _ (by omega))⟩, fun a h9 => (o2 a (by omega)).trans (hs1 a (by omega))⟩
      · simp (disch := omega) only [nI_leI, nI_ltI, nI_eq, nI_eq0, nI_lt0, nI_0le, nI_0lt, nI_le0, zb_0] at c34
        have d34 : (b == 13) = true := by simpa using c34
        refine g_iconst (v := nI 1) (pc := 37) hc dLR_endsWith_37 (by decide) ?_
        refine g_goto (tgt := 42) (pc := 38) hc dLR_endsWith_38 (by decide) ?_
        refine g_put (pc := 42) hc dLR_endsWith_42 x_LR_23 ft_LR rfl hm1 rfl rfl (zlt rfl) (fun m2 h2 o2 => ?_)
        refine g_iconst (v := nI 0) (pc := 45) hc dLR_endsWith_45 (by decide) ?_
        exact g_zret (pc := 46) hc he dLR_endsWith_46 rfl (Nat.le_refl _) (Nat.le_refl _) ⟨by rw [e]; rfl, rfl, by rw [e]; exact ⟨by rw [h2, d34]; rfl, hr1.kept (o2 _ (by omega)) (o2 _ (by omega))⟩, fun a h9 => (o2 a (by omega)).trans (hs1 a (by omega))⟩
    · simp (disch := omega) only [nI_leI, nI_ltI, nI_eq, nI_eq0, nI_lt0, nI_0le, nI_0lt, nI_le0, zb_0] at c10
      have e : zlrE cr b = true := by simp at c3 c10; simp [zlrE, c3, c10]
      refine g_aload_n (pc := 13) hc dLR_endsWith_13 rfl ?_
      refine g_get (pc := 14) hc dLR_endsWith_14 x_LR_14 (by assumption) (by rfl) ?_
      refine g_callV (pc := 17) hc dLR_endsWith_17 x_LR_27 (s_Row_dropLast V hr) cl_Row (hr.obj) (Nat.le_of_ble_eq_true rfl) (Nat.le_of_ble_eq_true rfl) (Nat.le_of_ble_eq_true rfl) (Nat.le_of_ble_eq_true rfl) rfl rfl (Nat.le_of_ble_eq_true rfl) (fun r m x hp => ?_)
      obtain ⟨rfl, rfl, hr1, hs1⟩ := hp
      have hm1 := (hs1 p (by omega)).trans hm
      refine g_iconst (v := nI 1) (pc := 20) hc dLR_endsWith_20 (by decide) ?_
      exact g_zret (pc := 21) hc he dLR_endsWith_21 rfl (Nat.le_refl _) (Nat.le_refl _) ⟨by rw [e]; rfl, rfl, by rw [e]; exact ⟨hm1, hr1⟩, fun a h9 => hs1 a (by omega)⟩
set_option maxHeartbeats 4000000 in
set_option maxRecDepth 100000 in
theorem s_LR_init (V : mm_V) {p : Nat} {mem : mm_M} {nx : Nat} (hm : mem p = some (.inr (kLR, [.null, .int 0]))) (hnx : nx = p + 1) : mm_S V yLR_init cLR_init 1 none 2 2 204 [.ref p] mem nx (fun r m x => r = none ∧ x = p + 3 ∧ zLR p [] false m ∧ zsame p (p + 3) mem m) := by
  refine mm_met (by decide) (Nat.le_of_ble_eq_true rfl) ?_
  intro X hc he hnm
  refine g_aload_n (pc := 0) hc dLR_init_0 rfl ?_
  refine g_objInit (pc := 1) hc dLR_init_1 x_LR_3 (by decide) (Nat.le_of_ble_eq_true rfl) ?_
  refine g_aload_n (pc := 4) hc dLR_init_4 rfl ?_
  refine g_new (pc := 5) (fs := [.null, .int 0]) hc dLR_init_5 cl_Row in_Row xn_LR_9 ft_Row (fun j hj => by rcases (show j = 0 ∨ j = 1 by omega) with rfl | rfl <;> rfl) (by decide) (by decide) (fun m1 h1 o1 => ?_)
  subst hnx
  have hm1 := (o1 p (by omega)).trans hm
  refine g_dup (pc := 8) hc dLR_init_8 rfl ?_
  refine g_sipush (v := nI 202) (pc := 9) hc dLR_init_9 (by decide) ?_
  refine g_callI (pc := 12) hc dLR_init_12 x_LR_11 (s_Row_init V h1 rfl (by decide)) (Nat.le_of_ble_eq_true rfl) (Nat.le_of_ble_eq_true rfl) (Nat.le_of_ble_eq_true rfl) (Nat.le_of_ble_eq_true rfl) rfl rfl (Nat.le_of_ble_eq_true rfl) (fun r m x hp => ?_)
  obtain ⟨rfl, rfl, hr2, hs2⟩ := hp
  have hm2 := (hs2 p (by omega)).trans hm1
  refine g_putF (pc := 15) hc dLR_init_15 hnm x_LR_14 ft_LR rfl rfl hm2 rfl rfl (zlt rfl) (fun m3 h3 o3 => ?_)
  exact g_vret (pc := 18) hc he dLR_init_18 (Nat.le_refl _) (Nat.le_refl _) ⟨rfl, rfl, ⟨h3, hr2.kept (o3 _ (by omega)) (o3 _ (by omega))⟩, fun a h9 => (o3 a (by omega)).trans ((hs2 a (by omega)).trans (o1 a (by omega)))⟩
set_option maxHeartbeats 4000000 in
set_option maxRecDepth 100000 in
theorem s_TR_row (V : mm_V) {p n : Nat} {L : List Nat} {cr dot : Bool} {mem : mm_M} {nx : Nat} (h : zTR p L cr dot n mem) : mm_S V yTR_row cTR_row 1 (some (.object "MailLines$Row")) 0 0 0 [.ref p] mem nx (fun r m x => r = some (.ref (p + 1)) ∧ mem = m ∧ nx = x) := by
  obtain ⟨hm, hr⟩ := id h
  refine mm_met (by decide) (Nat.le_of_ble_eq_true rfl) ?_
  intro X hc he hnm
  refine g_aload_n (pc := 0) hc dTR_row_0 rfl ?_
  refine g_get (pc := 1) hc dTR_row_1 x_TR_14 (by assumption) (by rfl) ?_
  exact g_aret (pc := 4) hc he dTR_row_4 (Or.inr ⟨_, rfl⟩) (Nat.le_refl _) (Nat.le_refl _) ⟨rfl, rfl, rfl⟩
set_option maxHeartbeats 4000000 in
set_option maxRecDepth 100000 in
theorem s_TR_startLine (V : mm_V) {p n : Nat} {L : List Nat} {cr dot : Bool} {mem : mm_M} {nx : Nat} (h : zTR p L cr dot n mem) : mm_S V yTR_startLine cTR_startLine 1 none 0 0 0 [.ref p] mem nx (fun r m x => r = none ∧ nx = x ∧ zTR p L false false 0 m ∧ zsame p (p + 1) mem m) := by
  obtain ⟨hm, hr⟩ := id h
  refine mm_met (by decide) (Nat.le_of_ble_eq_true rfl) ?_
  intro X hc he hnm
  refine g_aload_n (pc := 0) hc dTR_startLine_0 rfl ?_
  refine g_iconst (v := nI 0) (pc := 1) hc dTR_startLine_1 (by decide) ?_
  refine g_put (pc := 2) hc dTR_startLine_2 x_TR_26 ft_TR rfl hm rfl rfl (zlt rfl) (fun m1 h1 o1 => ?_)
  refine g_aload_n (pc := 5) hc dTR_startLine_5 rfl ?_
  refine g_iconst (v := nI 0) (pc := 6) hc dTR_startLine_6 (by decide) ?_
  refine g_put (pc := 7) hc dTR_startLine_7 x_TR_30 ft_TR rfl h1 rfl rfl (zlt rfl) (fun m2 h2 o2 => ?_)
  refine g_aload_n (pc := 10) hc dTR_startLine_10 rfl ?_
  refine g_iconst (v := nI 0) (pc := 11) hc dTR_startLine_11 (by decide) ?_
  refine g_put (pc := 12) hc dTR_startLine_12 x_TR_33 ft_TR rfl h2 rfl rfl (zlt rfl) (fun m3 h3 o3 => ?_)
  exact g_vret (pc := 15) hc he dTR_startLine_15 (Nat.le_refl _) (Nat.le_refl _) ⟨rfl, rfl, ⟨h3, hr.kept ((o3 _ (by omega)).trans ((o2 _ (by omega)).trans (o1 _ (by omega)))) ((o3 _ (by omega)).trans ((o2 _ (by omega)).trans (o1 _ (by omega))))⟩, fun a h9 => (o3 a (by omega)).trans ((o2 a (by omega)).trans (o1 a (by omega)))⟩
set_option maxHeartbeats 4000000 in
set_option maxRecDepth 100000 in
theorem s_TR_clear (V : mm_V) {p n : Nat} {L : List Nat} {cr dot : Bool} {mem : mm_M} {nx : Nat} (h : zTR p L cr dot n mem) : mm_S V yTR_clear cTR_clear 1 none 1 0 0 [.ref p] mem nx (fun r m x => r = none ∧ nx = x ∧ zTR p [] false false 0 m ∧ zsame p (p + 3) mem m) := by
  obtain ⟨hm, hr⟩ := id h
  refine mm_met (by decide) (Nat.le_of_ble_eq_true rfl) ?_
  intro X hc he hnm
  refine g_aload_n (pc := 0) hc dTR_clear_0 rfl ?_
  refine g_get (pc := 1) hc dTR_clear_1 x_TR_14 (by assumption) (by rfl) ?_
  refine g_callV (pc := 4) hc dTR_clear_4 x_TR_20 (s_Row_clear V hr) cl_Row (hr.obj) (Nat.le_of_ble_eq_true rfl) (Nat.le_of_ble_eq_true rfl) (Nat.le_of_ble_eq_true rfl) (Nat.le_of_ble_eq_true rfl) rfl rfl (Nat.le_of_ble_eq_true rfl) (fun r m x hp => ?_)
  obtain ⟨rfl, rfl, hr1, hs1⟩ := hp
  have ht1 : zTR p [] cr dot n m := ⟨(hs1 p (by omega)).trans hm, hr1⟩
  refine g_aload_n (pc := 7) hc dTR_clear_7 rfl ?_
  refine g_callV (pc := 8) hc dTR_clear_8 x_TR_23 (s_TR_startLine V ht1) cl_TR (ht1.1) (Nat.le_of_ble_eq_true rfl) (Nat.le_of_ble_eq_true rfl) (Nat.le_of_ble_eq_true rfl) (Nat.le_of_ble_eq_true rfl) rfl rfl (Nat.le_of_ble_eq_true rfl) (fun r m x hp => ?_)
  obtain ⟨rfl, rfl, ht2, hs2⟩ := hp
  exact g_vret (pc := 11) hc he dTR_clear_11 (Nat.le_refl _) (Nat.le_refl _) ⟨rfl, rfl, ht2, fun a h9 => (hs2 a (by omega)).trans (hs1 a (by omega))⟩
/-- a byte comes to the text reader: whether its line ends, whether the text ends, whether it is a first dot -/
def ztL (cr : Bool) (b : Nat) : Bool := b == 10 && cr
def ztE (cr dot : Bool) (n b : Nat) : Bool := ztL cr b && (dot && n == 2)
def ztF (n b : Nat) : Bool := n == 0 && b == 46
def ztRow (L : List Nat) (cr dot : Bool) (n b : Nat) : List Nat := if ztE cr dot n b then L.dropLast else if ztF n b then L else (L ++ [b]).take 202
def ztCr (cr dot : Bool) (n b : Nat) : Bool := if ztE cr dot n b then cr else if ztL cr b then false else b == 13
def ztDot (cr dot : Bool) (n b : Nat) : Bool := if ztE cr dot n b then dot else if ztL cr b then false else dot || ztF n b
def ztN (cr dot : Bool) (n b : Nat) : Nat := if ztE cr dot n b then n else if ztL cr b then 0 else n + 1
set_option maxHeartbeats 4000000 in
set_option maxRecDepth 100000 in
theorem s_TR_endsWith (V : mm_V) {p n : Nat} {L : List Nat} {cr dot : Bool} {b : Nat} {mem : mm_M} {nx : Nat} (h : zTR p L cr dot n mem) (hb : b < 256) (hn : n < 65536) : mm_S V yTR_endsWith cTR_endsWith 4 (some .boolean) 1 0 0 [.ref p, .int (nI b)] mem nx (fun r m x => r = some (.int (zb (ztE cr dot n b))) ∧ nx = x ∧ zTR p (ztRow L cr dot n b) (ztCr cr dot n b) (ztDot cr dot n b) (ztN cr dot n b) m ∧ zsame p (p + 3) mem m) := by
  obtain ⟨hm, hr⟩ := id h
  refine mm_met (by decide) (Nat.le_of_ble_eq_true rfl) ?_
  intro X hc he hnm
  have J134 : ∀ (m9 : mm_M), ztE cr dot n b = false → zTR p (if ztF n b then L else (L ++ [b]).take 202) (if ztL cr b then false else b == 13) (if ztL cr b then false else dot || ztF n b) (if ztL cr b then 0 else n + 1) m9 → zsame p (p + 3) mem m9 → mm_G V X 4 134 [(0, .ref p), (1, .int (nI b)), (2, .int (zb (ztL cr b))), (3, .int (zb (ztF n b)))] [] m9 nx 0 0 := by
    intro m9 hE ht9 hs9
    refine g_iconst (v := nI 0) (pc := 134) hc dTR_endsWith_134 (by decide) ?_
    exact g_zret (pc := 135) hc he dTR_endsWith_135 rfl (Nat.le_refl _) (Nat.le_refl _) ⟨by rw [hE]; rfl, rfl, by unfold ztRow ztCr ztDot ztN; rw [hE]; exact ht9, hs9⟩
  have J106 : ∀ (m9 : mm_M) (dv : Bool), ztE cr dot n b = false → ztL cr b = false → dv = (dot || ztF n b) → zTR p (if ztF n b then L else (L ++ [b]).take 202) cr dot n m9 → zsame p (p + 3) mem m9 → mm_G V X 4 106 [(0, .ref p), (1, .int (nI b)), (2, .int (zb (ztL cr b))), (3, .int (zb (ztF n b)))] [.int (zb dv), .ref p] m9 nx 0 0 := by
    intro m9 dv hE hl9 edv ht9 hs9
    obtain ⟨hm9, hr9⟩ := ht9
    refine g_put (pc := 106) hc dTR_endsWith_106 x_TR_30 ft_TR rfl hm9 (zb_z _) (zb_f _) (zlt rfl) (fun m1 h1 o1 => ?_)
    refine g_aload_n (pc := 109) hc dTR_endsWith_109 rfl ?_
    refine g_iload_n (pc := 110) hc dTR_endsWith_110 rfl ?_
    refine g_bipush (v := nI 13) (pc := 111) hc dTR_endsWith_111 (by decide) ?_
    refine g_icmp_ne (tgt := 120) (pc := 113) hc dTR_endsWith_113 (by decide) (fun c113 => ?_) (fun c113 => ?_)
    · simp (disch := omega) only [nI_leI, nI_ltI, nI_eq, nI_eq0, nI_lt0, nI_0le, nI_0lt, nI_le0, zb_0] at c113
      have d113 : (b == 13) = false := by simpa using c113
      refine g_iconst (v := nI 0) (pc := 120) hc dTR_endsWith_120 (by decide) ?_
      refine g_put (pc := 121) hc dTR_endsWith_121 x_TR_26 ft_TR rfl h1 rfl rfl (zlt rfl) (fun m2 h2 o2 => ?_)
      refine g_aload_n (pc := 124) hc dTR_endsWith_124 rfl ?_
      refine g_dup (pc := 125) hc dTR_endsWith_125 rfl ?_
      refine g_get (pc := 126) hc dTR_endsWith_126 x_TR_33 h2 (by rfl) ?_
      refine g_iconst (v := nI 1) (pc := 129) hc dTR_endsWith_129 (by decide) ?_
      refine g_iadd (pc := 130) hc dTR_endsWith_130 ?_
      rw [nI_add]
      refine g_put (pc := 131) hc dTR_endsWith_131 x_TR_33 ft_TR rfl h2 rfl rfl (zlt rfl) (fun m3 h3 o3 => ?_)
      refine J134 m3 hE ?_ (fun a h9 => (o3 a (by omega)).trans ((o2 a (by omega)).trans ((o1 a (by omega)).trans (hs9 a h9))))
      rw [hl9]
      refine ⟨?_, hr9.kept ((o3 _ (by omega)).trans ((o2 _ (by omega)).trans (o1 _ (by omega)))) ((o3 _ (by omega)).trans ((o2 _ (by omega)).trans (o1 _ (by omega))))⟩
      rw [h3, d113, ← edv]
      rfl
    · simp (disch := omega) only [nI_leI, nI_ltI, nI_eq, nI_eq0, nI_lt0, nI_0le, nI_0lt, nI_le0, zb_0] at c113
      have d113 : (b == 13) = true := by simpa using c113
      refine g_iconst (v := nI 1) (pc := 116) hc dTR_endsWith_116 (by decide) ?_
      refine g_goto (tgt := 121) (pc := 117) hc dTR_endsWith_117 (by decide) ?_
      refine g_put (pc := 121) hc dTR_endsWith_121 x_TR_26 ft_TR rfl h1 rfl rfl (zlt rfl) (fun m2 h2 o2 => ?_)
      refine g_aload_n (pc := 124) hc dTR_endsWith_124 rfl ?_
      refine g_dup (pc := 125) hc dTR_endsWith_125 rfl ?_
      refine g_get (pc := 126) hc dTR_endsWith_126 x_TR_33 h2 (by rfl) ?_
      refine g_iconst (v := nI 1) (pc := 129) hc dTR_endsWith_129 (by decide) ?_
      refine g_iadd (pc := 130) hc dTR_endsWith_130 ?_
      rw [nI_add]
      refine g_put (pc := 131) hc dTR_endsWith_131 x_TR_33 ft_TR rfl h2 rfl rfl (zlt rfl) (fun m3 h3 o3 => ?_)
      refine J134 m3 hE ?_ (fun a h9 => (o3 a (by omega)).trans ((o2 a (by omega)).trans ((o1 a (by omega)).trans (hs9 a h9))))
      rw [hl9]
      refine ⟨?_, hr9.kept ((o3 _ (by omega)).trans ((o2 _ (by omega)).trans (o1 _ (by omega)))) ((o3 _ (by omega)).trans ((o2 _ (by omega)).trans (o1 _ (by omega))))⟩
      rw [h3, d113, ← edv]
      rfl
  have J78 : ∀ (m9 : mm_M), ztE cr dot n b = false → zTR p (if ztF n b then L else (L ++ [b]).take 202) cr dot n m9 → zsame p (p + 3) mem m9 → mm_G V X 4 78 [(0, .ref p), (1, .int (nI b)), (2, .int (zb (ztL cr b))), (3, .int (zb (ztF n b)))] [] m9 nx 0 0 := by
    intro m9 hE ht9 hs9
    obtain ⟨hm9, hr9⟩ := id ht9
    refine g_iload_n (pc := 78) hc dTR_endsWith_78 rfl ?_
    refine g_if_eq (tgt := 89) (pc := 79) hc dTR_endsWith_79 (by decide) (fun c79 => ?_) (fun c79 => ?_)
    · simp (disch := omega) only [nI_leI, nI_ltI, nI_eq, nI_eq0, nI_lt0, nI_0le, nI_0lt, nI_le0, zb_0] at c79
      refine g_aload_n (pc := 89) hc dTR_endsWith_89 rfl ?_
      refine g_aload_n (pc := 90) hc dTR_endsWith_90 rfl ?_
      refine g_get (pc := 91) hc dTR_endsWith_91 x_TR_30 (by assumption) (by rfl) ?_
      refine g_if_ne (tgt := 101) (pc := 94) hc dTR_endsWith_94 (by decide) (fun c94 => ?_) (fun c94 => ?_)
      · simp (disch := omega) only [nI_leI, nI_ltI, nI_eq, nI_eq0, nI_lt0, nI_0le, nI_0lt, nI_le0, zb_0] at c94
        have hd9 : dot = true := by simpa using c94
        refine g_iconst (v := nI 1) (pc := 101) hc dTR_endsWith_101 (by decide) ?_
        refine g_goto (tgt := 106) (pc := 102) hc dTR_endsWith_102 (by decide) ?_
        exact J106 m9 true hE c79 (by rw [hd9]; rfl) ht9 hs9
      · simp (disch := omega) only [nI_leI, nI_ltI, nI_eq, nI_eq0, nI_lt0, nI_0le, nI_0lt, nI_le0, zb_0] at c94
        refine g_iload_n (pc := 97) hc dTR_endsWith_97 rfl ?_
        refine g_if_eq (tgt := 105) (pc := 98) hc dTR_endsWith_98 (by decide) (fun c98 => ?_) (fun c98 => ?_)
        · simp (disch := omega) only [nI_leI, nI_ltI, nI_eq, nI_eq0, nI_lt0, nI_0le, nI_0lt, nI_le0, zb_0] at c98
          refine g_iconst (v := nI 0) (pc := 105) hc dTR_endsWith_105 (by decide) ?_
          exact J106 m9 false hE c79 (by rw [c94, c98]; rfl) ht9 hs9
        · simp (disch := omega) only [nI_leI, nI_ltI, nI_eq, nI_eq0, nI_lt0, nI_0le, nI_0lt, nI_le0, zb_0] at c98
          have hf9 : ztF n b = true := by simpa using c98
          refine g_iconst (v := nI 1) (pc := 101) hc dTR_endsWith_101 (by decide) ?_
          refine g_goto (tgt := 106) (pc := 102) hc dTR_endsWith_102 (by decide) ?_
          exact J106 m9 true hE c79 (by rw [hf9]; simp) ht9 hs9
    · simp (disch := omega) only [nI_leI, nI_ltI, nI_eq, nI_eq0, nI_lt0, nI_0le, nI_0lt, nI_le0, zb_0] at c79
      have hl9 : ztL cr b = true := by simpa using c79
      refine g_aload_n (pc := 82) hc dTR_endsWith_82 rfl ?_
      refine g_callV (pc := 83) hc dTR_endsWith_83 x_TR_23 (s_TR_startLine V ht9) cl_TR (hm9) (Nat.le_of_ble_eq_true rfl) (Nat.le_of_ble_eq_true rfl) (Nat.le_of_ble_eq_true rfl) (Nat.le_of_ble_eq_true rfl) rfl rfl (Nat.le_of_ble_eq_true rfl) (fun r m x hp => ?_)
      obtain ⟨rfl, rfl, ht2, hs2⟩ := hp
      refine g_goto (tgt := 134) (pc := 86) hc dTR_endsWith_86 (by decide) ?_
      exact J134 _ hE (by rw [hl9]; exact ht2) (fun a h9 => (hs2 a (by omega)).trans (hs9 a h9))
  have J65 : ztE cr dot n b = false → mm_G V X 4 65 [(0, .ref p), (1, .int (nI b)), (2, .int (zb (ztL cr b)))] [.int (zb (ztF n b))] mem nx 0 0 := by
    intro hE
    refine g_istore_n (pc := 65) hc dTR_endsWith_65 (by decide) rfl ?_
    refine g_iload_n (pc := 66) hc dTR_endsWith_66 rfl ?_
    refine g_if_ne (tgt := 78) (pc := 67) hc dTR_endsWith_67 (by decide) (fun c67 => ?_) (fun c67 => ?_)
    · simp (disch := omega) only [nI_leI, nI_ltI, nI_eq, nI_eq0, nI_lt0, nI_0le, nI_0lt, nI_le0, zb_0] at c67
      have hf9 : ztF n b = true := by simpa using c67
      refine g_lv (lv' := [(0, .ref p), (1, .int (nI b)), (2, .int (zb (ztL cr b))), (3, .int (zb (ztF n b)))]) ⟨rfl, rfl, rfl, rfl, trivial⟩ ?_
      exact J78 mem hE (by rw [hf9]; exact h) zsame.rf
    · simp (disch := omega) only [nI_leI, nI_ltI, nI_eq, nI_eq0, nI_lt0, nI_0le, nI_0lt, nI_le0, zb_0] at c67
      refine g_aload_n (pc := 70) hc dTR_endsWith_70 rfl ?_
      refine g_get (pc := 71) hc dTR_endsWith_71 x_TR_14 (by assumption) (by rfl) ?_
      refine g_iload_n (pc := 74) hc dTR_endsWith_74 rfl ?_
      refine g_callV (pc := 75) hc dTR_endsWith_75 x_TR_40 (s_Row_add V hr hb) cl_Row (hr.obj) (Nat.le_of_ble_eq_true rfl) (Nat.le_of_ble_eq_true rfl) (Nat.le_of_ble_eq_true rfl) (Nat.le_of_ble_eq_true rfl) rfl rfl (Nat.le_of_ble_eq_true rfl) (fun r m x hp => ?_)
      obtain ⟨rfl, rfl, hr1, hs1⟩ := hp
      refine g_lv (lv' := [(0, .ref p), (1, .int (nI b)), (2, .int (zb (ztL cr b))), (3, .int (zb (ztF n b)))]) ⟨rfl, rfl, rfl, rfl, trivial⟩ ?_
      exact J78 _ hE (by rw [c67]; exact ⟨(hs1 p (by omega)).trans hm, hr1⟩) (hs1.wide (by omega) (by omega))
  have J47 : ztE cr dot n b = false → mm_G V X 4 47 [(0, .ref p), (1, .int (nI b)), (2, .int (zb (ztL cr b)))] [] mem nx 0 0 := by
    intro hE
    refine g_aload_n (pc := 47) hc dTR_endsWith_47 rfl ?_
    refine g_get (pc := 48) hc dTR_endsWith_48 x_TR_33 (by assumption) (by rfl) ?_
    refine g_if_ne (tgt := 64) (pc := 51) hc dTR_endsWith_51 (by decide) (fun c51 => ?_) (fun c51 => ?_)
    · simp (disch := omega) only [nI_leI, nI_ltI, nI_eq, nI_eq0, nI_lt0, nI_0le, nI_0lt, nI_le0, zb_0] at c51
      have hf9 : ztF n b = false := by simp [ztF, c51]
      refine g_iconst (v := nI 0) (pc := 64) hc dTR_endsWith_64 (by decide) ?_
      have j := J65 hE
      rw [hf9] at j
      exact j
    · simp (disch := omega) only [nI_leI, nI_ltI, nI_eq, nI_eq0, nI_lt0, nI_0le, nI_0lt, nI_le0, zb_0] at c51
      refine g_iload_n (pc := 54) hc dTR_endsWith_54 rfl ?_
      refine g_bipush (v := nI 46) (pc := 55) hc dTR_endsWith_55 (by decide) ?_
      refine g_icmp_ne (tgt := 64) (pc := 57) hc dTR_endsWith_57 (by decide) (fun c57 => ?_) (fun c57 => ?_)
      · simp (disch := omega) only [nI_leI, nI_ltI, nI_eq, nI_eq0, nI_lt0, nI_0le, nI_0lt, nI_le0, zb_0] at c57
        have hf9 : ztF n b = false := by simp [ztF, c57]
        refine g_iconst (v := nI 0) (pc := 64) hc dTR_endsWith_64 (by decide) ?_
        have j := J65 hE
        rw [hf9] at j
        exact j
      · simp (disch := omega) only [nI_leI, nI_ltI, nI_eq, nI_eq0, nI_lt0, nI_0le, nI_0lt, nI_le0, zb_0] at c57
        have hf9 : ztF n b = true := by simp [ztF, c51, c57]
        refine g_iconst (v := nI 1) (pc := 60) hc dTR_endsWith_60 (by decide) ?_
        refine g_goto (tgt := 65) (pc := 61) hc dTR_endsWith_61 (by decide) ?_
        have j := J65 hE
        rw [hf9] at j
        exact j
  have J18 : mm_G V X 4 18 [(0, .ref p), (1, .int (nI b))] [.int (zb (ztL cr b))] mem nx 0 0 := by
    refine g_istore_n (pc := 18) hc dTR_endsWith_18 (by decide) rfl ?_
    refine g_iload_n (pc := 19) hc dTR_endsWith_19 rfl ?_
    refine g_if_eq (tgt := 47) (pc := 20) hc dTR_endsWith_20 (by decide) (fun c20 => ?_) (fun c20 => ?_)
    · simp (disch := omega) only [nI_leI, nI_ltI, nI_eq, nI_eq0, nI_lt0, nI_0le, nI_0lt, nI_le0, zb_0] at c20
      have hE : ztE cr dot n b = false := by simp [ztE, c20]
      refine g_lv (lv' := [(0, .ref p), (1, .int (nI b)), (2, .int (zb (ztL cr b)))]) ⟨rfl, rfl, rfl, trivial⟩ ?_
      exact J47 hE
    · simp (disch := omega) only [nI_leI, nI_ltI, nI_eq, nI_eq0, nI_lt0, nI_0le, nI_0lt, nI_le0, zb_0] at c20
      have hl9 : ztL cr b = true := by simpa using c20
      refine g_aload_n (pc := 23) hc dTR_endsWith_23 rfl ?_
      refine g_get (pc := 24) hc dTR_endsWith_24 x_TR_30 (by assumption) (by rfl) ?_
      refine g_if_eq (tgt := 47) (pc := 27) hc dTR_endsWith_27 (by decide) (fun c27 => ?_) (fun c27 => ?_)
      · simp (disch := omega) only [nI_leI, nI_ltI, nI_eq, nI_eq0, nI_lt0, nI_0le, nI_0lt, nI_le0, zb_0] at c27
        have hE : ztE cr dot n b = false := by simp [ztE, c27]
        refine g_lv (lv' := [(0, .ref p), (1, .int (nI b)), (2, .int (zb (ztL cr b)))]) ⟨rfl, rfl, rfl, trivial⟩ ?_
        exact J47 hE
      · simp (disch := omega) only [nI_leI, nI_ltI, nI_eq, nI_eq0, nI_lt0, nI_0le, nI_0lt, nI_le0, zb_0] at c27
        have hd9 : dot = true := by simpa using c27
        refine g_aload_n (pc := 30) hc dTR_endsWith_30 rfl ?_
        refine g_get (pc := 31) hc dTR_endsWith_31 x_TR_33 (by assumption) (by rfl) ?_
        refine g_iconst (v := nI 2) (pc := 34) hc dTR_endsWith_34 (by decide) ?_
        refine g_icmp_ne (tgt := 47) (pc := 35) hc dTR_endsWith_35 (by decide) (fun c35 => ?_) (fun c35 => ?_)
        · simp (disch := omega) only [nI_leI, nI_ltI, nI_eq, nI_eq0, nI_lt0, nI_0le, nI_0lt, nI_le0, zb_0] at c35
          have hE : ztE cr dot n b = false := by simp [ztE, c35]
          refine g_lv (lv' := [(0, .ref p), (1, .int (nI b)), (2, .int (zb (ztL cr b)))]) ⟨rfl, rfl, rfl, trivial⟩ ?_
          exact J47 hE
        · simp (disch := omega) only [nI_leI, nI_ltI, nI_eq, nI_eq0, nI_lt0, nI_0le, nI_0lt, nI_le0, zb_0] at c35
          have hE : ztE cr dot n b = true := by simp [ztE, hl9, hd9, c35]
          refine g_aload_n (pc := 38) hc dTR_endsWith_38 rfl ?_
          refine g_get (pc := 39) hc dTR_endsWith_39 x_TR_14 (by assumption) (by rfl) ?_
          refine g_callV (pc := 42) hc dTR_endsWith_42 x_TR_37 (s_Row_dropLast V hr) cl_Row (hr.obj) (Nat.le_of_ble_eq_true rfl) (Nat.le_of_ble_eq_true rfl) (Nat.le_of_ble_eq_true rfl) (Nat.le_of_ble_eq_true rfl) rfl rfl (Nat.le_of_ble_eq_true rfl) (fun r m x hp => ?_)
          obtain ⟨rfl, rfl, hr1, hs1⟩ := hp
          refine g_iconst (v := nI 1) (pc := 45) hc dTR_endsWith_45 (by decide) ?_
          exact g_zret (pc := 46) hc he dTR_endsWith_46 rfl (Nat.le_refl _) (Nat.le_refl _) ⟨by rw [hE]; rfl, rfl, by unfold ztRow ztCr ztDot ztN; rw [hE]; exact ⟨(hs1 p (by omega)).trans hm, hr1⟩, hs1.wide (by omega) (by omega)⟩
  refine g_iload_n (pc := 0) hc dTR_endsWith_0 rfl ?_
  refine g_bipush (v := nI 10) (pc := 1) hc dTR_endsWith_1 (by decide) ?_
  refine g_icmp_ne (tgt := 17) (pc := 3) hc dTR_endsWith_3 (by decide) (fun c3 => ?_) (fun c3 => ?_)
  · simp (disch := omega) only [nI_leI, nI_ltI, nI_eq, nI_eq0, nI_lt0, nI_0le, nI_0lt, nI_le0, zb_0] at c3
    have hl9 : ztL cr b = false := by simp [ztL, c3]
    refine g_iconst (v := nI 0) (pc := 17) hc dTR_endsWith_17 (by decide) ?_
    rw [hl9] at J18
    exact J18
  · simp (disch := omega) only [nI_leI, nI_ltI, nI_eq, nI_eq0, nI_lt0, nI_0le, nI_0lt, nI_le0, zb_0] at c3
    refine g_aload_n (pc := 6) hc dTR_endsWith_6 rfl ?_
    refine g_get (pc := 7) hc dTR_endsWith_7 x_TR_26 (by assumption) (by rfl) ?_
    refine g_if_eq (tgt := 17) (pc := 10) hc dTR_endsWith_10 (by decide) (fun c10 => ?_) (fun c10 => ?_)
    · simp (disch := omega) only [nI_leI, nI_ltI, nI_eq, nI_eq0, nI_lt0, nI_0le, nI_0lt, nI_le0, zb_0] at c10
      have hl9 : ztL cr b = false := by simp [ztL, c10]
      refine g_iconst (v := nI 0) (pc := 17) hc dTR_endsWith_17 (by decide) ?_
      rw [hl9] at J18
      exact J18
    · simp (disch := omega) only [nI_leI, nI_ltI, nI_eq, nI_eq0, nI_lt0, nI_0le, nI_0lt, nI_le0, zb_0] at c10
      have hl9 : ztL cr b = true := by simp at c10; simp [ztL, c3, c10]
      refine g_iconst (v := nI 1) (pc := 13) hc dTR_endsWith_13 (by decide) ?_
      refine g_goto (tgt := 18) (pc := 14) hc dTR_endsWith_14 (by decide) ?_
      rw [hl9] at J18
      exact J18
set_option maxHeartbeats 4000000 in
set_option maxRecDepth 100000 in
theorem s_TR_init (V : mm_V) {p : Nat} {mem : mm_M} {nx : Nat} (hm : mem p = some (.inr (kTR, [.null, .int 0, .int 0, .int 0]))) (hnx : nx = p + 1) : mm_S V yTR_init cTR_init 1 none 2 2 204 [.ref p] mem nx (fun r m x => r = none ∧ x = p + 3 ∧ zTR p [] false false 0 m ∧ zsame p (p + 3) mem m) := by
  refine mm_met (by decide) (Nat.le_of_ble_eq_true rfl) ?_
  intro X hc he hnm
  refine g_aload_n (pc := 0) hc dTR_init_0 rfl ?_
  refine g_objInit (pc := 1) hc dTR_init_1 x_TR_3 (by decide) (Nat.le_of_ble_eq_true rfl) ?_
  refine g_aload_n (pc := 4) hc dTR_init_4 rfl ?_
  refine g_new (pc := 5) (fs := [.null, .int 0]) hc dTR_init_5 cl_Row in_Row xn_TR_9 ft_Row (fun j hj => by rcases (show j = 0 ∨ j = 1 by omega) with rfl | rfl <;> rfl) (by decide) (by decide) (fun m1 h1 o1 => ?_)
  subst hnx
  have hm1 := (o1 p (by omega)).trans hm
  refine g_dup (pc := 8) hc dTR_init_8 rfl ?_
  refine g_sipush (v := nI 202) (pc := 9) hc dTR_init_9 (by decide) ?_
  refine g_callI (pc := 12) hc dTR_init_12 x_TR_11 (s_Row_init V h1 rfl (by decide)) (Nat.le_of_ble_eq_true rfl) (Nat.le_of_ble_eq_true rfl) (Nat.le_of_ble_eq_true rfl) (Nat.le_of_ble_eq_true rfl) rfl rfl (Nat.le_of_ble_eq_true rfl) (fun r m x hp => ?_)
  obtain ⟨rfl, rfl, hr2, hs2⟩ := hp
  have hm2 := (hs2 p (by omega)).trans hm1
  refine g_putF (pc := 15) hc dTR_init_15 hnm x_TR_14 ft_TR rfl rfl hm2 rfl rfl (zlt rfl) (fun m3 h3 o3 => ?_)
  exact g_vret (pc := 18) hc he dTR_init_18 (Nat.le_refl _) (Nat.le_refl _) ⟨rfl, rfl, ⟨h3, hr2.kept (o3 _ (by omega)) (o3 _ (by omega))⟩, fun a h9 => (o3 a (by omega)).trans ((hs2 a (by omega)).trans (o1 a (by omega)))⟩
