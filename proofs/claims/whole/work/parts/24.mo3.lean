set_option maxHeartbeats 4000000 in
set_option maxRecDepth 100000 in
theorem s_Mo_path (V : mm_V) {y sz la il ss rc : Nat} {th gr hs ln pt : Bool} {fi av be : Int32} {L A : List Nat} {E : zEv} {Ms : List zMsg} {k : Nat} {mem : mm_M} {nx : Nat} (h : zK y th gr hs ln sz la il pt ss rc fi av be L A E Ms mem) (hLb : ∀ b ∈ L, b < 256) (hL2 : L.length ≤ 200) (hk : k < 65536) : mm_S V yMo_path cMo_path 3 (some .int) 4 0 0 [.ref y, .int (nI k), .int (nI L.length)] mem nx (fun r m x => ∃ (fi' av' be' : Int32), r = some (.int (zoI (zpp (zs t_lm) (zs t_dm) L k))) ∧ nx = x ∧ zK y th gr hs ln sz la il pt ss rc fi' av' be' L A E Ms m ∧ zsame y (y + 13) mem m ∧ ∀ e, zpp (zs t_lm) (zs t_dm) L k = some e → fi' = nI (k + 1) ∧ be' = nI (e - 1) ∧ ∀ a, znE (zs t_lm) L (k + 1) 40 = some a → av' = nI a) := by
  obtain ⟨hm, hT⟩ := id h
  obtain ⟨hL, hS, hR, hRs, hA, hMs, hW⟩ := id hT
  refine mm_met (by decide) (Nat.le_of_ble_eq_true rfl) ?_
  intro X hc he hnm
  obtain ⟨f, ha, hle, hf⟩ := id hL
  refine g_iload_n (pc := 0) hc dMo_path_0 rfl ?_
  refine g_iload_n (pc := 1) hc dMo_path_1 rfl ?_
  refine g_icmp_ge (tgt := 16) (pc := 2) hc dMo_path_2 (by decide) (fun c2 => ?_) (fun c2 => ?_)
  · simp (disch := omega) only [nI_leI, nI_ltI, nI_eq, nI_eq0, nI_lt0, nI_0le, nI_0lt, nI_le0, zb_0] at c2
    refine g_iconst (v := -1) (pc := 16) hc dMo_path_16 (by decide) ?_
    have ez : zpp (zs t_lm) (zs t_dm) L k = none := by rw [zpp, if_neg (by rw [zgetD_out (by omega)]; decide)]
    exact g_iret (pc := 17) hc he dMo_path_17 (Nat.le_refl _) (Nat.le_refl _) ⟨fi, av, be, by rw [ez]; rfl, rfl, h, zsame.rf, fun e q => by rw [ez] at q; cases q⟩
  · simp (disch := omega) only [nI_leI, nI_ltI, nI_eq, nI_eq0, nI_lt0, nI_0le, nI_0lt, nI_le0, zb_0] at c2
    refine g_aload_n (pc := 5) hc dMo_path_5 rfl ?_
    refine g_get (pc := 6) hc dMo_path_6 x_Mo_13 (by assumption) (by rfl) ?_
    refine g_iload_n (pc := 9) hc dMo_path_9 rfl ?_
    refine g_iald (pc := 10) (t := kI) hc dMo_path_10 rfl ha (vp_in_nI (show k < 210 by omega) (by decide)) ?_
    rw [nI_clamp (by omega), hf _ (by omega)]
    have hb9 : L.getD k 0 < 256 := hLb _ (zmem_getD (by omega))
    refine g_bipush (v := nI 60) (pc := 11) hc dMo_path_11 (by decide) ?_
    refine g_icmp_eq (tgt := 18) (pc := 13) hc dMo_path_13 (by decide) (fun c13 => ?_) (fun c13 => ?_)
    · simp (disch := omega) only [nI_leI, nI_ltI, nI_eq, nI_eq0, nI_lt0, nI_0le, nI_0lt, nI_le0, zb_0] at c13
      refine g_aload_n (pc := 18) hc dMo_path_18 rfl ?_
      refine g_iload_n (pc := 19) hc dMo_path_19 rfl ?_
      refine g_iconst (v := nI 1) (pc := 20) hc dMo_path_20 (by decide) ?_
      refine g_iadd (pc := 21) hc dMo_path_21 ?_
      rw [nI_add]
      refine g_put (pc := 22) hc dMo_path_22 x_Mo_122 ft_Mo rfl hm rfl rfl (zlt rfl) (fun m1 h10 o1 => ?_)
      have h1 : m1 y = some (.inr (kMo, fMo y th gr hs ln sz la il pt ss rc (nI (k + 1)) av be A.length Ms.length)) := h10
      have hK1 : zK y th gr hs ln sz la il pt ss rc (nI (k + 1)) av be L A E Ms m1 := ⟨h1, hT.kpt o1⟩
      refine g_aload_n (pc := 25) hc dMo_path_25 rfl ?_
      refine g_aload_n (pc := 26) hc dMo_path_26 rfl ?_
      refine g_aload_n (pc := 27) hc dMo_path_27 rfl ?_
      refine g_get (pc := 28) hc dMo_path_28 x_Mo_122 h1 (by rfl) ?_
      refine g_iload_n (pc := 31) hc dMo_path_31 rfl ?_
      refine g_bipush (v := nI 40) (pc := 32) hc dMo_path_32 (by decide) ?_
      refine g_iconst (v := nI 1) (pc := 34) hc dMo_path_34 (by decide) ?_
      refine g_callV (pc := 35) hc dMo_path_35 x_Mo_125 (s_Mo_dotted V (lo := true) (k := k + 1) (most := 40) hK1 hLb hL2 (by omega) (by decide)) cl_Mo (hK1.1) (Nat.le_of_ble_eq_true rfl) (Nat.le_of_ble_eq_true rfl) (Nat.le_of_ble_eq_true rfl) (Nat.le_of_ble_eq_true rfl) rfl rfl (Nat.le_of_ble_eq_true rfl) (fun r m x hp => ?_)
      have hp : r = some (.int (zoI (znE (zs t_lm) L (k + 1) 40))) ∧ m1 = m ∧ nx = x := hp
      obtain ⟨rfl, rfl, rfl⟩ := hp
      rcases e9 : znE (zs t_lm) L (k + 1) 40 with _ | a
      · rw [show zoI none = -1 from rfl]
        refine g_put (pc := 38) hc dMo_path_38 x_Mo_129 ft_Mo rfl h1 rfl rfl (zlt rfl) (fun m2 h20 o2 => ?_)
        have h2 : m2 y = some (.inr (kMo, fMo y th gr hs ln sz la il pt ss rc (nI (k + 1)) (-1) be A.length Ms.length)) := h20
        refine g_aload_n (pc := 41) hc dMo_path_41 rfl ?_
        refine g_get (pc := 42) hc dMo_path_42 x_Mo_129 h2 (by rfl) ?_
        refine g_if_lt (tgt := 70) (pc := 45) hc dMo_path_45 (by decide) (fun _ => ?_) (fun c45 => absurd (by decide) c45)
        refine g_iconst (v := -1) (pc := 70) hc dMo_path_70 (by decide) ?_
        have ez : zpp (zs t_lm) (zs t_dm) L k = none := by rw [zpp, if_pos c13, e9]
        exact g_iret (pc := 71) hc he dMo_path_71 (Nat.le_refl _) (Nat.le_refl _) ⟨nI (k + 1), -1, be, by rw [ez]; rfl, rfl, ⟨h2, (hT.kpt o1).kpt o2⟩, fun a9 q9 => (o2 a9 (by omega)).trans (o1 a9 (by omega)), fun e q => by rw [ez] at q; cases q⟩
      · rw [show zoI (some a) = nI a from rfl]
        have q9 := znE_lt e9
        refine g_put (pc := 38) hc dMo_path_38 x_Mo_129 ft_Mo rfl h1 rfl rfl (zlt rfl) (fun m2 h20 o2 => ?_)
        have h2 : m2 y = some (.inr (kMo, fMo y th gr hs ln sz la il pt ss rc (nI (k + 1)) (nI a) be A.length Ms.length)) := h20
        have hK2 : zK y th gr hs ln sz la il pt ss rc (nI (k + 1)) (nI a) be L A E Ms m2 := ⟨h2, (hT.kpt o1).kpt o2⟩
        refine g_aload_n (pc := 41) hc dMo_path_41 rfl ?_
        refine g_get (pc := 42) hc dMo_path_42 x_Mo_129 h2 (by rfl) ?_
        refine g_if_lt (tgt := 70) (pc := 45) hc dMo_path_45 (by decide) (fun c45 => absurd c45 (nI_pos (by omega))) (fun _ => ?_)
        refine g_aload_n (pc := 48) hc dMo_path_48 rfl ?_
        refine g_get (pc := 49) hc dMo_path_49 x_Mo_129 h2 (by rfl) ?_
        refine g_iload_n (pc := 52) hc dMo_path_52 rfl ?_
        refine g_icmp_ge (tgt := 70) (pc := 53) hc dMo_path_53 (by decide) (fun c53 => ?_) (fun c53 => ?_)
        · simp (disch := omega) only [nI_leI, nI_ltI, nI_eq, nI_eq0, nI_lt0, nI_0le, nI_0lt, nI_le0, zb_0] at c53
          refine g_iconst (v := -1) (pc := 70) hc dMo_path_70 (by decide) ?_
          have ez : zpp (zs t_lm) (zs t_dm) L k = none := by rw [zpp, if_pos c13, e9]; simp only []; rw [if_neg (by rw [zgetD_out (by omega)]; decide)]
          exact g_iret (pc := 71) hc he dMo_path_71 (Nat.le_refl _) (Nat.le_refl _) ⟨nI (k + 1), nI a, be, by rw [ez]; rfl, rfl, hK2, fun a9 q9 => (o2 a9 (by omega)).trans (o1 a9 (by omega)), fun e q => by rw [ez] at q; cases q⟩
        · simp (disch := omega) only [nI_leI, nI_ltI, nI_eq, nI_eq0, nI_lt0, nI_0le, nI_0lt, nI_le0, zb_0] at c53
          refine g_aload_n (pc := 56) hc dMo_path_56 rfl ?_
          refine g_get (pc := 57) hc dMo_path_57 x_Mo_13 h2 (by rfl) ?_
          refine g_aload_n (pc := 60) hc dMo_path_60 rfl ?_
          refine g_get (pc := 61) hc dMo_path_61 x_Mo_129 h2 (by rfl) ?_
          have ha2 := (o2 (y + 1) (by omega)).trans ((o1 (y + 1) (by omega)).trans ha)
          refine g_iald (pc := 64) (t := kI) hc dMo_path_64 rfl ha2 (vp_in_nI (show a < 210 by omega) (by decide)) ?_
          rw [nI_clamp (by omega), hf _ (by omega)]
          have hb8 : L.getD a 0 < 256 := hLb _ (zmem_getD (by omega))
          refine g_bipush (v := nI 64) (pc := 65) hc dMo_path_65 (by decide) ?_
          refine g_icmp_eq (tgt := 72) (pc := 67) hc dMo_path_67 (by decide) (fun c67 => ?_) (fun c67 => ?_)
          · simp (disch := omega) only [nI_leI, nI_ltI, nI_eq, nI_eq0, nI_lt0, nI_0le, nI_0lt, nI_le0, zb_0] at c67
            refine g_aload_n (pc := 72) hc dMo_path_72 rfl ?_
            refine g_aload_n (pc := 73) hc dMo_path_73 rfl ?_
            refine g_aload_n (pc := 74) hc dMo_path_74 rfl ?_
            refine g_get (pc := 75) hc dMo_path_75 x_Mo_129 h2 (by rfl) ?_
            refine g_iconst (v := nI 1) (pc := 78) hc dMo_path_78 (by decide) ?_
            refine g_iadd (pc := 79) hc dMo_path_79 ?_
            rw [nI_add]
            refine g_iload_n (pc := 80) hc dMo_path_80 rfl ?_
            refine g_bipush (v := nI 60) (pc := 81) hc dMo_path_81 (by decide) ?_
            refine g_iconst (v := nI 0) (pc := 83) hc dMo_path_83 (by decide) ?_
            refine g_callV (pc := 84) hc dMo_path_84 x_Mo_125 (s_Mo_dotted V (lo := false) (k := a + 1) (most := 60) hK2 hLb hL2 (by omega) (by decide)) cl_Mo (hK2.1) (Nat.le_of_ble_eq_true rfl) (Nat.le_of_ble_eq_true rfl) (Nat.le_of_ble_eq_true rfl) (Nat.le_of_ble_eq_true rfl) rfl rfl (Nat.le_of_ble_eq_true rfl) (fun r m x hp => ?_)
            have hp : r = some (.int (zoI (znE (zs t_dm) L (a + 1) 60))) ∧ m2 = m ∧ nx = x := hp
            obtain ⟨rfl, rfl, rfl⟩ := hp
            rcases e8 : znE (zs t_dm) L (a + 1) 60 with _ | c
            · rw [show zoI none = -1 from rfl]
              refine g_put (pc := 87) hc dMo_path_87 x_Mo_132 ft_Mo rfl h2 rfl rfl (zlt rfl) (fun m3 h30 o3 => ?_)
              have h3 : m3 y = some (.inr (kMo, fMo y th gr hs ln sz la il pt ss rc (nI (k + 1)) (nI a) (-1) A.length Ms.length)) := h30
              refine g_aload_n (pc := 90) hc dMo_path_90 rfl ?_
              refine g_get (pc := 91) hc dMo_path_91 x_Mo_132 h3 (by rfl) ?_
              refine g_if_lt (tgt := 119) (pc := 94) hc dMo_path_94 (by decide) (fun _ => ?_) (fun c94 => absurd (by decide) c94)
              refine g_iconst (v := -1) (pc := 119) hc dMo_path_119 (by decide) ?_
              refine g_goto (tgt := 129) (pc := 120) hc dMo_path_120 (by decide) ?_
              have ez : zpp (zs t_lm) (zs t_dm) L k = none := by rw [zpp, if_pos c13, e9]; simp only []; rw [if_pos c67, e8]
              exact g_iret (pc := 129) hc he dMo_path_129 (Nat.le_refl _) (Nat.le_refl _) ⟨nI (k + 1), nI a, -1, by rw [ez]; rfl, rfl, ⟨h3, ((hT.kpt o1).kpt o2).kpt o3⟩, fun a9 q9 => (o3 a9 (by omega)).trans ((o2 a9 (by omega)).trans (o1 a9 (by omega))), fun e q => by rw [ez] at q; cases q⟩
            · rw [show zoI (some c) = nI c from rfl]
              have q8 := znE_lt e8
              refine g_put (pc := 87) hc dMo_path_87 x_Mo_132 ft_Mo rfl h2 rfl rfl (zlt rfl) (fun m3 h30 o3 => ?_)
              have h3 : m3 y = some (.inr (kMo, fMo y th gr hs ln sz la il pt ss rc (nI (k + 1)) (nI a) (nI c) A.length Ms.length)) := h30
              refine g_aload_n (pc := 90) hc dMo_path_90 rfl ?_
              refine g_get (pc := 91) hc dMo_path_91 x_Mo_132 h3 (by rfl) ?_
              refine g_if_lt (tgt := 119) (pc := 94) hc dMo_path_94 (by decide) (fun c94 => absurd c94 (nI_pos (by omega))) (fun _ => ?_)
              refine g_aload_n (pc := 97) hc dMo_path_97 rfl ?_
              refine g_get (pc := 98) hc dMo_path_98 x_Mo_132 h3 (by rfl) ?_
              refine g_iload_n (pc := 101) hc dMo_path_101 rfl ?_
              refine g_icmp_ge (tgt := 119) (pc := 102) hc dMo_path_102 (by decide) (fun c102 => ?_) (fun c102 => ?_)
              · simp (disch := omega) only [nI_leI, nI_ltI, nI_eq, nI_eq0, nI_lt0, nI_0le, nI_0lt, nI_le0, zb_0] at c102
                refine g_iconst (v := -1) (pc := 119) hc dMo_path_119 (by decide) ?_
                refine g_goto (tgt := 129) (pc := 120) hc dMo_path_120 (by decide) ?_
                have ez : zpp (zs t_lm) (zs t_dm) L k = none := by rw [zpp, if_pos c13, e9]; simp only []; rw [if_pos c67, e8]; simp only []; rw [if_neg (by rw [zgetD_out (by omega)]; decide)]
                exact g_iret (pc := 129) hc he dMo_path_129 (Nat.le_refl _) (Nat.le_refl _) ⟨nI (k + 1), nI a, nI c, by rw [ez]; rfl, rfl, ⟨h3, ((hT.kpt o1).kpt o2).kpt o3⟩, fun a9 q9 => (o3 a9 (by omega)).trans ((o2 a9 (by omega)).trans (o1 a9 (by omega))), fun e q => by rw [ez] at q; cases q⟩
              · simp (disch := omega) only [nI_leI, nI_ltI, nI_eq, nI_eq0, nI_lt0, nI_0le, nI_0lt, nI_le0, zb_0] at c102
                refine g_aload_n (pc := 105) hc dMo_path_105 rfl ?_
                refine g_get (pc := 106) hc dMo_path_106 x_Mo_13 h3 (by rfl) ?_
                refine g_aload_n (pc := 109) hc dMo_path_109 rfl ?_
                refine g_get (pc := 110) hc dMo_path_110 x_Mo_132 h3 (by rfl) ?_
                have ha := (o3 (y + 1) (by omega)).trans ((o2 (y + 1) (by omega)).trans ((o1 (y + 1) (by omega)).trans ha))
                refine g_iald (pc := 113) (t := kI) hc dMo_path_113 rfl ha (vp_in_nI (show c < 210 by omega) (by decide)) ?_
                rw [nI_clamp (by omega), hf _ (by omega)]
                have hb7 : L.getD c 0 < 256 := hLb _ (zmem_getD (by omega))
                refine g_bipush (v := nI 62) (pc := 114) hc dMo_path_114 (by decide) ?_
                refine g_icmp_eq (tgt := 123) (pc := 116) hc dMo_path_116 (by decide) (fun c116 => ?_) (fun c116 => ?_)
                · simp (disch := omega) only [nI_leI, nI_ltI, nI_eq, nI_eq0, nI_lt0, nI_0le, nI_0lt, nI_le0, zb_0] at c116
                  refine g_aload_n (pc := 123) hc dMo_path_123 rfl ?_
                  refine g_get (pc := 124) hc dMo_path_124 x_Mo_132 h3 (by rfl) ?_
                  refine g_iconst (v := nI 1) (pc := 127) hc dMo_path_127 (by decide) ?_
                  refine g_iadd (pc := 128) hc dMo_path_128 ?_
                  rw [nI_add]
                  have ez : zpp (zs t_lm) (zs t_dm) L k = some (c + 1) := by rw [zpp, if_pos c13, e9]; simp only []; rw [if_pos c67, e8]; simp only []; rw [if_pos c116]
                  exact g_iret (pc := 129) hc he dMo_path_129 (Nat.le_refl _) (Nat.le_refl _) ⟨nI (k + 1), nI a, nI c, by rw [ez]; rfl, rfl, ⟨h3, ((hT.kpt o1).kpt o2).kpt o3⟩, fun a9 q9 => (o3 a9 (by omega)).trans ((o2 a9 (by omega)).trans (o1 a9 (by omega))), fun e q => by rw [ez] at q; cases q; exact ⟨rfl, rfl, fun a' q' => by rw [e9] at q'; cases q'; rfl⟩⟩
                · simp (disch := omega) only [nI_leI, nI_ltI, nI_eq, nI_eq0, nI_lt0, nI_0le, nI_0lt, nI_le0, zb_0] at c116
                  refine g_iconst (v := -1) (pc := 119) hc dMo_path_119 (by decide) ?_
                  refine g_goto (tgt := 129) (pc := 120) hc dMo_path_120 (by decide) ?_
                  have ez : zpp (zs t_lm) (zs t_dm) L k = none := by rw [zpp, if_pos c13, e9]; simp only []; rw [if_pos c67, e8]; simp only []; rw [if_neg c116]
                  exact g_iret (pc := 129) hc he dMo_path_129 (Nat.le_refl _) (Nat.le_refl _) ⟨nI (k + 1), nI a, nI c, by rw [ez]; rfl, rfl, ⟨h3, ((hT.kpt o1).kpt o2).kpt o3⟩, fun a9 q9 => (o3 a9 (by omega)).trans ((o2 a9 (by omega)).trans (o1 a9 (by omega))), fun e q => by rw [ez] at q; cases q⟩
          · simp (disch := omega) only [nI_leI, nI_ltI, nI_eq, nI_eq0, nI_lt0, nI_0le, nI_0lt, nI_le0, zb_0] at c67
            refine g_iconst (v := -1) (pc := 70) hc dMo_path_70 (by decide) ?_
            have ez : zpp (zs t_lm) (zs t_dm) L k = none := by rw [zpp, if_pos c13, e9]; simp only []; rw [if_neg c67]
            exact g_iret (pc := 71) hc he dMo_path_71 (Nat.le_refl _) (Nat.le_refl _) ⟨nI (k + 1), nI a, be, by rw [ez]; rfl, rfl, hK2, fun a9 q9 => (o2 a9 (by omega)).trans (o1 a9 (by omega)), fun e q => by rw [ez] at q; cases q⟩
    · simp (disch := omega) only [nI_leI, nI_ltI, nI_eq, nI_eq0, nI_lt0, nI_0le, nI_0lt, nI_le0, zb_0] at c13
      refine g_iconst (v := -1) (pc := 16) hc dMo_path_16 (by decide) ?_
      have ez : zpp (zs t_lm) (zs t_dm) L k = none := by rw [zpp, if_neg c13]
      exact g_iret (pc := 17) hc he dMo_path_17 (Nat.le_refl _) (Nat.le_refl _) ⟨fi, av, be, by rw [ez]; rfl, rfl, h, zsame.rf, fun e q => by rw [ez] at q; cases q⟩
def zC (y : Nat) (th gr ln : Bool) (sz la : Nat) (L A : List Nat) (E : zEv) (Ms : List zMsg) (dt : Bool) (m : mm_M) : Prop := ∃ (il : Nat) (pt : Bool) (ss : Nat) (fi av be : Int32), zK y th gr E.2.1 ln sz la il pt ss E.2.2.length fi av be L A E Ms m ∧ (dt = true → il = 0)
theorem zC.of {y sz la il ss : Nat} {th gr ln pt : Bool} {fi av be : Int32} {L A : List Nat} {E : zEv} {Ms : List zMsg} {m : mm_M} (h : zK y th gr E.2.1 ln sz la il pt ss E.2.2.length fi av be L A E Ms m) : zC y th gr ln sz la L A E Ms false m := ⟨il, pt, ss, fi, av, be, h, fun q => by cases q⟩
set_option maxHeartbeats 4000000 in
set_option maxRecDepth 100000 in
theorem s_Mo_greet (V : mm_V) {y sz la il ss : Nat} {th gr ln pt : Bool} {fi av be : Int32} {L A : List Nat} {E : zEv} {Ms : List zMsg} {mem : mm_M} {nx : Nat} (h : zK y th gr E.2.1 ln sz la il pt ss E.2.2.length fi av be L A E Ms mem) (hLb : ∀ b ∈ L, b < 256) (hL2 : L.length ≤ 200) : mm_S V yMo_greet cMo_greet 2 none 4 0 0 [.ref y, .int (nI L.length)] mem nx (fun r m x => r = none ∧ nx = x ∧ zC y th (gr || zgr (zs t_dm) L) ln sz la L (zans A (if zgr (zs t_dm) L then zs t_250h else zs t_501)) (if zgr (zs t_dm) L then ([], false, []) else E) Ms false m ∧ zsame y (y + 13) mem m) := by
  obtain ⟨hm, hT⟩ := id h
  obtain ⟨hL, hS, hR, hRs, hA, hMs, hW⟩ := id hT
  refine mm_met (by decide) (Nat.le_of_ble_eq_true rfl) ?_
  intro X hc he hnm
  obtain ⟨f, ha, hle, hf⟩ := id hL
  have J30 : zgr (zs t_dm) L = false → mm_G V X 2 30 [(0, .ref y)] [] mem nx 0 0 := by
    intro e
    refine g_aload_n (pc := 30) hc dMo_greet_30 rfl ?_
    refine g_callV (pc := 31) hc dMo_greet_31 x_Mo_178 (s_Mo_syntax V h) cl_Mo (h.1) (Nat.le_of_ble_eq_true rfl) (Nat.le_of_ble_eq_true rfl) (Nat.le_of_ble_eq_true rfl) (Nat.le_of_ble_eq_true rfl) rfl rfl (Nat.le_of_ble_eq_true rfl) (fun r m x hp => ?_)
    obtain ⟨rfl, rfl, h1, hs1⟩ := hp
    exact g_vret (pc := 34) hc he dMo_greet_34 (Nat.le_refl _) (Nat.le_refl _) ⟨rfl, rfl, by rw [e, Bool.or_false]; exact zC.of h1, hs1⟩
  refine g_iload_n (pc := 0) hc dMo_greet_0 rfl ?_
  refine g_bipush (v := nI 6) (pc := 1) hc dMo_greet_1 (by decide) ?_
  refine g_icmp_lt (tgt := 30) (pc := 3) hc dMo_greet_3 (by decide) (fun c3 => ?_) (fun c3 => ?_)
  · simp (disch := omega) only [nI_leI, nI_ltI, nI_eq, nI_eq0, nI_lt0, nI_0le, nI_0lt, nI_le0, zb_0] at c3
    refine g_lv (lv' := [(0, .ref y)]) ⟨rfl, trivial⟩ ?_
    exact J30 (by rw [zgr, show znE (zs t_dm) L 5 60 = none by rw [znE, List.drop_eq_nil_iff.mpr (by omega)]; rfl]; simp)
  · simp (disch := omega) only [nI_leI, nI_ltI, nI_eq, nI_eq0, nI_lt0, nI_0le, nI_0lt, nI_le0, zb_0] at c3
    refine g_aload_n (pc := 6) hc dMo_greet_6 rfl ?_
    refine g_get (pc := 7) hc dMo_greet_7 x_Mo_13 (by assumption) (by rfl) ?_
    refine g_iconst (v := nI 4) (pc := 10) hc dMo_greet_10 (by decide) ?_
    refine g_iald (pc := 11) (t := kI) hc dMo_greet_11 rfl ha (vp_in_nI (show 4 < 210 by omega) (by decide)) ?_
    rw [nI_clamp (by omega), hf _ (by omega)]
    have hb9 : L.getD 4 0 < 256 := hLb _ (zmem_getD (by omega))
    refine g_bipush (v := nI 32) (pc := 12) hc dMo_greet_12 (by decide) ?_
    refine g_icmp_ne (tgt := 30) (pc := 14) hc dMo_greet_14 (by decide) (fun c14 => ?_) (fun c14 => ?_)
    · simp (disch := omega) only [nI_leI, nI_ltI, nI_eq, nI_eq0, nI_lt0, nI_0le, nI_0lt, nI_le0, zb_0] at c14
      refine g_lv (lv' := [(0, .ref y)]) ⟨rfl, trivial⟩ ?_
      exact J30 (by rw [zgr, beq_eq_false_iff_ne.mpr c14]; rfl)
    · simp (disch := omega) only [nI_leI, nI_ltI, nI_eq, nI_eq0, nI_lt0, nI_0le, nI_0lt, nI_le0, zb_0] at c14
      refine g_aload_n (pc := 17) hc dMo_greet_17 rfl ?_
      refine g_iconst (v := nI 5) (pc := 18) hc dMo_greet_18 (by decide) ?_
      refine g_iload_n (pc := 19) hc dMo_greet_19 rfl ?_
      refine g_bipush (v := nI 60) (pc := 20) hc dMo_greet_20 (by decide) ?_
      refine g_iconst (v := nI 0) (pc := 22) hc dMo_greet_22 (by decide) ?_
      refine g_callV (pc := 23) hc dMo_greet_23 x_Mo_125 (s_Mo_dotted V (lo := false) (k := 5) (most := 60) h hLb hL2 (by omega) (by decide)) cl_Mo (h.1) (Nat.le_of_ble_eq_true rfl) (Nat.le_of_ble_eq_true rfl) (Nat.le_of_ble_eq_true rfl) (Nat.le_of_ble_eq_true rfl) rfl rfl (Nat.le_of_ble_eq_true rfl) (fun r m x hp => ?_)
      have hp : r = some (.int (zoI (znE (zs t_dm) L 5 60))) ∧ mem = m ∧ nx = x := hp
      obtain ⟨rfl, rfl, rfl⟩ := hp
      have hz : ∀ a, znE (zs t_dm) L 5 60 = some a → a < 2 ^ 31 := fun a e => by have := znE_lt e; omega
      refine g_iload_n (pc := 26) hc dMo_greet_26 rfl ?_
      refine g_icmp_eq (tgt := 35) (pc := 27) hc dMo_greet_27 (by decide) (fun c27 => ?_) (fun c27 => ?_)
      · rw [zoI_eq hz (by omega)] at c27
        refine g_aload_n (pc := 35) hc dMo_greet_35 rfl ?_
        refine g_iconst (v := nI 1) (pc := 36) hc dMo_greet_36 (by decide) ?_
        refine g_put (pc := 37) hc dMo_greet_37 x_Mo_163 ft_Mo rfl hm rfl rfl (zlt rfl) (fun m1 h10 o1 => ?_)
        have h1 : m1 y = some (.inr (kMo, fMo y th true E.2.1 ln sz la il pt ss E.2.2.length fi av be A.length Ms.length)) := h10
        have hK1 : zK y th true E.2.1 ln sz la il pt ss E.2.2.length fi av be L A E Ms m1 := ⟨h1, hT.kpt o1⟩
        refine g_aload_n (pc := 40) hc dMo_greet_40 rfl ?_
        refine g_callV (pc := 41) hc dMo_greet_41 x_Mo_184 (s_Mo_forget V hK1) cl_Mo (hK1.1) (Nat.le_of_ble_eq_true rfl) (Nat.le_of_ble_eq_true rfl) (Nat.le_of_ble_eq_true rfl) (Nat.le_of_ble_eq_true rfl) rfl rfl (Nat.le_of_ble_eq_true rfl) (fun r m x hp => ?_)
        obtain ⟨rfl, rfl, h2, hs2⟩ := hp
        refine g_aload_n (pc := 44) hc dMo_greet_44 rfl ?_
        refine g_ldc2 (pc := 45) hc dMo_greet_45 x_Mo_187 ?_
        refine g_bipush (v := nI 8) (pc := 48) hc dMo_greet_48 (by decide) ?_
        refine g_callV (pc := 50) hc dMo_greet_50 x_Mo_60 (s_Mo_say V (n := 8) h2 (by decide)) cl_Mo (h2.1) (Nat.le_of_ble_eq_true rfl) (Nat.le_of_ble_eq_true rfl) (Nat.le_of_ble_eq_true rfl) (Nat.le_of_ble_eq_true rfl) rfl rfl (Nat.le_of_ble_eq_true rfl) (fun r m x hp => ?_)
        obtain ⟨rfl, rfl, h3, hs3⟩ := hp
        refine g_aload_n (pc := 53) hc dMo_greet_53 rfl ?_
        refine g_callV (pc := 54) hc dMo_greet_54 x_Mo_66 (s_Mo_end V h3) cl_Mo (h3.1) (Nat.le_of_ble_eq_true rfl) (Nat.le_of_ble_eq_true rfl) (Nat.le_of_ble_eq_true rfl) (Nat.le_of_ble_eq_true rfl) rfl rfl (Nat.le_of_ble_eq_true rfl) (fun r m x hp => ?_)
        obtain ⟨rfl, rfl, h4, hs4⟩ := hp
        rw [zans1] at h4
        have eg : zgr (zs t_dm) L = true := by rw [zgr, c14, c27]; simp
        exact g_vret (pc := 57) hc he dMo_greet_57 (Nat.le_refl _) (Nat.le_refl _) ⟨rfl, rfl, by rw [eg, Bool.or_true]; exact zC.of (E := ([], false, [])) h4, fun a q => (hs4 a q).trans ((hs3 a q).trans ((hs2 a q).trans (o1 a (by omega))))⟩
      · rw [zoI_eq hz (by omega)] at c27
        refine g_lv (lv' := [(0, .ref y)]) ⟨rfl, trivial⟩ ?_
        exact J30 (by rw [zgr, beq_eq_false_iff_ne.mpr c27]; simp)
set_option maxHeartbeats 4000000 in
set_option maxRecDepth 100000 in
theorem s_Mo_plain3n (V : mm_V) {y sz la il ss : Nat} {th gr ln pt : Bool} {fi av be : Int32} {L A : List Nat} {E : zEv} {Ms : List zMsg} {mem : mm_M} {nx : Nat} (h : zK y th gr E.2.1 ln sz la il pt ss E.2.2.length fi av be L A E Ms mem) (h0 : E.2.2.length = 0) : mm_S V yMo_plain cMo_plain 2 none 3 0 0 [.ref y, .int (nI 3)] mem nx (fun r m x => r = none ∧ nx = x ∧ zC y th gr ln sz la L (zans A (zs t_503)) E Ms false m ∧ zsame y (y + 13) mem m) := by
  obtain ⟨hm, hT⟩ := id h
  obtain ⟨hL, hS, hR, hRs, hA, hMs, hW⟩ := id hT
  refine mm_met (by decide) (Nat.le_of_ble_eq_true rfl) ?_
  intro X hc he hnm
  refine g_iload_n (pc := 0) hc dMo_plain_0 rfl ?_
  refine g_iconst (v := nI 3) (pc := 1) hc dMo_plain_1 (by decide) ?_
  refine g_icmp_ne (tgt := 17) (pc := 2) hc dMo_plain_2 (by decide) (fun c2 => absurd c2 (fun q => q rfl)) (fun _ => ?_)
  refine g_aload_n (pc := 5) hc dMo_plain_5 rfl ?_
  refine g_get (pc := 6) hc dMo_plain_6 x_Mo_138 (by assumption) (by rfl) ?_
  refine g_if_ne (tgt := 17) (pc := 9) hc dMo_plain_9 (by decide) (fun c9 => absurd c9 (fun q => q (by rw [h0]; rfl))) (fun _ => ?_)
  refine g_aload_n (pc := 12) hc dMo_plain_12 rfl ?_
  refine g_callV (pc := 13) hc dMo_plain_13 x_Mo_166 (s_Mo_order V h) cl_Mo (h.1) (Nat.le_of_ble_eq_true rfl) (Nat.le_of_ble_eq_true rfl) (Nat.le_of_ble_eq_true rfl) (Nat.le_of_ble_eq_true rfl) rfl rfl (Nat.le_of_ble_eq_true rfl) (fun r m x hp => ?_)
  obtain ⟨rfl, rfl, h1, hs1⟩ := hp
  exact g_vret (pc := 16) hc he dMo_plain_16 (Nat.le_refl _) (Nat.le_refl _) ⟨rfl, rfl, zC.of h1, hs1⟩
set_option maxHeartbeats 4000000 in
set_option maxRecDepth 100000 in
theorem s_Mo_plain3 (V : mm_V) {y sz la il ss : Nat} {th gr ln pt : Bool} {fi av be : Int32} {L A : List Nat} {E : zEv} {Ms : List zMsg} {mem : mm_M} {nx : Nat} (h : zK y th gr E.2.1 ln sz la il pt ss E.2.2.length fi av be L A E Ms mem) (h0 : ¬ E.2.2.length = 0) : mm_S V yMo_plain cMo_plain 2 none 3 0 0 [.ref y, .int (nI 3)] mem nx (fun r m x => r = none ∧ nx = x ∧ zC y th gr true sz la L (zans A (zs t_354)) E Ms true m ∧ zsame y (y + 13) mem m) := by
  obtain ⟨hm, hT⟩ := id h
  obtain ⟨hL, hS, hR, hRs, hA, hMs, hW⟩ := id hT
  refine mm_met (by decide) (Nat.le_of_ble_eq_true rfl) ?_
  intro X hc he hnm
  refine g_iload_n (pc := 0) hc dMo_plain_0 rfl ?_
  refine g_iconst (v := nI 3) (pc := 1) hc dMo_plain_1 (by decide) ?_
  refine g_icmp_ne (tgt := 17) (pc := 2) hc dMo_plain_2 (by decide) (fun c2 => absurd c2 (fun q => q rfl)) (fun _ => ?_)
  refine g_aload_n (pc := 5) hc dMo_plain_5 rfl ?_
  refine g_get (pc := 6) hc dMo_plain_6 x_Mo_138 (by assumption) (by rfl) ?_
  refine g_if_ne (tgt := 17) (pc := 9) hc dMo_plain_9 (by decide) (fun _ => ?_) (fun c9 => absurd c9 (by rw [nI_eq0 (by have := hW.2.2.1; omega)]; exact h0))
  refine g_iload_n (pc := 17) hc dMo_plain_17 rfl ?_
  refine g_iconst (v := nI 3) (pc := 18) hc dMo_plain_18 (by decide) ?_
  refine g_icmp_ne (tgt := 44) (pc := 19) hc dMo_plain_19 (by decide) (fun c19 => absurd c19 (fun q => q rfl)) (fun _ => ?_)
  refine g_aload_n (pc := 22) hc dMo_plain_22 rfl ?_
  refine g_iconst (v := nI 1) (pc := 23) hc dMo_plain_23 (by decide) ?_
  refine g_put (pc := 24) hc dMo_plain_24 x_Mo_82 ft_Mo rfl hm rfl rfl (zlt rfl) (fun m1 h10 o1 => ?_)
  have h1 : m1 y = some (.inr (kMo, fMo y th gr E.2.1 true sz la il pt ss E.2.2.length fi av be A.length Ms.length)) := h10
  refine g_aload_n (pc := 27) hc dMo_plain_27 rfl ?_
  refine g_iconst (v := nI 0) (pc := 28) hc dMo_plain_28 (by decide) ?_
  refine g_put (pc := 29) hc dMo_plain_29 x_Mo_99 ft_Mo rfl h1 rfl rfl (zlt rfl) (fun m2 h20 o2 => ?_)
  have h2 : m2 y = some (.inr (kMo, fMo y th gr E.2.1 true sz la 0 pt ss E.2.2.length fi av be A.length Ms.length)) := h20
  have hK2 : zK y th gr E.2.1 true sz la 0 pt ss E.2.2.length fi av be L A E Ms m2 := ⟨h2, (hT.kpt o1).kpt o2⟩
  refine g_aload_n (pc := 32) hc dMo_plain_32 rfl ?_
  refine g_ldc2 (pc := 33) hc dMo_plain_33 x_Mo_224 ?_
  refine g_bipush (v := nI 6) (pc := 36) hc dMo_plain_36 (by decide) ?_
  refine g_callV (pc := 38) hc dMo_plain_38 x_Mo_60 (s_Mo_say V (n := 6) hK2 (by decide)) cl_Mo (hK2.1) (Nat.le_of_ble_eq_true rfl) (Nat.le_of_ble_eq_true rfl) (Nat.le_of_ble_eq_true rfl) (Nat.le_of_ble_eq_true rfl) rfl rfl (Nat.le_of_ble_eq_true rfl) (fun r m x hp => ?_)
  obtain ⟨rfl, rfl, h3, hs3⟩ := hp
  refine g_goto (tgt := 85) (pc := 41) hc dMo_plain_41 (by decide) ?_
  refine g_aload_n (pc := 85) hc dMo_plain_85 rfl ?_
  refine g_callV (pc := 86) hc dMo_plain_86 x_Mo_66 (s_Mo_end V h3) cl_Mo (h3.1) (Nat.le_of_ble_eq_true rfl) (Nat.le_of_ble_eq_true rfl) (Nat.le_of_ble_eq_true rfl) (Nat.le_of_ble_eq_true rfl) rfl rfl (Nat.le_of_ble_eq_true rfl) (fun r m x hp => ?_)
  obtain ⟨rfl, rfl, h4, hs4⟩ := hp
  rw [zans1] at h4
  exact g_vret (pc := 89) hc he dMo_plain_89 (Nat.le_refl _) (Nat.le_refl _) ⟨rfl, rfl, ⟨0, pt, ss, fi, av, be, h4, fun _ => rfl⟩, fun a q => (hs4 a q).trans ((hs3 a q).trans ((o2 a (by omega)).trans (o1 a (by omega))))⟩
set_option maxHeartbeats 4000000 in
set_option maxRecDepth 100000 in
theorem s_Mo_plain6 (V : mm_V) {y sz la il ss : Nat} {th gr ln pt : Bool} {fi av be : Int32} {L A : List Nat} {E : zEv} {Ms : List zMsg} {mem : mm_M} {nx : Nat} (h : zK y th gr E.2.1 ln sz la il pt ss E.2.2.length fi av be L A E Ms mem) : mm_S V yMo_plain cMo_plain 2 none 3 0 0 [.ref y, .int (nI 6)] mem nx (fun r m x => r = none ∧ nx = x ∧ zC y false gr ln sz la L (zans A (zs t_221)) E Ms false m ∧ zsame y (y + 13) mem m) := by
  obtain ⟨hm, hT⟩ := id h
  obtain ⟨hL, hS, hR, hRs, hA, hMs, hW⟩ := id hT
  refine mm_met (by decide) (Nat.le_of_ble_eq_true rfl) ?_
  intro X hc he hnm
  refine g_iload_n (pc := 0) hc dMo_plain_0 rfl ?_
  refine g_iconst (v := nI 3) (pc := 1) hc dMo_plain_1 (by decide) ?_
  refine g_icmp_ne (tgt := 17) (pc := 2) hc dMo_plain_2 (by decide) (fun _ => ?_) (fun c2 => absurd c2 (by decide))
  refine g_iload_n (pc := 17) hc dMo_plain_17 rfl ?_
  refine g_iconst (v := nI 3) (pc := 18) hc dMo_plain_18 (by decide) ?_
  refine g_icmp_ne (tgt := 44) (pc := 19) hc dMo_plain_19 (by decide) (fun _ => ?_) (fun c19 => absurd c19 (by decide))
  refine g_iload_n (pc := 44) hc dMo_plain_44 rfl ?_
  refine g_bipush (v := nI 6) (pc := 45) hc dMo_plain_45 (by decide) ?_
  refine g_icmp_ne (tgt := 67) (pc := 47) hc dMo_plain_47 (by decide) (fun c47 => absurd c47 (fun q => q rfl)) (fun _ => ?_)
  refine g_aload_n (pc := 50) hc dMo_plain_50 rfl ?_
  refine g_iconst (v := nI 0) (pc := 51) hc dMo_plain_51 (by decide) ?_
  refine g_put (pc := 52) hc dMo_plain_52 x_Mo_7 ft_Mo rfl hm rfl rfl (zlt rfl) (fun m1 h10 o1 => ?_)
  have h1 : m1 y = some (.inr (kMo, fMo y false gr E.2.1 ln sz la il pt ss E.2.2.length fi av be A.length Ms.length)) := h10
  have hK2 : zK y false gr E.2.1 ln sz la il pt ss E.2.2.length fi av be L A E Ms m1 := ⟨h1, hT.kpt o1⟩
  refine g_aload_n (pc := 55) hc dMo_plain_55 rfl ?_
  refine g_ldc2 (pc := 56) hc dMo_plain_56 x_Mo_226 ?_
  refine g_bipush (v := nI 7) (pc := 59) hc dMo_plain_59 (by decide) ?_
  refine g_callV (pc := 61) hc dMo_plain_61 x_Mo_60 (s_Mo_say V (n := 7) hK2 (by decide)) cl_Mo (hK2.1) (Nat.le_of_ble_eq_true rfl) (Nat.le_of_ble_eq_true rfl) (Nat.le_of_ble_eq_true rfl) (Nat.le_of_ble_eq_true rfl) rfl rfl (Nat.le_of_ble_eq_true rfl) (fun r m x hp => ?_)
  obtain ⟨rfl, rfl, h3, hs3⟩ := hp
  refine g_goto (tgt := 85) (pc := 64) hc dMo_plain_64 (by decide) ?_
  refine g_aload_n (pc := 85) hc dMo_plain_85 rfl ?_
  refine g_callV (pc := 86) hc dMo_plain_86 x_Mo_66 (s_Mo_end V h3) cl_Mo (h3.1) (Nat.le_of_ble_eq_true rfl) (Nat.le_of_ble_eq_true rfl) (Nat.le_of_ble_eq_true rfl) (Nat.le_of_ble_eq_true rfl) rfl rfl (Nat.le_of_ble_eq_true rfl) (fun r m x hp => ?_)
  obtain ⟨rfl, rfl, h4, hs4⟩ := hp
  rw [zans1] at h4
  exact g_vret (pc := 89) hc he dMo_plain_89 (Nat.le_refl _) (Nat.le_refl _) ⟨rfl, rfl, zC.of h4, fun a q => (hs4 a q).trans ((hs3 a q).trans (o1 a (by omega)))⟩
set_option maxHeartbeats 4000000 in
set_option maxRecDepth 100000 in
theorem s_Mo_plain4 (V : mm_V) {y sz la il ss : Nat} {th gr ln pt : Bool} {fi av be : Int32} {L A : List Nat} {E : zEv} {Ms : List zMsg} {mem : mm_M} {nx : Nat} (h : zK y th gr E.2.1 ln sz la il pt ss E.2.2.length fi av be L A E Ms mem) : mm_S V yMo_plain cMo_plain 2 none 3 0 0 [.ref y, .int (nI 4)] mem nx (fun r m x => r = none ∧ nx = x ∧ zC y th gr ln sz la L (zans A (zs t_250o)) ([], false, []) Ms false m ∧ zsame y (y + 13) mem m) := by
  obtain ⟨hm, hT⟩ := id h
  obtain ⟨hL, hS, hR, hRs, hA, hMs, hW⟩ := id hT
  refine mm_met (by decide) (Nat.le_of_ble_eq_true rfl) ?_
  intro X hc he hnm
  refine g_iload_n (pc := 0) hc dMo_plain_0 rfl ?_
  refine g_iconst (v := nI 3) (pc := 1) hc dMo_plain_1 (by decide) ?_
  refine g_icmp_ne (tgt := 17) (pc := 2) hc dMo_plain_2 (by decide) (fun _ => ?_) (fun c2 => absurd c2 (by decide))
  refine g_iload_n (pc := 17) hc dMo_plain_17 rfl ?_
  refine g_iconst (v := nI 3) (pc := 18) hc dMo_plain_18 (by decide) ?_
  refine g_icmp_ne (tgt := 44) (pc := 19) hc dMo_plain_19 (by decide) (fun _ => ?_) (fun c19 => absurd c19 (by decide))
  refine g_iload_n (pc := 44) hc dMo_plain_44 rfl ?_
  refine g_bipush (v := nI 6) (pc := 45) hc dMo_plain_45 (by decide) ?_
  refine g_icmp_ne (tgt := 67) (pc := 47) hc dMo_plain_47 (by decide) (fun _ => ?_) (fun c47 => absurd c47 (by decide))
  refine g_iload_n (pc := 67) hc dMo_plain_67 rfl ?_
  refine g_iconst (v := nI 4) (pc := 68) hc dMo_plain_68 (by decide) ?_
  refine g_icmp_ne (tgt := 76) (pc := 69) hc dMo_plain_69 (by decide) (fun c69 => absurd c69 (fun q => q rfl)) (fun _ => ?_)
  refine g_aload_n (pc := 72) hc dMo_plain_72 rfl ?_
  refine g_callV (pc := 73) hc dMo_plain_73 x_Mo_184 (s_Mo_forget V h) cl_Mo (h.1) (Nat.le_of_ble_eq_true rfl) (Nat.le_of_ble_eq_true rfl) (Nat.le_of_ble_eq_true rfl) (Nat.le_of_ble_eq_true rfl) rfl rfl (Nat.le_of_ble_eq_true rfl) (fun r m x hp => ?_)
  obtain ⟨rfl, rfl, h2, hs2⟩ := hp
  refine g_aload_n (pc := 76) hc dMo_plain_76 rfl ?_
  refine g_ldc2 (pc := 77) hc dMo_plain_77 x_Mo_228 ?_
  refine g_bipush (v := nI 6) (pc := 80) hc dMo_plain_80 (by decide) ?_
  refine g_callV (pc := 82) hc dMo_plain_82 x_Mo_60 (s_Mo_say V (n := 6) h2 (by decide)) cl_Mo (h2.1) (Nat.le_of_ble_eq_true rfl) (Nat.le_of_ble_eq_true rfl) (Nat.le_of_ble_eq_true rfl) (Nat.le_of_ble_eq_true rfl) rfl rfl (Nat.le_of_ble_eq_true rfl) (fun r m x hp => ?_)
  obtain ⟨rfl, rfl, h3, hs3⟩ := hp
  refine g_aload_n (pc := 85) hc dMo_plain_85 rfl ?_
  refine g_callV (pc := 86) hc dMo_plain_86 x_Mo_66 (s_Mo_end V h3) cl_Mo (h3.1) (Nat.le_of_ble_eq_true rfl) (Nat.le_of_ble_eq_true rfl) (Nat.le_of_ble_eq_true rfl) (Nat.le_of_ble_eq_true rfl) rfl rfl (Nat.le_of_ble_eq_true rfl) (fun r m x hp => ?_)
  obtain ⟨rfl, rfl, h4, hs4⟩ := hp
  rw [zans1] at h4
  exact g_vret (pc := 89) hc he dMo_plain_89 (Nat.le_refl _) (Nat.le_refl _) ⟨rfl, rfl, zC.of (E := ([], false, [])) h4, fun a q => (hs4 a q).trans ((hs3 a q).trans (hs2 a q))⟩
set_option maxHeartbeats 4000000 in
set_option maxRecDepth 100000 in
theorem s_Mo_plain5 (V : mm_V) {y sz la il ss : Nat} {th gr ln pt : Bool} {fi av be : Int32} {L A : List Nat} {E : zEv} {Ms : List zMsg} {mem : mm_M} {nx : Nat} (h : zK y th gr E.2.1 ln sz la il pt ss E.2.2.length fi av be L A E Ms mem) : mm_S V yMo_plain cMo_plain 2 none 3 0 0 [.ref y, .int (nI 5)] mem nx (fun r m x => r = none ∧ nx = x ∧ zC y th gr ln sz la L (zans A (zs t_250o)) E Ms false m ∧ zsame y (y + 13) mem m) := by
  obtain ⟨hm, hT⟩ := id h
  obtain ⟨hL, hS, hR, hRs, hA, hMs, hW⟩ := id hT
  refine mm_met (by decide) (Nat.le_of_ble_eq_true rfl) ?_
  intro X hc he hnm
  refine g_iload_n (pc := 0) hc dMo_plain_0 rfl ?_
  refine g_iconst (v := nI 3) (pc := 1) hc dMo_plain_1 (by decide) ?_
  refine g_icmp_ne (tgt := 17) (pc := 2) hc dMo_plain_2 (by decide) (fun _ => ?_) (fun c2 => absurd c2 (by decide))
  refine g_iload_n (pc := 17) hc dMo_plain_17 rfl ?_
  refine g_iconst (v := nI 3) (pc := 18) hc dMo_plain_18 (by decide) ?_
  refine g_icmp_ne (tgt := 44) (pc := 19) hc dMo_plain_19 (by decide) (fun _ => ?_) (fun c19 => absurd c19 (by decide))
  refine g_iload_n (pc := 44) hc dMo_plain_44 rfl ?_
  refine g_bipush (v := nI 6) (pc := 45) hc dMo_plain_45 (by decide) ?_
  refine g_icmp_ne (tgt := 67) (pc := 47) hc dMo_plain_47 (by decide) (fun _ => ?_) (fun c47 => absurd c47 (by decide))
  refine g_iload_n (pc := 67) hc dMo_plain_67 rfl ?_
  refine g_iconst (v := nI 4) (pc := 68) hc dMo_plain_68 (by decide) ?_
  refine g_icmp_ne (tgt := 76) (pc := 69) hc dMo_plain_69 (by decide) (fun _ => ?_) (fun c69 => absurd c69 (by decide))
  refine g_aload_n (pc := 76) hc dMo_plain_76 rfl ?_
  refine g_ldc2 (pc := 77) hc dMo_plain_77 x_Mo_228 ?_
  refine g_bipush (v := nI 6) (pc := 80) hc dMo_plain_80 (by decide) ?_
  refine g_callV (pc := 82) hc dMo_plain_82 x_Mo_60 (s_Mo_say V (n := 6) h (by decide)) cl_Mo (h.1) (Nat.le_of_ble_eq_true rfl) (Nat.le_of_ble_eq_true rfl) (Nat.le_of_ble_eq_true rfl) (Nat.le_of_ble_eq_true rfl) rfl rfl (Nat.le_of_ble_eq_true rfl) (fun r m x hp => ?_)
  obtain ⟨rfl, rfl, h3, hs3⟩ := hp
  refine g_aload_n (pc := 85) hc dMo_plain_85 rfl ?_
  refine g_callV (pc := 86) hc dMo_plain_86 x_Mo_66 (s_Mo_end V h3) cl_Mo (h3.1) (Nat.le_of_ble_eq_true rfl) (Nat.le_of_ble_eq_true rfl) (Nat.le_of_ble_eq_true rfl) (Nat.le_of_ble_eq_true rfl) rfl rfl (Nat.le_of_ble_eq_true rfl) (fun r m x hp => ?_)
  obtain ⟨rfl, rfl, h4, hs4⟩ := hp
  rw [zans1] at h4
  exact g_vret (pc := 89) hc he dMo_plain_89 (Nat.le_refl _) (Nat.le_refl _) ⟨rfl, rfl, zC.of h4, fun a q => (hs4 a q).trans (hs3 a q)⟩
