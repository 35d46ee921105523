set_option maxHeartbeats 4000000 in
set_option maxRecDepth 100000 in
theorem s_Mo_received (V : mm_V) {y sz la il ss : Nat} {th gr ln pt : Bool} {fi av be : Int32} {L A : List Nat} {E : zEv} {Ms : List zMsg} {mem : mm_M} {nx : Nat} (h : zK y th gr E.2.1 ln sz la il pt ss E.2.2.length fi av be L A E Ms mem) (hLb : ∀ b ∈ L, b < 256) (hL2 : L.length ≤ 100) : mm_S V yMo_received cMo_received 4 none 5 0 0 [.ref y, .int (nI L.length)] mem nx (fun r m x => r = none ∧ nx = x ∧ zC y th gr ln sz la L (zans A (zrR E L).1) ((zrR E L).2) Ms false m ∧ zsame y (y + 13) mem m) := by
  obtain ⟨hm, hT⟩ := id h
  obtain ⟨hL, hS, hR, hRs, hA, hMs, hW⟩ := id hT
  refine mm_met (by decide) (Nat.le_of_ble_eq_true rfl) ?_
  intro X hc he hnm
  obtain ⟨f, ha, hle, hf⟩ := id hL
  have lrt : (zs t_rt).length = 8 := rfl
  have erx : zpe (zs t_lm) (zs t_dm) L (zs t_rt) = if zis L 0 (zsay 5927669856799575866 8) then zpp (zs t_lm) (zs t_dm) L 8 else none := by rw [zpe_zpp, zrt_eq, lrt]
  have Jno : ∀ (m1 : mm_M) (f1 a1 b1 : Int32), zK y th gr E.2.1 ln sz la il pt ss E.2.2.length f1 a1 b1 L A E Ms m1 → zsame y (y + 13) mem m1 → ¬ zpe (zs t_lm) (zs t_dm) L (zs t_rt) = some L.length → mm_G V X 4 30 [(0, .ref y), (1, .int (nI L.length))] [.int (zb false)] m1 nx 0 0 := by
    intro m1 f1 a1 b1 hK1 hs1 hno
    refine g_istore_n (pc := 30) hc dMo_received_30 (by decide) rfl ?_
    refine g_iload_n (pc := 31) hc dMo_received_31 rfl ?_
    refine g_if_ne (tgt := 42) (pc := 32) hc dMo_received_32 (by decide) (fun c32 => absurd c32 (fun q => q rfl)) (fun _ => ?_)
    refine g_aload_n (pc := 35) hc dMo_received_35 rfl ?_
    refine g_callV (pc := 36) hc dMo_received_36 x_Mo_178 (s_Mo_syntax V hK1) cl_Mo (hK1.1) (Nat.le_of_ble_eq_true rfl) (Nat.le_of_ble_eq_true rfl) (Nat.le_of_ble_eq_true rfl) (Nat.le_of_ble_eq_true rfl) rfl rfl (Nat.le_of_ble_eq_true rfl) (fun r m x hp => ?_)
    obtain ⟨rfl, rfl, h9, hs9⟩ := hp
    refine g_goto (tgt := 234) (pc := 39) hc dMo_received_39 (by decide) ?_
    exact g_vret (pc := 234) hc he dMo_received_234 (Nat.le_refl _) (Nat.le_refl _) ⟨rfl, rfl, by rw [zrR, if_neg hno]; exact zC.of h9, fun a q => (hs9 a q).trans (hs1 a q)⟩
  have Jyes : ∀ (m1 : mm_M) (a : Nat), zK y th gr E.2.1 ln sz la il pt ss E.2.2.length (nI 9) (nI a) (nI (L.length - 1)) L A E Ms m1 → zsame y (y + 13) mem m1 → zpe (zs t_lm) (zs t_dm) L (zs t_rt) = some L.length → znE (zs t_lm) L 9 40 = some a → L.getD a 0 = 64 → znE (zs t_dm) L (a + 1) 60 = some (L.length - 1) → L.getD (L.length - 1) 0 = 62 → 9 ≤ a → a + 1 ≤ L.length - 1 → mm_G V X 4 30 [(0, .ref y), (1, .int (nI L.length))] [.int (zb true)] m1 nx 0 0 := by
    intro m1 a hK1 hs1 hyes z1 z2 z3 z4 z5 z6
    have ehe := zhe_eq z1 z2 z3 z4
    obtain ⟨hm1, hT1⟩ := id hK1
    obtain ⟨hL1, hS1, hR1, hRs1, hA1, hM1, hW1⟩ := id hT1
    have hr4 := hW1.2.2.1
    have J99 : E.2.1 = true → zhe (zs t_lm) (zs t_he) L 9 = false → mm_G V X 4 99 [(0, .ref y), (1, .int (nI L.length))] [] m1 nx 0 0 := by
      intro et eh
      refine g_aload_n (pc := 99) hc dMo_received_99 rfl ?_
      refine g_ldc2 (pc := 100) hc dMo_received_100 x_Mo_216 ?_
      refine g_bipush (v := nI 8) (pc := 103) hc dMo_received_103 (by decide) ?_
      refine g_callV (pc := 105) hc dMo_received_105 x_Mo_60 (s_Mo_say V (n := 8) hK1 (by decide)) cl_Mo (hK1.1) (Nat.le_of_ble_eq_true rfl) (Nat.le_of_ble_eq_true rfl) (Nat.le_of_ble_eq_true rfl) (Nat.le_of_ble_eq_true rfl) rfl rfl (Nat.le_of_ble_eq_true rfl) (fun r m x hp => ?_)
      obtain ⟨rfl, rfl, h8, hs8⟩ := hp
      refine g_aload_n (pc := 108) hc dMo_received_108 rfl ?_
      refine g_callV (pc := 109) hc dMo_received_109 x_Mo_66 (s_Mo_end V h8) cl_Mo (h8.1) (Nat.le_of_ble_eq_true rfl) (Nat.le_of_ble_eq_true rfl) (Nat.le_of_ble_eq_true rfl) (Nat.le_of_ble_eq_true rfl) rfl rfl (Nat.le_of_ble_eq_true rfl) (fun r m x hp => ?_)
      obtain ⟨rfl, rfl, h9, hs9⟩ := hp
      rw [zans1] at h9
      refine g_goto (tgt := 234) (pc := 112) hc dMo_received_112 (by decide) ?_
      have ez : zrR E L = (zs t_550, E) := by
        rw [zrR, if_pos hyes, if_neg (by rw [et]; decide), lrt, if_pos eh]
      exact g_vret (pc := 234) hc he dMo_received_234 (Nat.le_refl _) (Nat.le_refl _) ⟨rfl, rfl, by rw [ez]; exact zC.of h9, fun a q => (hs9 a q).trans ((hs8 a q).trans (hs1 a q))⟩
    have J159 : ∀ (j i : Nat) (m2 : mm_M), j + i = L.length - 1 - 9 → E.2.1 = true → zhe (zs t_lm) (zs t_he) L 9 = true → E.2.2.length < 4 → m2 y = some (.inr (kMo, fMo y th gr E.2.1 ln sz la il pt ss E.2.2.length (nI 9) (nI a) (nI (L.length - 1)) A.length Ms.length)) → zsame y (y + 13) mem m2 → zA (y + 1) 210 L m2 → zA (y + 2) 110 (if E.2.1 then E.1 else []) m2 → zG (y + 3) 440 110 (E.2.2 ++ [(L.drop 9).take i]) m2 → zA (y + 4) 4 (E.2.2.map List.length ++ [L.length - 1 - 9]) m2 → zA (y + 5) 400 A m2 → zMs y Ms m2 → mm_G V X 4 159 [(0, .ref y), (3, .int (nI i))] [] m2 nx 0 0 := by
      intro j
      induction j with
      | zero =>
        intro i m2 e1 et eh e4 h2 hs2 xL xS xR xRs xA xM
        obtain rfl : i = L.length - 1 - 9 := by omega
        have hlen : ((L.drop 9).take (L.length - 1 - 9)).length = L.length - 1 - 9 := by simp; omega
        refine g_iload_n (pc := 159) hc dMo_received_159 rfl ?_
        refine g_aload_n (pc := 160) hc dMo_received_160 rfl ?_
        refine g_get (pc := 161) hc dMo_received_161 x_Mo_132 h2 (by rfl) ?_
        refine g_aload_n (pc := 164) hc dMo_received_164 rfl ?_
        refine g_get (pc := 165) hc dMo_received_165 x_Mo_122 h2 (by rfl) ?_
        refine g_isub (pc := 168) hc dMo_received_168 ?_
        rw [pk_sub (by omega)]
        refine g_icmp_ge (tgt := 203) (pc := 169) hc dMo_received_169 (by decide) (fun _ => ?_) (fun c169 => absurd (nI_le (by omega) (by omega)) c169)
        refine g_aload_n (pc := 203) hc dMo_received_203 rfl ?_
        refine g_aload_n (pc := 204) hc dMo_received_204 rfl ?_
        refine g_get (pc := 205) hc dMo_received_205 x_Mo_138 h2 (by rfl) ?_
        refine g_iconst (v := nI 1) (pc := 208) hc dMo_received_208 (by decide) ?_
        refine g_iadd (pc := 209) hc dMo_received_209 ?_
        rw [nI_add]
        refine g_put (pc := 210) hc dMo_received_210 x_Mo_138 ft_Mo rfl h2 rfl rfl (zlt rfl) (fun m3 h30 o3 => ?_)
        have h3 : m3 y = some (.inr (kMo, fMo y th gr E.2.1 ln sz la il pt ss (E.2.2.length + 1) (nI 9) (nI a) (nI (L.length - 1)) A.length Ms.length)) := h30
        rw [show E.2.2.length + 1 = (E.2.2 ++ [(L.drop 9).take (L.length - 1 - 9)]).length by simp] at h3
        have hE3 : zK y th gr E.2.1 ln sz la il pt ss (E.2.2 ++ [(L.drop 9).take (L.length - 1 - 9)]).length (nI 9) (nI a) (nI (L.length - 1)) L A (E.1, E.2.1, E.2.2 ++ [(L.drop 9).take (L.length - 1 - 9)]) Ms m3 := ⟨h3, xL.kpt o3 (by omega), xS.kpt o3 (by omega), xR.kpt o3 (by omega), by rw [List.map_append, List.map_singleton, hlen]; exact xRs.kpt o3 (by omega), xA.kpt o3 (by omega), xM.kpt o3 (by omega), hW1.1, hW1.2.1, by simp; omega, fun R hR => by
          rcases List.mem_append.mp hR with q | q
          · exact hW1.2.2.2.1 R q
          · rw [List.mem_singleton.mp q]
            exact ⟨by rw [hlen]; omega, fun b hb => hLb b (List.mem_of_mem_drop (List.mem_of_mem_take hb))⟩, fun _ => et, hW1.2.2.2.2.2⟩
        refine g_aload_n (pc := 213) hc dMo_received_213 rfl ?_
        refine g_ldc2 (pc := 214) hc dMo_received_214 x_Mo_220 ?_
        refine g_bipush (v := nI 8) (pc := 217) hc dMo_received_217 (by decide) ?_
        refine g_callV (pc := 219) hc dMo_received_219 x_Mo_60 (s_Mo_say V (n := 8) hE3 (by decide)) cl_Mo (hE3.1) (Nat.le_of_ble_eq_true rfl) (Nat.le_of_ble_eq_true rfl) (Nat.le_of_ble_eq_true rfl) (Nat.le_of_ble_eq_true rfl) rfl rfl (Nat.le_of_ble_eq_true rfl) (fun r m x hp => ?_)
        obtain ⟨rfl, rfl, h4, hs4⟩ := hp
        refine g_aload_n (pc := 222) hc dMo_received_222 rfl ?_
        refine g_ldc2 (pc := 223) hc dMo_received_223 x_Mo_222 ?_
        refine g_iconst (v := nI 5) (pc := 226) hc dMo_received_226 (by decide) ?_
        refine g_callV (pc := 227) hc dMo_received_227 x_Mo_60 (s_Mo_say V (n := 5) h4 (by decide)) cl_Mo (h4.1) (Nat.le_of_ble_eq_true rfl) (Nat.le_of_ble_eq_true rfl) (Nat.le_of_ble_eq_true rfl) (Nat.le_of_ble_eq_true rfl) rfl rfl (Nat.le_of_ble_eq_true rfl) (fun r m x hp => ?_)
        obtain ⟨rfl, rfl, h5, hs5⟩ := hp
        refine g_aload_n (pc := 230) hc dMo_received_230 rfl ?_
        refine g_callV (pc := 231) hc dMo_received_231 x_Mo_66 (s_Mo_end V h5) cl_Mo (h5.1) (Nat.le_of_ble_eq_true rfl) (Nat.le_of_ble_eq_true rfl) (Nat.le_of_ble_eq_true rfl) (Nat.le_of_ble_eq_true rfl) rfl rfl (Nat.le_of_ble_eq_true rfl) (fun r m x hp => ?_)
        obtain ⟨rfl, rfl, h6, hs6⟩ := hp
        rw [zans2] at h6
        have ez : zrR E L = (zs t_250r, (E.1, E.2.1, E.2.2 ++ [(L.drop 9).take (L.length - 1 - 9)])) := by
          rw [zrR, if_pos hyes, if_neg (by rw [et]; decide), lrt, if_neg (by rw [eh]; decide), if_neg (by omega)]
        exact g_vret (pc := 234) hc he dMo_received_234 (Nat.le_refl _) (Nat.le_refl _) ⟨rfl, rfl, by rw [ez]; exact zC.of (E := (E.1, E.2.1, E.2.2 ++ [(L.drop 9).take (L.length - 1 - 9)])) h6, fun a q => (hs6 a q).trans ((hs5 a q).trans ((hs4 a q).trans ((o3 a (by omega)).trans (hs2 a q))))⟩
      | succ j ih =>
        intro i m2 e1 et eh e4 h2 hs2 xL xS xR xRs xA xM
        obtain ⟨g2, hg2, hgl2, hgf2⟩ := id xL
        obtain ⟨g3, hg3, hgl3, hgf3⟩ := id xR
        have el : ((L.drop 9).take i).length = i := by simp; omega
        refine g_iload_n (pc := 159) hc dMo_received_159 rfl ?_
        refine g_aload_n (pc := 160) hc dMo_received_160 rfl ?_
        refine g_get (pc := 161) hc dMo_received_161 x_Mo_132 h2 (by rfl) ?_
        refine g_aload_n (pc := 164) hc dMo_received_164 rfl ?_
        refine g_get (pc := 165) hc dMo_received_165 x_Mo_122 h2 (by rfl) ?_
        refine g_isub (pc := 168) hc dMo_received_168 ?_
        rw [pk_sub (by omega)]
        refine g_icmp_ge (tgt := 203) (pc := 169) hc dMo_received_169 (by decide) (fun c169 => absurd c169 (nI_ge (by omega) (by omega))) (fun _ => ?_)
        refine g_aload_n (pc := 172) hc dMo_received_172 rfl ?_
        refine g_get (pc := 173) hc dMo_received_173 x_Mo_20 h2 (by rfl) ?_
        refine g_bipush (v := nI 110) (pc := 176) hc dMo_received_176 (by decide) ?_
        refine g_aload_n (pc := 178) hc dMo_received_178 rfl ?_
        refine g_get (pc := 179) hc dMo_received_179 x_Mo_138 h2 (by rfl) ?_
        refine g_imul (pc := 182) hc dMo_received_182 ?_
        rw [pk_mul]
        refine g_iload_n (pc := 183) hc dMo_received_183 rfl ?_
        refine g_iadd (pc := 184) hc dMo_received_184 ?_
        rw [nI_add]
        refine g_aload_n (pc := 185) hc dMo_received_185 rfl ?_
        refine g_get (pc := 186) hc dMo_received_186 x_Mo_13 h2 (by rfl) ?_
        refine g_aload_n (pc := 189) hc dMo_received_189 rfl ?_
        refine g_get (pc := 190) hc dMo_received_190 x_Mo_122 h2 (by rfl) ?_
        refine g_iload_n (pc := 193) hc dMo_received_193 rfl ?_
        refine g_iadd (pc := 194) hc dMo_received_194 ?_
        rw [nI_add]
        refine g_iald (pc := 195) (t := kI) hc dMo_received_195 rfl hg2 (vp_in_nI (show 9 + i < 210 by omega) (by decide)) ?_
        rw [nI_clamp (by omega), hgf2 _ (by omega)]
        refine g_iast (pc := 196) (t := kI) hc dMo_received_196 rfl hg3 (vp_in_nI (show 110 * E.2.2.length + i < 440 by omega) (by decide)) (fun m3 h3 o3 => ?_)
        rw [nI_clamp (by omega)] at h3
        have h4 := (o3 y (by omega)).trans h2
        refine g_iinc (pc := 197) hc dMo_received_197 rfl (zinc _) (by decide) rfl ?_
        refine g_goto (tgt := 159) (pc := 200) hc dMo_received_200 (by decide) ?_
        refine g_lv (lv' := [(0, .ref y), (3, .int (nI (i + 1)))]) ⟨rfl, rfl, trivial⟩ ?_
        refine ih (i + 1) m3 (by omega) et eh e4 h4 (fun a q => (o3 a (by omega)).trans (hs2 a q)) (xL.kpt o3 (by omega)) (xS.kpt o3 (by omega)) ?_ (xRs.kpt o3 (by omega)) (xA.kpt o3 (by omega)) (xM.kpt o3 (by omega))
        rw [ztake_succ (by omega)]
        exact zG.step (by omega) hgf3 (by omega) (by rw [el]; exact h3)
    refine g_istore_n (pc := 30) hc dMo_received_30 (by decide) rfl ?_
    refine g_iload_n (pc := 31) hc dMo_received_31 rfl ?_
    refine g_if_ne (tgt := 42) (pc := 32) hc dMo_received_32 (by decide) (fun _ => ?_) (fun c32 => absurd c32 (by decide))
    refine g_aload_n (pc := 42) hc dMo_received_42 rfl ?_
    refine g_get (pc := 43) hc dMo_received_43 x_Mo_135 hm1 (by rfl) ?_
    refine g_if_ne (tgt := 56) (pc := 46) hc dMo_received_46 (by decide) (fun c46 => ?_) (fun c46 => ?_)
    · simp (disch := omega) only [nI_leI, nI_ltI, nI_eq, nI_eq0, nI_lt0, nI_0le, nI_0lt, nI_le0, zb_0] at c46
      have d46 : E.2.1 = true := by simpa using c46
      refine g_aload_n (pc := 56) hc dMo_received_56 rfl ?_
      refine g_get (pc := 57) hc dMo_received_57 x_Mo_129 hm1 (by rfl) ?_
      refine g_aload_n (pc := 60) hc dMo_received_60 rfl ?_
      refine g_get (pc := 61) hc dMo_received_61 x_Mo_122 hm1 (by rfl) ?_
      refine g_isub (pc := 64) hc dMo_received_64 ?_
      rw [pk_sub z5]
      refine g_bipush (v := nI 8) (pc := 65) hc dMo_received_65 (by decide) ?_
      refine g_icmp_gt (tgt := 99) (pc := 67) hc dMo_received_67 (by decide) (fun c67 => ?_) (fun c67 => ?_)
      · simp (disch := omega) only [nI_leI, nI_ltI, nI_eq, nI_eq0, nI_lt0, nI_0le, nI_0lt, nI_le0, zb_0] at c67
        refine g_lv (lv' := [(0, .ref y), (1, .int (nI L.length))]) ⟨rfl, rfl, trivial⟩ ?_
        exact J99 d46 (by rw [ehe, decide_eq_false (by omega)]; rfl)
      · simp (disch := omega) only [nI_leI, nI_ltI, nI_eq, nI_eq0, nI_lt0, nI_0le, nI_0lt, nI_le0, zb_0] at c67
        refine g_aload_n (pc := 70) hc dMo_received_70 rfl ?_
        refine g_get (pc := 71) hc dMo_received_71 x_Mo_132 hm1 (by rfl) ?_
        refine g_aload_n (pc := 74) hc dMo_received_74 rfl ?_
        refine g_get (pc := 75) hc dMo_received_75 x_Mo_129 hm1 (by rfl) ?_
        refine g_isub (pc := 78) hc dMo_received_78 ?_
        rw [pk_sub (by omega)]
        refine g_iconst (v := nI 5) (pc := 79) hc dMo_received_79 (by decide) ?_
        refine g_icmp_ne (tgt := 99) (pc := 80) hc dMo_received_80 (by decide) (fun c80 => ?_) (fun c80 => ?_)
        · simp (disch := omega) only [nI_leI, nI_ltI, nI_eq, nI_eq0, nI_lt0, nI_0le, nI_0lt, nI_le0, zb_0] at c80
          refine g_lv (lv' := [(0, .ref y), (1, .int (nI L.length))]) ⟨rfl, rfl, trivial⟩ ?_
          exact J99 d46 (by rw [ehe, decide_eq_false c80]; simp)
        · simp (disch := omega) only [nI_leI, nI_ltI, nI_eq, nI_eq0, nI_lt0, nI_0le, nI_0lt, nI_le0, zb_0] at c80
          refine g_aload_n (pc := 83) hc dMo_received_83 rfl ?_
          refine g_aload_n (pc := 84) hc dMo_received_84 rfl ?_
          refine g_get (pc := 85) hc dMo_received_85 x_Mo_129 hm1 (by rfl) ?_
          refine g_ldc2 (pc := 88) hc dMo_received_88 x_Mo_214 ?_
          refine g_iconst (v := nI 5) (pc := 91) hc dMo_received_91 (by decide) ?_
          refine g_iload_n (pc := 92) hc dMo_received_92 rfl ?_
          refine g_callV (pc := 93) hc dMo_received_93 x_Mo_143 (s_Mo_is V (k := a) (n := 5) hK1 hLb (by decide) (by omega)) cl_Mo (hK1.1) (Nat.le_of_ble_eq_true rfl) (Nat.le_of_ble_eq_true rfl) (Nat.le_of_ble_eq_true rfl) (Nat.le_of_ble_eq_true rfl) rfl rfl (Nat.le_of_ble_eq_true rfl) (fun r m x hp => ?_)
          obtain ⟨rfl, rfl, rfl⟩ := hp
          refine g_if_ne (tgt := 115) (pc := 96) hc dMo_received_96 (by decide) (fun c96 => ?_) (fun c96 => ?_)
          · simp (disch := omega) only [nI_leI, nI_ltI, nI_eq, nI_eq0, nI_lt0, nI_0le, nI_0lt, nI_le0, zb_0] at c96
            have d96 : zis L a (zsay 4632028436397817856 5) = true := by simpa using c96
            have eh : zhe (zs t_lm) (zs t_he) L 9 = true := by rw [ehe, decide_eq_true (show a - 9 ≤ 8 by omega), decide_eq_true c80, d96]; rfl
            refine g_aload_n (pc := 115) hc dMo_received_115 rfl ?_
            refine g_get (pc := 116) hc dMo_received_116 x_Mo_138 hm1 (by rfl) ?_
            refine g_iconst (v := nI 4) (pc := 119) hc dMo_received_119 (by decide) ?_
            refine g_icmp_ne (tgt := 139) (pc := 120) hc dMo_received_120 (by decide) (fun c120 => ?_) (fun c120 => ?_)
            · simp (disch := omega) only [nI_leI, nI_ltI, nI_eq, nI_eq0, nI_lt0, nI_0le, nI_0lt, nI_le0, zb_0] at c120
              refine g_aload_n (pc := 139) hc dMo_received_139 rfl ?_
              refine g_get (pc := 140) hc dMo_received_140 x_Mo_23 hm1 (by rfl) ?_
              refine g_aload_n (pc := 143) hc dMo_received_143 rfl ?_
              refine g_get (pc := 144) hc dMo_received_144 x_Mo_138 hm1 (by rfl) ?_
              refine g_aload_n (pc := 147) hc dMo_received_147 rfl ?_
              refine g_get (pc := 148) hc dMo_received_148 x_Mo_132 hm1 (by rfl) ?_
              refine g_aload_n (pc := 151) hc dMo_received_151 rfl ?_
              refine g_get (pc := 152) hc dMo_received_152 x_Mo_122 hm1 (by rfl) ?_
              refine g_isub (pc := 155) hc dMo_received_155 ?_
              rw [pk_sub (by omega)]
              obtain ⟨g4, hg4, hgl4, hgf4⟩ := id hRs1
              refine g_iast (pc := 156) (t := kI) hc dMo_received_156 rfl hg4 (vp_in_nI (show E.2.2.length < 4 by omega) (by decide)) (fun m2 h2 o2 => ?_)
              rw [nI_clamp (by omega)] at h2
              have h3 := (o2 y (by omega)).trans hm1
              refine g_iconst (v := nI 0) (pc := 157) hc dMo_received_157 (by decide) ?_
              refine g_istore_n (pc := 158) hc dMo_received_158 (by decide) rfl ?_
              refine g_lv (lv' := [(0, .ref y), (3, .int (nI 0))]) ⟨rfl, rfl, trivial⟩ ?_
              exact J159 (L.length - 1 - 9) 0 m2 rfl d46 eh (by omega) h3 (fun a q => (o2 a (by omega)).trans (hs1 a q)) (hL1.kpt o2 (by omega)) (hS1.kpt o2 (by omega)) ((hR1.kpt o2 (by omega)).start (by omega)) ⟨_, h2, by simp; omega, by have q := zupd_app (b := L.length - 1 - 9) hgf4; rw [List.length_map] at q; exact q⟩ (hA1.kpt o2 (by omega)) (hM1.kpt o2 (by omega))
            · simp (disch := omega) only [nI_leI, nI_ltI, nI_eq, nI_eq0, nI_lt0, nI_0le, nI_0lt, nI_le0, zb_0] at c120
              refine g_aload_n (pc := 123) hc dMo_received_123 rfl ?_
              refine g_ldc2 (pc := 124) hc dMo_received_124 x_Mo_218 ?_
              refine g_bipush (v := nI 8) (pc := 127) hc dMo_received_127 (by decide) ?_
              refine g_callV (pc := 129) hc dMo_received_129 x_Mo_60 (s_Mo_say V (n := 8) hK1 (by decide)) cl_Mo (hK1.1) (Nat.le_of_ble_eq_true rfl) (Nat.le_of_ble_eq_true rfl) (Nat.le_of_ble_eq_true rfl) (Nat.le_of_ble_eq_true rfl) rfl rfl (Nat.le_of_ble_eq_true rfl) (fun r m x hp => ?_)
              obtain ⟨rfl, rfl, h8, hs8⟩ := hp
              refine g_aload_n (pc := 132) hc dMo_received_132 rfl ?_
              refine g_callV (pc := 133) hc dMo_received_133 x_Mo_66 (s_Mo_end V h8) cl_Mo (h8.1) (Nat.le_of_ble_eq_true rfl) (Nat.le_of_ble_eq_true rfl) (Nat.le_of_ble_eq_true rfl) (Nat.le_of_ble_eq_true rfl) rfl rfl (Nat.le_of_ble_eq_true rfl) (fun r m x hp => ?_)
              obtain ⟨rfl, rfl, h9, hs9⟩ := hp
              rw [zans1] at h9
              refine g_goto (tgt := 234) (pc := 136) hc dMo_received_136 (by decide) ?_
              have ez : zrR E L = (zs t_452m, E) := by
                rw [zrR, if_pos hyes, if_neg (by rw [d46]; decide), lrt, if_neg (by rw [eh]; decide), if_pos (by omega)]
              exact g_vret (pc := 234) hc he dMo_received_234 (Nat.le_refl _) (Nat.le_refl _) ⟨rfl, rfl, by rw [ez]; exact zC.of h9, fun a q => (hs9 a q).trans ((hs8 a q).trans (hs1 a q))⟩
          · simp (disch := omega) only [nI_leI, nI_ltI, nI_eq, nI_eq0, nI_lt0, nI_0le, nI_0lt, nI_le0, zb_0] at c96
            refine g_lv (lv' := [(0, .ref y), (1, .int (nI L.length))]) ⟨rfl, rfl, trivial⟩ ?_
            exact J99 d46 (by rw [ehe, c96]; simp)
    · simp (disch := omega) only [nI_leI, nI_ltI, nI_eq, nI_eq0, nI_lt0, nI_0le, nI_0lt, nI_le0, zb_0] at c46
      refine g_aload_n (pc := 49) hc dMo_received_49 rfl ?_
      refine g_callV (pc := 50) hc dMo_received_50 x_Mo_166 (s_Mo_order V hK1) cl_Mo (hK1.1) (Nat.le_of_ble_eq_true rfl) (Nat.le_of_ble_eq_true rfl) (Nat.le_of_ble_eq_true rfl) (Nat.le_of_ble_eq_true rfl) rfl rfl (Nat.le_of_ble_eq_true rfl) (fun r m x hp => ?_)
      obtain ⟨rfl, rfl, h9, hs9⟩ := hp
      refine g_goto (tgt := 234) (pc := 53) hc dMo_received_53 (by decide) ?_
      have ez : zrR E L = (zs t_503, E) := by
        rw [zrR, if_pos hyes, if_pos c46]
      exact g_vret (pc := 234) hc he dMo_received_234 (Nat.le_refl _) (Nat.le_refl _) ⟨rfl, rfl, by rw [ez]; exact zC.of h9, fun a q => (hs9 a q).trans (hs1 a q)⟩
  refine g_aload_n (pc := 0) hc dMo_received_0 rfl ?_
  refine g_iconst (v := nI 0) (pc := 1) hc dMo_received_1 (by decide) ?_
  refine g_ldc2 (pc := 2) hc dMo_received_2 x_Mo_212 ?_
  refine g_bipush (v := nI 8) (pc := 5) hc dMo_received_5 (by decide) ?_
  refine g_iload_n (pc := 7) hc dMo_received_7 rfl ?_
  refine g_callV (pc := 8) hc dMo_received_8 x_Mo_143 (s_Mo_is V (k := 0) (n := 8) h hLb (by decide) (by decide)) cl_Mo (h.1) (Nat.le_of_ble_eq_true rfl) (Nat.le_of_ble_eq_true rfl) (Nat.le_of_ble_eq_true rfl) (Nat.le_of_ble_eq_true rfl) rfl rfl (Nat.le_of_ble_eq_true rfl) (fun r m x hp => ?_)
  obtain ⟨rfl, rfl, rfl⟩ := hp
  refine g_if_eq (tgt := 29) (pc := 11) hc dMo_received_11 (by decide) (fun c11 => ?_) (fun c11 => ?_)
  · simp (disch := omega) only [nI_leI, nI_ltI, nI_eq, nI_eq0, nI_lt0, nI_0le, nI_0lt, nI_le0, zb_0] at c11
    refine g_iconst (v := nI 0) (pc := 29) hc dMo_received_29 (by decide) ?_
    refine g_lv (lv' := [(0, .ref y), (1, .int (nI L.length))]) ⟨rfl, rfl, trivial⟩ ?_
    exact Jno _ _ _ _ h zsame.rf (by rw [erx, c11, if_neg (by decide)]; intro q; cases q)
  · simp (disch := omega) only [nI_leI, nI_ltI, nI_eq, nI_eq0, nI_lt0, nI_0le, nI_0lt, nI_le0, zb_0] at c11
    have d11 : zis L 0 (zsay 5927669856799575866 8) = true := by simpa using c11
    refine g_aload_n (pc := 14) hc dMo_received_14 rfl ?_
    refine g_bipush (v := nI 8) (pc := 15) hc dMo_received_15 (by decide) ?_
    refine g_iload_n (pc := 17) hc dMo_received_17 rfl ?_
    refine g_callV (pc := 18) hc dMo_received_18 x_Mo_193 (s_Mo_path V (k := 8) h hLb (by omega) (by decide)) cl_Mo (h.1) (Nat.le_of_ble_eq_true rfl) (Nat.le_of_ble_eq_true rfl) (Nat.le_of_ble_eq_true rfl) (Nat.le_of_ble_eq_true rfl) rfl rfl (Nat.le_of_ble_eq_true rfl) (fun r m x hp => ?_)
    obtain ⟨f1, a1, b1, rfl, rfl, hK3, hs3, hsome⟩ := hp
    have hz : ∀ a, zpp (zs t_lm) (zs t_dm) L 8 = some a → a < 2 ^ 31 := fun a e => by obtain ⟨_, q⟩ := zpp_some e; omega
    refine g_iload_n (pc := 21) hc dMo_received_21 rfl ?_
    refine g_icmp_ne (tgt := 29) (pc := 22) hc dMo_received_22 (by decide) (fun c22 => ?_) (fun c22 => ?_)
    · rw [zoI_eq hz (by omega)] at c22
      refine g_iconst (v := nI 0) (pc := 29) hc dMo_received_29 (by decide) ?_
      refine g_lv (lv' := [(0, .ref y), (1, .int (nI L.length))]) ⟨rfl, rfl, trivial⟩ ?_
      exact Jno _ _ _ _ hK3 hs3 (by rw [erx, d11, if_pos rfl]; exact c22)
    · rw [zoI_eq hz (by omega)] at c22
      obtain ⟨q1, q2, q3⟩ := hsome _ c22
      obtain ⟨a, z1, z2, z3, z4, z5, z6, z7, z8, z9⟩ := zpp_some c22
      have q4 := q3 a z2
      subst q1 q2 q4
      refine g_iconst (v := nI 1) (pc := 25) hc dMo_received_25 (by decide) ?_
      refine g_goto (tgt := 30) (pc := 26) hc dMo_received_26 (by decide) ?_
      refine g_lv (lv' := [(0, .ref y), (1, .int (nI L.length))]) ⟨rfl, rfl, trivial⟩ ?_
      exact Jyes _ a hK3 hs3 (by rw [erx, d11, if_pos rfl]; exact c22) z2 z3 z4 z5 z6 z7
set_option maxHeartbeats 4000000 in
set_option maxRecDepth 100000 in
theorem s_Mo_command (V : mm_V) {y sz la il ss : Nat} {th gr ln pt : Bool} {fi av be : Int32} {L A : List Nat} {E : zEv} {Ms : List zMsg} {mem : mm_M} {nx : Nat} (h : zK y th gr E.2.1 ln sz la il pt ss E.2.2.length fi av be L A E Ms mem) (hLb : ∀ b ∈ L, b < 256) (hL2 : L.length ≤ 100) (hln : ln = false) : mm_S V yMo_command cMo_command 4 none 6 0 0 [.ref y, .int (nI L.length)] mem nx (fun r m x => r = none ∧ nx = x ∧ zC y (th && !(zrep gr E L).2.2.2.2) ((zrep gr E L).2.2.1) ((zrep gr E L).2.2.2.1) sz la L (zans A (zrep gr E L).1) ((zrep gr E L).2.1) Ms ((zrep gr E L).2.2.2.1) m ∧ zsame y (y + 13) mem m) := by
  obtain ⟨hm, hT⟩ := id h
  obtain ⟨hL, hS, hR, hRs, hA, hMs, hW⟩ := id hT
  refine mm_met (by decide) (Nat.le_of_ble_eq_true rfl) ?_
  intro X hc he hnm
  obtain ⟨f, ha, hle, hf⟩ := id hL
  have w0 : zfw L (zs t_LHLO) = (decide (zword L = 4) && zis L 0 (zsay 5496727247391817728 4)) := zfw_eq L 76 72 76 79 (by decide) (by decide) (by decide) (by decide)
  have w1 : zfw L (zs t_MAIL) = (decide (zword L = 4) && zis L 0 (zsay 5566811205172985856 4)) := zfw_eq L 77 65 73 76 (by decide) (by decide) (by decide) (by decide)
  have w2 : zfw L (zs t_RCPT) = (decide (zword L = 4) && zis L 0 (zsay 5927669856257179648 4)) := zfw_eq L 82 67 80 84 (by decide) (by decide) (by decide) (by decide)
  have w3 : zfw L (zs t_DATA) = (decide (zword L = 4) && zis L 0 (zsay 4918304906214899712 4)) := zfw_eq L 68 65 84 65 (by decide) (by decide) (by decide) (by decide)
  have w4 : zfw L (zs t_RSET) = (decide (zword L = 4) && zis L 0 (zsay 5932161361256644608 4)) := zfw_eq L 82 83 69 84 (by decide) (by decide) (by decide) (by decide)
  have w5 : zfw L (zs t_NOOP) = (decide (zword L = 4) && zis L 0 (zsay 5642816063134498816 4)) := zfw_eq L 78 79 79 80 (by decide) (by decide) (by decide) (by decide)
  have w6 : zfw L (zs t_QUIT) = (decide (zword L = 4) && zis L 0 (zsay 5860671115218649088 4)) := zfw_eq L 81 85 73 84 (by decide) (by decide) (by decide) (by decide)
  have K0 : zfw L (zs t_LHLO) = true → mm_G V X 4 155 [(0, .ref y), (1, .int (nI L.length))] [.int (nI 0)] mem nx 0 0 := by
    intro y0
    refine g_istore_n (pc := 155) hc dMo_command_155 (by decide) rfl ?_
    refine g_iload_n (pc := 156) hc dMo_command_156 rfl ?_
    refine g_if_ge (tgt := 182) (pc := 157) hc dMo_command_157 (by decide) (fun _ => ?_) (fun c157 => absurd (by decide) c157)
    refine g_iload_n (pc := 182) hc dMo_command_182 rfl ?_
    refine g_if_le (tgt := 203) (pc := 183) hc dMo_command_183 (by decide) (fun _ => ?_) (fun c183 => absurd (by decide) c183)
    refine g_iload_n (pc := 203) hc dMo_command_203 rfl ?_
    refine g_if_ne (tgt := 215) (pc := 204) hc dMo_command_204 (by decide) (fun c204 => absurd c204 (fun q => q rfl)) (fun _ => ?_)
    refine g_aload_n (pc := 207) hc dMo_command_207 rfl ?_
    refine g_iload_n (pc := 208) hc dMo_command_208 rfl ?_
    refine g_callV (pc := 209) hc dMo_command_209 x_Mo_169 (s_Mo_greet V h hLb (by omega)) cl_Mo (h.1) (Nat.le_of_ble_eq_true rfl) (Nat.le_of_ble_eq_true rfl) (Nat.le_of_ble_eq_true rfl) (Nat.le_of_ble_eq_true rfl) rfl rfl (Nat.le_of_ble_eq_true rfl) (fun r m x hp => ?_)
    obtain ⟨rfl, rfl, h9, hs9⟩ := hp
    refine g_goto (tgt := 258) (pc := 212) hc dMo_command_212 (by decide) ?_
    have ez : zrep gr E L = (if zgr (zs t_dm) L then (zs t_250h, ([], false, []), true, false, false) else (zs t_501, E, gr, false, false)) := by rw [zrep, if_neg (show ¬ 100 < L.length by omega), y0, if_pos rfl]
    refine g_vret (pc := 258) hc he dMo_command_258 (Nat.le_refl _) (Nat.le_refl _) ⟨rfl, rfl, ?_, hs9⟩
    rw [ez]
    cases hK : zgr (zs t_dm) L <;> rw [hK] at h9 <;> simpa [hln] using h9
  have K1 : zfw L (zs t_LHLO) = false → zfw L (zs t_MAIL) = true → mm_G V X 4 155 [(0, .ref y), (1, .int (nI L.length))] [.int (nI 1)] mem nx 0 0 := by
    intro n0 y1
    refine g_istore_n (pc := 155) hc dMo_command_155 (by decide) rfl ?_
    refine g_iload_n (pc := 156) hc dMo_command_156 rfl ?_
    refine g_if_ge (tgt := 182) (pc := 157) hc dMo_command_157 (by decide) (fun _ => ?_) (fun c157 => absurd (by decide) c157)
    refine g_iload_n (pc := 182) hc dMo_command_182 rfl ?_
    refine g_if_le (tgt := 203) (pc := 183) hc dMo_command_183 (by decide) (fun c183 => absurd c183 (by decide)) (fun _ => ?_)
    refine g_iload_n (pc := 186) hc dMo_command_186 rfl ?_
    refine g_iconst (v := nI 4) (pc := 187) hc dMo_command_187 (by decide) ?_
    refine g_icmp_ge (tgt := 203) (pc := 188) hc dMo_command_188 (by decide) (fun c188 => absurd c188 (by decide)) (fun _ => ?_)
    refine g_aload_n (pc := 191) hc dMo_command_191 rfl ?_
    refine g_get (pc := 192) hc dMo_command_192 x_Mo_163 hm (by rfl) ?_
    refine g_if_ne (tgt := 203) (pc := 195) hc dMo_command_195 (by decide) (fun c195 => ?_) (fun c195 => ?_)
    · simp (disch := omega) only [nI_leI, nI_ltI, nI_eq, nI_eq0, nI_lt0, nI_0le, nI_0lt, nI_le0, zb_0] at c195
      have d195 : gr = true := by simpa using c195
      refine g_iload_n (pc := 203) hc dMo_command_203 rfl ?_
      refine g_if_ne (tgt := 215) (pc := 204) hc dMo_command_204 (by decide) (fun _ => ?_) (fun c204 => absurd c204 (by decide))
      refine g_iload_n (pc := 215) hc dMo_command_215 rfl ?_
      refine g_iconst (v := nI 1) (pc := 216) hc dMo_command_216 (by decide) ?_
      refine g_icmp_ne (tgt := 228) (pc := 217) hc dMo_command_217 (by decide) (fun c217 => absurd c217 (fun q => q rfl)) (fun _ => ?_)
      refine g_aload_n (pc := 220) hc dMo_command_220 rfl ?_
      refine g_iload_n (pc := 221) hc dMo_command_221 rfl ?_
      refine g_callV (pc := 222) hc dMo_command_222 x_Mo_172 (s_Mo_sent V h hLb (by omega)) cl_Mo (h.1) (Nat.le_of_ble_eq_true rfl) (Nat.le_of_ble_eq_true rfl) (Nat.le_of_ble_eq_true rfl) (Nat.le_of_ble_eq_true rfl) rfl rfl (Nat.le_of_ble_eq_true rfl) (fun r m x hp => ?_)
      obtain ⟨rfl, rfl, h9, hs9⟩ := hp
      refine g_goto (tgt := 258) (pc := 225) hc dMo_command_225 (by decide) ?_
      have ez : zrep gr E L = ((zrM E L).1, (zrM E L).2, gr, false, false) := by rw [zrep, if_neg (show ¬ 100 < L.length by omega), n0, if_neg (by decide), y1, if_pos rfl, d195, if_pos rfl]
      exact g_vret (pc := 258) hc he dMo_command_258 (Nat.le_refl _) (Nat.le_refl _) ⟨rfl, rfl, by rw [ez]; simpa [hln] using h9, hs9⟩
    · simp (disch := omega) only [nI_leI, nI_ltI, nI_eq, nI_eq0, nI_lt0, nI_0le, nI_0lt, nI_le0, zb_0] at c195
      refine g_aload_n (pc := 198) hc dMo_command_198 rfl ?_
      refine g_callV (pc := 199) hc dMo_command_199 x_Mo_166 (s_Mo_order V h) cl_Mo (h.1) (Nat.le_of_ble_eq_true rfl) (Nat.le_of_ble_eq_true rfl) (Nat.le_of_ble_eq_true rfl) (Nat.le_of_ble_eq_true rfl) rfl rfl (Nat.le_of_ble_eq_true rfl) (fun r m x hp => ?_)
      obtain ⟨rfl, rfl, h9, hs9⟩ := hp
      have ez : zrep gr E L = (zs t_503, E, gr, false, false) := by rw [zrep, if_neg (show ¬ 100 < L.length by omega), n0, if_neg (by decide), y1, if_pos rfl, c195, if_neg (by decide)]
      exact g_vret (pc := 202) hc he dMo_command_202 (Nat.le_refl _) (Nat.le_refl _) ⟨rfl, rfl, by rw [ez]; simpa [hln] using zC.of h9, hs9⟩
  have K2 : zfw L (zs t_LHLO) = false → zfw L (zs t_MAIL) = false → zfw L (zs t_RCPT) = true → mm_G V X 4 155 [(0, .ref y), (1, .int (nI L.length))] [.int (nI 2)] mem nx 0 0 := by
    intro n0 n1 y2
    refine g_istore_n (pc := 155) hc dMo_command_155 (by decide) rfl ?_
    refine g_iload_n (pc := 156) hc dMo_command_156 rfl ?_
    refine g_if_ge (tgt := 182) (pc := 157) hc dMo_command_157 (by decide) (fun _ => ?_) (fun c157 => absurd (by decide) c157)
    refine g_iload_n (pc := 182) hc dMo_command_182 rfl ?_
    refine g_if_le (tgt := 203) (pc := 183) hc dMo_command_183 (by decide) (fun c183 => absurd c183 (by decide)) (fun _ => ?_)
    refine g_iload_n (pc := 186) hc dMo_command_186 rfl ?_
    refine g_iconst (v := nI 4) (pc := 187) hc dMo_command_187 (by decide) ?_
    refine g_icmp_ge (tgt := 203) (pc := 188) hc dMo_command_188 (by decide) (fun c188 => absurd c188 (by decide)) (fun _ => ?_)
    refine g_aload_n (pc := 191) hc dMo_command_191 rfl ?_
    refine g_get (pc := 192) hc dMo_command_192 x_Mo_163 hm (by rfl) ?_
    refine g_if_ne (tgt := 203) (pc := 195) hc dMo_command_195 (by decide) (fun c195 => ?_) (fun c195 => ?_)
    · simp (disch := omega) only [nI_leI, nI_ltI, nI_eq, nI_eq0, nI_lt0, nI_0le, nI_0lt, nI_le0, zb_0] at c195
      have d195 : gr = true := by simpa using c195
      refine g_iload_n (pc := 203) hc dMo_command_203 rfl ?_
      refine g_if_ne (tgt := 215) (pc := 204) hc dMo_command_204 (by decide) (fun _ => ?_) (fun c204 => absurd c204 (by decide))
      refine g_iload_n (pc := 215) hc dMo_command_215 rfl ?_
      refine g_iconst (v := nI 1) (pc := 216) hc dMo_command_216 (by decide) ?_
      refine g_icmp_ne (tgt := 228) (pc := 217) hc dMo_command_217 (by decide) (fun _ => ?_) (fun c217 => absurd c217 (by decide))
      refine g_iload_n (pc := 228) hc dMo_command_228 rfl ?_
      refine g_iconst (v := nI 2) (pc := 229) hc dMo_command_229 (by decide) ?_
      refine g_icmp_ne (tgt := 241) (pc := 230) hc dMo_command_230 (by decide) (fun c230 => absurd c230 (fun q => q rfl)) (fun _ => ?_)
      refine g_aload_n (pc := 233) hc dMo_command_233 rfl ?_
      refine g_iload_n (pc := 234) hc dMo_command_234 rfl ?_
      refine g_callV (pc := 235) hc dMo_command_235 x_Mo_175 (s_Mo_received V h hLb (by omega)) cl_Mo (h.1) (Nat.le_of_ble_eq_true rfl) (Nat.le_of_ble_eq_true rfl) (Nat.le_of_ble_eq_true rfl) (Nat.le_of_ble_eq_true rfl) rfl rfl (Nat.le_of_ble_eq_true rfl) (fun r m x hp => ?_)
      obtain ⟨rfl, rfl, h9, hs9⟩ := hp
      refine g_goto (tgt := 258) (pc := 238) hc dMo_command_238 (by decide) ?_
      have ez : zrep gr E L = ((zrR E L).1, (zrR E L).2, gr, false, false) := by rw [zrep, if_neg (show ¬ 100 < L.length by omega), n0, if_neg (by decide), n1, if_neg (by decide), y2, if_pos rfl, d195, if_pos rfl]
      exact g_vret (pc := 258) hc he dMo_command_258 (Nat.le_refl _) (Nat.le_refl _) ⟨rfl, rfl, by rw [ez]; simpa [hln] using h9, hs9⟩
    · simp (disch := omega) only [nI_leI, nI_ltI, nI_eq, nI_eq0, nI_lt0, nI_0le, nI_0lt, nI_le0, zb_0] at c195
      refine g_aload_n (pc := 198) hc dMo_command_198 rfl ?_
      refine g_callV (pc := 199) hc dMo_command_199 x_Mo_166 (s_Mo_order V h) cl_Mo (h.1) (Nat.le_of_ble_eq_true rfl) (Nat.le_of_ble_eq_true rfl) (Nat.le_of_ble_eq_true rfl) (Nat.le_of_ble_eq_true rfl) rfl rfl (Nat.le_of_ble_eq_true rfl) (fun r m x hp => ?_)
      obtain ⟨rfl, rfl, h9, hs9⟩ := hp
      have ez : zrep gr E L = (zs t_503, E, gr, false, false) := by rw [zrep, if_neg (show ¬ 100 < L.length by omega), n0, if_neg (by decide), n1, if_neg (by decide), y2, if_pos rfl, c195, if_neg (by decide)]
      exact g_vret (pc := 202) hc he dMo_command_202 (Nat.le_refl _) (Nat.le_refl _) ⟨rfl, rfl, by rw [ez]; simpa [hln] using zC.of h9, hs9⟩
  have K3 : zfw L (zs t_LHLO) = false → zfw L (zs t_MAIL) = false → zfw L (zs t_RCPT) = false → zfw L (zs t_DATA) = true → mm_G V X 4 155 [(0, .ref y), (1, .int (nI L.length))] [.int (nI 3)] mem nx 0 0 := by
    intro n0 n1 n2 y3
    by_cases h0 : E.2.2.length = 0
    · refine g_istore_n (pc := 155) hc dMo_command_155 (by decide) rfl ?_
      refine g_iload_n (pc := 156) hc dMo_command_156 rfl ?_
      refine g_if_ge (tgt := 182) (pc := 157) hc dMo_command_157 (by decide) (fun _ => ?_) (fun c157 => absurd (by decide) c157)
      refine g_iload_n (pc := 182) hc dMo_command_182 rfl ?_
      refine g_if_le (tgt := 203) (pc := 183) hc dMo_command_183 (by decide) (fun c183 => absurd c183 (by decide)) (fun _ => ?_)
      refine g_iload_n (pc := 186) hc dMo_command_186 rfl ?_
      refine g_iconst (v := nI 4) (pc := 187) hc dMo_command_187 (by decide) ?_
      refine g_icmp_ge (tgt := 203) (pc := 188) hc dMo_command_188 (by decide) (fun c188 => absurd c188 (by decide)) (fun _ => ?_)
      refine g_aload_n (pc := 191) hc dMo_command_191 rfl ?_
      refine g_get (pc := 192) hc dMo_command_192 x_Mo_163 hm (by rfl) ?_
      refine g_if_ne (tgt := 203) (pc := 195) hc dMo_command_195 (by decide) (fun c195 => ?_) (fun c195 => ?_)
      · simp (disch := omega) only [nI_leI, nI_ltI, nI_eq, nI_eq0, nI_lt0, nI_0le, nI_0lt, nI_le0, zb_0] at c195
        have d195 : gr = true := by simpa using c195
        refine g_iload_n (pc := 203) hc dMo_command_203 rfl ?_
        refine g_if_ne (tgt := 215) (pc := 204) hc dMo_command_204 (by decide) (fun _ => ?_) (fun c204 => absurd c204 (by decide))
        refine g_iload_n (pc := 215) hc dMo_command_215 rfl ?_
        refine g_iconst (v := nI 1) (pc := 216) hc dMo_command_216 (by decide) ?_
        refine g_icmp_ne (tgt := 228) (pc := 217) hc dMo_command_217 (by decide) (fun _ => ?_) (fun c217 => absurd c217 (by decide))
        refine g_iload_n (pc := 228) hc dMo_command_228 rfl ?_
        refine g_iconst (v := nI 2) (pc := 229) hc dMo_command_229 (by decide) ?_
        refine g_icmp_ne (tgt := 241) (pc := 230) hc dMo_command_230 (by decide) (fun _ => ?_) (fun c230 => absurd c230 (by decide))
        refine g_iload_n (pc := 241) hc dMo_command_241 rfl ?_
        refine g_iconst (v := nI 4) (pc := 242) hc dMo_command_242 (by decide) ?_
        refine g_icmp_eq (tgt := 253) (pc := 243) hc dMo_command_243 (by decide) (fun c243 => ?_) (fun c243 => ?_)
        · simp (disch := omega) only [nI_leI, nI_ltI, nI_eq, nI_eq0, nI_lt0, nI_0le, nI_0lt, nI_le0, zb_0] at c243
          have d243 : (L.length == 4) = true := by simpa using c243
          refine g_aload_n (pc := 253) hc dMo_command_253 rfl ?_
          refine g_iload_n (pc := 254) hc dMo_command_254 rfl ?_
          refine g_callV (pc := 255) hc dMo_command_255 x_Mo_181 (s_Mo_plain3n V h h0) cl_Mo (h.1) (Nat.le_of_ble_eq_true rfl) (Nat.le_of_ble_eq_true rfl) (Nat.le_of_ble_eq_true rfl) (Nat.le_of_ble_eq_true rfl) rfl rfl (Nat.le_of_ble_eq_true rfl) (fun r m x hp => ?_)
          obtain ⟨rfl, rfl, h9, hs9⟩ := hp
          have ez : zrep gr E L = (if E.2.2.length = 0 then (zs t_503, E, gr, false, false) else (zs t_354, E, gr, true, false)) := by rw [zrep, if_neg (show ¬ 100 < L.length by omega), n0, if_neg (by decide), n1, if_neg (by decide), n2, if_neg (by decide), y3, if_pos rfl, d195, if_pos rfl, d243, if_pos rfl]
          exact g_vret (pc := 258) hc he dMo_command_258 (Nat.le_refl _) (Nat.le_refl _) ⟨rfl, rfl, by rw [ez, if_pos h0]; simpa [hln] using h9, hs9⟩
        · simp (disch := omega) only [nI_leI, nI_ltI, nI_eq, nI_eq0, nI_lt0, nI_0le, nI_0lt, nI_le0, zb_0] at c243
          have d243 : (L.length == 4) = false := by simpa using c243
          refine g_aload_n (pc := 246) hc dMo_command_246 rfl ?_
          refine g_callV (pc := 247) hc dMo_command_247 x_Mo_178 (s_Mo_syntax V h) cl_Mo (h.1) (Nat.le_of_ble_eq_true rfl) (Nat.le_of_ble_eq_true rfl) (Nat.le_of_ble_eq_true rfl) (Nat.le_of_ble_eq_true rfl) rfl rfl (Nat.le_of_ble_eq_true rfl) (fun r m x hp => ?_)
          obtain ⟨rfl, rfl, h9, hs9⟩ := hp
          refine g_goto (tgt := 258) (pc := 250) hc dMo_command_250 (by decide) ?_
          have ez : zrep gr E L = (zs t_501, E, gr, false, false) := by rw [zrep, if_neg (show ¬ 100 < L.length by omega), n0, if_neg (by decide), n1, if_neg (by decide), n2, if_neg (by decide), y3, if_pos rfl, d195, if_pos rfl, d243, if_neg (by decide)]
          exact g_vret (pc := 258) hc he dMo_command_258 (Nat.le_refl _) (Nat.le_refl _) ⟨rfl, rfl, by rw [ez]; simpa [hln] using zC.of h9, hs9⟩
      · simp (disch := omega) only [nI_leI, nI_ltI, nI_eq, nI_eq0, nI_lt0, nI_0le, nI_0lt, nI_le0, zb_0] at c195
        refine g_aload_n (pc := 198) hc dMo_command_198 rfl ?_
        refine g_callV (pc := 199) hc dMo_command_199 x_Mo_166 (s_Mo_order V h) cl_Mo (h.1) (Nat.le_of_ble_eq_true rfl) (Nat.le_of_ble_eq_true rfl) (Nat.le_of_ble_eq_true rfl) (Nat.le_of_ble_eq_true rfl) rfl rfl (Nat.le_of_ble_eq_true rfl) (fun r m x hp => ?_)
        obtain ⟨rfl, rfl, h9, hs9⟩ := hp
        have ez : zrep gr E L = (zs t_503, E, gr, false, false) := by rw [zrep, if_neg (show ¬ 100 < L.length by omega), n0, if_neg (by decide), n1, if_neg (by decide), n2, if_neg (by decide), y3, if_pos rfl, c195, if_neg (by decide)]
        exact g_vret (pc := 202) hc he dMo_command_202 (Nat.le_refl _) (Nat.le_refl _) ⟨rfl, rfl, by rw [ez]; simpa [hln] using zC.of h9, hs9⟩
    · refine g_istore_n (pc := 155) hc dMo_command_155 (by decide) rfl ?_
      refine g_iload_n (pc := 156) hc dMo_command_156 rfl ?_
      refine g_if_ge (tgt := 182) (pc := 157) hc dMo_command_157 (by decide) (fun _ => ?_) (fun c157 => absurd (by decide) c157)
      refine g_iload_n (pc := 182) hc dMo_command_182 rfl ?_
      refine g_if_le (tgt := 203) (pc := 183) hc dMo_command_183 (by decide) (fun c183 => absurd c183 (by decide)) (fun _ => ?_)
      refine g_iload_n (pc := 186) hc dMo_command_186 rfl ?_
      refine g_iconst (v := nI 4) (pc := 187) hc dMo_command_187 (by decide) ?_
      refine g_icmp_ge (tgt := 203) (pc := 188) hc dMo_command_188 (by decide) (fun c188 => absurd c188 (by decide)) (fun _ => ?_)
      refine g_aload_n (pc := 191) hc dMo_command_191 rfl ?_
      refine g_get (pc := 192) hc dMo_command_192 x_Mo_163 hm (by rfl) ?_
      refine g_if_ne (tgt := 203) (pc := 195) hc dMo_command_195 (by decide) (fun c195 => ?_) (fun c195 => ?_)
      · simp (disch := omega) only [nI_leI, nI_ltI, nI_eq, nI_eq0, nI_lt0, nI_0le, nI_0lt, nI_le0, zb_0] at c195
        have d195 : gr = true := by simpa using c195
        refine g_iload_n (pc := 203) hc dMo_command_203 rfl ?_
        refine g_if_ne (tgt := 215) (pc := 204) hc dMo_command_204 (by decide) (fun _ => ?_) (fun c204 => absurd c204 (by decide))
        refine g_iload_n (pc := 215) hc dMo_command_215 rfl ?_
        refine g_iconst (v := nI 1) (pc := 216) hc dMo_command_216 (by decide) ?_
        refine g_icmp_ne (tgt := 228) (pc := 217) hc dMo_command_217 (by decide) (fun _ => ?_) (fun c217 => absurd c217 (by decide))
        refine g_iload_n (pc := 228) hc dMo_command_228 rfl ?_
        refine g_iconst (v := nI 2) (pc := 229) hc dMo_command_229 (by decide) ?_
        refine g_icmp_ne (tgt := 241) (pc := 230) hc dMo_command_230 (by decide) (fun _ => ?_) (fun c230 => absurd c230 (by decide))
        refine g_iload_n (pc := 241) hc dMo_command_241 rfl ?_
        refine g_iconst (v := nI 4) (pc := 242) hc dMo_command_242 (by decide) ?_
        refine g_icmp_eq (tgt := 253) (pc := 243) hc dMo_command_243 (by decide) (fun c243 => ?_) (fun c243 => ?_)
        · simp (disch := omega) only [nI_leI, nI_ltI, nI_eq, nI_eq0, nI_lt0, nI_0le, nI_0lt, nI_le0, zb_0] at c243
          have d243 : (L.length == 4) = true := by simpa using c243
          refine g_aload_n (pc := 253) hc dMo_command_253 rfl ?_
          refine g_iload_n (pc := 254) hc dMo_command_254 rfl ?_
          refine g_callV (pc := 255) hc dMo_command_255 x_Mo_181 (s_Mo_plain3 V h h0) cl_Mo (h.1) (Nat.le_of_ble_eq_true rfl) (Nat.le_of_ble_eq_true rfl) (Nat.le_of_ble_eq_true rfl) (Nat.le_of_ble_eq_true rfl) rfl rfl (Nat.le_of_ble_eq_true rfl) (fun r m x hp => ?_)
          obtain ⟨rfl, rfl, h9, hs9⟩ := hp
          have ez : zrep gr E L = (if E.2.2.length = 0 then (zs t_503, E, gr, false, false) else (zs t_354, E, gr, true, false)) := by rw [zrep, if_neg (show ¬ 100 < L.length by omega), n0, if_neg (by decide), n1, if_neg (by decide), n2, if_neg (by decide), y3, if_pos rfl, d195, if_pos rfl, d243, if_pos rfl]
          exact g_vret (pc := 258) hc he dMo_command_258 (Nat.le_refl _) (Nat.le_refl _) ⟨rfl, rfl, by rw [ez, if_neg h0]; simpa [hln] using h9, hs9⟩
        · simp (disch := omega) only [nI_leI, nI_ltI, nI_eq, nI_eq0, nI_lt0, nI_0le, nI_0lt, nI_le0, zb_0] at c243
          have d243 : (L.length == 4) = false := by simpa using c243
          refine g_aload_n (pc := 246) hc dMo_command_246 rfl ?_
          refine g_callV (pc := 247) hc dMo_command_247 x_Mo_178 (s_Mo_syntax V h) cl_Mo (h.1) (Nat.le_of_ble_eq_true rfl) (Nat.le_of_ble_eq_true rfl) (Nat.le_of_ble_eq_true rfl) (Nat.le_of_ble_eq_true rfl) rfl rfl (Nat.le_of_ble_eq_true rfl) (fun r m x hp => ?_)
          obtain ⟨rfl, rfl, h9, hs9⟩ := hp
          refine g_goto (tgt := 258) (pc := 250) hc dMo_command_250 (by decide) ?_
          have ez : zrep gr E L = (zs t_501, E, gr, false, false) := by rw [zrep, if_neg (show ¬ 100 < L.length by omega), n0, if_neg (by decide), n1, if_neg (by decide), n2, if_neg (by decide), y3, if_pos rfl, d195, if_pos rfl, d243, if_neg (by decide)]
          exact g_vret (pc := 258) hc he dMo_command_258 (Nat.le_refl _) (Nat.le_refl _) ⟨rfl, rfl, by rw [ez]; simpa [hln] using zC.of h9, hs9⟩
      · simp (disch := omega) only [nI_leI, nI_ltI, nI_eq, nI_eq0, nI_lt0, nI_0le, nI_0lt, nI_le0, zb_0] at c195
        refine g_aload_n (pc := 198) hc dMo_command_198 rfl ?_
        refine g_callV (pc := 199) hc dMo_command_199 x_Mo_166 (s_Mo_order V h) cl_Mo (h.1) (Nat.le_of_ble_eq_true rfl) (Nat.le_of_ble_eq_true rfl) (Nat.le_of_ble_eq_true rfl) (Nat.le_of_ble_eq_true rfl) rfl rfl (Nat.le_of_ble_eq_true rfl) (fun r m x hp => ?_)
        obtain ⟨rfl, rfl, h9, hs9⟩ := hp
        have ez : zrep gr E L = (zs t_503, E, gr, false, false) := by rw [zrep, if_neg (show ¬ 100 < L.length by omega), n0, if_neg (by decide), n1, if_neg (by decide), n2, if_neg (by decide), y3, if_pos rfl, c195, if_neg (by decide)]
        exact g_vret (pc := 202) hc he dMo_command_202 (Nat.le_refl _) (Nat.le_refl _) ⟨rfl, rfl, by rw [ez]; simpa [hln] using zC.of h9, hs9⟩
  have K4 : zfw L (zs t_LHLO) = false → zfw L (zs t_MAIL) = false → zfw L (zs t_RCPT) = false → zfw L (zs t_DATA) = false → zfw L (zs t_RSET) = true → mm_G V X 4 155 [(0, .ref y), (1, .int (nI L.length))] [.int (nI 4)] mem nx 0 0 := by
    intro n0 n1 n2 n3 y4
    refine g_istore_n (pc := 155) hc dMo_command_155 (by decide) rfl ?_
    refine g_iload_n (pc := 156) hc dMo_command_156 rfl ?_
    refine g_if_ge (tgt := 182) (pc := 157) hc dMo_command_157 (by decide) (fun _ => ?_) (fun c157 => absurd (by decide) c157)
    refine g_iload_n (pc := 182) hc dMo_command_182 rfl ?_
    refine g_if_le (tgt := 203) (pc := 183) hc dMo_command_183 (by decide) (fun c183 => absurd c183 (by decide)) (fun _ => ?_)
    refine g_iload_n (pc := 186) hc dMo_command_186 rfl ?_
    refine g_iconst (v := nI 4) (pc := 187) hc dMo_command_187 (by decide) ?_
    refine g_icmp_ge (tgt := 203) (pc := 188) hc dMo_command_188 (by decide) (fun _ => ?_) (fun c188 => absurd (by decide) c188)
    refine g_iload_n (pc := 203) hc dMo_command_203 rfl ?_
    refine g_if_ne (tgt := 215) (pc := 204) hc dMo_command_204 (by decide) (fun _ => ?_) (fun c204 => absurd c204 (by decide))
    refine g_iload_n (pc := 215) hc dMo_command_215 rfl ?_
    refine g_iconst (v := nI 1) (pc := 216) hc dMo_command_216 (by decide) ?_
    refine g_icmp_ne (tgt := 228) (pc := 217) hc dMo_command_217 (by decide) (fun _ => ?_) (fun c217 => absurd c217 (by decide))
    refine g_iload_n (pc := 228) hc dMo_command_228 rfl ?_
    refine g_iconst (v := nI 2) (pc := 229) hc dMo_command_229 (by decide) ?_
    refine g_icmp_ne (tgt := 241) (pc := 230) hc dMo_command_230 (by decide) (fun _ => ?_) (fun c230 => absurd c230 (by decide))
    refine g_iload_n (pc := 241) hc dMo_command_241 rfl ?_
    refine g_iconst (v := nI 4) (pc := 242) hc dMo_command_242 (by decide) ?_
    refine g_icmp_eq (tgt := 253) (pc := 243) hc dMo_command_243 (by decide) (fun c243 => ?_) (fun c243 => ?_)
    · simp (disch := omega) only [nI_leI, nI_ltI, nI_eq, nI_eq0, nI_lt0, nI_0le, nI_0lt, nI_le0, zb_0] at c243
      have d243 : (L.length == 4) = true := by simpa using c243
      refine g_aload_n (pc := 253) hc dMo_command_253 rfl ?_
      refine g_iload_n (pc := 254) hc dMo_command_254 rfl ?_
      refine g_callV (pc := 255) hc dMo_command_255 x_Mo_181 (s_Mo_plain4 V h) cl_Mo (h.1) (Nat.le_of_ble_eq_true rfl) (Nat.le_of_ble_eq_true rfl) (Nat.le_of_ble_eq_true rfl) (Nat.le_of_ble_eq_true rfl) rfl rfl (Nat.le_of_ble_eq_true rfl) (fun r m x hp => ?_)
      obtain ⟨rfl, rfl, h9, hs9⟩ := hp
      have ez : zrep gr E L = (zs t_250o, ([], false, []), gr, false, false) := by rw [zrep, if_neg (show ¬ 100 < L.length by omega), n0, if_neg (by decide), n1, if_neg (by decide), n2, if_neg (by decide), n3, if_neg (by decide), y4, if_pos rfl, d243, if_pos rfl]
      exact g_vret (pc := 258) hc he dMo_command_258 (Nat.le_refl _) (Nat.le_refl _) ⟨rfl, rfl, by rw [ez]; simpa [hln] using h9, hs9⟩
    · simp (disch := omega) only [nI_leI, nI_ltI, nI_eq, nI_eq0, nI_lt0, nI_0le, nI_0lt, nI_le0, zb_0] at c243
      have d243 : (L.length == 4) = false := by simpa using c243
      refine g_aload_n (pc := 246) hc dMo_command_246 rfl ?_
      refine g_callV (pc := 247) hc dMo_command_247 x_Mo_178 (s_Mo_syntax V h) cl_Mo (h.1) (Nat.le_of_ble_eq_true rfl) (Nat.le_of_ble_eq_true rfl) (Nat.le_of_ble_eq_true rfl) (Nat.le_of_ble_eq_true rfl) rfl rfl (Nat.le_of_ble_eq_true rfl) (fun r m x hp => ?_)
      obtain ⟨rfl, rfl, h9, hs9⟩ := hp
      refine g_goto (tgt := 258) (pc := 250) hc dMo_command_250 (by decide) ?_
      have ez : zrep gr E L = (zs t_501, E, gr, false, false) := by rw [zrep, if_neg (show ¬ 100 < L.length by omega), n0, if_neg (by decide), n1, if_neg (by decide), n2, if_neg (by decide), n3, if_neg (by decide), y4, if_pos rfl, d243, if_neg (by decide)]
      exact g_vret (pc := 258) hc he dMo_command_258 (Nat.le_refl _) (Nat.le_refl _) ⟨rfl, rfl, by rw [ez]; simpa [hln] using zC.of h9, hs9⟩
  have K5 : zfw L (zs t_LHLO) = false → zfw L (zs t_MAIL) = false → zfw L (zs t_RCPT) = false → zfw L (zs t_DATA) = false → zfw L (zs t_RSET) = false → zfw L (zs t_NOOP) = true → mm_G V X 4 155 [(0, .ref y), (1, .int (nI L.length))] [.int (nI 5)] mem nx 0 0 := by
    intro n0 n1 n2 n3 n4 y5
    refine g_istore_n (pc := 155) hc dMo_command_155 (by decide) rfl ?_
    refine g_iload_n (pc := 156) hc dMo_command_156 rfl ?_
    refine g_if_ge (tgt := 182) (pc := 157) hc dMo_command_157 (by decide) (fun _ => ?_) (fun c157 => absurd (by decide) c157)
    refine g_iload_n (pc := 182) hc dMo_command_182 rfl ?_
    refine g_if_le (tgt := 203) (pc := 183) hc dMo_command_183 (by decide) (fun c183 => absurd c183 (by decide)) (fun _ => ?_)
    refine g_iload_n (pc := 186) hc dMo_command_186 rfl ?_
    refine g_iconst (v := nI 4) (pc := 187) hc dMo_command_187 (by decide) ?_
    refine g_icmp_ge (tgt := 203) (pc := 188) hc dMo_command_188 (by decide) (fun _ => ?_) (fun c188 => absurd (by decide) c188)
    refine g_iload_n (pc := 203) hc dMo_command_203 rfl ?_
    refine g_if_ne (tgt := 215) (pc := 204) hc dMo_command_204 (by decide) (fun _ => ?_) (fun c204 => absurd c204 (by decide))
    refine g_iload_n (pc := 215) hc dMo_command_215 rfl ?_
    refine g_iconst (v := nI 1) (pc := 216) hc dMo_command_216 (by decide) ?_
    refine g_icmp_ne (tgt := 228) (pc := 217) hc dMo_command_217 (by decide) (fun _ => ?_) (fun c217 => absurd c217 (by decide))
    refine g_iload_n (pc := 228) hc dMo_command_228 rfl ?_
    refine g_iconst (v := nI 2) (pc := 229) hc dMo_command_229 (by decide) ?_
    refine g_icmp_ne (tgt := 241) (pc := 230) hc dMo_command_230 (by decide) (fun _ => ?_) (fun c230 => absurd c230 (by decide))
    refine g_iload_n (pc := 241) hc dMo_command_241 rfl ?_
    refine g_iconst (v := nI 4) (pc := 242) hc dMo_command_242 (by decide) ?_
    refine g_icmp_eq (tgt := 253) (pc := 243) hc dMo_command_243 (by decide) (fun c243 => ?_) (fun c243 => ?_)
    · simp (disch := omega) only [nI_leI, nI_ltI, nI_eq, nI_eq0, nI_lt0, nI_0le, nI_0lt, nI_le0, zb_0] at c243
      have d243 : (L.length == 4) = true := by simpa using c243
      refine g_aload_n (pc := 253) hc dMo_command_253 rfl ?_
      refine g_iload_n (pc := 254) hc dMo_command_254 rfl ?_
      refine g_callV (pc := 255) hc dMo_command_255 x_Mo_181 (s_Mo_plain5 V h) cl_Mo (h.1) (Nat.le_of_ble_eq_true rfl) (Nat.le_of_ble_eq_true rfl) (Nat.le_of_ble_eq_true rfl) (Nat.le_of_ble_eq_true rfl) rfl rfl (Nat.le_of_ble_eq_true rfl) (fun r m x hp => ?_)
      obtain ⟨rfl, rfl, h9, hs9⟩ := hp
      have ez : zrep gr E L = (zs t_250o, E, gr, false, false) := by rw [zrep, if_neg (show ¬ 100 < L.length by omega), n0, if_neg (by decide), n1, if_neg (by decide), n2, if_neg (by decide), n3, if_neg (by decide), n4, if_neg (by decide), y5, if_pos rfl, d243, if_pos rfl]
      exact g_vret (pc := 258) hc he dMo_command_258 (Nat.le_refl _) (Nat.le_refl _) ⟨rfl, rfl, by rw [ez]; simpa [hln] using h9, hs9⟩
    · simp (disch := omega) only [nI_leI, nI_ltI, nI_eq, nI_eq0, nI_lt0, nI_0le, nI_0lt, nI_le0, zb_0] at c243
      have d243 : (L.length == 4) = false := by simpa using c243
      refine g_aload_n (pc := 246) hc dMo_command_246 rfl ?_
      refine g_callV (pc := 247) hc dMo_command_247 x_Mo_178 (s_Mo_syntax V h) cl_Mo (h.1) (Nat.le_of_ble_eq_true rfl) (Nat.le_of_ble_eq_true rfl) (Nat.le_of_ble_eq_true rfl) (Nat.le_of_ble_eq_true rfl) rfl rfl (Nat.le_of_ble_eq_true rfl) (fun r m x hp => ?_)
      obtain ⟨rfl, rfl, h9, hs9⟩ := hp
      refine g_goto (tgt := 258) (pc := 250) hc dMo_command_250 (by decide) ?_
      have ez : zrep gr E L = (zs t_501, E, gr, false, false) := by rw [zrep, if_neg (show ¬ 100 < L.length by omega), n0, if_neg (by decide), n1, if_neg (by decide), n2, if_neg (by decide), n3, if_neg (by decide), n4, if_neg (by decide), y5, if_pos rfl, d243, if_neg (by decide)]
      exact g_vret (pc := 258) hc he dMo_command_258 (Nat.le_refl _) (Nat.le_refl _) ⟨rfl, rfl, by rw [ez]; simpa [hln] using zC.of h9, hs9⟩
  have K6 : zfw L (zs t_LHLO) = false → zfw L (zs t_MAIL) = false → zfw L (zs t_RCPT) = false → zfw L (zs t_DATA) = false → zfw L (zs t_RSET) = false → zfw L (zs t_NOOP) = false → zfw L (zs t_QUIT) = true → mm_G V X 4 155 [(0, .ref y), (1, .int (nI L.length))] [.int (nI 6)] mem nx 0 0 := by
    intro n0 n1 n2 n3 n4 n5 y6
    refine g_istore_n (pc := 155) hc dMo_command_155 (by decide) rfl ?_
    refine g_iload_n (pc := 156) hc dMo_command_156 rfl ?_
    refine g_if_ge (tgt := 182) (pc := 157) hc dMo_command_157 (by decide) (fun _ => ?_) (fun c157 => absurd (by decide) c157)
    refine g_iload_n (pc := 182) hc dMo_command_182 rfl ?_
    refine g_if_le (tgt := 203) (pc := 183) hc dMo_command_183 (by decide) (fun c183 => absurd c183 (by decide)) (fun _ => ?_)
    refine g_iload_n (pc := 186) hc dMo_command_186 rfl ?_
    refine g_iconst (v := nI 4) (pc := 187) hc dMo_command_187 (by decide) ?_
    refine g_icmp_ge (tgt := 203) (pc := 188) hc dMo_command_188 (by decide) (fun _ => ?_) (fun c188 => absurd (by decide) c188)
    refine g_iload_n (pc := 203) hc dMo_command_203 rfl ?_
    refine g_if_ne (tgt := 215) (pc := 204) hc dMo_command_204 (by decide) (fun _ => ?_) (fun c204 => absurd c204 (by decide))
    refine g_iload_n (pc := 215) hc dMo_command_215 rfl ?_
    refine g_iconst (v := nI 1) (pc := 216) hc dMo_command_216 (by decide) ?_
    refine g_icmp_ne (tgt := 228) (pc := 217) hc dMo_command_217 (by decide) (fun _ => ?_) (fun c217 => absurd c217 (by decide))
    refine g_iload_n (pc := 228) hc dMo_command_228 rfl ?_
    refine g_iconst (v := nI 2) (pc := 229) hc dMo_command_229 (by decide) ?_
    refine g_icmp_ne (tgt := 241) (pc := 230) hc dMo_command_230 (by decide) (fun _ => ?_) (fun c230 => absurd c230 (by decide))
    refine g_iload_n (pc := 241) hc dMo_command_241 rfl ?_
    refine g_iconst (v := nI 4) (pc := 242) hc dMo_command_242 (by decide) ?_
    refine g_icmp_eq (tgt := 253) (pc := 243) hc dMo_command_243 (by decide) (fun c243 => ?_) (fun c243 => ?_)
    · simp (disch := omega) only [nI_leI, nI_ltI, nI_eq, nI_eq0, nI_lt0, nI_0le, nI_0lt, nI_le0, zb_0] at c243
      have d243 : (L.length == 4) = true := by simpa using c243
      refine g_aload_n (pc := 253) hc dMo_command_253 rfl ?_
      refine g_iload_n (pc := 254) hc dMo_command_254 rfl ?_
      refine g_callV (pc := 255) hc dMo_command_255 x_Mo_181 (s_Mo_plain6 V h) cl_Mo (h.1) (Nat.le_of_ble_eq_true rfl) (Nat.le_of_ble_eq_true rfl) (Nat.le_of_ble_eq_true rfl) (Nat.le_of_ble_eq_true rfl) rfl rfl (Nat.le_of_ble_eq_true rfl) (fun r m x hp => ?_)
      obtain ⟨rfl, rfl, h9, hs9⟩ := hp
      have ez : zrep gr E L = (zs t_221, E, gr, false, true) := by rw [zrep, if_neg (show ¬ 100 < L.length by omega), n0, if_neg (by decide), n1, if_neg (by decide), n2, if_neg (by decide), n3, if_neg (by decide), n4, if_neg (by decide), n5, if_neg (by decide), y6, if_pos rfl, d243, if_pos rfl]
      exact g_vret (pc := 258) hc he dMo_command_258 (Nat.le_refl _) (Nat.le_refl _) ⟨rfl, rfl, by rw [ez]; simpa [hln] using h9, hs9⟩
    · simp (disch := omega) only [nI_leI, nI_ltI, nI_eq, nI_eq0, nI_lt0, nI_0le, nI_0lt, nI_le0, zb_0] at c243
      have d243 : (L.length == 4) = false := by simpa using c243
      refine g_aload_n (pc := 246) hc dMo_command_246 rfl ?_
      refine g_callV (pc := 247) hc dMo_command_247 x_Mo_178 (s_Mo_syntax V h) cl_Mo (h.1) (Nat.le_of_ble_eq_true rfl) (Nat.le_of_ble_eq_true rfl) (Nat.le_of_ble_eq_true rfl) (Nat.le_of_ble_eq_true rfl) rfl rfl (Nat.le_of_ble_eq_true rfl) (fun r m x hp => ?_)
      obtain ⟨rfl, rfl, h9, hs9⟩ := hp
      refine g_goto (tgt := 258) (pc := 250) hc dMo_command_250 (by decide) ?_
      have ez : zrep gr E L = (zs t_501, E, gr, false, false) := by rw [zrep, if_neg (show ¬ 100 < L.length by omega), n0, if_neg (by decide), n1, if_neg (by decide), n2, if_neg (by decide), n3, if_neg (by decide), n4, if_neg (by decide), n5, if_neg (by decide), y6, if_pos rfl, d243, if_neg (by decide)]
      exact g_vret (pc := 258) hc he dMo_command_258 (Nat.le_refl _) (Nat.le_refl _) ⟨rfl, rfl, by rw [ez]; simpa [hln] using zC.of h9, hs9⟩
  have K7 : zfw L (zs t_LHLO) = false → zfw L (zs t_MAIL) = false → zfw L (zs t_RCPT) = false → zfw L (zs t_DATA) = false → zfw L (zs t_RSET) = false → zfw L (zs t_NOOP) = false → zfw L (zs t_QUIT) = false → mm_G V X 4 155 [(0, .ref y), (1, .int (nI L.length))] [.int (-1)] mem nx 0 0 := by
    intro n0 n1 n2 n3 n4 n5 n6
    refine g_istore_n (pc := 155) hc dMo_command_155 (by decide) rfl ?_
    refine g_iload_n (pc := 156) hc dMo_command_156 rfl ?_
    refine g_if_ge (tgt := 182) (pc := 157) hc dMo_command_157 (by decide) (fun c157 => absurd c157 (by decide)) (fun _ => ?_)
    refine g_aload_n (pc := 160) hc dMo_command_160 rfl ?_
    refine g_ldc2 (pc := 161) hc dMo_command_161 x_Mo_159 ?_
    refine g_bipush (v := nI 8) (pc := 164) hc dMo_command_164 (by decide) ?_
    refine g_callV (pc := 166) hc dMo_command_166 x_Mo_60 (s_Mo_say V (n := 8) h (by decide)) cl_Mo (h.1) (Nat.le_of_ble_eq_true rfl) (Nat.le_of_ble_eq_true rfl) (Nat.le_of_ble_eq_true rfl) (Nat.le_of_ble_eq_true rfl) rfl rfl (Nat.le_of_ble_eq_true rfl) (fun r m x hp => ?_)
    obtain ⟨rfl, rfl, h7, hs7⟩ := hp
    refine g_aload_n (pc := 169) hc dMo_command_169 rfl ?_
    refine g_ldc2 (pc := 170) hc dMo_command_170 x_Mo_161 ?_
    refine g_iconst (v := nI 3) (pc := 173) hc dMo_command_173 (by decide) ?_
    refine g_callV (pc := 174) hc dMo_command_174 x_Mo_60 (s_Mo_say V (n := 3) h7 (by decide)) cl_Mo (h7.1) (Nat.le_of_ble_eq_true rfl) (Nat.le_of_ble_eq_true rfl) (Nat.le_of_ble_eq_true rfl) (Nat.le_of_ble_eq_true rfl) rfl rfl (Nat.le_of_ble_eq_true rfl) (fun r m x hp => ?_)
    obtain ⟨rfl, rfl, h8, hs8⟩ := hp
    refine g_aload_n (pc := 177) hc dMo_command_177 rfl ?_
    refine g_callV (pc := 178) hc dMo_command_178 x_Mo_66 (s_Mo_end V h8) cl_Mo (h8.1) (Nat.le_of_ble_eq_true rfl) (Nat.le_of_ble_eq_true rfl) (Nat.le_of_ble_eq_true rfl) (Nat.le_of_ble_eq_true rfl) rfl rfl (Nat.le_of_ble_eq_true rfl) (fun r m x hp => ?_)
    obtain ⟨rfl, rfl, h9, hs9⟩ := hp
    rw [zans2, show zsay 3832616198859549550 8 ++ zsay 8032009406717624320 3 = zs t_500u by decide] at h9
    have ez : zrep gr E L = (zs t_500u, E, gr, false, false) := by rw [zrep, if_neg (show ¬ 100 < L.length by omega), n0, if_neg (by decide), n1, if_neg (by decide), n2, if_neg (by decide), n3, if_neg (by decide), n4, if_neg (by decide), n5, if_neg (by decide), n6, if_neg (by decide)]
    exact g_vret (pc := 181) hc he dMo_command_181 (Nat.le_refl _) (Nat.le_refl _) ⟨rfl, rfl, by rw [ez]; simpa [hln] using zC.of h9, fun a q => (hs9 a q).trans ((hs8 a q).trans (hs7 a q))⟩
  have J25 : mm_G V X 4 25 [(0, .ref y), (1, .int (nI L.length)), (2, .int (nI (zword L)))] [] mem nx 0 0 := by
    have hwl : zword L ≤ L.length := (List.takeWhile_sublist _).length_le
    refine g_iload_n (pc := 25) hc dMo_command_25 rfl ?_
    refine g_iconst (v := nI 4) (pc := 26) hc dMo_command_26 (by decide) ?_
    refine g_icmp_eq (tgt := 34) (pc := 27) hc dMo_command_27 (by decide) (fun c27 => ?_) (fun c27 => ?_)
    · simp (disch := omega) only [nI_leI, nI_ltI, nI_eq, nI_eq0, nI_lt0, nI_0le, nI_0lt, nI_le0, zb_0] at c27
      refine g_aload_n (pc := 34) hc dMo_command_34 rfl ?_
      refine g_iconst (v := nI 0) (pc := 35) hc dMo_command_35 (by decide) ?_
      refine g_ldc2 (pc := 36) hc dMo_command_36 x_Mo_141 ?_
      refine g_iconst (v := nI 4) (pc := 39) hc dMo_command_39 (by decide) ?_
      refine g_iload_n (pc := 40) hc dMo_command_40 rfl ?_
      refine g_callV (pc := 41) hc dMo_command_41 x_Mo_143 (s_Mo_is V (k := 0) (n := 4) h hLb (by decide) (by decide)) cl_Mo (h.1) (Nat.le_of_ble_eq_true rfl) (Nat.le_of_ble_eq_true rfl) (Nat.le_of_ble_eq_true rfl) (Nat.le_of_ble_eq_true rfl) rfl rfl (Nat.le_of_ble_eq_true rfl) (fun r m x hp => ?_)
      obtain ⟨rfl, rfl, rfl⟩ := hp
      refine g_if_eq (tgt := 51) (pc := 44) hc dMo_command_44 (by decide) (fun c44 => ?_) (fun c44 => ?_)
      · simp (disch := omega) only [nI_leI, nI_ltI, nI_eq, nI_eq0, nI_lt0, nI_0le, nI_0lt, nI_le0, zb_0] at c44
        refine g_aload_n (pc := 51) hc dMo_command_51 rfl ?_
        refine g_iconst (v := nI 0) (pc := 52) hc dMo_command_52 (by decide) ?_
        refine g_ldc2 (pc := 53) hc dMo_command_53 x_Mo_147 ?_
        refine g_iconst (v := nI 4) (pc := 56) hc dMo_command_56 (by decide) ?_
        refine g_iload_n (pc := 57) hc dMo_command_57 rfl ?_
        refine g_callV (pc := 58) hc dMo_command_58 x_Mo_143 (s_Mo_is V (k := 0) (n := 4) h hLb (by decide) (by decide)) cl_Mo (h.1) (Nat.le_of_ble_eq_true rfl) (Nat.le_of_ble_eq_true rfl) (Nat.le_of_ble_eq_true rfl) (Nat.le_of_ble_eq_true rfl) rfl rfl (Nat.le_of_ble_eq_true rfl) (fun r m x hp => ?_)
        obtain ⟨rfl, rfl, rfl⟩ := hp
        refine g_if_eq (tgt := 68) (pc := 61) hc dMo_command_61 (by decide) (fun c61 => ?_) (fun c61 => ?_)
        · simp (disch := omega) only [nI_leI, nI_ltI, nI_eq, nI_eq0, nI_lt0, nI_0le, nI_0lt, nI_le0, zb_0] at c61
          refine g_aload_n (pc := 68) hc dMo_command_68 rfl ?_
          refine g_iconst (v := nI 0) (pc := 69) hc dMo_command_69 (by decide) ?_
          refine g_ldc2 (pc := 70) hc dMo_command_70 x_Mo_149 ?_
          refine g_iconst (v := nI 4) (pc := 73) hc dMo_command_73 (by decide) ?_
          refine g_iload_n (pc := 74) hc dMo_command_74 rfl ?_
          refine g_callV (pc := 75) hc dMo_command_75 x_Mo_143 (s_Mo_is V (k := 0) (n := 4) h hLb (by decide) (by decide)) cl_Mo (h.1) (Nat.le_of_ble_eq_true rfl) (Nat.le_of_ble_eq_true rfl) (Nat.le_of_ble_eq_true rfl) (Nat.le_of_ble_eq_true rfl) rfl rfl (Nat.le_of_ble_eq_true rfl) (fun r m x hp => ?_)
          obtain ⟨rfl, rfl, rfl⟩ := hp
          refine g_if_eq (tgt := 85) (pc := 78) hc dMo_command_78 (by decide) (fun c78 => ?_) (fun c78 => ?_)
          · simp (disch := omega) only [nI_leI, nI_ltI, nI_eq, nI_eq0, nI_lt0, nI_0le, nI_0lt, nI_le0, zb_0] at c78
            refine g_aload_n (pc := 85) hc dMo_command_85 rfl ?_
            refine g_iconst (v := nI 0) (pc := 86) hc dMo_command_86 (by decide) ?_
            refine g_ldc2 (pc := 87) hc dMo_command_87 x_Mo_151 ?_
            refine g_iconst (v := nI 4) (pc := 90) hc dMo_command_90 (by decide) ?_
            refine g_iload_n (pc := 91) hc dMo_command_91 rfl ?_
            refine g_callV (pc := 92) hc dMo_command_92 x_Mo_143 (s_Mo_is V (k := 0) (n := 4) h hLb (by decide) (by decide)) cl_Mo (h.1) (Nat.le_of_ble_eq_true rfl) (Nat.le_of_ble_eq_true rfl) (Nat.le_of_ble_eq_true rfl) (Nat.le_of_ble_eq_true rfl) rfl rfl (Nat.le_of_ble_eq_true rfl) (fun r m x hp => ?_)
            obtain ⟨rfl, rfl, rfl⟩ := hp
            refine g_if_eq (tgt := 102) (pc := 95) hc dMo_command_95 (by decide) (fun c95 => ?_) (fun c95 => ?_)
            · simp (disch := omega) only [nI_leI, nI_ltI, nI_eq, nI_eq0, nI_lt0, nI_0le, nI_0lt, nI_le0, zb_0] at c95
              refine g_aload_n (pc := 102) hc dMo_command_102 rfl ?_
              refine g_iconst (v := nI 0) (pc := 103) hc dMo_command_103 (by decide) ?_
              refine g_ldc2 (pc := 104) hc dMo_command_104 x_Mo_153 ?_
              refine g_iconst (v := nI 4) (pc := 107) hc dMo_command_107 (by decide) ?_
              refine g_iload_n (pc := 108) hc dMo_command_108 rfl ?_
              refine g_callV (pc := 109) hc dMo_command_109 x_Mo_143 (s_Mo_is V (k := 0) (n := 4) h hLb (by decide) (by decide)) cl_Mo (h.1) (Nat.le_of_ble_eq_true rfl) (Nat.le_of_ble_eq_true rfl) (Nat.le_of_ble_eq_true rfl) (Nat.le_of_ble_eq_true rfl) rfl rfl (Nat.le_of_ble_eq_true rfl) (fun r m x hp => ?_)
              obtain ⟨rfl, rfl, rfl⟩ := hp
              refine g_if_eq (tgt := 119) (pc := 112) hc dMo_command_112 (by decide) (fun c112 => ?_) (fun c112 => ?_)
              · simp (disch := omega) only [nI_leI, nI_ltI, nI_eq, nI_eq0, nI_lt0, nI_0le, nI_0lt, nI_le0, zb_0] at c112
                refine g_aload_n (pc := 119) hc dMo_command_119 rfl ?_
                refine g_iconst (v := nI 0) (pc := 120) hc dMo_command_120 (by decide) ?_
                refine g_ldc2 (pc := 121) hc dMo_command_121 x_Mo_155 ?_
                refine g_iconst (v := nI 4) (pc := 124) hc dMo_command_124 (by decide) ?_
                refine g_iload_n (pc := 125) hc dMo_command_125 rfl ?_
                refine g_callV (pc := 126) hc dMo_command_126 x_Mo_143 (s_Mo_is V (k := 0) (n := 4) h hLb (by decide) (by decide)) cl_Mo (h.1) (Nat.le_of_ble_eq_true rfl) (Nat.le_of_ble_eq_true rfl) (Nat.le_of_ble_eq_true rfl) (Nat.le_of_ble_eq_true rfl) rfl rfl (Nat.le_of_ble_eq_true rfl) (fun r m x hp => ?_)
                obtain ⟨rfl, rfl, rfl⟩ := hp
                refine g_if_eq (tgt := 136) (pc := 129) hc dMo_command_129 (by decide) (fun c129 => ?_) (fun c129 => ?_)
                · simp (disch := omega) only [nI_leI, nI_ltI, nI_eq, nI_eq0, nI_lt0, nI_0le, nI_0lt, nI_le0, zb_0] at c129
                  refine g_aload_n (pc := 136) hc dMo_command_136 rfl ?_
                  refine g_iconst (v := nI 0) (pc := 137) hc dMo_command_137 (by decide) ?_
                  refine g_ldc2 (pc := 138) hc dMo_command_138 x_Mo_157 ?_
                  refine g_iconst (v := nI 4) (pc := 141) hc dMo_command_141 (by decide) ?_
                  refine g_iload_n (pc := 142) hc dMo_command_142 rfl ?_
                  refine g_callV (pc := 143) hc dMo_command_143 x_Mo_143 (s_Mo_is V (k := 0) (n := 4) h hLb (by decide) (by decide)) cl_Mo (h.1) (Nat.le_of_ble_eq_true rfl) (Nat.le_of_ble_eq_true rfl) (Nat.le_of_ble_eq_true rfl) (Nat.le_of_ble_eq_true rfl) rfl rfl (Nat.le_of_ble_eq_true rfl) (fun r m x hp => ?_)
                  obtain ⟨rfl, rfl, rfl⟩ := hp
                  refine g_if_eq (tgt := 154) (pc := 146) hc dMo_command_146 (by decide) (fun c146 => ?_) (fun c146 => ?_)
                  · simp (disch := omega) only [nI_leI, nI_ltI, nI_eq, nI_eq0, nI_lt0, nI_0le, nI_0lt, nI_le0, zb_0] at c146
                    refine g_iconst (v := -1) (pc := 154) hc dMo_command_154 (by decide) ?_
                    refine g_lv (lv' := [(0, .ref y), (1, .int (nI L.length))]) ⟨rfl, rfl, trivial⟩ ?_
                    exact K7 (by rw [w0, c44, Bool.and_false]) (by rw [w1, c61, Bool.and_false]) (by rw [w2, c78, Bool.and_false]) (by rw [w3, c95, Bool.and_false]) (by rw [w4, c112, Bool.and_false]) (by rw [w5, c129, Bool.and_false]) (by rw [w6, c146, Bool.and_false])
                  · simp (disch := omega) only [nI_leI, nI_ltI, nI_eq, nI_eq0, nI_lt0, nI_0le, nI_0lt, nI_le0, zb_0] at c146
                    have d146 : zis L 0 (zsay 5860671115218649088 4) = true := by simpa using c146
                    refine g_bipush (v := nI 6) (pc := 149) hc dMo_command_149 (by decide) ?_
                    refine g_goto (tgt := 155) (pc := 151) hc dMo_command_151 (by decide) ?_
                    refine g_lv (lv' := [(0, .ref y), (1, .int (nI L.length))]) ⟨rfl, rfl, trivial⟩ ?_
                    exact K6 (by rw [w0, c44, Bool.and_false]) (by rw [w1, c61, Bool.and_false]) (by rw [w2, c78, Bool.and_false]) (by rw [w3, c95, Bool.and_false]) (by rw [w4, c112, Bool.and_false]) (by rw [w5, c129, Bool.and_false]) (by rw [w6, c27, d146]; rfl)
                · simp (disch := omega) only [nI_leI, nI_ltI, nI_eq, nI_eq0, nI_lt0, nI_0le, nI_0lt, nI_le0, zb_0] at c129
                  have d129 : zis L 0 (zsay 5642816063134498816 4) = true := by simpa using c129
                  refine g_iconst (v := nI 5) (pc := 132) hc dMo_command_132 (by decide) ?_
                  refine g_goto (tgt := 155) (pc := 133) hc dMo_command_133 (by decide) ?_
                  refine g_lv (lv' := [(0, .ref y), (1, .int (nI L.length))]) ⟨rfl, rfl, trivial⟩ ?_
                  exact K5 (by rw [w0, c44, Bool.and_false]) (by rw [w1, c61, Bool.and_false]) (by rw [w2, c78, Bool.and_false]) (by rw [w3, c95, Bool.and_false]) (by rw [w4, c112, Bool.and_false]) (by rw [w5, c27, d129]; rfl)
              · simp (disch := omega) only [nI_leI, nI_ltI, nI_eq, nI_eq0, nI_lt0, nI_0le, nI_0lt, nI_le0, zb_0] at c112
                have d112 : zis L 0 (zsay 5932161361256644608 4) = true := by simpa using c112
                refine g_iconst (v := nI 4) (pc := 115) hc dMo_command_115 (by decide) ?_
                refine g_goto (tgt := 155) (pc := 116) hc dMo_command_116 (by decide) ?_
                refine g_lv (lv' := [(0, .ref y), (1, .int (nI L.length))]) ⟨rfl, rfl, trivial⟩ ?_
                exact K4 (by rw [w0, c44, Bool.and_false]) (by rw [w1, c61, Bool.and_false]) (by rw [w2, c78, Bool.and_false]) (by rw [w3, c95, Bool.and_false]) (by rw [w4, c27, d112]; rfl)
            · simp (disch := omega) only [nI_leI, nI_ltI, nI_eq, nI_eq0, nI_lt0, nI_0le, nI_0lt, nI_le0, zb_0] at c95
              have d95 : zis L 0 (zsay 4918304906214899712 4) = true := by simpa using c95
              refine g_iconst (v := nI 3) (pc := 98) hc dMo_command_98 (by decide) ?_
              refine g_goto (tgt := 155) (pc := 99) hc dMo_command_99 (by decide) ?_
              refine g_lv (lv' := [(0, .ref y), (1, .int (nI L.length))]) ⟨rfl, rfl, trivial⟩ ?_
              exact K3 (by rw [w0, c44, Bool.and_false]) (by rw [w1, c61, Bool.and_false]) (by rw [w2, c78, Bool.and_false]) (by rw [w3, c27, d95]; rfl)
          · simp (disch := omega) only [nI_leI, nI_ltI, nI_eq, nI_eq0, nI_lt0, nI_0le, nI_0lt, nI_le0, zb_0] at c78
            have d78 : zis L 0 (zsay 5927669856257179648 4) = true := by simpa using c78
            refine g_iconst (v := nI 2) (pc := 81) hc dMo_command_81 (by decide) ?_
            refine g_goto (tgt := 155) (pc := 82) hc dMo_command_82 (by decide) ?_
            refine g_lv (lv' := [(0, .ref y), (1, .int (nI L.length))]) ⟨rfl, rfl, trivial⟩ ?_
            exact K2 (by rw [w0, c44, Bool.and_false]) (by rw [w1, c61, Bool.and_false]) (by rw [w2, c27, d78]; rfl)
        · simp (disch := omega) only [nI_leI, nI_ltI, nI_eq, nI_eq0, nI_lt0, nI_0le, nI_0lt, nI_le0, zb_0] at c61
          have d61 : zis L 0 (zsay 5566811205172985856 4) = true := by simpa using c61
          refine g_iconst (v := nI 1) (pc := 64) hc dMo_command_64 (by decide) ?_
          refine g_goto (tgt := 155) (pc := 65) hc dMo_command_65 (by decide) ?_
          refine g_lv (lv' := [(0, .ref y), (1, .int (nI L.length))]) ⟨rfl, rfl, trivial⟩ ?_
          exact K1 (by rw [w0, c44, Bool.and_false]) (by rw [w1, c27, d61]; rfl)
      · simp (disch := omega) only [nI_leI, nI_ltI, nI_eq, nI_eq0, nI_lt0, nI_0le, nI_0lt, nI_le0, zb_0] at c44
        have d44 : zis L 0 (zsay 5496727247391817728 4) = true := by simpa using c44
        refine g_iconst (v := nI 0) (pc := 47) hc dMo_command_47 (by decide) ?_
        refine g_goto (tgt := 155) (pc := 48) hc dMo_command_48 (by decide) ?_
        refine g_lv (lv' := [(0, .ref y), (1, .int (nI L.length))]) ⟨rfl, rfl, trivial⟩ ?_
        exact K0 (by rw [w0, c27, d44]; rfl)
    · simp (disch := omega) only [nI_leI, nI_ltI, nI_eq, nI_eq0, nI_lt0, nI_0le, nI_0lt, nI_le0, zb_0] at c27
      refine g_iconst (v := -1) (pc := 30) hc dMo_command_30 (by decide) ?_
      refine g_goto (tgt := 155) (pc := 31) hc dMo_command_31 (by decide) ?_
      refine g_lv (lv' := [(0, .ref y), (1, .int (nI L.length))]) ⟨rfl, rfl, trivial⟩ ?_
      exact K7 (by rw [w0, decide_eq_false c27, Bool.false_and]) (by rw [w1, decide_eq_false c27, Bool.false_and]) (by rw [w2, decide_eq_false c27, Bool.false_and]) (by rw [w3, decide_eq_false c27, Bool.false_and]) (by rw [w4, decide_eq_false c27, Bool.false_and]) (by rw [w5, decide_eq_false c27, Bool.false_and]) (by rw [w6, decide_eq_false c27, Bool.false_and])
  have loop : ∀ (rest : List Nat) (i : Nat), L.drop i = rest → i ≤ L.length → i + zword rest = zword L → mm_G V X 4 2 [(0, .ref y), (1, .int (nI L.length)), (2, .int (nI i))] [] mem nx 0 0 := by
    intro rest
    induction rest with
    | nil =>
      intro i e1 h1 e2
      have e3 : L.length ≤ i := List.drop_eq_nil_iff.mp e1
      have e4 : i = zword L := e2
      refine g_iload_n (pc := 2) hc dMo_command_2 rfl ?_
      refine g_iload_n (pc := 3) hc dMo_command_3 rfl ?_
      refine g_icmp_ge (tgt := 25) (pc := 4) hc dMo_command_4 (by decide) (fun _ => ?_) (fun c4 => absurd (nI_le (by omega) (by omega)) c4)
      rw [e4]
      exact J25
    | cons b rest ih =>
      intro i e1 h1 e2
      have e3 : i < L.length := by
        rcases Nat.lt_or_ge i L.length with z | z
        · exact z
        · rw [List.drop_eq_nil_iff.mpr z] at e1; cases e1
      have e4 := zdrop_cons e3
      rw [e1] at e4
      obtain ⟨e5, e6⟩ := List.cons.inj e4
      have hb8 : b < 256 := by rw [e5]; exact hLb _ (zmem_getD e3)
      refine g_iload_n (pc := 2) hc dMo_command_2 rfl ?_
      refine g_iload_n (pc := 3) hc dMo_command_3 rfl ?_
      refine g_icmp_ge (tgt := 25) (pc := 4) hc dMo_command_4 (by decide) (fun c4 => absurd c4 (nI_ge (by omega) (by omega))) (fun _ => ?_)
      refine g_aload_n (pc := 7) hc dMo_command_7 rfl ?_
      refine g_get (pc := 8) hc dMo_command_8 x_Mo_13 (by assumption) (by rfl) ?_
      refine g_iload_n (pc := 11) hc dMo_command_11 rfl ?_
      refine g_iald (pc := 12) (t := kI) hc dMo_command_12 rfl ha (vp_in_nI (show i < 210 by omega) (by decide)) ?_
      rw [nI_clamp (by omega), hf _ (by omega), ← e5]
      refine g_bipush (v := nI 32) (pc := 13) hc dMo_command_13 (by decide) ?_
      refine g_icmp_eq (tgt := 25) (pc := 15) hc dMo_command_15 (by decide) (fun c15 => ?_) (fun c15 => ?_)
      · simp (disch := omega) only [nI_leI, nI_ltI, nI_eq, nI_eq0, nI_lt0, nI_0le, nI_0lt, nI_le0, zb_0] at c15
        have e7 : i = zword L := by rw [← e2, zword, List.takeWhile_cons, c15]; rfl
        rw [e7]
        exact J25
      · simp (disch := omega) only [nI_leI, nI_ltI, nI_eq, nI_eq0, nI_lt0, nI_0le, nI_0lt, nI_le0, zb_0] at c15
        refine g_iload_n (pc := 18) hc dMo_command_18 rfl ?_
        refine g_iconst (v := nI 1) (pc := 19) hc dMo_command_19 (by decide) ?_
        refine g_iadd (pc := 20) hc dMo_command_20 ?_
        rw [nI_add]
        refine g_istore_n (pc := 21) hc dMo_command_21 (by decide) rfl ?_
        refine g_goto (tgt := 2) (pc := 22) hc dMo_command_22 (by decide) ?_
        refine g_lv (lv' := [(0, .ref y), (1, .int (nI L.length)), (2, .int (nI (i + 1)))]) ⟨rfl, rfl, rfl, trivial⟩ ?_
        exact ih (i + 1) (by rw [e6]) (by omega) (by rw [← e2, zword, zword, List.takeWhile_cons, show (b != 32) = true by simpa using c15]; simp; omega)
  refine g_iconst (v := nI 0) (pc := 0) hc dMo_command_0 (by decide) ?_
  refine g_istore_n (pc := 1) hc dMo_command_1 (by decide) rfl ?_
  refine g_lv (lv' := [(0, .ref y), (1, .int (nI L.length)), (2, .int (nI 0))]) ⟨rfl, rfl, rfl, trivial⟩ ?_
  exact loop L 0 rfl (Nat.zero_le _) (Nat.zero_add _)
