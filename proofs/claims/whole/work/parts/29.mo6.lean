theorem zmem_getR {L : List (List Nat)} {j : Nat} (h : j < L.length) : L.getD j [] ∈ L := by
  rw [List.getD_eq_getElem?_getD, List.getElem?_eq_getElem h]
  exact List.getElem_mem h
theorem ztake_succ0 {L : List Nat} {j : Nat} (h : j < L.length) : L.take (j + 1) = L.take j ++ [L.getD j 0] := by
  have q := ztake_succ (L := L) (s := 0) (j := j) (by omega)
  rw [List.drop_zero, Nat.zero_add] at q
  exact q
theorem zgetD_last {l : List Nat} {x n : Nat} (h : n = l.length) : (l ++ [x]).getD n 0 = x := by
  subst h
  exact zgetD_mid l x []
set_option maxHeartbeats 4000000 in
set_option maxRecDepth 100000 in
theorem s_Mo_store (V : mm_V) {y sz la il ss : Nat} {th gr ln pt : Bool} {fi av be : Int32} {L A : List Nat} {E : zEv} {Ms : List zMsg} {mem : mm_M} {nx : Nat} (h : zK y th gr E.2.1 ln sz la il pt ss E.2.2.length fi av be L A E Ms mem) (hsz : sz = L.length) (hl200 : L.length ≤ 200) (hLb : ∀ b ∈ L, b < 256) (et : E.2.1 = true) (h0 : 0 < E.2.2.length) (h10 : Ms.length < 10) : mm_S V yMo_store cMo_store 3 none 0 0 0 [.ref y] mem nx (fun r m x => r = none ∧ nx = x ∧ zK y th gr E.2.1 ln sz la il pt ss E.2.2.length fi av be L A E (Ms ++ [(L, E.1, E.2.2.getD 0 [], E.2.2.length)]) m ∧ zsame y (y + 13) mem m) := by
  obtain ⟨hm, hT⟩ := id h
  obtain ⟨hL, hS, hR, hRs, hA, hMs, hW⟩ := id hT
  refine mm_met (by decide) (Nat.le_of_ble_eq_true rfl) ?_
  intro X hc he hnm
  have hr4 := hW.2.2.1
  have hsS := hW.2.1 et
  have hR0 := hW.2.2.2.1 (E.2.2.getD 0 []) (zmem_getR h0)
  have hS' : (if E.2.1 then E.1 else []) = E.1 := by rw [et]; rfl
  have e4 : (E.2.2.map List.length).getD 0 0 = (E.2.2.getD 0 []).length := zgetD_map List.length E.2.2 0 []
  have hlM : (Ms.map (fun μ => μ.1)).length = Ms.length ∧ (Ms.map (fun μ => μ.2.1)).length = Ms.length ∧ (Ms.map (fun μ => μ.2.2.1)).length = Ms.length := by simp
  have LC : ∀ (j i : Nat) (m2 : mm_M), j + i = (E.2.2.getD 0 []).length → m2 y = some (.inr (kMo, fMo y th gr E.2.1 ln sz la il pt ss E.2.2.length fi av be A.length Ms.length)) → zsame y (y + 13) mem m2 → (zA (y + 1) 210 L m2 ∧ zA (y + 2) 110 (if E.2.1 then E.1 else []) m2 ∧ zG (y + 3) 440 110 E.2.2 m2 ∧ zA (y + 4) 4 (E.2.2.map List.length) m2 ∧ zA (y + 5) 400 A m2 ∧ zG (y + 6) 2000 200 (Ms.map (fun μ => μ.1) ++ [L]) m2 ∧ zA (y + 7) 10 (Ms.map (fun μ => μ.1.length) ++ [L.length]) m2 ∧ zA (y + 8) 10 (Ms.map (fun μ => μ.2.2.2) ++ [E.2.2.length]) m2 ∧ zG (y + 9) 1100 110 (Ms.map (fun μ => μ.2.1) ++ [E.1]) m2 ∧ zA (y + 10) 10 (Ms.map (fun μ => μ.2.1.length) ++ [E.1.length]) m2 ∧ zG (y + 11) 1100 110 (Ms.map (fun μ => μ.2.2.1) ++ [(E.2.2.getD 0 []).take i]) m2 ∧ zA (y + 12) 10 (Ms.map (fun μ => μ.2.2.1.length) ++ [(E.2.2.getD 0 []).length]) m2) → mm_G V X 3 116 [(0, .ref y), (1, .int (nI Ms.length)), (2, .int (nI i))] [] m2 nx 0 0 := by
    intro j
    induction j with
    | zero =>
      intro i m2 e1 h2 hs2 hX
      obtain ⟨xL, xS, xR, xRs, xA, b6, b7, b8, b9, b10, b11, b12⟩ := id hX
      obtain rfl : i = (E.2.2.getD 0 []).length := by omega
      rw [List.take_length] at b11
      refine g_iload_n (pc := 116) hc dMo_store_116 rfl ?_
      refine g_aload_n (pc := 117) hc dMo_store_117 rfl ?_
      refine g_get (pc := 118) hc dMo_store_118 x_Mo_47 h2 (by rfl) ?_
      refine g_iload_n (pc := 121) hc dMo_store_121 rfl ?_
      obtain ⟨gr9, hgr, hglr, hgfr⟩ := id b12
      refine g_iald (pc := 122) (t := kI) hc dMo_store_122 rfl hgr (vp_in_nI (show Ms.length < 10 by omega) (by decide)) ?_
      rw [nI_clamp (by omega), hgfr _ (by simp), zgetD_last (by simp)]
      refine g_icmp_ge (tgt := 149) (pc := 123) hc dMo_store_123 (by decide) (fun _ => ?_) (fun c123 => absurd (nI_le (by omega) (by omega)) c123)
      refine g_aload_n (pc := 149) hc dMo_store_149 rfl ?_
      refine g_aload_n (pc := 150) hc dMo_store_150 rfl ?_
      refine g_get (pc := 151) hc dMo_store_151 x_Mo_230 h2 (by rfl) ?_
      refine g_iconst (v := nI 1) (pc := 154) hc dMo_store_154 (by decide) ?_
      refine g_iadd (pc := 155) hc dMo_store_155 ?_
      rw [nI_add]
      refine g_put (pc := 156) hc dMo_store_156 x_Mo_230 ft_Mo rfl h2 rfl rfl (zlt rfl) (fun m3 h30 o3 => ?_)
      have h3 : m3 y = some (.inr (kMo, fMo y th gr E.2.1 ln sz la il pt ss E.2.2.length fi av be A.length (Ms.length + 1))) := h30
      rw [show Ms.length + 1 = (Ms ++ [(L, E.1, E.2.2.getD 0 [], E.2.2.length)]).length by simp] at h3
      refine g_vret (pc := 159) hc he dMo_store_159 (Nat.le_refl _) (Nat.le_refl _) ⟨rfl, rfl, ⟨h3, xL.kpt o3 (by omega), xS.kpt o3 (by omega), xR.kpt o3 (by omega), xRs.kpt o3 (by omega), xA.kpt o3 (by omega), ⟨by rw [List.map_append]; exact b6.kpt o3 (by omega), by rw [List.map_append]; exact b7.kpt o3 (by omega), by rw [List.map_append]; exact b8.kpt o3 (by omega), by rw [List.map_append]; exact b9.kpt o3 (by omega), by rw [List.map_append]; exact b10.kpt o3 (by omega), by rw [List.map_append]; exact b11.kpt o3 (by omega), by rw [List.map_append]; exact b12.kpt o3 (by omega)⟩, hW.1, hW.2.1, hW.2.2.1, hW.2.2.2.1, hW.2.2.2.2.1, by simp; omega, fun μ hμ => ?_⟩, fun a q => (o3 a (by omega)).trans (hs2 a q)⟩
      rcases List.mem_append.mp hμ with q | q
      · exact hW.2.2.2.2.2.2 μ q
      · rw [List.mem_singleton.mp q]
        exact ⟨⟨hl200, hLb⟩, ⟨hsS.2.1, hsS.2.2⟩, hR0, hr4⟩
    | succ j ih =>
      intro i m2 e1 h2 hs2 hX
      obtain ⟨xL, xS, xR, xRs, xA, b6, b7, b8, b9, b10, b11, b12⟩ := id hX
      have el : ((E.2.2.getD 0 []).take i).length = i := by rw [List.length_take]; omega
      have er : (E.2.2.getD 0 []).take (i + 1) = (E.2.2.getD 0 []).take i ++ [(E.2.2.getD 0 []).getD i 0] := ztake_succ0 (by omega)
      refine g_iload_n (pc := 116) hc dMo_store_116 rfl ?_
      refine g_aload_n (pc := 117) hc dMo_store_117 rfl ?_
      refine g_get (pc := 118) hc dMo_store_118 x_Mo_47 h2 (by rfl) ?_
      refine g_iload_n (pc := 121) hc dMo_store_121 rfl ?_
      obtain ⟨gr9, hgr, hglr, hgfr⟩ := id b12
      refine g_iald (pc := 122) (t := kI) hc dMo_store_122 rfl hgr (vp_in_nI (show Ms.length < 10 by omega) (by decide)) ?_
      rw [nI_clamp (by omega), hgfr _ (by simp), zgetD_last (by simp)]
      refine g_icmp_ge (tgt := 149) (pc := 123) hc dMo_store_123 (by decide) (fun c123 => absurd c123 (nI_ge (by omega) (by omega))) (fun _ => ?_)
      refine g_aload_n (pc := 126) hc dMo_store_126 rfl ?_
      refine g_get (pc := 127) hc dMo_store_127 x_Mo_44 h2 (by rfl) ?_
      refine g_bipush (v := nI 110) (pc := 130) hc dMo_store_130 (by decide) ?_
      refine g_iload_n (pc := 132) hc dMo_store_132 rfl ?_
      refine g_imul (pc := 133) hc dMo_store_133 ?_
      rw [pk_mul]
      refine g_iload_n (pc := 134) hc dMo_store_134 rfl ?_
      refine g_iadd (pc := 135) hc dMo_store_135 ?_
      rw [nI_add]
      refine g_aload_n (pc := 136) hc dMo_store_136 rfl ?_
      refine g_get (pc := 137) hc dMo_store_137 x_Mo_20 h2 (by rfl) ?_
      refine g_iload_n (pc := 140) hc dMo_store_140 rfl ?_
      obtain ⟨gs, hgs, hgls, hgfs⟩ := id xR
      refine g_iald (pc := 141) (t := kI) hc dMo_store_141 rfl hgs (vp_in_nI (show i < 440 by omega) (by decide)) ?_
      rw [nI_clamp (by omega), show gs i = nI ((E.2.2.getD 0 []).getD i 0) from by have q := (hgfs 0 h0).2 i (by omega); rwa [Nat.mul_zero, Nat.zero_add] at q]
      obtain ⟨gq, hgq, hglq, hgfq⟩ := id b11
      refine g_iast (pc := 142) (t := kI) hc dMo_store_142 rfl hgq (vp_in_nI (show 110 * Ms.length + i < 1100 by omega) (by decide)) (fun m3 h3 o3 => ?_)
      rw [nI_clamp (by omega)] at h3
      have h4 := (o3 y (by omega)).trans h2
      refine g_iinc (pc := 143) hc dMo_store_143 rfl (zinc _) (by decide) rfl ?_
      refine g_goto (tgt := 116) (pc := 146) hc dMo_store_146 (by decide) ?_
      refine g_lv (lv' := [(0, .ref y), (1, .int (nI Ms.length)), (2, .int (nI (i + 1)))]) ⟨rfl, rfl, rfl, trivial⟩ ?_
      refine ih (i + 1) m3 (by omega) h4 (fun a q => (o3 a (by omega)).trans (hs2 a q)) ⟨xL.kpt o3 (by omega), xS.kpt o3 (by omega), xR.kpt o3 (by omega), xRs.kpt o3 (by omega), xA.kpt o3 (by omega), b6.kpt o3 (by omega), b7.kpt o3 (by omega), b8.kpt o3 (by omega), b9.kpt o3 (by omega), b10.kpt o3 (by omega), ?_, b12.kpt o3 (by omega)⟩
      rw [er]
      exact zG.step (by rw [hlM.2.2]; omega) hgfq (by omega) (by rw [hlM.2.2, el]; exact h3)
  have LB : ∀ (j i : Nat) (m2 : mm_M), j + i = E.1.length → m2 y = some (.inr (kMo, fMo y th gr E.2.1 ln sz la il pt ss E.2.2.length fi av be A.length Ms.length)) → zsame y (y + 13) mem m2 → (zA (y + 1) 210 L m2 ∧ zA (y + 2) 110 (if E.2.1 then E.1 else []) m2 ∧ zG (y + 3) 440 110 E.2.2 m2 ∧ zA (y + 4) 4 (E.2.2.map List.length) m2 ∧ zA (y + 5) 400 A m2 ∧ zG (y + 6) 2000 200 (Ms.map (fun μ => μ.1) ++ [L]) m2 ∧ zA (y + 7) 10 (Ms.map (fun μ => μ.1.length) ++ [L.length]) m2 ∧ zA (y + 8) 10 (Ms.map (fun μ => μ.2.2.2) ++ [E.2.2.length]) m2 ∧ zG (y + 9) 1100 110 (Ms.map (fun μ => μ.2.1) ++ [E.1.take i]) m2 ∧ zA (y + 10) 10 (Ms.map (fun μ => μ.2.1.length) ++ [E.1.length]) m2 ∧ zG (y + 11) 1100 110 (Ms.map (fun μ => μ.2.2.1)) m2 ∧ zA (y + 12) 10 (Ms.map (fun μ => μ.2.2.1.length)) m2) → mm_G V X 3 71 [(0, .ref y), (1, .int (nI Ms.length)), (2, .int (nI i))] [] m2 nx 0 0 := by
    intro j
    induction j with
    | zero =>
      intro i m2 e1 h2 hs2 hX
      obtain ⟨xL, xS, xR, xRs, xA, b6, b7, b8, b9, b10, b11, b12⟩ := id hX
      obtain rfl : i = E.1.length := by omega
      rw [List.take_length] at b9
      refine g_iload_n (pc := 71) hc dMo_store_71 rfl ?_
      refine g_aload_n (pc := 72) hc dMo_store_72 rfl ?_
      refine g_get (pc := 73) hc dMo_store_73 x_Mo_205 h2 (by rfl) ?_
      rw [hsS.1]
      refine g_icmp_ge (tgt := 102) (pc := 76) hc dMo_store_76 (by decide) (fun _ => ?_) (fun c76 => absurd (nI_le (by omega) (by omega)) c76)
      refine g_aload_n (pc := 102) hc dMo_store_102 rfl ?_
      refine g_get (pc := 103) hc dMo_store_103 x_Mo_47 h2 (by rfl) ?_
      refine g_iload_n (pc := 106) hc dMo_store_106 rfl ?_
      refine g_aload_n (pc := 107) hc dMo_store_107 rfl ?_
      refine g_get (pc := 108) hc dMo_store_108 x_Mo_23 h2 (by rfl) ?_
      refine g_iconst (v := nI 0) (pc := 111) hc dMo_store_111 (by decide) ?_
      obtain ⟨gr9, hgr, hglr, hgfr⟩ := id xRs
      refine g_iald (pc := 112) (t := kI) hc dMo_store_112 rfl hgr (vp_in_nI (show 0 < 4 by omega) (by decide)) ?_
      rw [nI_clamp (by omega), hgfr _ (by simp; omega), e4]
      obtain ⟨gq, hgq, hglq, hgfq⟩ := id b12
      refine g_iast (pc := 113) (t := kI) hc dMo_store_113 rfl hgq (vp_in_nI (show Ms.length < 10 by omega) (by decide)) (fun m3 h3 o3 => ?_)
      rw [nI_clamp (by omega)] at h3
      have h4 := (o3 y (by omega)).trans h2
      refine g_iconst (v := nI 0) (pc := 114) hc dMo_store_114 (by decide) ?_
      refine g_istore_n (pc := 115) hc dMo_store_115 (by decide) rfl ?_
      refine g_lv (lv' := [(0, .ref y), (1, .int (nI Ms.length)), (2, .int (nI 0))]) ⟨rfl, rfl, rfl, trivial⟩ ?_
      exact LC (E.2.2.getD 0 []).length 0 m3 rfl h4 (fun a q => (o3 a (by omega)).trans (hs2 a q)) ⟨xL.kpt o3 (by omega), xS.kpt o3 (by omega), xR.kpt o3 (by omega), xRs.kpt o3 (by omega), xA.kpt o3 (by omega), b6.kpt o3 (by omega), b7.kpt o3 (by omega), b8.kpt o3 (by omega), b9.kpt o3 (by omega), b10.kpt o3 (by omega), (b11.kpt o3 (by omega)).start (by rw [hlM.2.2]; omega), ⟨_, h3, by simp; omega, by have q := zupd_app (b := (E.2.2.getD 0 []).length) hgfq; rw [List.length_map] at q; exact q⟩⟩
    | succ j ih =>
      intro i m2 e1 h2 hs2 hX
      obtain ⟨xL, xS, xR, xRs, xA, b6, b7, b8, b9, b10, b11, b12⟩ := id hX
      rw [hS'] at xS
      have el : (E.1.take i).length = i := by simp; omega
      have er : E.1.take (i + 1) = E.1.take i ++ [E.1.getD i 0] := ztake_succ0 (by omega)
      refine g_iload_n (pc := 71) hc dMo_store_71 rfl ?_
      refine g_aload_n (pc := 72) hc dMo_store_72 rfl ?_
      refine g_get (pc := 73) hc dMo_store_73 x_Mo_205 h2 (by rfl) ?_
      rw [hsS.1]
      refine g_icmp_ge (tgt := 102) (pc := 76) hc dMo_store_76 (by decide) (fun c76 => absurd c76 (nI_ge (by omega) (by omega))) (fun _ => ?_)
      refine g_aload_n (pc := 79) hc dMo_store_79 rfl ?_
      refine g_get (pc := 80) hc dMo_store_80 x_Mo_38 h2 (by rfl) ?_
      refine g_bipush (v := nI 110) (pc := 83) hc dMo_store_83 (by decide) ?_
      refine g_iload_n (pc := 85) hc dMo_store_85 rfl ?_
      refine g_imul (pc := 86) hc dMo_store_86 ?_
      rw [pk_mul]
      refine g_iload_n (pc := 87) hc dMo_store_87 rfl ?_
      refine g_iadd (pc := 88) hc dMo_store_88 ?_
      rw [nI_add]
      refine g_aload_n (pc := 89) hc dMo_store_89 rfl ?_
      refine g_get (pc := 90) hc dMo_store_90 x_Mo_17 h2 (by rfl) ?_
      refine g_iload_n (pc := 93) hc dMo_store_93 rfl ?_
      obtain ⟨gr9, hgr, hglr, hgfr⟩ := id xS
      refine g_iald (pc := 94) (t := kI) hc dMo_store_94 rfl hgr (vp_in_nI (show i < 110 by omega) (by decide)) ?_
      rw [nI_clamp (by omega), hgfr _ (by omega)]
      obtain ⟨gq, hgq, hglq, hgfq⟩ := id b9
      refine g_iast (pc := 95) (t := kI) hc dMo_store_95 rfl hgq (vp_in_nI (show 110 * Ms.length + i < 1100 by omega) (by decide)) (fun m3 h3 o3 => ?_)
      rw [nI_clamp (by omega)] at h3
      have h4 := (o3 y (by omega)).trans h2
      rw [← hS'] at xS
      refine g_iinc (pc := 96) hc dMo_store_96 rfl (zinc _) (by decide) rfl ?_
      refine g_goto (tgt := 71) (pc := 99) hc dMo_store_99 (by decide) ?_
      refine g_lv (lv' := [(0, .ref y), (1, .int (nI Ms.length)), (2, .int (nI (i + 1)))]) ⟨rfl, rfl, rfl, trivial⟩ ?_
      refine ih (i + 1) m3 (by omega) h4 (fun a q => (o3 a (by omega)).trans (hs2 a q)) ⟨xL.kpt o3 (by omega), xS.kpt o3 (by omega), xR.kpt o3 (by omega), xRs.kpt o3 (by omega), xA.kpt o3 (by omega), b6.kpt o3 (by omega), b7.kpt o3 (by omega), b8.kpt o3 (by omega), ?_, b10.kpt o3 (by omega), b11.kpt o3 (by omega), b12.kpt o3 (by omega)⟩
      rw [er]
      exact zG.step (by rw [hlM.2.1]; omega) hgfq (by omega) (by rw [hlM.2.1, el]; exact h3)
  have LA : ∀ (j i : Nat) (m2 : mm_M), j + i = L.length → m2 y = some (.inr (kMo, fMo y th gr E.2.1 ln sz la il pt ss E.2.2.length fi av be A.length Ms.length)) → zsame y (y + 13) mem m2 → (zA (y + 1) 210 L m2 ∧ zA (y + 2) 110 (if E.2.1 then E.1 else []) m2 ∧ zG (y + 3) 440 110 E.2.2 m2 ∧ zA (y + 4) 4 (E.2.2.map List.length) m2 ∧ zA (y + 5) 400 A m2 ∧ zG (y + 6) 2000 200 (Ms.map (fun μ => μ.1) ++ [L.take i]) m2 ∧ zA (y + 7) 10 (Ms.map (fun μ => μ.1.length) ++ [L.length]) m2 ∧ zA (y + 8) 10 (Ms.map (fun μ => μ.2.2.2)) m2 ∧ zG (y + 9) 1100 110 (Ms.map (fun μ => μ.2.1)) m2 ∧ zA (y + 10) 10 (Ms.map (fun μ => μ.2.1.length)) m2 ∧ zG (y + 11) 1100 110 (Ms.map (fun μ => μ.2.2.1)) m2 ∧ zA (y + 12) 10 (Ms.map (fun μ => μ.2.2.1.length)) m2) → mm_G V X 3 17 [(0, .ref y), (1, .int (nI Ms.length)), (2, .int (nI i))] [] m2 nx 0 0 := by
    intro j
    induction j with
    | zero =>
      intro i m2 e1 h2 hs2 hX
      obtain ⟨xL, xS, xR, xRs, xA, b6, b7, b8, b9, b10, b11, b12⟩ := id hX
      obtain rfl : i = L.length := by omega
      rw [List.take_length] at b6
      refine g_iload_n (pc := 17) hc dMo_store_17 rfl ?_
      refine g_aload_n (pc := 18) hc dMo_store_18 rfl ?_
      refine g_get (pc := 19) hc dMo_store_19 x_Mo_76 h2 (by rfl) ?_
      rw [hsz]
      refine g_icmp_ge (tgt := 49) (pc := 22) hc dMo_store_22 (by decide) (fun _ => ?_) (fun c22 => absurd (nI_le (by omega) (by omega)) c22)
      refine g_aload_n (pc := 49) hc dMo_store_49 rfl ?_
      refine g_get (pc := 50) hc dMo_store_50 x_Mo_35 h2 (by rfl) ?_
      refine g_iload_n (pc := 53) hc dMo_store_53 rfl ?_
      refine g_aload_n (pc := 54) hc dMo_store_54 rfl ?_
      refine g_get (pc := 55) hc dMo_store_55 x_Mo_138 h2 (by rfl) ?_
      obtain ⟨gq, hgq, hglq, hgfq⟩ := id b8
      refine g_iast (pc := 58) (t := kI) hc dMo_store_58 rfl hgq (vp_in_nI (show Ms.length < 10 by omega) (by decide)) (fun m3 h3 o3 => ?_)
      rw [nI_clamp (by omega)] at h3
      have h4 := (o3 y (by omega)).trans h2
      have hgf8 := hgfq
      refine g_aload_n (pc := 59) hc dMo_store_59 rfl ?_
      refine g_get (pc := 60) hc dMo_store_60 x_Mo_41 h4 (by rfl) ?_
      refine g_iload_n (pc := 63) hc dMo_store_63 rfl ?_
      refine g_aload_n (pc := 64) hc dMo_store_64 rfl ?_
      refine g_get (pc := 65) hc dMo_store_65 x_Mo_205 h4 (by rfl) ?_
      rw [hsS.1]
      obtain ⟨gq, hgq, hglq, hgfq⟩ := id (b10.kpt o3 (by omega))
      refine g_iast (pc := 68) (t := kI) hc dMo_store_68 rfl hgq (vp_in_nI (show Ms.length < 10 by omega) (by decide)) (fun m4 h5 o4 => ?_)
      rw [nI_clamp (by omega)] at h5
      have h6 := (o4 y (by omega)).trans h4
      refine g_iconst (v := nI 0) (pc := 69) hc dMo_store_69 (by decide) ?_
      refine g_istore_n (pc := 70) hc dMo_store_70 (by decide) rfl ?_
      refine g_lv (lv' := [(0, .ref y), (1, .int (nI Ms.length)), (2, .int (nI 0))]) ⟨rfl, rfl, rfl, trivial⟩ ?_
      exact LB E.1.length 0 m4 rfl h6 (fun a q => (o4 a (by omega)).trans ((o3 a (by omega)).trans (hs2 a q))) ⟨(xL.kpt o3 (by omega)).kpt o4 (by omega), (xS.kpt o3 (by omega)).kpt o4 (by omega), (xR.kpt o3 (by omega)).kpt o4 (by omega), (xRs.kpt o3 (by omega)).kpt o4 (by omega), (xA.kpt o3 (by omega)).kpt o4 (by omega), (b6.kpt o3 (by omega)).kpt o4 (by omega), (b7.kpt o3 (by omega)).kpt o4 (by omega), zA.kpt ⟨_, h3, by simp; omega, by have q := zupd_app (b := E.2.2.length) hgf8; rw [List.length_map] at q; exact q⟩ o4 (by omega), ((b9.kpt o3 (by omega)).kpt o4 (by omega)).start (by rw [hlM.2.1]; omega), ⟨_, h5, by simp; omega, by have q := zupd_app (b := E.1.length) hgfq; rw [List.length_map] at q; exact q⟩, (b11.kpt o3 (by omega)).kpt o4 (by omega), (b12.kpt o3 (by omega)).kpt o4 (by omega)⟩
    | succ j ih =>
      intro i m2 e1 h2 hs2 hX
      obtain ⟨xL, xS, xR, xRs, xA, b6, b7, b8, b9, b10, b11, b12⟩ := id hX
      have el : (L.take i).length = i := by simp; omega
      have er : L.take (i + 1) = L.take i ++ [L.getD i 0] := ztake_succ0 (by omega)
      refine g_iload_n (pc := 17) hc dMo_store_17 rfl ?_
      refine g_aload_n (pc := 18) hc dMo_store_18 rfl ?_
      refine g_get (pc := 19) hc dMo_store_19 x_Mo_76 h2 (by rfl) ?_
      rw [hsz]
      refine g_icmp_ge (tgt := 49) (pc := 22) hc dMo_store_22 (by decide) (fun c22 => absurd c22 (nI_ge (by omega) (by omega))) (fun _ => ?_)
      refine g_aload_n (pc := 25) hc dMo_store_25 rfl ?_
      refine g_get (pc := 26) hc dMo_store_26 x_Mo_29 h2 (by rfl) ?_
      refine g_sipush (v := nI 200) (pc := 29) hc dMo_store_29 (by decide) ?_
      refine g_iload_n (pc := 32) hc dMo_store_32 rfl ?_
      refine g_imul (pc := 33) hc dMo_store_33 ?_
      rw [pk_mul]
      refine g_iload_n (pc := 34) hc dMo_store_34 rfl ?_
      refine g_iadd (pc := 35) hc dMo_store_35 ?_
      rw [nI_add]
      refine g_aload_n (pc := 36) hc dMo_store_36 rfl ?_
      refine g_get (pc := 37) hc dMo_store_37 x_Mo_13 h2 (by rfl) ?_
      refine g_iload_n (pc := 40) hc dMo_store_40 rfl ?_
      obtain ⟨gr9, hgr, hglr, hgfr⟩ := id xL
      refine g_iald (pc := 41) (t := kI) hc dMo_store_41 rfl hgr (vp_in_nI (show i < 210 by omega) (by decide)) ?_
      rw [nI_clamp (by omega), hgfr _ (by omega)]
      obtain ⟨gq, hgq, hglq, hgfq⟩ := id b6
      refine g_iast (pc := 42) (t := kI) hc dMo_store_42 rfl hgq (vp_in_nI (show 200 * Ms.length + i < 2000 by omega) (by decide)) (fun m3 h3 o3 => ?_)
      rw [nI_clamp (by omega)] at h3
      have h4 := (o3 y (by omega)).trans h2
      refine g_iinc (pc := 43) hc dMo_store_43 rfl (zinc _) (by decide) rfl ?_
      refine g_goto (tgt := 17) (pc := 46) hc dMo_store_46 (by decide) ?_
      refine g_lv (lv' := [(0, .ref y), (1, .int (nI Ms.length)), (2, .int (nI (i + 1)))]) ⟨rfl, rfl, rfl, trivial⟩ ?_
      refine ih (i + 1) m3 (by omega) h4 (fun a q => (o3 a (by omega)).trans (hs2 a q)) ⟨xL.kpt o3 (by omega), xS.kpt o3 (by omega), xR.kpt o3 (by omega), xRs.kpt o3 (by omega), xA.kpt o3 (by omega), ?_, b7.kpt o3 (by omega), b8.kpt o3 (by omega), b9.kpt o3 (by omega), b10.kpt o3 (by omega), b11.kpt o3 (by omega), b12.kpt o3 (by omega)⟩
      rw [er]
      exact zG.step (by rw [hlM.1]; omega) hgfq (by omega) (by rw [hlM.1, el]; exact h3)
  obtain ⟨b6, b7, b8, b9, b10, b11, b12⟩ := id hMs
  refine g_aload_n (pc := 0) hc dMo_store_0 rfl ?_
  refine g_get (pc := 1) hc dMo_store_1 x_Mo_230 (by assumption) (by rfl) ?_
  refine g_istore_n (pc := 4) hc dMo_store_4 (by decide) rfl ?_
  refine g_aload_n (pc := 5) hc dMo_store_5 rfl ?_
  refine g_get (pc := 6) hc dMo_store_6 x_Mo_32 (by assumption) (by rfl) ?_
  refine g_iload_n (pc := 9) hc dMo_store_9 rfl ?_
  refine g_aload_n (pc := 10) hc dMo_store_10 rfl ?_
  refine g_get (pc := 11) hc dMo_store_11 x_Mo_76 hm (by rfl) ?_
  rw [hsz]
  obtain ⟨gq, hgq, hglq, hgfq⟩ := id b7
  refine g_iast (pc := 14) (t := kI) hc dMo_store_14 rfl hgq (vp_in_nI (show Ms.length < 10 by omega) (by decide)) (fun m1 h1 o1 => ?_)
  rw [nI_clamp (by omega)] at h1
  have h2 := (o1 y (by omega)).trans hm
  refine g_iconst (v := nI 0) (pc := 15) hc dMo_store_15 (by decide) ?_
  refine g_istore_n (pc := 16) hc dMo_store_16 (by decide) rfl ?_
  refine g_lv (lv' := [(0, .ref y), (1, .int (nI Ms.length)), (2, .int (nI 0))]) ⟨rfl, rfl, rfl, trivial⟩ ?_
  exact LA L.length 0 m1 rfl h2 (fun a q => o1 a (by omega)) ⟨hL.kpt o1 (by omega), hS.kpt o1 (by omega), hR.kpt o1 (by omega), hRs.kpt o1 (by omega), hA.kpt o1 (by omega), (b6.kpt o1 (by omega)).start (by rw [hlM.1]; omega), ⟨_, h1, by simp; omega, by have q := zupd_app (b := L.length) hgfq; rw [List.length_map] at q; exact q⟩, b8.kpt o1 (by omega), b9.kpt o1 (by omega), b10.kpt o1 (by omega), b11.kpt o1 (by omega), b12.kpt o1 (by omega)⟩
