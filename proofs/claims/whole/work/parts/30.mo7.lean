set_option maxHeartbeats 4000000 in
set_option maxRecDepth 100000 in
theorem s_Mo_hand (V : mm_V) {y sz la il ss : Nat} {th gr ln pt : Bool} {fi av be : Int32} {L A : List Nat} {E : zEv} {Ms : List zMsg} {mem : mm_M} {nx : Nat} (h : zK y th gr E.2.1 ln sz la il pt ss E.2.2.length fi av be L A E Ms mem) (hsz : sz = L.length) (hl202 : L.length ≤ 202) (hLb : ∀ b ∈ L, b < 256) (et : E.2.1 = true) (h0 : 0 < E.2.2.length) : mm_S V yMo_hand cMo_hand 5 none 3 0 0 [.ref y] mem nx (fun r m x => r = none ∧ nx = x ∧ zK y th gr false ln sz la il pt ss 0 fi av be L (zfin A L (decide (10 ≤ Ms.length)) E.2.2) ([], false, []) (if 200 < L.length ∨ 10 ≤ Ms.length then Ms else Ms ++ [(L, E.1, E.2.2.getD 0 [], E.2.2.length)]) m ∧ zsame y (y + 13) mem m) := by
  obtain ⟨hm, hT⟩ := id h
  obtain ⟨hL, hS, hR, hRs, hA, hMs, hW⟩ := id hT
  refine mm_met (by decide) (Nat.le_of_ble_eq_true rfl) ?_
  intro X hc he hnm
  have hr4 := hW.2.2.1
  have hm10 := hW.2.2.2.2.2.1
  have J145 : ∀ (m2 : mm_M) (A2 : List Nat) (Ms2 : List zMsg), zK y th gr E.2.1 ln sz la il pt ss E.2.2.length fi av be L A2 E Ms2 m2 → zsame y (y + 13) mem m2 → A2 = zfin A L (decide (10 ≤ Ms.length)) E.2.2 → Ms2 = (if 200 < L.length ∨ 10 ≤ Ms.length then Ms else Ms ++ [(L, E.1, E.2.2.getD 0 [], E.2.2.length)]) → mm_G V X 5 145 [(0, .ref y)] [] m2 nx 0 0 := by
    intro m2 A2 Ms2 hK2 hs2 ea em
    refine g_aload_n (pc := 145) hc dMo_hand_145 rfl ?_
    refine g_callV (pc := 146) hc dMo_hand_146 x_Mo_184 (s_Mo_forget V hK2) cl_Mo (hK2.1) (Nat.le_of_ble_eq_true rfl) (Nat.le_of_ble_eq_true rfl) (Nat.le_of_ble_eq_true rfl) (Nat.le_of_ble_eq_true rfl) rfl rfl (Nat.le_of_ble_eq_true rfl) (fun r m x hp => ?_)
    obtain ⟨rfl, rfl, h9, hs9⟩ := hp
    subst ea em
    exact g_vret (pc := 149) hc he dMo_hand_149 (Nat.le_refl _) (Nat.le_refl _) ⟨rfl, rfl, h9, fun a q => (hs9 a q).trans (hs2 a q)⟩
  have J133 : ∀ (m2 : mm_M) (A2 : List Nat), zK y th gr E.2.1 ln sz la il pt ss E.2.2.length fi av be L A2 E Ms m2 → zsame y (y + 13) mem m2 → A2 = zfin A L (decide (10 ≤ Ms.length)) E.2.2 → mm_G V X 5 133 [(0, .ref y), (1, .int (zb (decide (200 < L.length)))), (2, .int (zb (decide (10 ≤ Ms.length))))] [] m2 nx 0 0 := by
    intro m2 A2 hK2 hs2 ea
    refine g_iload_n (pc := 133) hc dMo_hand_133 rfl ?_
    refine g_if_ne (tgt := 145) (pc := 134) hc dMo_hand_134 (by decide) (fun c134 => ?_) (fun c134 => ?_)
    · simp (disch := omega) only [nI_leI, nI_ltI, nI_eq, nI_eq0, nI_lt0, nI_0le, nI_0lt, nI_le0, zb_0] at c134
      have d134 : 200 < L.length := by simpa using c134
      refine g_lv (lv' := [(0, .ref y)]) ⟨rfl, trivial⟩ ?_
      exact J145 m2 A2 Ms hK2 hs2 ea (by rw [if_pos (Or.inl d134)])
    · simp (disch := omega) only [nI_leI, nI_ltI, nI_eq, nI_eq0, nI_lt0, nI_0le, nI_0lt, nI_le0, zb_0] at c134
      have d134 : ¬ 200 < L.length := by simpa using c134
      refine g_iload_n (pc := 137) hc dMo_hand_137 rfl ?_
      refine g_if_ne (tgt := 145) (pc := 138) hc dMo_hand_138 (by decide) (fun c138 => ?_) (fun c138 => ?_)
      · simp (disch := omega) only [nI_leI, nI_ltI, nI_eq, nI_eq0, nI_lt0, nI_0le, nI_0lt, nI_le0, zb_0] at c138
        have d138 : 10 ≤ Ms.length := by simpa using c138
        refine g_lv (lv' := [(0, .ref y)]) ⟨rfl, trivial⟩ ?_
        exact J145 m2 A2 Ms hK2 hs2 ea (by rw [if_pos (Or.inr d138)])
      · simp (disch := omega) only [nI_leI, nI_ltI, nI_eq, nI_eq0, nI_lt0, nI_0le, nI_0lt, nI_le0, zb_0] at c138
        have d138 : ¬ 10 ≤ Ms.length := by simpa using c138
        refine g_aload_n (pc := 141) hc dMo_hand_141 rfl ?_
        refine g_callV (pc := 142) hc dMo_hand_142 x_Mo_237 (s_Mo_store V hK2 hsz (by omega) hLb et h0 (by omega)) cl_Mo (hK2.1) (Nat.le_of_ble_eq_true rfl) (Nat.le_of_ble_eq_true rfl) (Nat.le_of_ble_eq_true rfl) (Nat.le_of_ble_eq_true rfl) rfl rfl (Nat.le_of_ble_eq_true rfl) (fun r m x hp => ?_)
        obtain ⟨rfl, rfl, h9, hs9⟩ := hp
        refine g_lv (lv' := [(0, .ref y)]) ⟨rfl, trivial⟩ ?_
        exact J145 _ A2 _ h9 (fun a q => (hs9 a q).trans (hs2 a q)) ea (by rw [if_neg (by omega)])
  have loop : ∀ (n k : Nat) (A1 : List Nat) (m1 : mm_M), k + n = E.2.2.length → zK y th gr E.2.1 ln sz la il pt ss E.2.2.length fi av be L A1 E Ms m1 → zsame y (y + 13) mem m1 → (E.2.2.drop k).foldl (fun A R => zans A (if 200 < L.length then zs t_552 else if decide (10 ≤ Ms.length) = true then zs t_452f else zs t_250l ++ R ++ [62])) A1 = zfin A L (decide (10 ≤ Ms.length)) E.2.2 → mm_G V X 5 33 [(0, .ref y), (1, .int (zb (decide (200 < L.length)))), (2, .int (zb (decide (10 ≤ Ms.length)))), (3, .int (nI k))] [] m1 nx 0 0 := by
    intro n
    induction n with
    | zero =>
      intro k A1 m1 e1 hK1 hs1 e2
      rw [List.drop_eq_nil_iff.mpr (by omega)] at e2
      have hm1 := hK1.1
      refine g_iload_n (pc := 33) hc dMo_hand_33 rfl ?_
      refine g_aload_n (pc := 34) hc dMo_hand_34 rfl ?_
      refine g_get (pc := 35) hc dMo_hand_35 x_Mo_138 hm1 (by rfl) ?_
      refine g_icmp_ge (tgt := 133) (pc := 38) hc dMo_hand_38 (by decide) (fun _ => ?_) (fun c38 => absurd (nI_le (by omega) (by omega)) c38)
      refine g_lv (lv' := [(0, .ref y), (1, .int (zb (decide (200 < L.length)))), (2, .int (zb (decide (10 ≤ Ms.length))))]) ⟨rfl, rfl, rfl, trivial⟩ ?_
      exact J133 m1 A1 hK1 hs1 e2
    | succ n ih =>
      intro k A1 m1 e1 hK1 hs1 e2
      have hm1 := hK1.1
      have hRk := hW.2.2.2.1 (E.2.2.getD k []) (zmem_getR (show k < E.2.2.length by omega))
      have inner : ∀ (j i : Nat) (m2 : mm_M), j + i = (E.2.2.getD k []).length → zK y th gr E.2.1 ln sz la il pt ss E.2.2.length fi av be L ((A1 ++ (zs t_250l ++ (E.2.2.getD k []).take i)).take 400) E Ms m2 → zsame y (y + 13) mem m2 → ¬ 200 < L.length → decide (10 ≤ Ms.length) = false → mm_G V X 5 84 [(0, .ref y), (1, .int (zb (decide (200 < L.length)))), (2, .int (zb (decide (10 ≤ Ms.length)))), (3, .int (nI k)), (4, .int (nI i))] [] m2 nx 0 0 := by
        intro j
        induction j with
        | zero =>
          intro i m2 e3 hK2 hs2 n1 n2
          obtain rfl : i = (E.2.2.getD k []).length := by omega
          rw [List.take_length] at hK2
          have hm2 := hK2.1
          have xRs := hK2.2.2.2.2.1
          have e4 : (E.2.2.map List.length).getD k 0 = (E.2.2.getD k []).length := zgetD_map List.length E.2.2 k []
          refine g_iload (pc := 84) hc dMo_hand_84 rfl ?_
          refine g_aload_n (pc := 86) hc dMo_hand_86 rfl ?_
          refine g_get (pc := 87) hc dMo_hand_87 x_Mo_23 hm2 (by rfl) ?_
          refine g_iload_n (pc := 90) hc dMo_hand_90 rfl ?_
          obtain ⟨gr9, hgr, hglr, hgfr⟩ := id xRs
          refine g_iald (pc := 91) (t := kI) hc dMo_hand_91 rfl hgr (vp_in_nI (show k < 4 by omega) (by decide)) ?_
          rw [nI_clamp (by omega), hgfr _ (by simp; omega), e4]
          refine g_icmp_ge (tgt := 117) (pc := 92) hc dMo_hand_92 (by decide) (fun _ => ?_) (fun c92 => absurd (nI_le (by omega) (by omega)) c92)
          refine g_aload_n (pc := 117) hc dMo_hand_117 rfl ?_
          refine g_bipush (v := nI 62) (pc := 118) hc dMo_hand_118 (by decide) ?_
          refine g_callV (pc := 120) hc dMo_hand_120 x_Mo_54 (s_Mo_sayByte V hK2 (show 62 < 256 by decide)) cl_Mo (hK2.1) (Nat.le_of_ble_eq_true rfl) (Nat.le_of_ble_eq_true rfl) (Nat.le_of_ble_eq_true rfl) (Nat.le_of_ble_eq_true rfl) rfl rfl (Nat.le_of_ble_eq_true rfl) (fun r m x hp => ?_)
          obtain ⟨rfl, rfl, h7, hs7⟩ := hp
          refine g_aload_n (pc := 123) hc dMo_hand_123 rfl ?_
          refine g_callV (pc := 124) hc dMo_hand_124 x_Mo_66 (s_Mo_end V h7) cl_Mo (h7.1) (Nat.le_of_ble_eq_true rfl) (Nat.le_of_ble_eq_true rfl) (Nat.le_of_ble_eq_true rfl) (Nat.le_of_ble_eq_true rfl) rfl rfl (Nat.le_of_ble_eq_true rfl) (fun r m x hp => ?_)
          obtain ⟨rfl, rfl, h9, hs9⟩ := hp
          rw [zans2] at h9
          have hs8 : zsame y (y + 13) mem _ := hs2.tr hs7
          refine g_iinc (pc := 127) hc dMo_hand_127 rfl (zinc _) (by decide) rfl ?_
          refine g_goto (tgt := 33) (pc := 130) hc dMo_hand_130 (by decide) ?_
          refine g_lv (lv' := [(0, .ref y), (1, .int (zb (decide (200 < L.length)))), (2, .int (zb (decide (10 ≤ Ms.length)))), (3, .int (nI (k + 1)))]) ⟨rfl, rfl, rfl, rfl, trivial⟩ ?_
          refine ih (k + 1) _ _ (by omega) h9 (fun a q => (hs9 a q).trans (hs8 a q)) ?_
          rw [← e2, zdropR (show k < E.2.2.length by omega), List.foldl_cons]
          congr 1
          rw [if_neg n1, if_neg (by rw [n2]; decide)]
        | succ j ih2 =>
          intro i m2 e3 hK2 hs2 n1 n2
          have hm2 := hK2.1
          have xRs := hK2.2.2.2.2.1
          have xR := hK2.2.2.2.1
          have e4 : (E.2.2.map List.length).getD k 0 = (E.2.2.getD k []).length := zgetD_map List.length E.2.2 k []
          have er : (E.2.2.getD k []).take (i + 1) = (E.2.2.getD k []).take i ++ [(E.2.2.getD k []).getD i 0] := ztake_succ0 (by omega)
          refine g_iload (pc := 84) hc dMo_hand_84 rfl ?_
          refine g_aload_n (pc := 86) hc dMo_hand_86 rfl ?_
          refine g_get (pc := 87) hc dMo_hand_87 x_Mo_23 hm2 (by rfl) ?_
          refine g_iload_n (pc := 90) hc dMo_hand_90 rfl ?_
          obtain ⟨gr9, hgr, hglr, hgfr⟩ := id xRs
          refine g_iald (pc := 91) (t := kI) hc dMo_hand_91 rfl hgr (vp_in_nI (show k < 4 by omega) (by decide)) ?_
          rw [nI_clamp (by omega), hgfr _ (by simp; omega), e4]
          refine g_icmp_ge (tgt := 117) (pc := 92) hc dMo_hand_92 (by decide) (fun c92 => absurd c92 (nI_ge (by omega) (by omega))) (fun _ => ?_)
          refine g_aload_n (pc := 95) hc dMo_hand_95 rfl ?_
          refine g_aload_n (pc := 96) hc dMo_hand_96 rfl ?_
          refine g_get (pc := 97) hc dMo_hand_97 x_Mo_20 hm2 (by rfl) ?_
          refine g_bipush (v := nI 110) (pc := 100) hc dMo_hand_100 (by decide) ?_
          refine g_iload_n (pc := 102) hc dMo_hand_102 rfl ?_
          refine g_imul (pc := 103) hc dMo_hand_103 ?_
          rw [pk_mul]
          refine g_iload (pc := 104) hc dMo_hand_104 rfl ?_
          refine g_iadd (pc := 106) hc dMo_hand_106 ?_
          rw [nI_add]
          obtain ⟨gs, hgs, hgls, hgfs⟩ := id xR
          refine g_iald (pc := 107) (t := kI) hc dMo_hand_107 rfl hgs (vp_in_nI (show 110 * k + i < 440 by omega) (by decide)) ?_
          rw [nI_clamp (by omega), (hgfs k (by omega)).2 i (by omega)]
          refine g_callV (pc := 108) hc dMo_hand_108 x_Mo_54 (s_Mo_sayByte V hK2 (hRk.2 _ (zmem_getD (show i < (E.2.2.getD k []).length by omega)))) cl_Mo (hK2.1) (Nat.le_of_ble_eq_true rfl) (Nat.le_of_ble_eq_true rfl) (Nat.le_of_ble_eq_true rfl) (Nat.le_of_ble_eq_true rfl) rfl rfl (Nat.le_of_ble_eq_true rfl) (fun r m x hp => ?_)
          obtain ⟨rfl, rfl, h7, hs7⟩ := hp
          rw [ztake_take, List.append_assoc, List.append_assoc, ← er] at h7
          refine g_iinc (pc := 111) hc dMo_hand_111 rfl (zinc _) (by decide) rfl ?_
          refine g_goto (tgt := 84) (pc := 114) hc dMo_hand_114 (by decide) ?_
          refine g_lv (lv' := [(0, .ref y), (1, .int (zb (decide (200 < L.length)))), (2, .int (zb (decide (10 ≤ Ms.length)))), (3, .int (nI k)), (4, .int (nI (i + 1)))]) ⟨rfl, rfl, rfl, rfl, rfl, trivial⟩ ?_
          exact ih2 (i + 1) _ (by omega) h7 (hs2.tr hs7) n1 n2
      refine g_iload_n (pc := 33) hc dMo_hand_33 rfl ?_
      refine g_aload_n (pc := 34) hc dMo_hand_34 rfl ?_
      refine g_get (pc := 35) hc dMo_hand_35 x_Mo_138 hm1 (by rfl) ?_
      refine g_icmp_ge (tgt := 133) (pc := 38) hc dMo_hand_38 (by decide) (fun c38 => absurd c38 (nI_ge (by omega) (by omega))) (fun _ => ?_)
      refine g_iload_n (pc := 41) hc dMo_hand_41 rfl ?_
      refine g_if_eq (tgt := 57) (pc := 42) hc dMo_hand_42 (by decide) (fun c42 => ?_) (fun c42 => ?_)
      · simp (disch := omega) only [nI_leI, nI_ltI, nI_eq, nI_eq0, nI_lt0, nI_0le, nI_0lt, nI_le0, zb_0] at c42
        have d42 : ¬ 200 < L.length := by simpa using c42
        refine g_iload_n (pc := 57) hc dMo_hand_57 rfl ?_
        refine g_if_eq (tgt := 73) (pc := 58) hc dMo_hand_58 (by decide) (fun c58 => ?_) (fun c58 => ?_)
        · simp (disch := omega) only [nI_leI, nI_ltI, nI_eq, nI_eq0, nI_lt0, nI_0le, nI_0lt, nI_le0, zb_0] at c58
          refine g_aload_n (pc := 73) hc dMo_hand_73 rfl ?_
          refine g_ldc2 (pc := 74) hc dMo_hand_74 x_Mo_235 ?_
          refine g_iconst (v := nI 5) (pc := 77) hc dMo_hand_77 (by decide) ?_
          refine g_callV (pc := 78) hc dMo_hand_78 x_Mo_60 (s_Mo_say V (n := 5) hK1 (by decide)) cl_Mo (hK1.1) (Nat.le_of_ble_eq_true rfl) (Nat.le_of_ble_eq_true rfl) (Nat.le_of_ble_eq_true rfl) (Nat.le_of_ble_eq_true rfl) rfl rfl (Nat.le_of_ble_eq_true rfl) (fun r m x hp => ?_)
          obtain ⟨rfl, rfl, h7, hs7⟩ := hp
          refine g_iconst (v := nI 0) (pc := 81) hc dMo_hand_81 (by decide) ?_
          refine g_istore (pc := 82) hc dMo_hand_82 (by decide) rfl ?_
          refine g_lv (lv' := [(0, .ref y), (1, .int (zb (decide (200 < L.length)))), (2, .int (zb (decide (10 ≤ Ms.length)))), (3, .int (nI k)), (4, .int (nI 0))]) ⟨rfl, rfl, rfl, rfl, rfl, trivial⟩ ?_
          exact inner (E.2.2.getD k []).length 0 _ rfl (by rw [List.take_zero, List.append_nil]; exact h7) (hs1.tr hs7) d42 c58
        · simp (disch := omega) only [nI_leI, nI_ltI, nI_eq, nI_eq0, nI_lt0, nI_0le, nI_0lt, nI_le0, zb_0] at c58
          have d58 : decide (10 ≤ Ms.length) = true := by simpa using c58
          refine g_aload_n (pc := 61) hc dMo_hand_61 rfl ?_
          refine g_ldc2 (pc := 62) hc dMo_hand_62 x_Mo_233 ?_
          refine g_bipush (v := nI 8) (pc := 65) hc dMo_hand_65 (by decide) ?_
          refine g_callV (pc := 67) hc dMo_hand_67 x_Mo_60 (s_Mo_say V (n := 8) hK1 (by decide)) cl_Mo (hK1.1) (Nat.le_of_ble_eq_true rfl) (Nat.le_of_ble_eq_true rfl) (Nat.le_of_ble_eq_true rfl) (Nat.le_of_ble_eq_true rfl) rfl rfl (Nat.le_of_ble_eq_true rfl) (fun r m x hp => ?_)
          obtain ⟨rfl, rfl, h7, hs7⟩ := hp
          refine g_goto (tgt := 123) (pc := 70) hc dMo_hand_70 (by decide) ?_
          refine g_aload_n (pc := 123) hc dMo_hand_123 rfl ?_
          refine g_callV (pc := 124) hc dMo_hand_124 x_Mo_66 (s_Mo_end V h7) cl_Mo (h7.1) (Nat.le_of_ble_eq_true rfl) (Nat.le_of_ble_eq_true rfl) (Nat.le_of_ble_eq_true rfl) (Nat.le_of_ble_eq_true rfl) rfl rfl (Nat.le_of_ble_eq_true rfl) (fun r m x hp => ?_)
          obtain ⟨rfl, rfl, h9, hs9⟩ := hp
          rw [zans1] at h9
          have hs8 : zsame y (y + 13) mem _ := hs1.tr hs7
          refine g_iinc (pc := 127) hc dMo_hand_127 rfl (zinc _) (by decide) rfl ?_
          refine g_goto (tgt := 33) (pc := 130) hc dMo_hand_130 (by decide) ?_
          refine g_lv (lv' := [(0, .ref y), (1, .int (zb (decide (200 < L.length)))), (2, .int (zb (decide (10 ≤ Ms.length)))), (3, .int (nI (k + 1)))]) ⟨rfl, rfl, rfl, rfl, trivial⟩ ?_
          refine ih (k + 1) _ _ (by omega) h9 (fun a q => (hs9 a q).trans (hs8 a q)) ?_
          rw [← e2, zdropR (show k < E.2.2.length by omega), List.foldl_cons]
          congr 1
          rw [if_neg d42, if_pos d58]; rfl
      · simp (disch := omega) only [nI_leI, nI_ltI, nI_eq, nI_eq0, nI_lt0, nI_0le, nI_0lt, nI_le0, zb_0] at c42
        have d42 : 200 < L.length := by simpa using c42
        refine g_aload_n (pc := 45) hc dMo_hand_45 rfl ?_
        refine g_ldc2 (pc := 46) hc dMo_hand_46 x_Mo_203 ?_
        refine g_bipush (v := nI 7) (pc := 49) hc dMo_hand_49 (by decide) ?_
        refine g_callV (pc := 51) hc dMo_hand_51 x_Mo_60 (s_Mo_say V (n := 7) hK1 (by decide)) cl_Mo (hK1.1) (Nat.le_of_ble_eq_true rfl) (Nat.le_of_ble_eq_true rfl) (Nat.le_of_ble_eq_true rfl) (Nat.le_of_ble_eq_true rfl) rfl rfl (Nat.le_of_ble_eq_true rfl) (fun r m x hp => ?_)
        obtain ⟨rfl, rfl, h7, hs7⟩ := hp
        refine g_goto (tgt := 123) (pc := 54) hc dMo_hand_54 (by decide) ?_
        refine g_aload_n (pc := 123) hc dMo_hand_123 rfl ?_
        refine g_callV (pc := 124) hc dMo_hand_124 x_Mo_66 (s_Mo_end V h7) cl_Mo (h7.1) (Nat.le_of_ble_eq_true rfl) (Nat.le_of_ble_eq_true rfl) (Nat.le_of_ble_eq_true rfl) (Nat.le_of_ble_eq_true rfl) rfl rfl (Nat.le_of_ble_eq_true rfl) (fun r m x hp => ?_)
        obtain ⟨rfl, rfl, h9, hs9⟩ := hp
        rw [zans1] at h9
        have hs8 : zsame y (y + 13) mem _ := hs1.tr hs7
        refine g_iinc (pc := 127) hc dMo_hand_127 rfl (zinc _) (by decide) rfl ?_
        refine g_goto (tgt := 33) (pc := 130) hc dMo_hand_130 (by decide) ?_
        refine g_lv (lv' := [(0, .ref y), (1, .int (zb (decide (200 < L.length)))), (2, .int (zb (decide (10 ≤ Ms.length)))), (3, .int (nI (k + 1)))]) ⟨rfl, rfl, rfl, rfl, trivial⟩ ?_
        refine ih (k + 1) _ _ (by omega) h9 (fun a q => (hs9 a q).trans (hs8 a q)) ?_
        rw [← e2, zdropR (show k < E.2.2.length by omega), List.foldl_cons]
        congr 1
        rw [if_pos d42]; rfl
  have J31 : mm_G V X 5 31 [(0, .ref y), (1, .int (zb (decide (200 < L.length)))), (2, .int (zb (decide (10 ≤ Ms.length))))] [] mem nx 0 0 := by
    refine g_iconst (v := nI 0) (pc := 31) hc dMo_hand_31 (by decide) ?_
    refine g_istore_n (pc := 32) hc dMo_hand_32 (by decide) rfl ?_
    refine g_lv (lv' := [(0, .ref y), (1, .int (zb (decide (200 < L.length)))), (2, .int (zb (decide (10 ≤ Ms.length)))), (3, .int (nI 0))]) ⟨rfl, rfl, rfl, rfl, trivial⟩ ?_
    exact loop _ 0 A mem (Nat.zero_add _) h zsame.rf rfl
  have J15 : mm_G V X 5 15 [(0, .ref y)] [.int (zb (decide (200 < L.length)))] mem nx 0 0 := by
    refine g_istore_n (pc := 15) hc dMo_hand_15 (by decide) rfl ?_
    refine g_aload_n (pc := 16) hc dMo_hand_16 rfl ?_
    refine g_get (pc := 17) hc dMo_hand_17 x_Mo_230 (by assumption) (by rfl) ?_
    refine g_bipush (v := nI 10) (pc := 20) hc dMo_hand_20 (by decide) ?_
    refine g_icmp_ne (tgt := 29) (pc := 22) hc dMo_hand_22 (by decide) (fun c22 => ?_) (fun c22 => ?_)
    · simp (disch := omega) only [nI_leI, nI_ltI, nI_eq, nI_eq0, nI_lt0, nI_0le, nI_0lt, nI_le0, zb_0] at c22
      have d22 : decide (10 ≤ Ms.length) = false := decide_eq_false (by omega)
      refine g_iconst (v := nI 0) (pc := 29) hc dMo_hand_29 (by decide) ?_
      refine g_istore_n (pc := 30) hc dMo_hand_30 (by decide) rfl ?_
      refine g_lv (lv' := [(0, .ref y), (1, .int (zb (decide (200 < L.length)))), (2, .int (zb (decide (10 ≤ Ms.length))))]) (by rw [d22]; exact ⟨rfl, rfl, rfl, trivial⟩) ?_
      exact J31
    · simp (disch := omega) only [nI_leI, nI_ltI, nI_eq, nI_eq0, nI_lt0, nI_0le, nI_0lt, nI_le0, zb_0] at c22
      have d22 : decide (10 ≤ Ms.length) = true := decide_eq_true (by omega)
      refine g_iconst (v := nI 1) (pc := 25) hc dMo_hand_25 (by decide) ?_
      refine g_goto (tgt := 30) (pc := 26) hc dMo_hand_26 (by decide) ?_
      refine g_istore_n (pc := 30) hc dMo_hand_30 (by decide) rfl ?_
      refine g_lv (lv' := [(0, .ref y), (1, .int (zb (decide (200 < L.length)))), (2, .int (zb (decide (10 ≤ Ms.length))))]) (by rw [d22]; exact ⟨rfl, rfl, rfl, trivial⟩) ?_
      exact J31
  refine g_aload_n (pc := 0) hc dMo_hand_0 rfl ?_
  refine g_get (pc := 1) hc dMo_hand_1 x_Mo_76 hm (by rfl) ?_
  rw [hsz]
  refine g_sipush (v := nI 200) (pc := 4) hc dMo_hand_4 (by decide) ?_
  refine g_icmp_le (tgt := 14) (pc := 7) hc dMo_hand_7 (by decide) (fun c7 => ?_) (fun c7 => ?_)
  · simp (disch := omega) only [nI_leI, nI_ltI, nI_eq, nI_eq0, nI_lt0, nI_0le, nI_0lt, nI_le0, zb_0] at c7
    have d7 : decide (200 < L.length) = false := decide_eq_false (by omega)
    refine g_iconst (v := nI 0) (pc := 14) hc dMo_hand_14 (by decide) ?_
    rw [d7] at J15
    exact J15
  · simp (disch := omega) only [nI_leI, nI_ltI, nI_eq, nI_eq0, nI_lt0, nI_0le, nI_0lt, nI_le0, zb_0] at c7
    have d7 : decide (200 < L.length) = true := decide_eq_true (by omega)
    refine g_iconst (v := nI 1) (pc := 10) hc dMo_hand_10 (by decide) ?_
    refine g_goto (tgt := 15) (pc := 11) hc dMo_hand_11 (by decide) ?_
    rw [d7] at J15
    exact J15
def zLT (σ : zSt) : List Nat := if σ.2.2.2.2.2.2.2 then σ.2.2.1.1 else σ.2.1.1
def zCR (σ : zSt) : Bool := if σ.2.2.2.2.2.2.2 then σ.2.2.1.2.1 else σ.2.1.2
/-- the reference at y is in the state σ -/
def zR (y : Nat) (σ : zSt) (m : mm_M) : Prop := ∃ (la il ss : Nat) (pt : Bool) (fi av be : Int32), zK y σ.2.2.2.2.2.1 σ.2.2.2.2.2.2.1 σ.2.2.2.1.2.1 σ.2.2.2.2.2.2.2 (zLT σ).length la il pt ss σ.2.2.2.1.2.2.length fi av be (zLT σ) σ.1 σ.2.2.2.1 σ.2.2.2.2.1 m ∧ (zLT σ).length ≤ 202 ∧ (∀ b ∈ zLT σ, b < 256) ∧ (la = 13 ↔ zCR σ = true) ∧ la < 256 ∧ (zCR σ = true → zLT σ ≠ []) ∧ (σ.2.2.2.2.2.2.2 = true → il = min σ.2.2.1.2.2.2 4 ∧ (0 < σ.2.2.1.2.2.2 → pt = σ.2.2.1.2.2.1) ∧ (σ.2.2.1.2.2.2 = 0 → σ.2.2.1.2.2.1 = false) ∧ 0 < σ.2.2.2.1.2.2.length ∧ σ.2.1.1 = [] ∧ σ.2.1.2 = false)
theorem zR.off {y lo hi : Nat} {σ : zSt} {m m' : mm_M} (h : zR y σ m) (hs : zsame lo hi m m') (hq : y + 13 ≤ lo ∨ hi ≤ y) : zR y σ m' := by
  obtain ⟨la, il, ss, pt, fi, av, be, h1, h2⟩ := h
  exact ⟨la, il, ss, pt, fi, av, be, h1.off hs hq, h2⟩
