theorem zlc (v : Int64) : lg_cmp v v = 0 := by
  unfold lg_cmp
  rw [if_neg (by simp), if_pos rfl]
theorem zinc4 (a : Nat) : nI a + Int32.ofInt 4 = nI (a + 4) := nI_add a 4
theorem zgt {L i : Nat} (hL : L ≤ 2048) (hi : i ≤ 4096) : nI L - nI 4 < nI i ↔ L < i + 4 := by
  rw [Int32.lt_iff_toInt_lt, pk_sub_toInt (by omega) (by decide), nI_toInt (by omega)]
  omega
theorem zR.obj {y : Nat} {σ : zSt} {m : mm_M} (h : zR y σ m) : ∃ fs : List Value, m y = some (.inr (kMo, fs)) := by
  obtain ⟨la, il, ss, pt, fi, av, be, hK, -⟩ := h
  exact ⟨_, hK.1⟩
theorem zM.off {z lo hi : Nat} {σ : zSt} {m m' : mm_M} (h : zM z σ m) (hs : zsame lo hi m m') (hq : z + 92 ≤ lo ∨ hi ≤ z) : zM z σ m' := zML.off h hs hq
theorem zInv.mono {N N' : Nat} {σ : zSt} (h : zInv N σ) (hN : N ≤ N') : zInv N' σ := ⟨Nat.le_trans h.1 hN, h.2⟩
theorem zInv.feed : ∀ (bs : List Nat) {N : Nat} {σ : zSt}, zInv N σ → zInv (N + bs.length) (zfeed σ bs)
  | [], _, _, h => h
  | b :: bs, N, σ, h => by
    rw [zfeed]
    split
    · have q := zInv.feed bs (h.step b)
      rw [List.length_cons, show N + (bs.length + 1) = N + 1 + bs.length by omega]
      exact q
    · exact h.mono (by omega)
theorem zbs_len (v : Int64) : ∀ n, (zbs v n).length = n
  | 0 => rfl
  | n + 1 => by rw [zbs, List.length_cons, zbs_len v n]
theorem zok_le {n : Int32} (h : zok n = true) : n.toNatClampNeg ≤ 8 := by
  have h1 := of_decide_eq_true h
  have h2 : n.toInt ≤ 8 := by
    have := Int32.le_iff_toInt_le.mp h1.2
    simpa using this
  show n.toInt.toNat ≤ 8
  omega
theorem zInv.send {N : Nat} {σ : zSt} {v : Int64} {n : Int32} (h : zInv N σ) : zInv (N + 8) (if zok n && zses σ then zfeed σ (zbs v n.toNatClampNeg) else σ) := by
  by_cases e : (zok n && zses σ) = true
  · rw [if_pos e]
    have q := zInv.feed (zbs v n.toNatClampNeg) h
    rw [zbs_len] at q
    exact q.mono (by have := zok_le (Bool.and_eq_true_iff.mp e).1; omega)
  · rw [if_neg e]
    exact h.mono (by omega)
theorem zInv.opn {N : Nat} {σ : zSt} (h : zInv N σ) : zInv N (zopen σ) := by
  obtain ⟨A, ⟨Ln, lc⟩, ⟨T, tc, td, tn⟩, E, Ms, ses, gr, tx⟩ := σ
  exact ⟨h.1, fun q => absurd (show false = true from q) (by decide)⟩
set_option maxHeartbeats 4000000 in
set_option maxRecDepth 100000 in
theorem law_loop {V : mm_V} {X : mm_X} {b L z : Nat} {xs : Nat → Int32} (hL : L ≤ 2048) (hc : mm_Cx V X cLaw_law 4 R_Law 16 600000 7302249) (hX : va_X b L xs X.2.2.2.1 X.2.2.2.1.heap) (hz : V.2.2.2.1 = X.2.2.2.1.heap.size) (hb : b < X.2.2.2.1.heap.size)
    (hend : ∀ (lv : List (Nat × Value)) (mem : mm_M) (nx c1 s1 : Nat), c1 ≤ 600000 → s1 ≤ 7302249 → mm_G V X 4 269 lv [.int (nI 1)] mem nx c1 s1) :
    ∀ (n i : Nat) (σ : zSt) (mem : mm_M) (nx c1 s1 : Nat), i ≤ L → L ≤ i + n → c1 ≤ 600000 → s1 ≤ 7302249 → zM z σ mem → zR (z + 92) σ mem → zInv (2 * i) σ → mm_G V X 4 18 [(0, .ref b), (1, .ref z), (2, .ref (z + 92)), (3, .int (nI i))] [] mem nx c1 s1 := by
  intro n
  induction n with
  | zero =>
    intro i σ mem nx c1 s1 hi hn e1 e2 hM hR hI
    refine g_iload_n (pc := 18) hc dLaw_law_18 rfl ?_
    refine g_aload_n (pc := 19) hc dLaw_law_19 rfl ?_
    refine g_xlen (pc := 20) hc dLaw_law_20 hX hz hb ?_
    refine g_iconst (v := nI 4) (pc := 21) hc dLaw_law_21 (by decide) ?_
    refine g_isub (pc := 22) hc dLaw_law_22 ?_
    refine g_icmp_gt (tgt := 268) (pc := 23) hc dLaw_law_23 (by decide) (fun _ => ?_) (fun c23 => absurd ((zgt hL (by omega)).mpr (by omega)) c23)
    refine g_iconst (v := nI 1) (pc := 268) hc dLaw_law_268 (by decide) ?_
    exact hend _ _ _ _ _ e1 e2
  | succ n ih =>
    intro i σ mem nx c1 s1 hi hn e1 e2 hM hR hI
    by_cases h4 : i + 4 ≤ L
    · have J262 : ∀ (ρ : zSt) (m' : mm_M), zM z ρ m' → zR (z + 92) ρ m' → zInv (2 * (i + 4)) ρ → mm_G V X 4 262 [(0, .ref b), (1, .ref z), (2, .ref (z + 92)), (3, .int (nI i))] [] m' nx c1 s1 := by
        intro ρ m' hM' hR' hI'
        refine g_iinc (pc := 262) hc dLaw_law_262 rfl (zinc4 _) (by decide) rfl ?_
        refine g_goto (tgt := 18) (pc := 265) hc dLaw_law_265 (by decide) ?_
        refine g_lv (lv' := [(0, .ref b), (1, .ref z), (2, .ref (z + 92)), (3, .int (nI (i + 4)))]) ⟨rfl, rfl, rfl, rfl, trivial⟩ ?_
        exact ih (i + 4) ρ m' nx c1 s1 h4 (by omega) e1 e2 hM' hR' hI'
      obtain ⟨A, ⟨Ln, lc⟩, ⟨T, tc, td, tn⟩, E, Ms, ses, gr, tx⟩ := σ
      have h : zML z A Ln lc T tc td tn E Ms ses gr tx mem := hM
      refine g_iload_n (pc := 18) hc dLaw_law_18 rfl ?_
      refine g_aload_n (pc := 19) hc dLaw_law_19 rfl ?_
      refine g_xlen (pc := 20) hc dLaw_law_20 hX hz hb ?_
      refine g_iconst (v := nI 4) (pc := 21) hc dLaw_law_21 (by decide) ?_
      refine g_isub (pc := 22) hc dLaw_law_22 ?_
      refine g_icmp_gt (tgt := 268) (pc := 23) hc dLaw_law_23 (by decide) (fun c23 => absurd c23 (fun q => absurd ((zgt hL (by omega)).mp q) (by omega))) (fun _ => ?_)
      refine g_aload_n (pc := 26) hc dLaw_law_26 rfl ?_
      refine g_iload_n (pc := 27) hc dLaw_law_27 rfl ?_
      refine g_xld (pc := 28) hc dLaw_law_28 hX hz hb (vp_in_nI (show i < L by omega) (by omega)) ?_
      rw [nI_clamp (by omega)]
      refine g_bipush (v := nI 7) (pc := 29) hc dLaw_law_29 (by decide) ?_
      refine g_iand (pc := 31) hc dLaw_law_31 ?_
      obtain ⟨k, hk, ek⟩ := pk_andE (xs i) (m := nI 7) 3 (by decide)
      rw [ek]
      rcases (show k = 0 ∨ k = 1 ∨ k = 2 ∨ k = 3 ∨ k = 4 ∨ k = 5 ∨ k = 6 ∨ k = 7 by omega) with rfl | rfl | rfl | rfl | rfl | rfl | rfl | rfl
      · refine g_tableIn (pc := 32) (tgt := 72) (off := 40) hc dLaw_law_32 (by decide) (by decide) (by decide) (by decide) ?_
        refine g_aload_n (pc := 72) hc dLaw_law_72 rfl ?_
        refine g_aload_n (pc := 73) hc dLaw_law_73 rfl ?_
        refine g_iload_n (pc := 74) hc dLaw_law_74 rfl ?_
        refine g_iconst (v := nI 1) (pc := 75) hc dLaw_law_75 (by decide) ?_
        refine g_iadd (pc := 76) hc dLaw_law_76 ?_
        rw [nI_add]
        refine g_xld (pc := 77) hc dLaw_law_77 hX hz hb (vp_in_nI (show i + 1 < L by omega) (by omega)) ?_
        rw [nI_clamp (by omega)]
        refine g_i2l (pc := 78) hc dLaw_law_78 rfl ?_
        refine g_bipush (v := nI 32) (pc := 79) hc dLaw_law_79 (by decide) ?_
        refine g_lshl (pc := 81) hc dLaw_law_81 rfl ?_
        refine g_aload_n (pc := 82) hc dLaw_law_82 rfl ?_
        refine g_iload_n (pc := 83) hc dLaw_law_83 rfl ?_
        refine g_iconst (v := nI 2) (pc := 84) hc dLaw_law_84 (by decide) ?_
        refine g_iadd (pc := 85) hc dLaw_law_85 ?_
        rw [nI_add]
        refine g_xld (pc := 86) hc dLaw_law_86 hX hz hb (vp_in_nI (show i + 2 < L by omega) (by omega)) ?_
        rw [nI_clamp (by omega)]
        refine g_i2l (pc := 87) hc dLaw_law_87 rfl ?_
        refine g_ldc2 (pc := 88) hc dLaw_law_88 x_Law_13 ?_
        refine g_land (pc := 91) hc dLaw_law_91 ?_
        refine g_lor (pc := 92) hc dLaw_law_92 ?_
        refine g_aload_n (pc := 93) hc dLaw_law_93 rfl ?_
        refine g_iload_n (pc := 94) hc dLaw_law_94 rfl ?_
        refine g_iconst (v := nI 3) (pc := 95) hc dLaw_law_95 (by decide) ?_
        refine g_iadd (pc := 96) hc dLaw_law_96 ?_
        rw [nI_add]
        refine g_xld (pc := 97) hc dLaw_law_97 hX hz hb (vp_in_nI (show i + 3 < L by omega) (by omega)) ?_
        rw [nI_clamp (by omega)]
        refine g_callV (pc := 98) hc dLaw_law_98 x_Law_15 (s_ML_send V (N := 2 * i) h (by omega) hI) cl_ML (h.1) (Nat.le_of_ble_eq_true rfl) (Nat.le_of_ble_eq_true rfl) (by omega) (by omega) rfl rfl (Nat.le_of_ble_eq_true rfl) (fun r m x hp => ?_)
        obtain ⟨rfl, rfl, h1, hs1⟩ := hp
        have hR1 := hR.off hs1 (by omega)
        obtain ⟨fs9, hf9⟩ := hR1.obj
        refine g_aload_n (pc := 101) hc dLaw_law_101 rfl ?_
        refine g_aload_n (pc := 102) hc dLaw_law_102 rfl ?_
        refine g_iload_n (pc := 103) hc dLaw_law_103 rfl ?_
        refine g_iconst (v := nI 1) (pc := 104) hc dLaw_law_104 (by decide) ?_
        refine g_iadd (pc := 105) hc dLaw_law_105 ?_
        rw [nI_add]
        refine g_xld (pc := 106) hc dLaw_law_106 hX hz hb (vp_in_nI (show i + 1 < L by omega) (by omega)) ?_
        rw [nI_clamp (by omega)]
        refine g_i2l (pc := 107) hc dLaw_law_107 rfl ?_
        refine g_bipush (v := nI 32) (pc := 108) hc dLaw_law_108 (by decide) ?_
        refine g_lshl (pc := 110) hc dLaw_law_110 rfl ?_
        refine g_aload_n (pc := 111) hc dLaw_law_111 rfl ?_
        refine g_iload_n (pc := 112) hc dLaw_law_112 rfl ?_
        refine g_iconst (v := nI 2) (pc := 113) hc dLaw_law_113 (by decide) ?_
        refine g_iadd (pc := 114) hc dLaw_law_114 ?_
        rw [nI_add]
        refine g_xld (pc := 115) hc dLaw_law_115 hX hz hb (vp_in_nI (show i + 2 < L by omega) (by omega)) ?_
        rw [nI_clamp (by omega)]
        refine g_i2l (pc := 116) hc dLaw_law_116 rfl ?_
        refine g_ldc2 (pc := 117) hc dLaw_law_117 x_Law_13 ?_
        refine g_land (pc := 120) hc dLaw_law_120 ?_
        refine g_lor (pc := 121) hc dLaw_law_121 ?_
        refine g_aload_n (pc := 122) hc dLaw_law_122 rfl ?_
        refine g_iload_n (pc := 123) hc dLaw_law_123 rfl ?_
        refine g_iconst (v := nI 3) (pc := 124) hc dLaw_law_124 (by decide) ?_
        refine g_iadd (pc := 125) hc dLaw_law_125 ?_
        rw [nI_add]
        refine g_xld (pc := 126) hc dLaw_law_126 hX hz hb (vp_in_nI (show i + 3 < L by omega) (by omega)) ?_
        rw [nI_clamp (by omega)]
        refine g_callV (pc := 127) hc dLaw_law_127 x_Law_19 (s_Mo_send V hR1) cl_Mo (hf9) (Nat.le_of_ble_eq_true rfl) (Nat.le_of_ble_eq_true rfl) (by omega) (by omega) rfl rfl (Nat.le_of_ble_eq_true rfl) (fun r m x hp => ?_)
        obtain ⟨rfl, rfl, hR2, hs2⟩ := hp
        have hM2 := zM.off h1 hs2 (by omega)
        refine g_icmp_eq (tgt := 262) (pc := 130) hc dLaw_law_130 (by decide) (fun _ => ?_) (fun c130 => absurd (rfl) c130)
        exact J262 _ _ hM2 hR2 (hI.send.mono (by omega))
      · refine g_tableIn (pc := 32) (tgt := 135) (off := 103) hc dLaw_law_32 (by decide) (by decide) (by decide) (by decide) ?_
        refine g_aload_n (pc := 135) hc dLaw_law_135 rfl ?_
        refine g_callV (pc := 136) hc dLaw_law_136 x_Law_20 (s_ML_reply V h) cl_ML (h.1) (Nat.le_of_ble_eq_true rfl) (Nat.le_of_ble_eq_true rfl) (by omega) (by omega) rfl rfl (Nat.le_of_ble_eq_true rfl) (fun r m x hp => ?_)
        obtain ⟨rfl, rfl, h1, hs1⟩ := hp
        have h1 : zM z (A.drop (min 7 A.length), (Ln, lc), (T, tc, td, tn), E, Ms, ses, gr, tx) m := h1
        have hR1 := hR.off hs1 (by omega)
        obtain ⟨fs9, hf9⟩ := hR1.obj
        refine g_aload_n (pc := 139) hc dLaw_law_139 rfl ?_
        refine g_callV (pc := 140) hc dLaw_law_140 x_Law_24 (s_Mo_reply V hR1) cl_Mo (hf9) (Nat.le_of_ble_eq_true rfl) (Nat.le_of_ble_eq_true rfl) (by omega) (by omega) rfl rfl (Nat.le_of_ble_eq_true rfl) (fun r m x hp => ?_)
        obtain ⟨rfl, rfl, hR2, hs2⟩ := hp
        have hM2 := zM.off h1 hs2 (by omega)
        refine g_lcmp (pc := 143) hc dLaw_law_143 ?_
        refine g_if_eq (tgt := 262) (pc := 144) hc dLaw_law_144 (by decide) (fun _ => ?_) (fun c144 => absurd (zlc _) c144)
        exact J262 _ _ hM2 hR2 (hI.mono (by omega))
      · refine g_tableIn (pc := 32) (tgt := 149) (off := 117) hc dLaw_law_32 (by decide) (by decide) (by decide) (by decide) ?_
        refine g_aload_n (pc := 149) hc dLaw_law_149 rfl ?_
        refine g_callV (pc := 150) hc dLaw_law_150 x_Law_25 (s_ML_open V h) cl_ML (h.1) (Nat.le_of_ble_eq_true rfl) (Nat.le_of_ble_eq_true rfl) (by omega) (by omega) rfl rfl (Nat.le_of_ble_eq_true rfl) (fun r m x hp => ?_)
        obtain ⟨rfl, rfl, h1, hs1⟩ := hp
        have hR1 := hR.off hs1 (by omega)
        obtain ⟨fs9, hf9⟩ := hR1.obj
        refine g_aload_n (pc := 153) hc dLaw_law_153 rfl ?_
        refine g_callV (pc := 154) hc dLaw_law_154 x_Law_29 (s_Mo_open V hR1) cl_Mo (hf9) (Nat.le_of_ble_eq_true rfl) (Nat.le_of_ble_eq_true rfl) (by omega) (by omega) rfl rfl (Nat.le_of_ble_eq_true rfl) (fun r m x hp => ?_)
        obtain ⟨rfl, rfl, hR2, hs2⟩ := hp
        have hM2 := zM.off h1 hs2 (by omega)
        refine g_icmp_eq (tgt := 262) (pc := 157) hc dLaw_law_157 (by decide) (fun _ => ?_) (fun c157 => absurd (rfl) c157)
        exact J262 _ _ hM2 hR2 (hI.opn.mono (by omega))
      · refine g_tableIn (pc := 32) (tgt := 162) (off := 130) hc dLaw_law_32 (by decide) (by decide) (by decide) (by decide) ?_
        refine g_aload_n (pc := 162) hc dLaw_law_162 rfl ?_
        refine g_aload_n (pc := 163) hc dLaw_law_163 rfl ?_
        refine g_iload_n (pc := 164) hc dLaw_law_164 rfl ?_
        refine g_iconst (v := nI 1) (pc := 165) hc dLaw_law_165 (by decide) ?_
        refine g_iadd (pc := 166) hc dLaw_law_166 ?_
        rw [nI_add]
        refine g_xld (pc := 167) hc dLaw_law_167 hX hz hb (vp_in_nI (show i + 1 < L by omega) (by omega)) ?_
        rw [nI_clamp (by omega)]
        refine g_aload_n (pc := 168) hc dLaw_law_168 rfl ?_
        refine g_iload_n (pc := 169) hc dLaw_law_169 rfl ?_
        refine g_iconst (v := nI 2) (pc := 170) hc dLaw_law_170 (by decide) ?_
        refine g_iadd (pc := 171) hc dLaw_law_171 ?_
        rw [nI_add]
        refine g_xld (pc := 172) hc dLaw_law_172 hX hz hb (vp_in_nI (show i + 2 < L by omega) (by omega)) ?_
        rw [nI_clamp (by omega)]
        refine g_callV (pc := 173) hc dLaw_law_173 x_Law_30 (s_ML_message V h) cl_ML (h.1) (Nat.le_of_ble_eq_true rfl) (Nat.le_of_ble_eq_true rfl) (by omega) (by omega) rfl rfl (Nat.le_of_ble_eq_true rfl) (fun r m x hp => ?_)
        obtain ⟨rfl, rfl, rfl⟩ := hp
        refine g_aload_n (pc := 176) hc dLaw_law_176 rfl ?_
        refine g_aload_n (pc := 177) hc dLaw_law_177 rfl ?_
        refine g_iload_n (pc := 178) hc dLaw_law_178 rfl ?_
        refine g_iconst (v := nI 1) (pc := 179) hc dLaw_law_179 (by decide) ?_
        refine g_iadd (pc := 180) hc dLaw_law_180 ?_
        rw [nI_add]
        refine g_xld (pc := 181) hc dLaw_law_181 hX hz hb (vp_in_nI (show i + 1 < L by omega) (by omega)) ?_
        rw [nI_clamp (by omega)]
        refine g_aload_n (pc := 182) hc dLaw_law_182 rfl ?_
        refine g_iload_n (pc := 183) hc dLaw_law_183 rfl ?_
        refine g_iconst (v := nI 2) (pc := 184) hc dLaw_law_184 (by decide) ?_
        refine g_iadd (pc := 185) hc dLaw_law_185 ?_
        rw [nI_add]
        refine g_xld (pc := 186) hc dLaw_law_186 hX hz hb (vp_in_nI (show i + 2 < L by omega) (by omega)) ?_
        rw [nI_clamp (by omega)]
        obtain ⟨fs9, hf9⟩ := hR.obj
        refine g_callV (pc := 187) hc dLaw_law_187 x_Law_34 (s_Mo_message V hR) cl_Mo (hf9) (Nat.le_of_ble_eq_true rfl) (Nat.le_of_ble_eq_true rfl) (by omega) (by omega) rfl rfl (Nat.le_of_ble_eq_true rfl) (fun r m x hp => ?_)
        obtain ⟨rfl, rfl, rfl⟩ := hp
        refine g_icmp_eq (tgt := 262) (pc := 190) hc dLaw_law_190 (by decide) (fun _ => ?_) (fun c190 => absurd (rfl) c190)
        exact J262 _ _ hM hR (hI.mono (by omega))
      · refine g_tableIn (pc := 32) (tgt := 195) (off := 163) hc dLaw_law_32 (by decide) (by decide) (by decide) (by decide) ?_
        refine g_aload_n (pc := 195) hc dLaw_law_195 rfl ?_
        refine g_aload_n (pc := 196) hc dLaw_law_196 rfl ?_
        refine g_iload_n (pc := 197) hc dLaw_law_197 rfl ?_
        refine g_iconst (v := nI 1) (pc := 198) hc dLaw_law_198 (by decide) ?_
        refine g_iadd (pc := 199) hc dLaw_law_199 ?_
        rw [nI_add]
        refine g_xld (pc := 200) hc dLaw_law_200 hX hz hb (vp_in_nI (show i + 1 < L by omega) (by omega)) ?_
        rw [nI_clamp (by omega)]
        refine g_aload_n (pc := 201) hc dLaw_law_201 rfl ?_
        refine g_iload_n (pc := 202) hc dLaw_law_202 rfl ?_
        refine g_iconst (v := nI 2) (pc := 203) hc dLaw_law_203 (by decide) ?_
        refine g_iadd (pc := 204) hc dLaw_law_204 ?_
        rw [nI_add]
        refine g_xld (pc := 205) hc dLaw_law_205 hX hz hb (vp_in_nI (show i + 2 < L by omega) (by omega)) ?_
        rw [nI_clamp (by omega)]
        refine g_aload_n (pc := 206) hc dLaw_law_206 rfl ?_
        refine g_iload_n (pc := 207) hc dLaw_law_207 rfl ?_
        refine g_iconst (v := nI 3) (pc := 208) hc dLaw_law_208 (by decide) ?_
        refine g_iadd (pc := 209) hc dLaw_law_209 ?_
        rw [nI_add]
        refine g_xld (pc := 210) hc dLaw_law_210 hX hz hb (vp_in_nI (show i + 3 < L by omega) (by omega)) ?_
        rw [nI_clamp (by omega)]
        refine g_callV (pc := 211) hc dLaw_law_211 x_Law_35 (s_ML_bytes V h) cl_ML (h.1) (Nat.le_of_ble_eq_true rfl) (Nat.le_of_ble_eq_true rfl) (by omega) (by omega) rfl rfl (Nat.le_of_ble_eq_true rfl) (fun r m x hp => ?_)
        obtain ⟨rfl, rfl, rfl⟩ := hp
        refine g_aload_n (pc := 214) hc dLaw_law_214 rfl ?_
        refine g_aload_n (pc := 215) hc dLaw_law_215 rfl ?_
        refine g_iload_n (pc := 216) hc dLaw_law_216 rfl ?_
        refine g_iconst (v := nI 1) (pc := 217) hc dLaw_law_217 (by decide) ?_
        refine g_iadd (pc := 218) hc dLaw_law_218 ?_
        rw [nI_add]
        refine g_xld (pc := 219) hc dLaw_law_219 hX hz hb (vp_in_nI (show i + 1 < L by omega) (by omega)) ?_
        rw [nI_clamp (by omega)]
        refine g_aload_n (pc := 220) hc dLaw_law_220 rfl ?_
        refine g_iload_n (pc := 221) hc dLaw_law_221 rfl ?_
        refine g_iconst (v := nI 2) (pc := 222) hc dLaw_law_222 (by decide) ?_
        refine g_iadd (pc := 223) hc dLaw_law_223 ?_
        rw [nI_add]
        refine g_xld (pc := 224) hc dLaw_law_224 hX hz hb (vp_in_nI (show i + 2 < L by omega) (by omega)) ?_
        rw [nI_clamp (by omega)]
        refine g_aload_n (pc := 225) hc dLaw_law_225 rfl ?_
        refine g_iload_n (pc := 226) hc dLaw_law_226 rfl ?_
        refine g_iconst (v := nI 3) (pc := 227) hc dLaw_law_227 (by decide) ?_
        refine g_iadd (pc := 228) hc dLaw_law_228 ?_
        rw [nI_add]
        refine g_xld (pc := 229) hc dLaw_law_229 hX hz hb (vp_in_nI (show i + 3 < L by omega) (by omega)) ?_
        rw [nI_clamp (by omega)]
        obtain ⟨fs9, hf9⟩ := hR.obj
        refine g_callV (pc := 230) hc dLaw_law_230 x_Law_39 (s_Mo_bytes V hR) cl_Mo (hf9) (Nat.le_of_ble_eq_true rfl) (Nat.le_of_ble_eq_true rfl) (by omega) (by omega) rfl rfl (Nat.le_of_ble_eq_true rfl) (fun r m x hp => ?_)
        obtain ⟨rfl, rfl, rfl⟩ := hp
        refine g_lcmp (pc := 233) hc dLaw_law_233 ?_
        refine g_if_eq (tgt := 262) (pc := 234) hc dLaw_law_234 (by decide) (fun _ => ?_) (fun c234 => absurd (zlc _) c234)
        exact J262 _ _ hM hR (hI.mono (by omega))
      · refine g_tableIn (pc := 32) (tgt := 239) (off := 207) hc dLaw_law_32 (by decide) (by decide) (by decide) (by decide) ?_
        refine g_aload_n (pc := 239) hc dLaw_law_239 rfl ?_
        refine g_aload_n (pc := 240) hc dLaw_law_240 rfl ?_
        refine g_iload_n (pc := 241) hc dLaw_law_241 rfl ?_
        refine g_iconst (v := nI 1) (pc := 242) hc dLaw_law_242 (by decide) ?_
        refine g_iadd (pc := 243) hc dLaw_law_243 ?_
        rw [nI_add]
        refine g_xld (pc := 244) hc dLaw_law_244 hX hz hb (vp_in_nI (show i + 1 < L by omega) (by omega)) ?_
        rw [nI_clamp (by omega)]
        refine g_callV (pc := 245) hc dLaw_law_245 x_Law_40 (s_ML_count V h) cl_ML (h.1) (Nat.le_of_ble_eq_true rfl) (Nat.le_of_ble_eq_true rfl) (by omega) (by omega) rfl rfl (Nat.le_of_ble_eq_true rfl) (fun r m x hp => ?_)
        obtain ⟨rfl, rfl, rfl⟩ := hp
        refine g_aload_n (pc := 248) hc dLaw_law_248 rfl ?_
        refine g_aload_n (pc := 249) hc dLaw_law_249 rfl ?_
        refine g_iload_n (pc := 250) hc dLaw_law_250 rfl ?_
        refine g_iconst (v := nI 1) (pc := 251) hc dLaw_law_251 (by decide) ?_
        refine g_iadd (pc := 252) hc dLaw_law_252 ?_
        rw [nI_add]
        refine g_xld (pc := 253) hc dLaw_law_253 hX hz hb (vp_in_nI (show i + 1 < L by omega) (by omega)) ?_
        rw [nI_clamp (by omega)]
        obtain ⟨fs9, hf9⟩ := hR.obj
        refine g_callV (pc := 254) hc dLaw_law_254 x_Law_44 (s_Mo_count V hR) cl_Mo (hf9) (Nat.le_of_ble_eq_true rfl) (Nat.le_of_ble_eq_true rfl) (by omega) (by omega) rfl rfl (Nat.le_of_ble_eq_true rfl) (fun r m x hp => ?_)
        obtain ⟨rfl, rfl, rfl⟩ := hp
        refine g_icmp_eq (tgt := 262) (pc := 257) hc dLaw_law_257 (by decide) (fun _ => ?_) (fun c257 => absurd (rfl) c257)
        exact J262 _ _ hM hR (hI.mono (by omega))
      · refine g_tableOut (pc := 32) (tgt := 262) hc dLaw_law_32 (by decide) (by decide) ?_
        exact J262 _ _ hM hR (hI.mono (by omega))
      · refine g_tableOut (pc := 32) (tgt := 262) hc dLaw_law_32 (by decide) (by decide) ?_
        exact J262 _ _ hM hR (hI.mono (by omega))
    · refine g_iload_n (pc := 18) hc dLaw_law_18 rfl ?_
      refine g_aload_n (pc := 19) hc dLaw_law_19 rfl ?_
      refine g_xlen (pc := 20) hc dLaw_law_20 hX hz hb ?_
      refine g_iconst (v := nI 4) (pc := 21) hc dLaw_law_21 (by decide) ?_
      refine g_isub (pc := 22) hc dLaw_law_22 ?_
      refine g_icmp_gt (tgt := 268) (pc := 23) hc dLaw_law_23 (by decide) (fun _ => ?_) (fun c23 => absurd ((zgt hL (by omega)).mpr (by omega)) c23)
      refine g_iconst (v := nI 1) (pc := 268) hc dLaw_law_268 (by decide) ?_
      exact hend _ _ _ _ _ e1 e2
set_option maxHeartbeats 4000000 in
set_option maxRecDepth 100000 in
/-- THE LAW, from its entry -/
theorem whole_start {p : Program} {e : Env} {s : State} {m : MethodId} {below : List Frame} {meth : Method} {c : Code} (l : Launch) {b L : Nat} {xs : Nat → Int32} (hL : L ≤ 2048) (C0 : lw_At p s m meth c b L xs) : W p l e room_1 s m #[Value.ref b] below meth c s.heap [] 0 0 (lw_Z below #[Value.ref b] s) (entryFrame m ([Value.ref b] : List Value).toArray 4) := by
  obtain ⟨hx, hcb, hr, hml, hown, hts, hX, hb, hlocks, hgv⟩ := id C0
  obtain ⟨V, hl0, hz, hE⟩ := zstart l hts hgv
  subst hl0
  obtain ⟨X, eX⟩ : ∃ X : mm_X, X = (p, e, room_1, s, m, #[Value.ref b], below, meth, c, lw_Z below #[Value.ref b] s) := ⟨_, rfl⟩
  have hc : mm_Cx V X cLaw_law 4 R_Law 16 600000 7302249 := by
    subst eX
    exact ⟨hx, hcb, hml, hown, fun w h => hts w (mm_tbl h), hE, Nat.le_of_ble_eq_true rfl, Nat.le_of_ble_eq_true rfl, Nat.le_of_ble_eq_true rfl, Nat.le_of_ble_eq_true rfl⟩
  have hend : ∀ (lv : List (Nat × Value)) (mem : mm_M) (nx c1 s1 : Nat), c1 ≤ 600000 → s1 ≤ 7302249 → mm_G V X 4 269 lv [.int (nI 1)] mem nx c1 s1 := by
    subst eX
    intro lv mem nx c1 s1 e1 e2 H locs ls h1 h2 h3
    refine va_forget (fun q hq => by rw [← hz]; exact h2.2 q hq) ?_
    refine W.widen e1 e2 ?_
    exact lw_ret hx hcb hr hlocks dLaw_law_269
  have hX2 : va_X b L xs X.2.2.2.1 X.2.2.2.1.heap := by subst eX; exact hX
  have hz2 : V.2.2.2.1 = X.2.2.2.1.heap.size := by subst eX; exact hz
  have hb2 : b < X.2.2.2.1.heap.size := by subst eX; exact hb
  have G : mm_G V X 4 0 (lv_args 0 [Value.ref b]) [] (fun _ => none) s.heap.size 0 0 := by
    generalize s.heap.size = z
    refine g_new (pc := 0) (fs := [.null, .null, .null, .null, .null, .int 0, .int 0, .int 0, .int 0]) hc dLaw_law_0 cl_ML in_ML xn_Law_7 ft_ML (fun j hj => by rcases (show j = 0 ∨ j = 1 ∨ j = 2 ∨ j = 3 ∨ j = 4 ∨ j = 5 ∨ j = 6 ∨ j = 7 ∨ j = 8 by omega) with rfl | rfl | rfl | rfl | rfl | rfl | rfl | rfl | rfl <;> rfl) (by omega) (by omega) (fun m1 h1 o1 => ?_)
    refine g_dup (pc := 3) hc dLaw_law_3 rfl ?_
    refine g_callI (pc := 4) hc dLaw_law_4 x_Law_9 (s_ML_init V h1 rfl) (Nat.le_of_ble_eq_true rfl) (Nat.le_of_ble_eq_true rfl) (by omega) (by omega) rfl rfl (Nat.le_of_ble_eq_true rfl) (fun r m x hp => ?_)
    obtain ⟨rfl, rfl, hM, hs1⟩ := hp
    refine g_astore_n (pc := 7) hc dLaw_law_7 (by decide) rfl ?_
    refine g_new (pc := 8) (fs := [.int 0, .int 0, .int 0, .int 0, .null, .int 0, .int 0, .int 0, .int 0, .null, .int 0, .int 0, .null, .null, .int 0, .int 0, .int 0, .null, .int 0, .int 0, .null, .null, .null, .null, .null, .null, .null]) hc dLaw_law_8 cl_Mo in_Mo xn_Law_10 ft_Mo (fun j hj => by rcases (show j = 0 ∨ j = 1 ∨ j = 2 ∨ j = 3 ∨ j = 4 ∨ j = 5 ∨ j = 6 ∨ j = 7 ∨ j = 8 ∨ j = 9 ∨ j = 10 ∨ j = 11 ∨ j = 12 ∨ j = 13 ∨ j = 14 ∨ j = 15 ∨ j = 16 ∨ j = 17 ∨ j = 18 ∨ j = 19 ∨ j = 20 ∨ j = 21 ∨ j = 22 ∨ j = 23 ∨ j = 24 ∨ j = 25 ∨ j = 26 by omega) with rfl | rfl | rfl | rfl | rfl | rfl | rfl | rfl | rfl | rfl | rfl | rfl | rfl | rfl | rfl | rfl | rfl | rfl | rfl | rfl | rfl | rfl | rfl | rfl | rfl | rfl | rfl <;> rfl) (by omega) (by omega) (fun m2 h2 o2 => ?_)
    have hM2 : zM z zst0 m2 := zM.off hM (zsame.one (lo := z + 92) (hi := z + 93) o2 (Nat.le_refl _) (by omega)) (by omega)
    refine g_dup (pc := 11) hc dLaw_law_11 rfl ?_
    refine g_callI (pc := 12) hc dLaw_law_12 x_Law_12 (s_Mo_init V h2 rfl) (Nat.le_of_ble_eq_true rfl) (Nat.le_of_ble_eq_true rfl) (by omega) (by omega) rfl rfl (Nat.le_of_ble_eq_true rfl) (fun r m x hp => ?_)
    obtain ⟨rfl, rfl, hR, hs3⟩ := hp
    have hM3 := zM.off hM2 hs3 (by omega)
    refine g_astore_n (pc := 15) hc dLaw_law_15 (by decide) rfl ?_
    refine g_iconst (v := nI 0) (pc := 16) hc dLaw_law_16 (by decide) ?_
    refine g_istore_n (pc := 17) hc dLaw_law_17 (by decide) rfl ?_
    refine g_lv (lv' := [(0, .ref b), (1, .ref z), (2, .ref (z + 92)), (3, .int (nI 0))]) ⟨rfl, rfl, rfl, rfl, trivial⟩ ?_
    exact law_loop hL hc hX2 hz2 hb2 hend L 0 zst0 _ _ _ _ (Nat.zero_le _) (by omega) (by omega) (by omega) hM3 hR ⟨Nat.zero_le _, fun q => absurd (show false = true from q) (by decide)⟩
  have hl := lv_entry [Value.ref b] (n := 4) (Nat.le_of_ble_eq_true rfl)
  rw [lg_entry_eq]
  have G2 := G s.heap [] _ ⟨rfl, by omega, fun a q h => by cases h⟩ ⟨fun _ _ => by subst eX; rfl, fun _ h => by cases h⟩ hl
  subst eX
  exact G2
