theorem ztake_succ {L : List Nat} {s j : Nat} (h : s + j < L.length) : (L.drop s).take (j + 1) = (L.drop s).take j ++ [L.getD (s + j) 0] := by
  rw [List.take_succ]
  congr 1
  rw [List.getElem?_drop, List.getElem?_eq_getElem h, List.getD_eq_getElem?_getD, List.getElem?_eq_getElem h]
  rfl
set_option maxHeartbeats 4000000 in
set_option maxRecDepth 100000 in
theorem s_Mo_sent (V : mm_V) {y sz la il ss : Nat} {th gr ln pt : Bool} {fi av be : Int32} {L A : List Nat} {E : zEv} {Ms : List zMsg} {mem : mm_M} {nx : Nat} (h : zK y th gr E.2.1 ln sz la il pt ss E.2.2.length fi av be L A E Ms mem) (hLb : ∀ b ∈ L, b < 256) (hL2 : L.length ≤ 100) : mm_S V yMo_sent cMo_sent 6 none 5 0 0 [.ref y, .int (nI L.length)] mem nx (fun r m x => r = none ∧ nx = x ∧ zC y th gr ln sz la L (zans A (zrM E L).1) ((zrM E L).2) Ms false m ∧ zsame y (y + 13) mem m) := by
  obtain ⟨hm, hT⟩ := id h
  obtain ⟨hL, hS, hR, hRs, hA, hMs, hW⟩ := id hT
  refine mm_met (by decide) (Nat.le_of_ble_eq_true rfl) ?_
  intro X hc he hnm
  obtain ⟨f, ha, hle, hf⟩ := id hL
  have lb : (zs t_bo).length = 14 := rfl
  have ls6 : (zs t_si).length = 6 := rfl
  have lns : (zs t_ns).length = 12 := rfl
  have lmf : (zs t_mf).length = 10 := rfl
  have Jneg : ∀ (m1 : mm_M) (f1 a1 b1 : Int32) (bg : Bool), zK y th gr E.2.1 ln sz la il pt ss E.2.2.length f1 a1 b1 L A E Ms m1 → zsame y (y + 13) mem m1 → zrM E L = (zs t_501, E) → mm_G V X 6 85 [(0, .ref y), (1, .int (nI L.length)), (2, .int (-1)), (3, .int (zb (bg)))] [] m1 nx 0 0 := by
    intro m1 f1 a1 b1 bg hK1 hs1 er
    refine g_iload_n (pc := 85) hc dMo_sent_85 rfl ?_
    refine g_if_lt (tgt := 253) (pc := 86) hc dMo_sent_86 (by decide) (fun _ => ?_) (fun c86 => absurd (by decide) c86)
    refine g_iload_n (pc := 253) hc dMo_sent_253 rfl ?_
    refine g_if_ge (tgt := 264) (pc := 254) hc dMo_sent_254 (by decide) (fun c254 => absurd c254 (by decide)) (fun _ => ?_)
    refine g_aload_n (pc := 257) hc dMo_sent_257 rfl ?_
    refine g_callV (pc := 258) hc dMo_sent_258 x_Mo_178 (s_Mo_syntax V hK1) cl_Mo (hK1.1) (Nat.le_of_ble_eq_true rfl) (Nat.le_of_ble_eq_true rfl) (Nat.le_of_ble_eq_true rfl) (Nat.le_of_ble_eq_true rfl) rfl rfl (Nat.le_of_ble_eq_true rfl) (fun r m x hp => ?_)
    obtain ⟨rfl, rfl, h9, hs9⟩ := hp
    refine g_goto (tgt := 374) (pc := 261) hc dMo_sent_261 (by decide) ?_
    exact g_vret (pc := 374) hc he dMo_sent_374 (Nat.le_refl _) (Nat.le_refl _) ⟨rfl, rfl, by rw [er]; exact zC.of h9, fun a q => (hs9 a q).trans (hs1 a q)⟩
  have main : ∀ (m1 : mm_M) (f1 a1 b1 : Int32) (e p0 q0 : Nat), zK y th gr E.2.1 ln sz la il pt ss E.2.2.length f1 a1 b1 L A E Ms m1 → zsame y (y + 13) mem m1 → (if zhw L 0 (zs t_ns) then some (zs t_ns).length else zpe (zs t_lm) (zs t_dm) L (zs t_mf)) = some e → e ≤ L.length → f1 = nI p0 → b1 = nI q0 → p0 ≤ q0 → q0 ≤ L.length → (L.drop p0).take (q0 - p0) = (L.drop ((zs t_mf).length + 1)).take (e - 1 - ((zs t_mf).length + 1)) → mm_G V X 6 85 [(0, .ref y), (1, .int (nI L.length)), (2, .int (nI e)), (3, .int (zb (false)))] [] m1 nx 0 0 := by
    intro m1 f1 a1 b1 e p0 q0 hK1 hs1 eK hel ef1 eb1 hpq hqL eS
    obtain ⟨hm1, hT1⟩ := id hK1
    obtain ⟨hL1, hS1, hR1, hRs1, hA1, hM1, hW1⟩ := id hT1
    obtain ⟨g, hg, hgl, hgf⟩ := id hL1
    have enone : zls (zs t_bo) (zs t_si) L 100 e 0 = none → zrM E L = (zs t_501, E) := by
      intro q
      rw [zrM, eK]; simp only []; rw [q]
    have J253 : ∀ (i lg : Nat), i < 2 ^ 31 → zls (zs t_bo) (zs t_si) L 100 e 0 = some lg → mm_G V X 6 253 [(0, .ref y), (1, .int (nI L.length)), (2, .int (nI i)), (3, .int (zb (decide (200 < lg))))] [] m1 nx 0 0 := by
      intro i lg hi er
      have J319 : ∀ (j i9 : Nat) (m2 : mm_M), j + i9 = q0 - p0 → m2 y = some (.inr (kMo, fMo y th gr true ln sz la il pt (q0 - p0) E.2.2.length f1 a1 b1 A.length Ms.length)) → zsame y (y + 13) mem m2 → zA (y + 1) 210 L m2 → zA (y + 2) 110 ((L.drop p0).take i9) m2 → zG (y + 3) 440 110 E.2.2 m2 → zA (y + 4) 4 (E.2.2.map List.length) m2 → zA (y + 5) 400 A m2 → zMs y Ms m2 → E.2.1 = false → ¬ 200 < lg → mm_G V X 6 319 [(0, .ref y), (4, .int (nI i9))] [] m2 nx 0 0 := by
        intro j
        induction j with
        | zero =>
          intro i9 m2 e1 h2 hs2 xL xS xR xRs xA xM et eb
          obtain rfl : i9 = q0 - p0 := by omega
          have hE2 : zK y th gr true ln sz la il pt (q0 - p0) E.2.2.length f1 a1 b1 L A ((L.drop p0).take (q0 - p0), true, E.2.2) Ms m2 := ⟨h2, xL, xS, xR, xRs, xA, xM, hW1.1, fun _ => ⟨by simp; omega, by simp; omega, fun b hb => hLb b (List.mem_of_mem_drop (List.mem_of_mem_take hb))⟩, hW1.2.2.1, hW1.2.2.2.1, fun _ => rfl, hW1.2.2.2.2.2⟩
          refine g_iload (pc := 319) hc dMo_sent_319 rfl ?_
          refine g_aload_n (pc := 321) hc dMo_sent_321 rfl ?_
          refine g_get (pc := 322) hc dMo_sent_322 x_Mo_205 h2 (by rfl) ?_
          refine g_icmp_ge (tgt := 353) (pc := 325) hc dMo_sent_325 (by decide) (fun _ => ?_) (fun c325 => absurd (nI_le (by omega) (by omega)) c325)
          refine g_aload_n (pc := 353) hc dMo_sent_353 rfl ?_
          refine g_ldc2 (pc := 354) hc dMo_sent_354 x_Mo_208 ?_
          refine g_bipush (v := nI 8) (pc := 357) hc dMo_sent_357 (by decide) ?_
          refine g_callV (pc := 359) hc dMo_sent_359 x_Mo_60 (s_Mo_say V (n := 8) hE2 (by decide)) cl_Mo (hE2.1) (Nat.le_of_ble_eq_true rfl) (Nat.le_of_ble_eq_true rfl) (Nat.le_of_ble_eq_true rfl) (Nat.le_of_ble_eq_true rfl) rfl rfl (Nat.le_of_ble_eq_true rfl) (fun r m x hp => ?_)
          obtain ⟨rfl, rfl, h3, hs3⟩ := hp
          refine g_aload_n (pc := 362) hc dMo_sent_362 rfl ?_
          refine g_ldc2 (pc := 363) hc dMo_sent_363 x_Mo_210 ?_
          refine g_iconst (v := nI 2) (pc := 366) hc dMo_sent_366 (by decide) ?_
          refine g_callV (pc := 367) hc dMo_sent_367 x_Mo_60 (s_Mo_say V (n := 2) h3 (by decide)) cl_Mo (h3.1) (Nat.le_of_ble_eq_true rfl) (Nat.le_of_ble_eq_true rfl) (Nat.le_of_ble_eq_true rfl) (Nat.le_of_ble_eq_true rfl) rfl rfl (Nat.le_of_ble_eq_true rfl) (fun r m x hp => ?_)
          obtain ⟨rfl, rfl, h4, hs4⟩ := hp
          refine g_aload_n (pc := 370) hc dMo_sent_370 rfl ?_
          refine g_callV (pc := 371) hc dMo_sent_371 x_Mo_66 (s_Mo_end V h4) cl_Mo (h4.1) (Nat.le_of_ble_eq_true rfl) (Nat.le_of_ble_eq_true rfl) (Nat.le_of_ble_eq_true rfl) (Nat.le_of_ble_eq_true rfl) rfl rfl (Nat.le_of_ble_eq_true rfl) (fun r m x hp => ?_)
          obtain ⟨rfl, rfl, h5, hs5⟩ := hp
          rw [zans2] at h5
          have ez : zrM E L = (zs t_250s, ((L.drop p0).take (q0 - p0), true, E.2.2)) := by
            rw [zrM, eK]; simp only []; rw [er]; simp only []; rw [et, if_neg (by decide), if_neg eb, eS]
          exact g_vret (pc := 374) hc he dMo_sent_374 (Nat.le_refl _) (Nat.le_refl _) ⟨rfl, rfl, by rw [ez]; exact zC.of (E := ((L.drop p0).take (q0 - p0), true, E.2.2)) h5, fun a q => (hs5 a q).trans ((hs4 a q).trans ((hs3 a q).trans (hs2 a q)))⟩
        | succ j ih =>
          intro i9 m2 e1 h2 hs2 xL xS xR xRs xA xM et eb
          obtain ⟨g2, hg2, hgl2, hgf2⟩ := id xL
          obtain ⟨g3, hg3, hgl3, hgf3⟩ := id xS
          have el : ((L.drop p0).take i9).length = i9 := by simp; omega
          refine g_iload (pc := 319) hc dMo_sent_319 rfl ?_
          refine g_aload_n (pc := 321) hc dMo_sent_321 rfl ?_
          refine g_get (pc := 322) hc dMo_sent_322 x_Mo_205 h2 (by rfl) ?_
          refine g_icmp_ge (tgt := 353) (pc := 325) hc dMo_sent_325 (by decide) (fun c325 => absurd c325 (nI_ge (by omega) (by omega))) (fun _ => ?_)
          refine g_aload_n (pc := 328) hc dMo_sent_328 rfl ?_
          refine g_get (pc := 329) hc dMo_sent_329 x_Mo_17 h2 (by rfl) ?_
          refine g_iload (pc := 332) hc dMo_sent_332 rfl ?_
          refine g_aload_n (pc := 334) hc dMo_sent_334 rfl ?_
          refine g_get (pc := 335) hc dMo_sent_335 x_Mo_13 h2 (by rfl) ?_
          refine g_aload_n (pc := 338) hc dMo_sent_338 rfl ?_
          refine g_get (pc := 339) hc dMo_sent_339 x_Mo_122 h2 (by rfl) ?_
          rw [ef1]
          refine g_iload (pc := 342) hc dMo_sent_342 rfl ?_
          refine g_iadd (pc := 344) hc dMo_sent_344 ?_
          rw [nI_add]
          refine g_iald (pc := 345) (t := kI) hc dMo_sent_345 rfl hg2 (vp_in_nI (show p0 + i9 < 210 by omega) (by decide)) ?_
          rw [nI_clamp (by omega), hgf2 _ (by omega)]
          refine g_iast (pc := 346) (t := kI) hc dMo_sent_346 rfl hg3 (vp_in_nI (show i9 < 110 by omega) (by decide)) (fun m3 h3 o3 => ?_)
          rw [nI_clamp (by omega)] at h3
          have h4 := (o3 y (by omega)).trans h2
          refine g_iinc (pc := 347) hc dMo_sent_347 rfl (zinc _) (by decide) rfl ?_
          refine g_goto (tgt := 319) (pc := 350) hc dMo_sent_350 (by decide) ?_
          refine g_lv (lv' := [(0, .ref y), (4, .int (nI (i9 + 1)))]) ⟨rfl, rfl, trivial⟩ ?_
          refine ih (i9 + 1) m3 (by omega) h4 (fun a q => (o3 a (by omega)).trans (hs2 a q)) (xL.kpt o3 (by omega)) ⟨_, h3, by simp; omega, ?_⟩ (xR.kpt o3 (by omega)) (xRs.kpt o3 (by omega)) (xA.kpt o3 (by omega)) (xM.kpt o3 (by omega)) et eb
          have eT : (L.drop p0).take (i9 + 1) = (L.drop p0).take i9 ++ [L.getD (p0 + i9) 0] := ztake_succ (by omega)
          rw [eT]
          have q := zupd_app (b := L.getD (p0 + i9) 0) hgf3
          rw [el] at q
          exact q
      refine g_iload_n (pc := 253) hc dMo_sent_253 rfl ?_
      refine g_if_ge (tgt := 264) (pc := 254) hc dMo_sent_254 (by decide) (fun _ => ?_) (fun c254 => absurd (nI_pos' hi) c254)
      refine g_aload_n (pc := 264) hc dMo_sent_264 rfl ?_
      refine g_get (pc := 265) hc dMo_sent_265 x_Mo_135 hm1 (by rfl) ?_
      refine g_if_eq (tgt := 278) (pc := 268) hc dMo_sent_268 (by decide) (fun c268 => ?_) (fun c268 => ?_)
      · simp (disch := omega) only [nI_leI, nI_ltI, nI_eq, nI_eq0, nI_lt0, nI_0le, nI_0lt, nI_le0, zb_0] at c268
        refine g_iload_n (pc := 278) hc dMo_sent_278 rfl ?_
        refine g_if_eq (tgt := 298) (pc := 279) hc dMo_sent_279 (by decide) (fun c279 => ?_) (fun c279 => ?_)
        · simp (disch := omega) only [nI_leI, nI_ltI, nI_eq, nI_eq0, nI_lt0, nI_0le, nI_0lt, nI_le0, zb_0] at c279
          have d279 : ¬ 200 < lg := by simpa using c279
          refine g_aload_n (pc := 298) hc dMo_sent_298 rfl ?_
          refine g_iconst (v := nI 1) (pc := 299) hc dMo_sent_299 (by decide) ?_
          refine g_put (pc := 300) hc dMo_sent_300 x_Mo_135 ft_Mo rfl hm1 rfl rfl (zlt rfl) (fun m2 h20 o2 => ?_)
          have h2 : m2 y = some (.inr (kMo, fMo y th gr true ln sz la il pt ss E.2.2.length f1 a1 b1 A.length Ms.length)) := h20
          refine g_aload_n (pc := 303) hc dMo_sent_303 rfl ?_
          refine g_aload_n (pc := 304) hc dMo_sent_304 rfl ?_
          refine g_get (pc := 305) hc dMo_sent_305 x_Mo_132 h2 (by rfl) ?_
          rw [eb1]
          refine g_aload_n (pc := 308) hc dMo_sent_308 rfl ?_
          refine g_get (pc := 309) hc dMo_sent_309 x_Mo_122 h2 (by rfl) ?_
          rw [ef1]
          refine g_isub (pc := 312) hc dMo_sent_312 ?_
          rw [pk_sub hpq]
          refine g_put (pc := 313) hc dMo_sent_313 x_Mo_205 ft_Mo rfl h2 rfl rfl (zlt rfl) (fun m3 h30 o3 => ?_)
          have h3 : m3 y = some (.inr (kMo, fMo y th gr true ln sz la il pt (q0 - p0) E.2.2.length f1 a1 b1 A.length Ms.length)) := h30
          refine g_iconst (v := nI 0) (pc := 316) hc dMo_sent_316 (by decide) ?_
          refine g_istore (pc := 317) hc dMo_sent_317 (by decide) rfl ?_
          refine g_lv (lv' := [(0, .ref y), (4, .int (nI 0))]) ⟨rfl, rfl, trivial⟩ ?_
          exact J319 (q0 - p0) 0 m3 rfl h3 (fun a q => (o3 a (by omega)).trans ((o2 a (by omega)).trans (hs1 a q))) ((hL1.kpt o2 (by omega)).kpt o3 (by omega)) ((hS1.nil.kpt o2 (by omega)).kpt o3 (by omega)) ((hR1.kpt o2 (by omega)).kpt o3 (by omega)) ((hRs1.kpt o2 (by omega)).kpt o3 (by omega)) ((hA1.kpt o2 (by omega)).kpt o3 (by omega)) ((hM1.kpt o2 (by omega)).kpt o3 (by omega)) c268 d279
        · simp (disch := omega) only [nI_leI, nI_ltI, nI_eq, nI_eq0, nI_lt0, nI_0le, nI_0lt, nI_le0, zb_0] at c279
          have d279 : 200 < lg := by simpa using c279
          refine g_aload_n (pc := 282) hc dMo_sent_282 rfl ?_
          refine g_ldc2 (pc := 283) hc dMo_sent_283 x_Mo_203 ?_
          refine g_bipush (v := nI 7) (pc := 286) hc dMo_sent_286 (by decide) ?_
          refine g_callV (pc := 288) hc dMo_sent_288 x_Mo_60 (s_Mo_say V (n := 7) hK1 (by decide)) cl_Mo (hK1.1) (Nat.le_of_ble_eq_true rfl) (Nat.le_of_ble_eq_true rfl) (Nat.le_of_ble_eq_true rfl) (Nat.le_of_ble_eq_true rfl) rfl rfl (Nat.le_of_ble_eq_true rfl) (fun r m x hp => ?_)
          obtain ⟨rfl, rfl, h8, hs8⟩ := hp
          refine g_aload_n (pc := 291) hc dMo_sent_291 rfl ?_
          refine g_callV (pc := 292) hc dMo_sent_292 x_Mo_66 (s_Mo_end V h8) cl_Mo (h8.1) (Nat.le_of_ble_eq_true rfl) (Nat.le_of_ble_eq_true rfl) (Nat.le_of_ble_eq_true rfl) (Nat.le_of_ble_eq_true rfl) rfl rfl (Nat.le_of_ble_eq_true rfl) (fun r m x hp => ?_)
          obtain ⟨rfl, rfl, h9, hs9⟩ := hp
          rw [zans1] at h9
          refine g_goto (tgt := 374) (pc := 295) hc dMo_sent_295 (by decide) ?_
          have ez : zrM E L = (zs t_552, E) := by
            rw [zrM, eK]; simp only []; rw [er]; simp only []; rw [c268, if_neg (by decide), if_pos d279]
          exact g_vret (pc := 374) hc he dMo_sent_374 (Nat.le_refl _) (Nat.le_refl _) ⟨rfl, rfl, by rw [ez]; exact zC.of h9, fun a q => (hs9 a q).trans ((hs8 a q).trans (hs1 a q))⟩
      · simp (disch := omega) only [nI_leI, nI_ltI, nI_eq, nI_eq0, nI_lt0, nI_0le, nI_0lt, nI_le0, zb_0] at c268
        have d268 : E.2.1 = true := by simpa using c268
        refine g_aload_n (pc := 271) hc dMo_sent_271 rfl ?_
        refine g_callV (pc := 272) hc dMo_sent_272 x_Mo_166 (s_Mo_order V hK1) cl_Mo (hK1.1) (Nat.le_of_ble_eq_true rfl) (Nat.le_of_ble_eq_true rfl) (Nat.le_of_ble_eq_true rfl) (Nat.le_of_ble_eq_true rfl) rfl rfl (Nat.le_of_ble_eq_true rfl) (fun r m x hp => ?_)
        obtain ⟨rfl, rfl, h9, hs9⟩ := hp
        refine g_goto (tgt := 374) (pc := 275) hc dMo_sent_275 (by decide) ?_
        have ez : zrM E L = (zs t_503, E) := by
          rw [zrM, eK]; simp only []; rw [er]; simp only []; rw [d268, if_pos rfl]
        exact g_vret (pc := 374) hc he dMo_sent_374 (Nat.le_refl _) (Nat.le_refl _) ⟨rfl, rfl, by rw [ez]; exact zC.of h9, fun a q => (hs9 a q).trans (hs1 a q)⟩
    have Jdig : ∀ (i : Nat) (bg : Bool), i < L.length → zdg (L.getD i 0) = true → zls (zs t_bo) (zs t_si) L 100 e 0 = none → mm_G V X 6 85 [(0, .ref y), (1, .int (nI L.length)), (2, .int (nI i)), (3, .int (zb (bg)))] [] m1 nx 0 0 := by
      intro i bg hi hd er
      have z1 := (zdig_no hd).1
      have z2 := (zdig_no hd).2
      rw [zbo_eq (by omega)] at z1
      rw [zsi_eq (by omega)] at z2
      have J133 : mm_G V X 6 133 [(0, .ref y), (1, .int (nI L.length)), (2, .int (nI i)), (3, .int (zb (bg)))] [] m1 nx 0 0 := by
        refine g_aload_n (pc := 133) hc dMo_sent_133 rfl ?_
        refine g_iload_n (pc := 134) hc dMo_sent_134 rfl ?_
        refine g_ldc2 (pc := 135) hc dMo_sent_135 x_Mo_201 ?_
        refine g_bipush (v := nI 6) (pc := 138) hc dMo_sent_138 (by decide) ?_
        refine g_iload_n (pc := 140) hc dMo_sent_140 rfl ?_
        refine g_callV (pc := 141) hc dMo_sent_141 x_Mo_143 (s_Mo_is V (k := i) (n := 6) hK1 hLb (by decide) (by omega)) cl_Mo (hK1.1) (Nat.le_of_ble_eq_true rfl) (Nat.le_of_ble_eq_true rfl) (Nat.le_of_ble_eq_true rfl) (Nat.le_of_ble_eq_true rfl) rfl rfl (Nat.le_of_ble_eq_true rfl) (fun r m x hp => ?_)
        obtain ⟨rfl, rfl, rfl⟩ := hp
        refine g_if_eq (tgt := 248) (pc := 144) hc dMo_sent_144 (by decide) (fun _ => ?_) (fun c144 => absurd (by rw [z2]; rfl) c144)
        refine g_iconst (v := -1) (pc := 248) hc dMo_sent_248 (by decide) ?_
        refine g_istore_n (pc := 249) hc dMo_sent_249 (by decide) rfl ?_
        refine g_goto (tgt := 85) (pc := 250) hc dMo_sent_250 (by decide) ?_
        refine g_lv (lv' := [(0, .ref y), (1, .int (nI L.length)), (2, .int (-1)), (3, .int (zb (bg)))]) ⟨rfl, rfl, rfl, rfl, trivial⟩ ?_
        exact Jneg m1 f1 a1 b1 bg hK1 hs1 (enone er)
      refine g_iload_n (pc := 85) hc dMo_sent_85 rfl ?_
      refine g_if_lt (tgt := 253) (pc := 86) hc dMo_sent_86 (by decide) (fun c86 => absurd c86 (nI_pos (by omega))) (fun _ => ?_)
      refine g_iload_n (pc := 89) hc dMo_sent_89 rfl ?_
      refine g_iload_n (pc := 90) hc dMo_sent_90 rfl ?_
      refine g_icmp_ge (tgt := 253) (pc := 91) hc dMo_sent_91 (by decide) (fun c91 => absurd c91 (nI_ge (by omega) (by omega))) (fun _ => ?_)
      refine g_aload_n (pc := 94) hc dMo_sent_94 rfl ?_
      refine g_iload_n (pc := 95) hc dMo_sent_95 rfl ?_
      refine g_ldc2 (pc := 96) hc dMo_sent_96 x_Mo_197 ?_
      refine g_bipush (v := nI 8) (pc := 99) hc dMo_sent_99 (by decide) ?_
      refine g_iload_n (pc := 101) hc dMo_sent_101 rfl ?_
      refine g_callV (pc := 102) hc dMo_sent_102 x_Mo_143 (s_Mo_is V (k := i) (n := 8) hK1 hLb (by decide) (by omega)) cl_Mo (hK1.1) (Nat.le_of_ble_eq_true rfl) (Nat.le_of_ble_eq_true rfl) (Nat.le_of_ble_eq_true rfl) (Nat.le_of_ble_eq_true rfl) rfl rfl (Nat.le_of_ble_eq_true rfl) (fun r m x hp => ?_)
      obtain ⟨rfl, rfl, rfl⟩ := hp
      refine g_if_eq (tgt := 133) (pc := 105) hc dMo_sent_105 (by decide) (fun c105 => ?_) (fun c105 => ?_)
      · simp (disch := omega) only [nI_leI, nI_ltI, nI_eq, nI_eq0, nI_lt0, nI_0le, nI_0lt, nI_le0, zb_0] at c105
        refine g_lv (lv' := [(0, .ref y), (1, .int (nI L.length)), (2, .int (nI i)), (3, .int (zb (bg)))]) ⟨rfl, rfl, rfl, rfl, trivial⟩ ?_
        exact J133
      · simp (disch := omega) only [nI_leI, nI_ltI, nI_eq, nI_eq0, nI_lt0, nI_0le, nI_0lt, nI_le0, zb_0] at c105
        have d105 : zis L i (zsay 2324507512650152002 8) = true := by simpa using c105
        refine g_aload_n (pc := 108) hc dMo_sent_108 rfl ?_
        refine g_iload_n (pc := 109) hc dMo_sent_109 rfl ?_
        refine g_bipush (v := nI 8) (pc := 110) hc dMo_sent_110 (by decide) ?_
        refine g_iadd (pc := 112) hc dMo_sent_112 ?_
        rw [nI_add]
        refine g_ldc2 (pc := 113) hc dMo_sent_113 x_Mo_199 ?_
        refine g_bipush (v := nI 6) (pc := 116) hc dMo_sent_116 (by decide) ?_
        refine g_iload_n (pc := 118) hc dMo_sent_118 rfl ?_
        refine g_callV (pc := 119) hc dMo_sent_119 x_Mo_143 (s_Mo_is V (k := (i + 8)) (n := 6) hK1 hLb (by decide) (by omega)) cl_Mo (hK1.1) (Nat.le_of_ble_eq_true rfl) (Nat.le_of_ble_eq_true rfl) (Nat.le_of_ble_eq_true rfl) (Nat.le_of_ble_eq_true rfl) rfl rfl (Nat.le_of_ble_eq_true rfl) (fun r m x hp => ?_)
        obtain ⟨rfl, rfl, rfl⟩ := hp
        refine g_if_eq (tgt := 133) (pc := 122) hc dMo_sent_122 (by decide) (fun _ => ?_) (fun c122 => absurd (by rw [d105, Bool.true_and] at z1; rw [z1]; rfl) c122)
        refine g_lv (lv' := [(0, .ref y), (1, .int (nI L.length)), (2, .int (nI i)), (3, .int (zb (bg)))]) ⟨rfl, rfl, rfl, rfl, trivial⟩ ?_
        exact J133
    have loop : ∀ (fu i lg : Nat), L.length ≤ i + 7 * fu → i ≤ 300 → lg < 10 ^ 9 → zls (zs t_bo) (zs t_si) L fu i lg = zls (zs t_bo) (zs t_si) L 100 e 0 → mm_G V X 6 85 [(0, .ref y), (1, .int (nI L.length)), (2, .int (nI i)), (3, .int (zb (decide (200 < lg))))] [] m1 nx 0 0 := by
      intro fu
      induction fu with
      | zero =>
        intro i lg h0 hi hlg er
        refine g_iload_n (pc := 85) hc dMo_sent_85 rfl ?_
        refine g_if_lt (tgt := 253) (pc := 86) hc dMo_sent_86 (by decide) (fun c86 => absurd c86 (nI_pos (by omega))) (fun _ => ?_)
        refine g_iload_n (pc := 89) hc dMo_sent_89 rfl ?_
        refine g_iload_n (pc := 90) hc dMo_sent_90 rfl ?_
        refine g_icmp_ge (tgt := 253) (pc := 91) hc dMo_sent_91 (by decide) (fun _ => ?_) (fun c91 => absurd (nI_le (by omega) (by omega)) c91)
        refine g_lv (lv' := [(0, .ref y), (1, .int (nI L.length)), (2, .int (nI i)), (3, .int (zb (decide (200 < lg))))]) ⟨rfl, rfl, rfl, rfl, trivial⟩ ?_
        exact J253 i lg (by omega) (by rw [← er]; rfl)
      | succ fu ih =>
        intro i lg h0 hi hlg er
        by_cases hin : L.length ≤ i
        · rw [zls, if_pos hin] at er
          refine g_iload_n (pc := 85) hc dMo_sent_85 rfl ?_
          refine g_if_lt (tgt := 253) (pc := 86) hc dMo_sent_86 (by decide) (fun c86 => absurd c86 (nI_pos (by omega))) (fun _ => ?_)
          refine g_iload_n (pc := 89) hc dMo_sent_89 rfl ?_
          refine g_iload_n (pc := 90) hc dMo_sent_90 rfl ?_
          refine g_icmp_ge (tgt := 253) (pc := 91) hc dMo_sent_91 (by decide) (fun _ => ?_) (fun c91 => absurd (nI_le (by omega) (by omega)) c91)
          refine g_lv (lv' := [(0, .ref y), (1, .int (nI L.length)), (2, .int (nI i)), (3, .int (zb (decide (200 < lg))))]) ⟨rfl, rfl, rfl, rfl, trivial⟩ ?_
          exact J253 i lg (by omega) er.symm
        · rw [zls, if_neg hin, zbo_eq (by omega), zsi_eq (by omega), lb, ls6] at er
          have J133 : (zis L i (zsay 2324507512650152002 8) && zis L (i + 8) (zsay 5283933240036753408 6)) = false → mm_G V X 6 133 [(0, .ref y), (1, .int (nI L.length)), (2, .int (nI i)), (3, .int (zb (decide (200 < lg))))] [] m1 nx 0 0 := by
            intro zb0
            rw [zb0, if_neg (by decide)] at er
            have hz := zde_le (L := L) (fr := i + 6)
            have J85 : ∀ (j : Nat) (bg : Bool), j = min (zde L (i + 6) - (i + 6)) 9 → zis L i (zsay 2329286084338188288 6) = true → bg = (decide (200 < lg) || decide (200 < znum ((L.drop (i + 6)).take j))) → mm_G V X 6 229 [(0, .ref y), (1, .int (nI L.length)), (2, .int (nI i)), (3, .int (zb bg)), (4, .int (nI (i + 6 + j)))] [] m1 nx 0 0 := by
              intro j bg ej e6 eg
              rw [e6, if_pos rfl] at er
              refine g_iload (pc := 229) hc dMo_sent_229 rfl ?_
              refine g_iload_n (pc := 231) hc dMo_sent_231 rfl ?_
              refine g_bipush (v := nI 6) (pc := 232) hc dMo_sent_232 (by decide) ?_
              refine g_iadd (pc := 234) hc dMo_sent_234 ?_
              rw [nI_add]
              refine g_icmp_ne (tgt := 242) (pc := 235) hc dMo_sent_235 (by decide) (fun c235 => ?_) (fun c235 => ?_)
              · simp (disch := omega) only [nI_leI, nI_ltI, nI_eq, nI_eq0, nI_lt0, nI_0le, nI_0lt, nI_le0, zb_0] at c235
                refine g_iload (pc := 242) hc dMo_sent_242 rfl ?_
                refine g_istore_n (pc := 244) hc dMo_sent_244 (by decide) rfl ?_
                refine g_goto (tgt := 85) (pc := 245) hc dMo_sent_245 (by decide) ?_
                refine g_lv (lv' := [(0, .ref y), (1, .int (nI L.length)), (2, .int (nI (i + 6 + j))), (3, .int (zb (bg)))]) ⟨rfl, rfl, rfl, rfl, trivial⟩ ?_
                by_cases h9 : 9 < zde L (i + 6) - (i + 6)
                · exact Jdig (i + 6 + j) bg (by omega) (ztw_getD (fr := i + 6) (by omega) (by omega)) (by rw [← er, if_pos (Or.inr h9)])
                · have ej2 : i + 6 + j = zde L (i + 6) := by omega
                  have hv : znum ((L.drop (i + 6)).take j) < 10 ^ 9 := znum_le (fun i9 z1 z2 => ztw_getD z1 (by omega)) (by omega) (by omega)
                  have eb9 : bg = decide (200 < max lg (znum ((L.drop (i + 6)).take j))) := by
                    rw [eg, ← Bool.decide_or]
                    exact decide_eq_decide.mpr (by omega)
                  rw [eb9]
                  refine ih (i + 6 + j) _ (by omega) (by omega) (by omega) ?_
                  rw [← er, if_neg (by omega), ← ej2, show i + 6 + j - (i + 6) = j by omega]
              · simp (disch := omega) only [nI_leI, nI_ltI, nI_eq, nI_eq0, nI_lt0, nI_0le, nI_0lt, nI_le0, zb_0] at c235
                refine g_iconst (v := -1) (pc := 238) hc dMo_sent_238 (by decide) ?_
                refine g_goto (tgt := 244) (pc := 239) hc dMo_sent_239 (by decide) ?_
                refine g_istore_n (pc := 244) hc dMo_sent_244 (by decide) rfl ?_
                refine g_goto (tgt := 85) (pc := 245) hc dMo_sent_245 (by decide) ?_
                refine g_lv (lv' := [(0, .ref y), (1, .int (nI L.length)), (2, .int (-1)), (3, .int (zb (bg)))]) ⟨rfl, rfl, rfl, rfl, trivial⟩ ?_
                exact Jneg m1 f1 a1 b1 bg hK1 hs1 (enone (by rw [← er, if_pos (Or.inl (by omega))]))
            have inner : ∀ (r9 j : Nat), j + r9 = min (zde L (i + 6) - (i + 6)) 9 → zis L i (zsay 2329286084338188288 6) = true → mm_G V X 6 156 [(0, .ref y), (1, .int (nI L.length)), (2, .int (nI i)), (3, .int (zb (decide (200 < lg)))), (4, .int (nI (i + 6 + j))), (5, .int (nI (znum ((L.drop (i + 6)).take j))))] [] m1 nx 0 0 := by
              intro r9
              induction r9 with
              | zero =>
                intro j ej e6
                have hv : znum ((L.drop (i + 6)).take j) < 10 ^ 9 := by
                  rcases Nat.lt_or_ge L.length (i + 6) with z | z
                  · rw [List.drop_eq_nil_iff.mpr (by omega)]; simp [znum]
                  · exact znum_le (fun i9 z1 z2 => ztw_getD z1 (by omega)) (by omega) (by omega)
                have J211 : mm_G V X 6 211 [(0, .ref y), (1, .int (nI L.length)), (2, .int (nI i)), (3, .int (zb (decide (200 < lg)))), (4, .int (nI (i + 6 + j))), (5, .int (nI (znum ((L.drop (i + 6)).take j))))] [] m1 nx 0 0 := by
                  refine g_iload_n (pc := 211) hc dMo_sent_211 rfl ?_
                  refine g_if_ne (tgt := 223) (pc := 212) hc dMo_sent_212 (by decide) (fun c212 => ?_) (fun c212 => ?_)
                  · simp (disch := omega) only [nI_leI, nI_ltI, nI_eq, nI_eq0, nI_lt0, nI_0le, nI_0lt, nI_le0, zb_0] at c212
                    have d212 : decide (200 < lg) = true := by simpa using c212
                    refine g_iconst (v := nI 1) (pc := 223) hc dMo_sent_223 (by decide) ?_
                    refine g_goto (tgt := 228) (pc := 224) hc dMo_sent_224 (by decide) ?_
                    refine g_istore_n (pc := 228) hc dMo_sent_228 (by decide) rfl ?_
                    refine g_lv (lv' := [(0, .ref y), (1, .int (nI L.length)), (2, .int (nI i)), (3, .int (zb true)), (4, .int (nI (i + 6 + j)))]) ⟨rfl, rfl, rfl, rfl, rfl, trivial⟩ ?_
                    exact J85 j true (by omega) e6 (by rw [d212]; rfl)
                  · simp (disch := omega) only [nI_leI, nI_ltI, nI_eq, nI_eq0, nI_lt0, nI_0le, nI_0lt, nI_le0, zb_0] at c212
                    refine g_iload (pc := 215) hc dMo_sent_215 rfl ?_
                    refine g_sipush (v := nI 200) (pc := 217) hc dMo_sent_217 (by decide) ?_
                    refine g_icmp_le (tgt := 227) (pc := 220) hc dMo_sent_220 (by decide) (fun c220 => ?_) (fun c220 => ?_)
                    · simp (disch := omega) only [nI_leI, nI_ltI, nI_eq, nI_eq0, nI_lt0, nI_0le, nI_0lt, nI_le0, zb_0] at c220
                      refine g_iconst (v := nI 0) (pc := 227) hc dMo_sent_227 (by decide) ?_
                      refine g_istore_n (pc := 228) hc dMo_sent_228 (by decide) rfl ?_
                      refine g_lv (lv' := [(0, .ref y), (1, .int (nI L.length)), (2, .int (nI i)), (3, .int (zb false)), (4, .int (nI (i + 6 + j)))]) ⟨rfl, rfl, rfl, rfl, rfl, trivial⟩ ?_
                      exact J85 j false (by omega) e6 (by rw [c212, decide_eq_false (by omega)]; rfl)
                    · simp (disch := omega) only [nI_leI, nI_ltI, nI_eq, nI_eq0, nI_lt0, nI_0le, nI_0lt, nI_le0, zb_0] at c220
                      refine g_iconst (v := nI 1) (pc := 223) hc dMo_sent_223 (by decide) ?_
                      refine g_goto (tgt := 228) (pc := 224) hc dMo_sent_224 (by decide) ?_
                      refine g_istore_n (pc := 228) hc dMo_sent_228 (by decide) rfl ?_
                      refine g_lv (lv' := [(0, .ref y), (1, .int (nI L.length)), (2, .int (nI i)), (3, .int (zb true)), (4, .int (nI (i + 6 + j)))]) ⟨rfl, rfl, rfl, rfl, rfl, trivial⟩ ?_
                      exact J85 j true (by omega) e6 (by rw [c212, decide_eq_true (show 200 < znum ((L.drop (i + 6)).take j) by omega)]; rfl)
                refine g_iload (pc := 156) hc dMo_sent_156 rfl ?_
                refine g_iload_n (pc := 158) hc dMo_sent_158 rfl ?_
                refine g_icmp_ge (tgt := 211) (pc := 159) hc dMo_sent_159 (by decide) (fun c159 => ?_) (fun c159 => ?_)
                · simp (disch := omega) only [nI_leI, nI_ltI, nI_eq, nI_eq0, nI_lt0, nI_0le, nI_0lt, nI_le0, zb_0] at c159
                  exact J211
                · simp (disch := omega) only [nI_leI, nI_ltI, nI_eq, nI_eq0, nI_lt0, nI_0le, nI_0lt, nI_le0, zb_0] at c159
                  refine g_aload_n (pc := 162) hc dMo_sent_162 rfl ?_
                  refine g_get (pc := 163) hc dMo_sent_163 x_Mo_13 (by assumption) (by rfl) ?_
                  refine g_iload (pc := 166) hc dMo_sent_166 rfl ?_
                  refine g_iald (pc := 168) (t := kI) hc dMo_sent_168 rfl hg (vp_in_nI (show i + 6 + j < 210 by omega) (by decide)) ?_
                  rw [nI_clamp (by omega), hgf _ (by omega)]
                  refine g_callS (pc := 169) hc dMo_sent_169 x_Mo_112 (s_Mo_isDigit V (hLb _ (zmem_getD (show i + 6 + j < L.length by omega)))) (Nat.le_of_ble_eq_true rfl) (Nat.le_of_ble_eq_true rfl) (Nat.le_of_ble_eq_true rfl) (Nat.le_of_ble_eq_true rfl) rfl rfl (Nat.le_of_ble_eq_true rfl) (fun r m x hp => ?_)
                  obtain ⟨rfl, rfl, rfl⟩ := hp
                  refine g_if_eq (tgt := 211) (pc := 172) hc dMo_sent_172 (by decide) (fun c172 => ?_) (fun c172 => ?_)
                  · simp (disch := omega) only [nI_leI, nI_ltI, nI_eq, nI_eq0, nI_lt0, nI_0le, nI_0lt, nI_le0, zb_0] at c172
                    exact J211
                  · simp (disch := omega) only [nI_leI, nI_ltI, nI_eq, nI_eq0, nI_lt0, nI_0le, nI_0lt, nI_le0, zb_0] at c172
                    have d172 : zdg (L.getD (i + 6 + j) 0) = true := by simpa using c172
                    refine g_iload (pc := 175) hc dMo_sent_175 rfl ?_
                    refine g_iload_n (pc := 177) hc dMo_sent_177 rfl ?_
                    refine g_bipush (v := nI 15) (pc := 178) hc dMo_sent_178 (by decide) ?_
                    refine g_iadd (pc := 180) hc dMo_sent_180 ?_
                    rw [nI_add]
                    refine g_icmp_ge (tgt := 211) (pc := 181) hc dMo_sent_181 (by decide) (fun _ => ?_) (fun c181 => absurd (nI_le (by
                                      rcases Nat.lt_or_ge j 9 with z | z
                                      · exfalso
                                        have e9 : i + 6 + j = zde L (i + 6) := by omega
                                        rw [e9] at d172
                                        rw [zde_stop (by omega)] at d172
                                        cases d172
                                      · omega) (by omega)) c181)
                    exact J211
              | succ r9 ih9 =>
                intro j ej e6
                have hd := ztw_getD (L := L) (fr := i + 6) (j := i + 6 + j) (by omega) (by omega)
                have hd2 := of_decide_eq_true hd
                refine g_iload (pc := 156) hc dMo_sent_156 rfl ?_
                refine g_iload_n (pc := 158) hc dMo_sent_158 rfl ?_
                refine g_icmp_ge (tgt := 211) (pc := 159) hc dMo_sent_159 (by decide) (fun c159 => absurd c159 (nI_ge (by omega) (by omega))) (fun _ => ?_)
                refine g_aload_n (pc := 162) hc dMo_sent_162 rfl ?_
                refine g_get (pc := 163) hc dMo_sent_163 x_Mo_13 (by assumption) (by rfl) ?_
                refine g_iload (pc := 166) hc dMo_sent_166 rfl ?_
                refine g_iald (pc := 168) (t := kI) hc dMo_sent_168 rfl hg (vp_in_nI (show i + 6 + j < 210 by omega) (by decide)) ?_
                rw [nI_clamp (by omega), hgf _ (by omega)]
                refine g_callS (pc := 169) hc dMo_sent_169 x_Mo_112 (s_Mo_isDigit V (hLb _ (zmem_getD (show i + 6 + j < L.length by omega)))) (Nat.le_of_ble_eq_true rfl) (Nat.le_of_ble_eq_true rfl) (Nat.le_of_ble_eq_true rfl) (Nat.le_of_ble_eq_true rfl) rfl rfl (Nat.le_of_ble_eq_true rfl) (fun r m x hp => ?_)
                obtain ⟨rfl, rfl, rfl⟩ := hp
                refine g_if_eq (tgt := 211) (pc := 172) hc dMo_sent_172 (by decide) (fun c172 => absurd c172 (by rw [hd]; decide)) (fun _ => ?_)
                refine g_iload (pc := 175) hc dMo_sent_175 rfl ?_
                refine g_iload_n (pc := 177) hc dMo_sent_177 rfl ?_
                refine g_bipush (v := nI 15) (pc := 178) hc dMo_sent_178 (by decide) ?_
                refine g_iadd (pc := 180) hc dMo_sent_180 ?_
                rw [nI_add]
                refine g_icmp_ge (tgt := 211) (pc := 181) hc dMo_sent_181 (by decide) (fun c181 => absurd c181 (nI_ge (by omega) (by omega))) (fun _ => ?_)
                refine g_bipush (v := nI 10) (pc := 184) hc dMo_sent_184 (by decide) ?_
                refine g_iload (pc := 186) hc dMo_sent_186 rfl ?_
                refine g_imul (pc := 188) hc dMo_sent_188 ?_
                rw [pk_mul]
                refine g_aload_n (pc := 189) hc dMo_sent_189 rfl ?_
                refine g_get (pc := 190) hc dMo_sent_190 x_Mo_13 (by assumption) (by rfl) ?_
                refine g_iload (pc := 193) hc dMo_sent_193 rfl ?_
                refine g_iald (pc := 195) (t := kI) hc dMo_sent_195 rfl hg (vp_in_nI (show i + 6 + j < 210 by omega) (by decide)) ?_
                rw [nI_clamp (by omega), hgf _ (by omega)]
                refine g_iadd (pc := 196) hc dMo_sent_196 ?_
                rw [nI_add]
                refine g_bipush (v := nI 48) (pc := 197) hc dMo_sent_197 (by decide) ?_
                refine g_isub (pc := 199) hc dMo_sent_199 ?_
                rw [pk_sub (by omega)]
                refine g_istore (pc := 200) hc dMo_sent_200 (by decide) rfl ?_
                refine g_iload (pc := 202) hc dMo_sent_202 rfl ?_
                refine g_iconst (v := nI 1) (pc := 204) hc dMo_sent_204 (by decide) ?_
                refine g_iadd (pc := 205) hc dMo_sent_205 ?_
                rw [nI_add]
                refine g_istore (pc := 206) hc dMo_sent_206 (by decide) rfl ?_
                refine g_goto (tgt := 156) (pc := 208) hc dMo_sent_208 (by decide) ?_
                refine g_lv (lv' := [(0, .ref y), (1, .int (nI L.length)), (2, .int (nI i)), (3, .int (zb (decide (200 < lg)))), (4, .int (nI (i + 6 + (j + 1)))), (5, .int (nI (znum ((L.drop (i + 6)).take (j + 1)))))]) (by rw [znum_step (by omega), Nat.mul_comm]; exact ⟨rfl, rfl, rfl, rfl, rfl, rfl, trivial⟩) ?_
                exact ih9 (j + 1) (by omega) e6
            refine g_aload_n (pc := 133) hc dMo_sent_133 rfl ?_
            refine g_iload_n (pc := 134) hc dMo_sent_134 rfl ?_
            refine g_ldc2 (pc := 135) hc dMo_sent_135 x_Mo_201 ?_
            refine g_bipush (v := nI 6) (pc := 138) hc dMo_sent_138 (by decide) ?_
            refine g_iload_n (pc := 140) hc dMo_sent_140 rfl ?_
            refine g_callV (pc := 141) hc dMo_sent_141 x_Mo_143 (s_Mo_is V (k := i) (n := 6) hK1 hLb (by decide) (by omega)) cl_Mo (hK1.1) (Nat.le_of_ble_eq_true rfl) (Nat.le_of_ble_eq_true rfl) (Nat.le_of_ble_eq_true rfl) (Nat.le_of_ble_eq_true rfl) rfl rfl (Nat.le_of_ble_eq_true rfl) (fun r m x hp => ?_)
            obtain ⟨rfl, rfl, rfl⟩ := hp
            refine g_if_eq (tgt := 248) (pc := 144) hc dMo_sent_144 (by decide) (fun c144 => ?_) (fun c144 => ?_)
            · simp (disch := omega) only [nI_leI, nI_ltI, nI_eq, nI_eq0, nI_lt0, nI_0le, nI_0lt, nI_le0, zb_0] at c144
              refine g_iconst (v := -1) (pc := 248) hc dMo_sent_248 (by decide) ?_
              refine g_istore_n (pc := 249) hc dMo_sent_249 (by decide) rfl ?_
              refine g_goto (tgt := 85) (pc := 250) hc dMo_sent_250 (by decide) ?_
              refine g_lv (lv' := [(0, .ref y), (1, .int (nI L.length)), (2, .int (-1)), (3, .int (zb (decide (200 < lg))))]) ⟨rfl, rfl, rfl, rfl, trivial⟩ ?_
              exact Jneg m1 f1 a1 b1 _ hK1 hs1 (enone (by rw [← er, c144, if_neg (by decide)]))
            · simp (disch := omega) only [nI_leI, nI_ltI, nI_eq, nI_eq0, nI_lt0, nI_0le, nI_0lt, nI_le0, zb_0] at c144
              have d144 : zis L i (zsay 2329286084338188288 6) = true := by simpa using c144
              refine g_iload_n (pc := 147) hc dMo_sent_147 rfl ?_
              refine g_bipush (v := nI 6) (pc := 148) hc dMo_sent_148 (by decide) ?_
              refine g_iadd (pc := 150) hc dMo_sent_150 ?_
              rw [nI_add]
              refine g_istore (pc := 151) hc dMo_sent_151 (by decide) rfl ?_
              refine g_iconst (v := nI 0) (pc := 153) hc dMo_sent_153 (by decide) ?_
              refine g_istore (pc := 154) hc dMo_sent_154 (by decide) rfl ?_
              refine g_lv (lv' := [(0, .ref y), (1, .int (nI L.length)), (2, .int (nI i)), (3, .int (zb (decide (200 < lg)))), (4, .int (nI (i + 6 + 0))), (5, .int (nI (znum ((L.drop (i + 6)).take 0))))]) ⟨rfl, rfl, rfl, rfl, rfl, rfl, trivial⟩ ?_
              exact inner _ 0 (Nat.zero_add _) d144
          refine g_iload_n (pc := 85) hc dMo_sent_85 rfl ?_
          refine g_if_lt (tgt := 253) (pc := 86) hc dMo_sent_86 (by decide) (fun c86 => absurd c86 (nI_pos (by omega))) (fun _ => ?_)
          refine g_iload_n (pc := 89) hc dMo_sent_89 rfl ?_
          refine g_iload_n (pc := 90) hc dMo_sent_90 rfl ?_
          refine g_icmp_ge (tgt := 253) (pc := 91) hc dMo_sent_91 (by decide) (fun c91 => absurd c91 (nI_ge (by omega) (by omega))) (fun _ => ?_)
          refine g_aload_n (pc := 94) hc dMo_sent_94 rfl ?_
          refine g_iload_n (pc := 95) hc dMo_sent_95 rfl ?_
          refine g_ldc2 (pc := 96) hc dMo_sent_96 x_Mo_197 ?_
          refine g_bipush (v := nI 8) (pc := 99) hc dMo_sent_99 (by decide) ?_
          refine g_iload_n (pc := 101) hc dMo_sent_101 rfl ?_
          refine g_callV (pc := 102) hc dMo_sent_102 x_Mo_143 (s_Mo_is V (k := i) (n := 8) hK1 hLb (by decide) (by omega)) cl_Mo (hK1.1) (Nat.le_of_ble_eq_true rfl) (Nat.le_of_ble_eq_true rfl) (Nat.le_of_ble_eq_true rfl) (Nat.le_of_ble_eq_true rfl) rfl rfl (Nat.le_of_ble_eq_true rfl) (fun r m x hp => ?_)
          obtain ⟨rfl, rfl, rfl⟩ := hp
          refine g_if_eq (tgt := 133) (pc := 105) hc dMo_sent_105 (by decide) (fun c105 => ?_) (fun c105 => ?_)
          · simp (disch := omega) only [nI_leI, nI_ltI, nI_eq, nI_eq0, nI_lt0, nI_0le, nI_0lt, nI_le0, zb_0] at c105
            refine g_lv (lv' := [(0, .ref y), (1, .int (nI L.length)), (2, .int (nI i)), (3, .int (zb (decide (200 < lg))))]) ⟨rfl, rfl, rfl, rfl, trivial⟩ ?_
            exact J133 (by rw [c105]; rfl)
          · simp (disch := omega) only [nI_leI, nI_ltI, nI_eq, nI_eq0, nI_lt0, nI_0le, nI_0lt, nI_le0, zb_0] at c105
            have d105 : zis L i (zsay 2324507512650152002 8) = true := by simpa using c105
            refine g_aload_n (pc := 108) hc dMo_sent_108 rfl ?_
            refine g_iload_n (pc := 109) hc dMo_sent_109 rfl ?_
            refine g_bipush (v := nI 8) (pc := 110) hc dMo_sent_110 (by decide) ?_
            refine g_iadd (pc := 112) hc dMo_sent_112 ?_
            rw [nI_add]
            refine g_ldc2 (pc := 113) hc dMo_sent_113 x_Mo_199 ?_
            refine g_bipush (v := nI 6) (pc := 116) hc dMo_sent_116 (by decide) ?_
            refine g_iload_n (pc := 118) hc dMo_sent_118 rfl ?_
            refine g_callV (pc := 119) hc dMo_sent_119 x_Mo_143 (s_Mo_is V (k := (i + 8)) (n := 6) hK1 hLb (by decide) (by omega)) cl_Mo (hK1.1) (Nat.le_of_ble_eq_true rfl) (Nat.le_of_ble_eq_true rfl) (Nat.le_of_ble_eq_true rfl) (Nat.le_of_ble_eq_true rfl) rfl rfl (Nat.le_of_ble_eq_true rfl) (fun r m x hp => ?_)
            obtain ⟨rfl, rfl, rfl⟩ := hp
            refine g_if_eq (tgt := 133) (pc := 122) hc dMo_sent_122 (by decide) (fun c122 => ?_) (fun c122 => ?_)
            · simp (disch := omega) only [nI_leI, nI_ltI, nI_eq, nI_eq0, nI_lt0, nI_0le, nI_0lt, nI_le0, zb_0] at c122
              refine g_lv (lv' := [(0, .ref y), (1, .int (nI L.length)), (2, .int (nI i)), (3, .int (zb (decide (200 < lg))))]) ⟨rfl, rfl, rfl, rfl, trivial⟩ ?_
              exact J133 (by rw [c122]; simp)
            · simp (disch := omega) only [nI_leI, nI_ltI, nI_eq, nI_eq0, nI_lt0, nI_0le, nI_0lt, nI_le0, zb_0] at c122
              have d122 : zis L (i + 8) (zsay 5283933240036753408 6) = true := by simpa using c122
              refine g_iload_n (pc := 125) hc dMo_sent_125 rfl ?_
              refine g_bipush (v := nI 14) (pc := 126) hc dMo_sent_126 (by decide) ?_
              refine g_iadd (pc := 128) hc dMo_sent_128 ?_
              rw [nI_add]
              refine g_istore_n (pc := 129) hc dMo_sent_129 (by decide) rfl ?_
              refine g_goto (tgt := 85) (pc := 130) hc dMo_sent_130 (by decide) ?_
              refine g_lv (lv' := [(0, .ref y), (1, .int (nI L.length)), (2, .int (nI (i + 14))), (3, .int (zb (decide (200 < lg))))]) ⟨rfl, rfl, rfl, rfl, trivial⟩ ?_
              exact ih (i + 14) lg (by omega) (by omega) hlg (by rw [← er, d105, d122]; rfl)
    refine g_lv (lv' := [(0, .ref y), (1, .int (nI L.length)), (2, .int (nI e)), (3, .int (zb (decide (200 < 0))))]) ⟨rfl, rfl, rfl, rfl, trivial⟩ ?_
    exact loop 100 e 0 (by omega) (by omega) (by decide) rfl
  have J75 : ∀ (m2 : mm_M) (f2 b2 : Int32), zK y th gr E.2.1 ln sz la il pt ss E.2.2.length f2 av b2 L A E Ms m2 → zsame y (y + 13) mem m2 → zis L 0 (zsay 5566811205714465359 8) = true → zis L 8 (zsay 5564760289569669120 2) = true → ¬ (L.getD 10 0 = 60 ∧ L.getD 11 0 = 62) → mm_G V X 6 75 [(0, .ref y), (1, .int (nI L.length))] [] m2 nx 0 0 := by
    intro m2 f2 b2 hK2 hsz d23 d37 hno
    refine g_aload_n (pc := 75) hc dMo_sent_75 rfl ?_
    refine g_bipush (v := nI 10) (pc := 76) hc dMo_sent_76 (by decide) ?_
    refine g_iload_n (pc := 78) hc dMo_sent_78 rfl ?_
    refine g_callV (pc := 79) hc dMo_sent_79 x_Mo_193 (s_Mo_path V (k := 10) hK2 hLb (by omega) (by decide)) cl_Mo (hK2.1) (Nat.le_of_ble_eq_true rfl) (Nat.le_of_ble_eq_true rfl) (Nat.le_of_ble_eq_true rfl) (Nat.le_of_ble_eq_true rfl) rfl rfl (Nat.le_of_ble_eq_true rfl) (fun r m x hp => ?_)
    obtain ⟨f1, a1, b1, rfl, rfl, hK3, hs3, hsome⟩ := hp
    rcases e9 : zpp (zs t_lm) (zs t_dm) L 10 with _ | e
    · rw [show zoI none = -1 from rfl]
      refine g_istore_n (pc := 82) hc dMo_sent_82 (by decide) rfl ?_
      refine g_iconst (v := nI 0) (pc := 83) hc dMo_sent_83 (by decide) ?_
      refine g_istore_n (pc := 84) hc dMo_sent_84 (by decide) rfl ?_
      refine g_lv (lv' := [(0, .ref y), (1, .int (nI L.length)), (2, .int (-1)), (3, .int (zb (false)))]) ⟨rfl, rfl, rfl, rfl, trivial⟩ ?_
      exact Jneg _ _ _ _ false hK3 (hsz.tr hs3) (by rw [zrM, zK0_eq, zmf_eq, d23, d37, Bool.and_self, if_pos rfl, if_neg hno, e9])
    · rw [show zoI (some e) = nI e from rfl]
      obtain ⟨q1, q2, q3⟩ := hsome e e9
      obtain ⟨a, z1, z2, z3, z4, z5, z6, z7, z8, z9⟩ := zpp_some e9
      refine g_istore_n (pc := 82) hc dMo_sent_82 (by decide) rfl ?_
      refine g_iconst (v := nI 0) (pc := 83) hc dMo_sent_83 (by decide) ?_
      refine g_istore_n (pc := 84) hc dMo_sent_84 (by decide) rfl ?_
      refine g_lv (lv' := [(0, .ref y), (1, .int (nI L.length)), (2, .int (nI e)), (3, .int (zb (false)))]) ⟨rfl, rfl, rfl, rfl, trivial⟩ ?_
      exact main _ f1 a1 b1 e 11 (e - 1) hK3 (hsz.tr hs3) (by rw [zK0_eq, zmf_eq, d23, d37, Bool.and_self, if_pos rfl, if_neg hno, e9]) (by omega) q1 q2 (by omega) (by omega) (by rw [lmf])
  refine g_iconst (v := -1) (pc := 0) hc dMo_sent_0 (by decide) ?_
  refine g_istore_n (pc := 1) hc dMo_sent_1 (by decide) rfl ?_
  refine g_aload_n (pc := 2) hc dMo_sent_2 rfl ?_
  refine g_iconst (v := nI 0) (pc := 3) hc dMo_sent_3 (by decide) ?_
  refine g_put (pc := 4) hc dMo_sent_4 x_Mo_122 ft_Mo rfl hm rfl rfl (zlt rfl) (fun m1 h10 o1 => ?_)
  have h1 : m1 y = some (.inr (kMo, fMo y th gr E.2.1 ln sz la il pt ss E.2.2.length (nI 0) av be A.length Ms.length)) := h10
  refine g_aload_n (pc := 7) hc dMo_sent_7 rfl ?_
  refine g_iconst (v := nI 0) (pc := 8) hc dMo_sent_8 (by decide) ?_
  refine g_put (pc := 9) hc dMo_sent_9 x_Mo_132 ft_Mo rfl h1 rfl rfl (zlt rfl) (fun m2 h20 o2 => ?_)
  have h2 : m2 y = some (.inr (kMo, fMo y th gr E.2.1 ln sz la il pt ss E.2.2.length (nI 0) av (nI 0) A.length Ms.length)) := h20
  have hK2 : zK y th gr E.2.1 ln sz la il pt ss E.2.2.length (nI 0) av (nI 0) L A E Ms m2 := ⟨h2, (hT.kpt o1).kpt o2⟩
  have hKz := hK2
  have hsz : zsame y (y + 13) mem m2 := fun a q => (o2 a (by omega)).trans (o1 a (by omega))
  have ha2 := (o2 (y + 1) (by omega)).trans ((o1 (y + 1) (by omega)).trans ha)
  refine g_aload_n (pc := 12) hc dMo_sent_12 rfl ?_
  refine g_iconst (v := nI 0) (pc := 13) hc dMo_sent_13 (by decide) ?_
  refine g_ldc2 (pc := 14) hc dMo_sent_14 x_Mo_189 ?_
  refine g_bipush (v := nI 8) (pc := 17) hc dMo_sent_17 (by decide) ?_
  refine g_iload_n (pc := 19) hc dMo_sent_19 rfl ?_
  refine g_callV (pc := 20) hc dMo_sent_20 x_Mo_143 (s_Mo_is V (k := 0) (n := 8) hK2 hLb (by decide) (by decide)) cl_Mo (hK2.1) (Nat.le_of_ble_eq_true rfl) (Nat.le_of_ble_eq_true rfl) (Nat.le_of_ble_eq_true rfl) (Nat.le_of_ble_eq_true rfl) rfl rfl (Nat.le_of_ble_eq_true rfl) (fun r m x hp => ?_)
  obtain ⟨rfl, rfl, rfl⟩ := hp
  refine g_if_eq (tgt := 83) (pc := 23) hc dMo_sent_23 (by decide) (fun c23 => ?_) (fun c23 => ?_)
  · simp (disch := omega) only [nI_leI, nI_ltI, nI_eq, nI_eq0, nI_lt0, nI_0le, nI_0lt, nI_le0, zb_0] at c23
    refine g_iconst (v := nI 0) (pc := 83) hc dMo_sent_83 (by decide) ?_
    refine g_istore_n (pc := 84) hc dMo_sent_84 (by decide) rfl ?_
    refine g_lv (lv' := [(0, .ref y), (1, .int (nI L.length)), (2, .int (-1)), (3, .int (zb (false)))]) ⟨rfl, rfl, rfl, rfl, trivial⟩ ?_
    exact Jneg _ _ _ _ false hKz hsz (by rw [zrM, zK0_eq, zmf_eq, c23, Bool.false_and, if_neg (by decide)])
  · simp (disch := omega) only [nI_leI, nI_ltI, nI_eq, nI_eq0, nI_lt0, nI_0le, nI_0lt, nI_le0, zb_0] at c23
    have d23 : zis L 0 (zsay 5566811205714465359 8) = true := by simpa using c23
    refine g_aload_n (pc := 26) hc dMo_sent_26 rfl ?_
    refine g_bipush (v := nI 8) (pc := 27) hc dMo_sent_27 (by decide) ?_
    refine g_ldc2 (pc := 29) hc dMo_sent_29 x_Mo_191 ?_
    refine g_iconst (v := nI 2) (pc := 32) hc dMo_sent_32 (by decide) ?_
    refine g_iload_n (pc := 33) hc dMo_sent_33 rfl ?_
    refine g_callV (pc := 34) hc dMo_sent_34 x_Mo_143 (s_Mo_is V (k := 8) (n := 2) hK2 hLb (by decide) (by decide)) cl_Mo (hK2.1) (Nat.le_of_ble_eq_true rfl) (Nat.le_of_ble_eq_true rfl) (Nat.le_of_ble_eq_true rfl) (Nat.le_of_ble_eq_true rfl) rfl rfl (Nat.le_of_ble_eq_true rfl) (fun r m x hp => ?_)
    obtain ⟨rfl, rfl, rfl⟩ := hp
    refine g_if_eq (tgt := 83) (pc := 37) hc dMo_sent_37 (by decide) (fun c37 => ?_) (fun c37 => ?_)
    · simp (disch := omega) only [nI_leI, nI_ltI, nI_eq, nI_eq0, nI_lt0, nI_0le, nI_0lt, nI_le0, zb_0] at c37
      refine g_iconst (v := nI 0) (pc := 83) hc dMo_sent_83 (by decide) ?_
      refine g_istore_n (pc := 84) hc dMo_sent_84 (by decide) rfl ?_
      refine g_lv (lv' := [(0, .ref y), (1, .int (nI L.length)), (2, .int (-1)), (3, .int (zb (false)))]) ⟨rfl, rfl, rfl, rfl, trivial⟩ ?_
      exact Jneg _ _ _ _ false hKz hsz (by rw [zrM, zK0_eq, zmf_eq, d23, c37, Bool.and_false, if_neg (by decide)])
    · simp (disch := omega) only [nI_leI, nI_ltI, nI_eq, nI_eq0, nI_lt0, nI_0le, nI_0lt, nI_le0, zb_0] at c37
      have d37 : zis L 8 (zsay 5564760289569669120 2) = true := by simpa using c37
      refine g_bipush (v := nI 11) (pc := 40) hc dMo_sent_40 (by decide) ?_
      refine g_iload_n (pc := 42) hc dMo_sent_42 rfl ?_
      refine g_icmp_ge (tgt := 75) (pc := 43) hc dMo_sent_43 (by decide) (fun c43 => ?_) (fun c43 => ?_)
      · simp (disch := omega) only [nI_leI, nI_ltI, nI_eq, nI_eq0, nI_lt0, nI_0le, nI_0lt, nI_le0, zb_0] at c43
        refine g_lv (lv' := [(0, .ref y), (1, .int (nI L.length))]) ⟨rfl, rfl, trivial⟩ ?_
        exact J75 m2 _ _ hK2 hsz d23 d37 (fun z => by have z1 := z.2; rw [zgetD_out (by omega)] at z1; cases z1)
      · simp (disch := omega) only [nI_leI, nI_ltI, nI_eq, nI_eq0, nI_lt0, nI_0le, nI_0lt, nI_le0, zb_0] at c43
        refine g_aload_n (pc := 46) hc dMo_sent_46 rfl ?_
        refine g_get (pc := 47) hc dMo_sent_47 x_Mo_13 h2 (by rfl) ?_
        refine g_bipush (v := nI 10) (pc := 50) hc dMo_sent_50 (by decide) ?_
        refine g_iald (pc := 52) (t := kI) hc dMo_sent_52 rfl ha2 (vp_in_nI (show 10 < 210 by decide) (by decide)) ?_
        rw [nI_clamp (by decide), hf _ (by omega)]
        have hb9 : L.getD 10 0 < 256 := hLb _ (zmem_getD (by omega))
        refine g_bipush (v := nI 60) (pc := 53) hc dMo_sent_53 (by decide) ?_
        refine g_icmp_ne (tgt := 75) (pc := 55) hc dMo_sent_55 (by decide) (fun c55 => ?_) (fun c55 => ?_)
        · simp (disch := omega) only [nI_leI, nI_ltI, nI_eq, nI_eq0, nI_lt0, nI_0le, nI_0lt, nI_le0, zb_0] at c55
          refine g_lv (lv' := [(0, .ref y), (1, .int (nI L.length))]) ⟨rfl, rfl, trivial⟩ ?_
          exact J75 m2 _ _ hK2 hsz d23 d37 (fun z => c55 z.1)
        · simp (disch := omega) only [nI_leI, nI_ltI, nI_eq, nI_eq0, nI_lt0, nI_0le, nI_0lt, nI_le0, zb_0] at c55
          refine g_aload_n (pc := 58) hc dMo_sent_58 rfl ?_
          refine g_get (pc := 59) hc dMo_sent_59 x_Mo_13 h2 (by rfl) ?_
          refine g_bipush (v := nI 11) (pc := 62) hc dMo_sent_62 (by decide) ?_
          refine g_iald (pc := 64) (t := kI) hc dMo_sent_64 rfl ha2 (vp_in_nI (show 11 < 210 by decide) (by decide)) ?_
          rw [nI_clamp (by decide), hf _ (by omega)]
          have hb8 : L.getD 11 0 < 256 := hLb _ (zmem_getD (by omega))
          refine g_bipush (v := nI 62) (pc := 65) hc dMo_sent_65 (by decide) ?_
          refine g_icmp_ne (tgt := 75) (pc := 67) hc dMo_sent_67 (by decide) (fun c67 => ?_) (fun c67 => ?_)
          · simp (disch := omega) only [nI_leI, nI_ltI, nI_eq, nI_eq0, nI_lt0, nI_0le, nI_0lt, nI_le0, zb_0] at c67
            refine g_lv (lv' := [(0, .ref y), (1, .int (nI L.length))]) ⟨rfl, rfl, trivial⟩ ?_
            exact J75 m2 _ _ hK2 hsz d23 d37 (fun z => c67 z.2)
          · simp (disch := omega) only [nI_leI, nI_ltI, nI_eq, nI_eq0, nI_lt0, nI_0le, nI_0lt, nI_le0, zb_0] at c67
            refine g_bipush (v := nI 12) (pc := 70) hc dMo_sent_70 (by decide) ?_
            refine g_goto (tgt := 82) (pc := 72) hc dMo_sent_72 (by decide) ?_
            refine g_istore_n (pc := 82) hc dMo_sent_82 (by decide) rfl ?_
            refine g_iconst (v := nI 0) (pc := 83) hc dMo_sent_83 (by decide) ?_
            refine g_istore_n (pc := 84) hc dMo_sent_84 (by decide) rfl ?_
            refine g_lv (lv' := [(0, .ref y), (1, .int (nI L.length)), (2, .int (nI 12)), (3, .int (zb (false)))]) ⟨rfl, rfl, rfl, rfl, trivial⟩ ?_
            exact main m2 _ _ _ 12 0 0 hK2 hsz (by rw [zK0_eq, zmf_eq, d23, d37, Bool.and_self, if_pos rfl, if_pos ⟨c55, c67⟩]) (by omega) rfl rfl (Nat.le_refl _) (Nat.zero_le _) (by rw [lmf]; rfl)
