theorem zbyt_no {Ms : List zMsg} {k w i : Int32} (h0 : ¬ w = nI 0) (h1 : ¬ w = nI 1) (h2 : ¬ w = nI 2) : zbyt Ms k w i = -1 := by
  unfold zbyt
  split
  · rfl
  · rw [if_neg h0, if_neg h1, if_neg h2]
    exact ite_self _
theorem zA.G {a N w : Nat} {m : mm_M} (h : zA a N [] m) : zG a N w [] m := by
  obtain ⟨f, h1, -⟩ := h
  exact ⟨f, h1, by simp, fun j hj => absurd hj (Nat.not_lt_zero j)⟩
set_option maxHeartbeats 4000000 in
set_option maxRecDepth 100000 in
theorem s_Mo_bytes (V : mm_V) {y tn : Nat} {A Ln T : List Nat} {lc tc td : Bool} {E : zEv} {Ms : List zMsg} {ses gr tx : Bool} {k w i : Int32} {mem : mm_M} {nx : Nat} (h : zR y (A, (Ln, lc), (T, tc, td, tn), E, Ms, ses, gr, tx) mem) : mm_S V yMo_bytes cMo_bytes 9 (some .long) 1 0 0 [.ref y, .int k, .int w, .int i] mem nx (fun r m x => r = some (.long (zbyt Ms k w i)) ∧ mem = m ∧ nx = x) := by
  obtain ⟨la, il, ss, pt, fi, av, be, hK, q1, q2, q3, q4, q5, q6⟩ := id h
  have hK : zK y ses gr E.2.1 tx ((zLT (A, (Ln, lc), (T, tc, td, tn), E, Ms, ses, gr, tx)).length) la il pt ss E.2.2.length fi av be (zLT (A, (Ln, lc), (T, tc, td, tn), E, Ms, ses, gr, tx)) A E Ms mem := hK
  obtain ⟨hm, hT⟩ := id hK
  obtain ⟨hL, hS, hR, hRs, hA, hMs, hW⟩ := id hT
  refine mm_met (by decide) (Nat.le_of_ble_eq_true rfl) ?_
  intro X hc he hnm
  have h10 := hW.2.2.2.2.2.1
  refine g_aload_n (pc := 0) hc dMo_bytes_0 rfl ?_
  refine g_iload_n (pc := 1) hc dMo_bytes_1 rfl ?_
  refine g_callV (pc := 2) hc dMo_bytes_2 x_Mo_240 (s_Mo_isMessage V (k := k) h) cl_Mo (hm) (Nat.le_of_ble_eq_true rfl) (Nat.le_of_ble_eq_true rfl) (Nat.le_of_ble_eq_true rfl) (Nat.le_of_ble_eq_true rfl) rfl rfl (Nat.le_of_ble_eq_true rfl) (fun r m x hp => ?_)
  obtain ⟨hor, rfl, rfl⟩ := hp
  rcases hor with ⟨j, hj, rfl, rfl⟩ | ⟨hno, rfl⟩
  · have eg := zget_some hj h10
    refine g_if_eq (tgt := 21) (pc := 5) hc dMo_bytes_5 (by decide) (fun c5 => absurd c5 (by decide)) (fun _ => ?_)
    refine g_iload_n (pc := 8) hc dMo_bytes_8 rfl ?_
    refine g_if_lt (tgt := 21) (pc := 9) hc dMo_bytes_9 (by decide) (fun c9 => ?_) (fun c9 => ?_)
    · refine g_ldc2 (pc := 21) hc dMo_bytes_21 x_Mo_243 ?_
      exact g_lret (pc := 24) hc he dMo_bytes_24 (Nat.le_refl _) (Nat.le_refl _) ⟨(by rw [zbyt_no (fun q => by rw [q] at c9; exact absurd c9 (by decide)) (fun q => by rw [q] at c9; exact absurd c9 (by decide)) (fun q => by rw [q] at c9; exact absurd c9 (by decide))]), rfl, rfl⟩
    · refine g_iload_n (pc := 12) hc dMo_bytes_12 rfl ?_
      refine g_iconst (v := nI 2) (pc := 13) hc dMo_bytes_13 (by decide) ?_
      refine g_icmp_gt (tgt := 21) (pc := 14) hc dMo_bytes_14 (by decide) (fun c14 => ?_) (fun c14 => ?_)
      · refine g_ldc2 (pc := 21) hc dMo_bytes_21 x_Mo_243 ?_
        exact g_lret (pc := 24) hc he dMo_bytes_24 (Nat.le_refl _) (Nat.le_refl _) ⟨(by rw [zbyt_no (fun q => by rw [q] at c14; exact absurd c14 (by decide)) (fun q => by rw [q] at c14; exact absurd c14 (by decide)) (fun q => by rw [q] at c14; exact absurd c14 (by decide))]), rfl, rfl⟩
      · refine g_iload_n (pc := 17) hc dMo_bytes_17 rfl ?_
        refine g_if_ge (tgt := 25) (pc := 18) hc dMo_bytes_18 (by decide) (fun c18 => ?_) (fun c18 => ?_)
        · obtain ⟨i9, hi9, rfl⟩ := nI_of (Int32.not_lt.mpr c18)
          have hw3 : w = nI 0 ∨ w = nI 1 ∨ w = nI 2 := by
            obtain ⟨w9, hw9, rfl⟩ := nI_of c9
            rw [nI_ltI (by decide) (by omega)] at c14
            rcases (show w9 = 0 ∨ w9 = 1 ∨ w9 = 2 by omega) with rfl | rfl | rfl
            · exact Or.inl rfl
            · exact Or.inr (Or.inl rfl)
            · exact Or.inr (Or.inr rfl)
          have hmu := hW.2.2.2.2.2.2 _ (zgmem hj)
          rcases hw3 with rfl | rfl | rfl
          · have hx := hmu.1
            have hlt : ∀ t, (fun t => ((Ms.getD j zm0).1).getD (i9 + t) 0) t < 256 := fun t => by
              rcases Nat.lt_or_ge (i9 + t) ((Ms.getD j zm0).1).length with z | z
              · exact hx.2 _ (zmem_getD z)
              · show ((Ms.getD j zm0).1).getD (i9 + t) 0 < 256
                rw [zgetD_out z]; decide
            have loop : ∀ (r9 c : Nat), r9 + c = 8 → mm_G V X 9 66 [(0, .ref y), (1, .int (nI j)), (2, .int (nI 0)), (3, .int (nI i9)), (4, .int (nI ((Ms.getD j zm0).1).length)), (5, .long (lN (z8 (fun t => ((Ms.getD j zm0).1).getD (i9 + t) 0) (c)))), (7, .int (nI (c)))] [] mem nx 0 0 := by
              intro r9
              induction r9 with
              | zero =>
                intro c e1
                obtain rfl : c = 8 := by omega
                refine g_iload (pc := 66) hc dMo_bytes_66 rfl ?_
                refine g_bipush (v := nI 8) (pc := 68) hc dMo_bytes_68 (by decide) ?_
                refine g_icmp_ge (tgt := 177) (pc := 70) hc dMo_bytes_70 (by decide) (fun _ => ?_) (fun c70 => absurd (by decide) c70)
                refine g_lload (pc := 177) hc dMo_bytes_177 rfl ?_
                exact g_lret (pc := 179) hc he dMo_bytes_179 (Nat.le_refl _) (Nat.le_refl _) ⟨by rw [zbyt, eg]; simp only []; rw [if_neg (nI_pos hi9), nI_clamp hi9]; rfl, rfl, rfl⟩
              | succ r9 ih =>
                intro c e1
                have e3 := z8_lt hlt c
                have e4 : z8 (fun t => ((Ms.getD j zm0).1).getD (i9 + t) 0) c < 2 ^ 56 := Nat.lt_of_lt_of_le e3 (by
                  have : 256 ^ c ≤ 256 ^ 7 := Nat.pow_le_pow_right (by decide) (by omega)
                  exact Nat.le_trans this (by decide))
                have J167 : ∀ (inb : Bool) (bb : Nat), bb = ((Ms.getD j zm0).1).getD (i9 + c) 0 → mm_G V X 9 167 [(0, .ref y), (1, .int (nI j)), (2, .int (nI 0)), (3, .int (nI i9)), (4, .int (nI ((Ms.getD j zm0).1).length)), (5, .long (lN (z8 (fun t => ((Ms.getD j zm0).1).getD (i9 + t) 0) (c)))), (7, .int (nI (c))), (8, .int (zb inb))] [.int (nI bb), .long (lN (z8 (fun t => ((Ms.getD j zm0).1).getD (i9 + t) 0) c) <<< ((nI 8).toInt64 &&& 63))] mem nx 0 0 := by
                  intro inb bb eb
                  subst eb
                  refine g_i2l (pc := 167) hc dMo_bytes_167 rfl ?_
                  refine g_lor (pc := 168) hc dMo_bytes_168 ?_
                  rw [zshl8 e4 (hlt c)]
                  refine g_lstore (pc := 169) hc dMo_bytes_169 (by decide) rfl ?_
                  refine g_iinc (pc := 171) hc dMo_bytes_171 rfl (zinc _) (by decide) rfl ?_
                  refine g_goto (tgt := 66) (pc := 174) hc dMo_bytes_174 (by decide) ?_
                  refine g_lv (lv' := [(0, .ref y), (1, .int (nI j)), (2, .int (nI 0)), (3, .int (nI i9)), (4, .int (nI ((Ms.getD j zm0).1).length)), (5, .long (lN (z8 (fun t => ((Ms.getD j zm0).1).getD (i9 + t) 0) (c + 1)))), (7, .int (nI (c + 1)))]) ⟨rfl, rfl, rfl, rfl, rfl, rfl, rfl, trivial⟩ ?_
                  exact ih (c + 1) (by omega)
                have J93 : ∀ inb : Bool, inb = decide (i9 + c < ((Ms.getD j zm0).1).length) → mm_G V X 9 93 [(0, .ref y), (1, .int (nI j)), (2, .int (nI 0)), (3, .int (nI i9)), (4, .int (nI ((Ms.getD j zm0).1).length)), (5, .long (lN (z8 (fun t => ((Ms.getD j zm0).1).getD (i9 + t) 0) (c)))), (7, .int (nI (c)))] [.int (zb inb)] mem nx 0 0 := by
                  intro inb ei
                  refine g_istore (pc := 93) hc dMo_bytes_93 (by decide) rfl ?_
                  refine g_lload (pc := 95) hc dMo_bytes_95 rfl ?_
                  refine g_bipush (v := nI 8) (pc := 97) hc dMo_bytes_97 (by decide) ?_
                  refine g_lshl (pc := 99) hc dMo_bytes_99 rfl ?_
                  refine g_iload (pc := 100) hc dMo_bytes_100 rfl ?_
                  refine g_if_ne (tgt := 109) (pc := 102) hc dMo_bytes_102 (by decide) (fun c102 => ?_) (fun c102 => ?_)
                  · simp (disch := omega) only [nI_leI, nI_ltI, nI_eq, nI_eq0, nI_lt0, nI_0le, nI_0lt, nI_le0, zb_0] at c102
                    have d102 : i9 + c < ((Ms.getD j zm0).1).length := by
                      have : inb = true := by simpa using c102
                      rw [ei] at this
                      exact of_decide_eq_true this
                    refine g_iload_n (pc := 109) hc dMo_bytes_109 rfl ?_
                    refine g_if_ne (tgt := 131) (pc := 110) hc dMo_bytes_110 (by decide) (fun c110 => absurd c110 (fun q => q rfl)) (fun _ => ?_)
                    refine g_aload_n (pc := 113) hc dMo_bytes_113 rfl ?_
                    refine g_get (pc := 114) hc dMo_bytes_114 x_Mo_29 hm (by rfl) ?_
                    refine g_sipush (v := nI 200) (pc := 117) hc dMo_bytes_117 (by decide) ?_
                    refine g_iload_n (pc := 120) hc dMo_bytes_120 rfl ?_
                    refine g_imul (pc := 121) hc dMo_bytes_121 ?_
                    rw [pk_mul]
                    refine g_iload_n (pc := 122) hc dMo_bytes_122 rfl ?_
                    refine g_iadd (pc := 123) hc dMo_bytes_123 ?_
                    rw [nI_add]
                    refine g_iload (pc := 124) hc dMo_bytes_124 rfl ?_
                    refine g_iadd (pc := 126) hc dMo_bytes_126 ?_
                    rw [nI_add]
                    obtain ⟨gs, hgs, hgls, hgfs⟩ := id hMs.1
                    have hrow := hgfs j (by simp; omega)
                    rw [zgmapL (fun μ => μ.1) hj] at hrow
                    refine g_iald (pc := 127) (t := kI) hc dMo_bytes_127 rfl hgs (vp_in_nI (show 200 * j + i9 + c < 2000 by omega) (by decide)) ?_
                    rw [nI_clamp (by omega), Nat.add_assoc, hrow.2 (i9 + c) (by omega)]
                    refine g_goto (tgt := 167) (pc := 128) hc dMo_bytes_128 (by decide) ?_
                    refine g_lv (lv' := [(0, .ref y), (1, .int (nI j)), (2, .int (nI 0)), (3, .int (nI i9)), (4, .int (nI ((Ms.getD j zm0).1).length)), (5, .long (lN (z8 (fun t => ((Ms.getD j zm0).1).getD (i9 + t) 0) (c)))), (7, .int (nI (c))), (8, .int (zb inb))]) ⟨rfl, rfl, rfl, rfl, rfl, rfl, rfl, rfl, trivial⟩ ?_
                    exact J167 inb _ rfl
                  · simp (disch := omega) only [nI_leI, nI_ltI, nI_eq, nI_eq0, nI_lt0, nI_0le, nI_0lt, nI_le0, zb_0] at c102
                    have d102 : ¬ i9 + c < ((Ms.getD j zm0).1).length := by
                      rw [ei] at c102
                      exact of_decide_eq_false c102
                    refine g_iconst (v := nI 0) (pc := 105) hc dMo_bytes_105 (by decide) ?_
                    refine g_goto (tgt := 167) (pc := 106) hc dMo_bytes_106 (by decide) ?_
                    refine g_lv (lv' := [(0, .ref y), (1, .int (nI j)), (2, .int (nI 0)), (3, .int (nI i9)), (4, .int (nI ((Ms.getD j zm0).1).length)), (5, .long (lN (z8 (fun t => ((Ms.getD j zm0).1).getD (i9 + t) 0) (c)))), (7, .int (nI (c))), (8, .int (zb inb))]) ⟨rfl, rfl, rfl, rfl, rfl, rfl, rfl, rfl, trivial⟩ ?_
                    exact J167 inb 0 (zgetD_out (by omega)).symm
                refine g_iload (pc := 66) hc dMo_bytes_66 rfl ?_
                refine g_bipush (v := nI 8) (pc := 68) hc dMo_bytes_68 (by decide) ?_
                refine g_icmp_ge (tgt := 177) (pc := 70) hc dMo_bytes_70 (by decide) (fun c70 => absurd c70 (nI_ge (by omega) (by omega))) (fun _ => ?_)
                refine g_iload_n (pc := 73) hc dMo_bytes_73 rfl ?_
                refine g_iload (pc := 74) hc dMo_bytes_74 rfl ?_
                refine g_icmp_ge (tgt := 92) (pc := 76) hc dMo_bytes_76 (by decide) (fun c76 => ?_) (fun c76 => ?_)
                · simp (disch := omega) only [nI_leI, nI_ltI, nI_eq, nI_eq0, nI_lt0, nI_0le, nI_0lt, nI_le0, zb_0] at c76
                  refine g_iconst (v := nI 0) (pc := 92) hc dMo_bytes_92 (by decide) ?_
                  exact J93 false (decide_eq_false (by omega)).symm
                · refine g_iload (pc := 79) hc dMo_bytes_79 rfl ?_
                  refine g_iload (pc := 81) hc dMo_bytes_81 rfl ?_
                  refine g_iload_n (pc := 83) hc dMo_bytes_83 rfl ?_
                  refine g_isub (pc := 84) hc dMo_bytes_84 ?_
                  rw [pk_sub (by rw [nI_leI (by omega) (by omega)] at c76; omega)]
                  refine g_icmp_ge (tgt := 92) (pc := 85) hc dMo_bytes_85 (by decide) (fun c85 => ?_) (fun c85 => ?_)
                  · simp (disch := omega) only [nI_leI, nI_ltI, nI_eq, nI_eq0, nI_lt0, nI_0le, nI_0lt, nI_le0, zb_0] at c76 c85
                    refine g_iconst (v := nI 0) (pc := 92) hc dMo_bytes_92 (by decide) ?_
                    exact J93 false (decide_eq_false (by omega)).symm
                  · simp (disch := omega) only [nI_leI, nI_ltI, nI_eq, nI_eq0, nI_lt0, nI_0le, nI_0lt, nI_le0, zb_0] at c76 c85
                    refine g_iconst (v := nI 1) (pc := 88) hc dMo_bytes_88 (by decide) ?_
                    refine g_goto (tgt := 93) (pc := 89) hc dMo_bytes_89 (by decide) ?_
                    exact J93 true (decide_eq_true (by omega)).symm
            refine g_iload_n (pc := 25) hc dMo_bytes_25 rfl ?_
            refine g_if_ne (tgt := 38) (pc := 26) hc dMo_bytes_26 (by decide) (fun c26 => absurd c26 (fun q => q rfl)) (fun _ => ?_)
            refine g_aload_n (pc := 29) hc dMo_bytes_29 rfl ?_
            refine g_get (pc := 30) hc dMo_bytes_30 x_Mo_32 (by assumption) (by rfl) ?_
            refine g_iload_n (pc := 33) hc dMo_bytes_33 rfl ?_
            obtain ⟨gq, hgq, hglq, hgfq⟩ := id hMs.2.1
            refine g_iald (pc := 34) (t := kI) hc dMo_bytes_34 rfl hgq (vp_in_nI (show j < 10 by omega) (by decide)) ?_
            rw [nI_clamp (by omega), hgfq _ (by simp; omega), zgmap (fun μ => μ.1.length) (by rfl) hj]
            refine g_goto (tgt := 58) (pc := 35) hc dMo_bytes_35 (by decide) ?_
            refine g_istore (pc := 58) hc dMo_bytes_58 (by decide) rfl ?_
            refine g_lconst (v := lN 0) (pc := 60) hc dMo_bytes_60 (by decide) ?_
            refine g_lstore (pc := 61) hc dMo_bytes_61 (by decide) rfl ?_
            refine g_iconst (v := nI 0) (pc := 63) hc dMo_bytes_63 (by decide) ?_
            refine g_istore (pc := 64) hc dMo_bytes_64 (by decide) rfl ?_
            refine g_lv (lv' := [(0, .ref y), (1, .int (nI j)), (2, .int (nI 0)), (3, .int (nI i9)), (4, .int (nI ((Ms.getD j zm0).1).length)), (5, .long (lN (z8 (fun t => ((Ms.getD j zm0).1).getD (i9 + t) 0) (0)))), (7, .int (nI (0)))]) ⟨rfl, rfl, rfl, rfl, rfl, rfl, rfl, trivial⟩ ?_
            exact loop 8 0 rfl
          · have hx := hmu.2.1
            have hlt : ∀ t, (fun t => ((Ms.getD j zm0).2.1).getD (i9 + t) 0) t < 256 := fun t => by
              rcases Nat.lt_or_ge (i9 + t) ((Ms.getD j zm0).2.1).length with z | z
              · exact hx.2 _ (zmem_getD z)
              · show ((Ms.getD j zm0).2.1).getD (i9 + t) 0 < 256
                rw [zgetD_out z]; decide
            have loop : ∀ (r9 c : Nat), r9 + c = 8 → mm_G V X 9 66 [(0, .ref y), (1, .int (nI j)), (2, .int (nI 1)), (3, .int (nI i9)), (4, .int (nI ((Ms.getD j zm0).2.1).length)), (5, .long (lN (z8 (fun t => ((Ms.getD j zm0).2.1).getD (i9 + t) 0) (c)))), (7, .int (nI (c)))] [] mem nx 0 0 := by
              intro r9
              induction r9 with
              | zero =>
                intro c e1
                obtain rfl : c = 8 := by omega
                refine g_iload (pc := 66) hc dMo_bytes_66 rfl ?_
                refine g_bipush (v := nI 8) (pc := 68) hc dMo_bytes_68 (by decide) ?_
                refine g_icmp_ge (tgt := 177) (pc := 70) hc dMo_bytes_70 (by decide) (fun _ => ?_) (fun c70 => absurd (by decide) c70)
                refine g_lload (pc := 177) hc dMo_bytes_177 rfl ?_
                exact g_lret (pc := 179) hc he dMo_bytes_179 (Nat.le_refl _) (Nat.le_refl _) ⟨by rw [zbyt, eg]; simp only []; rw [if_neg (nI_pos hi9), nI_clamp hi9]; rfl, rfl, rfl⟩
              | succ r9 ih =>
                intro c e1
                have e3 := z8_lt hlt c
                have e4 : z8 (fun t => ((Ms.getD j zm0).2.1).getD (i9 + t) 0) c < 2 ^ 56 := Nat.lt_of_lt_of_le e3 (by
                  have : 256 ^ c ≤ 256 ^ 7 := Nat.pow_le_pow_right (by decide) (by omega)
                  exact Nat.le_trans this (by decide))
                have J167 : ∀ (inb : Bool) (bb : Nat), bb = ((Ms.getD j zm0).2.1).getD (i9 + c) 0 → mm_G V X 9 167 [(0, .ref y), (1, .int (nI j)), (2, .int (nI 1)), (3, .int (nI i9)), (4, .int (nI ((Ms.getD j zm0).2.1).length)), (5, .long (lN (z8 (fun t => ((Ms.getD j zm0).2.1).getD (i9 + t) 0) (c)))), (7, .int (nI (c))), (8, .int (zb inb))] [.int (nI bb), .long (lN (z8 (fun t => ((Ms.getD j zm0).2.1).getD (i9 + t) 0) c) <<< ((nI 8).toInt64 &&& 63))] mem nx 0 0 := by
                  intro inb bb eb
                  subst eb
                  refine g_i2l (pc := 167) hc dMo_bytes_167 rfl ?_
                  refine g_lor (pc := 168) hc dMo_bytes_168 ?_
                  rw [zshl8 e4 (hlt c)]
                  refine g_lstore (pc := 169) hc dMo_bytes_169 (by decide) rfl ?_
                  refine g_iinc (pc := 171) hc dMo_bytes_171 rfl (zinc _) (by decide) rfl ?_
                  refine g_goto (tgt := 66) (pc := 174) hc dMo_bytes_174 (by decide) ?_
                  refine g_lv (lv' := [(0, .ref y), (1, .int (nI j)), (2, .int (nI 1)), (3, .int (nI i9)), (4, .int (nI ((Ms.getD j zm0).2.1).length)), (5, .long (lN (z8 (fun t => ((Ms.getD j zm0).2.1).getD (i9 + t) 0) (c + 1)))), (7, .int (nI (c + 1)))]) ⟨rfl, rfl, rfl, rfl, rfl, rfl, rfl, trivial⟩ ?_
                  exact ih (c + 1) (by omega)
                have J93 : ∀ inb : Bool, inb = decide (i9 + c < ((Ms.getD j zm0).2.1).length) → mm_G V X 9 93 [(0, .ref y), (1, .int (nI j)), (2, .int (nI 1)), (3, .int (nI i9)), (4, .int (nI ((Ms.getD j zm0).2.1).length)), (5, .long (lN (z8 (fun t => ((Ms.getD j zm0).2.1).getD (i9 + t) 0) (c)))), (7, .int (nI (c)))] [.int (zb inb)] mem nx 0 0 := by
                  intro inb ei
                  refine g_istore (pc := 93) hc dMo_bytes_93 (by decide) rfl ?_
                  refine g_lload (pc := 95) hc dMo_bytes_95 rfl ?_
                  refine g_bipush (v := nI 8) (pc := 97) hc dMo_bytes_97 (by decide) ?_
                  refine g_lshl (pc := 99) hc dMo_bytes_99 rfl ?_
                  refine g_iload (pc := 100) hc dMo_bytes_100 rfl ?_
                  refine g_if_ne (tgt := 109) (pc := 102) hc dMo_bytes_102 (by decide) (fun c102 => ?_) (fun c102 => ?_)
                  · simp (disch := omega) only [nI_leI, nI_ltI, nI_eq, nI_eq0, nI_lt0, nI_0le, nI_0lt, nI_le0, zb_0] at c102
                    have d102 : i9 + c < ((Ms.getD j zm0).2.1).length := by
                      have : inb = true := by simpa using c102
                      rw [ei] at this
                      exact of_decide_eq_true this
                    refine g_iload_n (pc := 109) hc dMo_bytes_109 rfl ?_
                    refine g_if_ne (tgt := 131) (pc := 110) hc dMo_bytes_110 (by decide) (fun _ => ?_) (fun c110 => absurd c110 (by decide))
                    refine g_iload_n (pc := 131) hc dMo_bytes_131 rfl ?_
                    refine g_iconst (v := nI 1) (pc := 132) hc dMo_bytes_132 (by decide) ?_
                    refine g_icmp_ne (tgt := 153) (pc := 133) hc dMo_bytes_133 (by decide) (fun c133 => absurd c133 (fun q => q rfl)) (fun _ => ?_)
                    refine g_aload_n (pc := 136) hc dMo_bytes_136 rfl ?_
                    refine g_get (pc := 137) hc dMo_bytes_137 x_Mo_38 hm (by rfl) ?_
                    refine g_bipush (v := nI 110) (pc := 140) hc dMo_bytes_140 (by decide) ?_
                    refine g_iload_n (pc := 142) hc dMo_bytes_142 rfl ?_
                    refine g_imul (pc := 143) hc dMo_bytes_143 ?_
                    rw [pk_mul]
                    refine g_iload_n (pc := 144) hc dMo_bytes_144 rfl ?_
                    refine g_iadd (pc := 145) hc dMo_bytes_145 ?_
                    rw [nI_add]
                    refine g_iload (pc := 146) hc dMo_bytes_146 rfl ?_
                    refine g_iadd (pc := 148) hc dMo_bytes_148 ?_
                    rw [nI_add]
                    obtain ⟨gs, hgs, hgls, hgfs⟩ := id hMs.2.2.2.1
                    have hrow := hgfs j (by simp; omega)
                    rw [zgmapL (fun μ => μ.2.1) hj] at hrow
                    refine g_iald (pc := 149) (t := kI) hc dMo_bytes_149 rfl hgs (vp_in_nI (show 110 * j + i9 + c < 1100 by omega) (by decide)) ?_
                    rw [nI_clamp (by omega), Nat.add_assoc, hrow.2 (i9 + c) (by omega)]
                    refine g_goto (tgt := 167) (pc := 150) hc dMo_bytes_150 (by decide) ?_
                    refine g_lv (lv' := [(0, .ref y), (1, .int (nI j)), (2, .int (nI 1)), (3, .int (nI i9)), (4, .int (nI ((Ms.getD j zm0).2.1).length)), (5, .long (lN (z8 (fun t => ((Ms.getD j zm0).2.1).getD (i9 + t) 0) (c)))), (7, .int (nI (c))), (8, .int (zb inb))]) ⟨rfl, rfl, rfl, rfl, rfl, rfl, rfl, rfl, trivial⟩ ?_
                    exact J167 inb _ rfl
                  · simp (disch := omega) only [nI_leI, nI_ltI, nI_eq, nI_eq0, nI_lt0, nI_0le, nI_0lt, nI_le0, zb_0] at c102
                    have d102 : ¬ i9 + c < ((Ms.getD j zm0).2.1).length := by
                      rw [ei] at c102
                      exact of_decide_eq_false c102
                    refine g_iconst (v := nI 0) (pc := 105) hc dMo_bytes_105 (by decide) ?_
                    refine g_goto (tgt := 167) (pc := 106) hc dMo_bytes_106 (by decide) ?_
                    refine g_lv (lv' := [(0, .ref y), (1, .int (nI j)), (2, .int (nI 1)), (3, .int (nI i9)), (4, .int (nI ((Ms.getD j zm0).2.1).length)), (5, .long (lN (z8 (fun t => ((Ms.getD j zm0).2.1).getD (i9 + t) 0) (c)))), (7, .int (nI (c))), (8, .int (zb inb))]) ⟨rfl, rfl, rfl, rfl, rfl, rfl, rfl, rfl, trivial⟩ ?_
                    exact J167 inb 0 (zgetD_out (by omega)).symm
                refine g_iload (pc := 66) hc dMo_bytes_66 rfl ?_
                refine g_bipush (v := nI 8) (pc := 68) hc dMo_bytes_68 (by decide) ?_
                refine g_icmp_ge (tgt := 177) (pc := 70) hc dMo_bytes_70 (by decide) (fun c70 => absurd c70 (nI_ge (by omega) (by omega))) (fun _ => ?_)
                refine g_iload_n (pc := 73) hc dMo_bytes_73 rfl ?_
                refine g_iload (pc := 74) hc dMo_bytes_74 rfl ?_
                refine g_icmp_ge (tgt := 92) (pc := 76) hc dMo_bytes_76 (by decide) (fun c76 => ?_) (fun c76 => ?_)
                · simp (disch := omega) only [nI_leI, nI_ltI, nI_eq, nI_eq0, nI_lt0, nI_0le, nI_0lt, nI_le0, zb_0] at c76
                  refine g_iconst (v := nI 0) (pc := 92) hc dMo_bytes_92 (by decide) ?_
                  exact J93 false (decide_eq_false (by omega)).symm
                · refine g_iload (pc := 79) hc dMo_bytes_79 rfl ?_
                  refine g_iload (pc := 81) hc dMo_bytes_81 rfl ?_
                  refine g_iload_n (pc := 83) hc dMo_bytes_83 rfl ?_
                  refine g_isub (pc := 84) hc dMo_bytes_84 ?_
                  rw [pk_sub (by rw [nI_leI (by omega) (by omega)] at c76; omega)]
                  refine g_icmp_ge (tgt := 92) (pc := 85) hc dMo_bytes_85 (by decide) (fun c85 => ?_) (fun c85 => ?_)
                  · simp (disch := omega) only [nI_leI, nI_ltI, nI_eq, nI_eq0, nI_lt0, nI_0le, nI_0lt, nI_le0, zb_0] at c76 c85
                    refine g_iconst (v := nI 0) (pc := 92) hc dMo_bytes_92 (by decide) ?_
                    exact J93 false (decide_eq_false (by omega)).symm
                  · simp (disch := omega) only [nI_leI, nI_ltI, nI_eq, nI_eq0, nI_lt0, nI_0le, nI_0lt, nI_le0, zb_0] at c76 c85
                    refine g_iconst (v := nI 1) (pc := 88) hc dMo_bytes_88 (by decide) ?_
                    refine g_goto (tgt := 93) (pc := 89) hc dMo_bytes_89 (by decide) ?_
                    exact J93 true (decide_eq_true (by omega)).symm
            refine g_iload_n (pc := 25) hc dMo_bytes_25 rfl ?_
            refine g_if_ne (tgt := 38) (pc := 26) hc dMo_bytes_26 (by decide) (fun _ => ?_) (fun c26 => absurd c26 (by decide))
            refine g_iload_n (pc := 38) hc dMo_bytes_38 rfl ?_
            refine g_iconst (v := nI 1) (pc := 39) hc dMo_bytes_39 (by decide) ?_
            refine g_icmp_ne (tgt := 52) (pc := 40) hc dMo_bytes_40 (by decide) (fun c40 => absurd c40 (fun q => q rfl)) (fun _ => ?_)
            refine g_aload_n (pc := 43) hc dMo_bytes_43 rfl ?_
            refine g_get (pc := 44) hc dMo_bytes_44 x_Mo_41 (by assumption) (by rfl) ?_
            refine g_iload_n (pc := 47) hc dMo_bytes_47 rfl ?_
            obtain ⟨gq, hgq, hglq, hgfq⟩ := id hMs.2.2.2.2.1
            refine g_iald (pc := 48) (t := kI) hc dMo_bytes_48 rfl hgq (vp_in_nI (show j < 10 by omega) (by decide)) ?_
            rw [nI_clamp (by omega), hgfq _ (by simp; omega), zgmap (fun μ => μ.2.1.length) (by rfl) hj]
            refine g_goto (tgt := 58) (pc := 49) hc dMo_bytes_49 (by decide) ?_
            refine g_istore (pc := 58) hc dMo_bytes_58 (by decide) rfl ?_
            refine g_lconst (v := lN 0) (pc := 60) hc dMo_bytes_60 (by decide) ?_
            refine g_lstore (pc := 61) hc dMo_bytes_61 (by decide) rfl ?_
            refine g_iconst (v := nI 0) (pc := 63) hc dMo_bytes_63 (by decide) ?_
            refine g_istore (pc := 64) hc dMo_bytes_64 (by decide) rfl ?_
            refine g_lv (lv' := [(0, .ref y), (1, .int (nI j)), (2, .int (nI 1)), (3, .int (nI i9)), (4, .int (nI ((Ms.getD j zm0).2.1).length)), (5, .long (lN (z8 (fun t => ((Ms.getD j zm0).2.1).getD (i9 + t) 0) (0)))), (7, .int (nI (0)))]) ⟨rfl, rfl, rfl, rfl, rfl, rfl, rfl, trivial⟩ ?_
            exact loop 8 0 rfl
          · have hx := hmu.2.2.1
            have hlt : ∀ t, (fun t => ((Ms.getD j zm0).2.2.1).getD (i9 + t) 0) t < 256 := fun t => by
              rcases Nat.lt_or_ge (i9 + t) ((Ms.getD j zm0).2.2.1).length with z | z
              · exact hx.2 _ (zmem_getD z)
              · show ((Ms.getD j zm0).2.2.1).getD (i9 + t) 0 < 256
                rw [zgetD_out z]; decide
            have loop : ∀ (r9 c : Nat), r9 + c = 8 → mm_G V X 9 66 [(0, .ref y), (1, .int (nI j)), (2, .int (nI 2)), (3, .int (nI i9)), (4, .int (nI ((Ms.getD j zm0).2.2.1).length)), (5, .long (lN (z8 (fun t => ((Ms.getD j zm0).2.2.1).getD (i9 + t) 0) (c)))), (7, .int (nI (c)))] [] mem nx 0 0 := by
              intro r9
              induction r9 with
              | zero =>
                intro c e1
                obtain rfl : c = 8 := by omega
                refine g_iload (pc := 66) hc dMo_bytes_66 rfl ?_
                refine g_bipush (v := nI 8) (pc := 68) hc dMo_bytes_68 (by decide) ?_
                refine g_icmp_ge (tgt := 177) (pc := 70) hc dMo_bytes_70 (by decide) (fun _ => ?_) (fun c70 => absurd (by decide) c70)
                refine g_lload (pc := 177) hc dMo_bytes_177 rfl ?_
                exact g_lret (pc := 179) hc he dMo_bytes_179 (Nat.le_refl _) (Nat.le_refl _) ⟨by rw [zbyt, eg]; simp only []; rw [if_neg (nI_pos hi9), nI_clamp hi9]; rfl, rfl, rfl⟩
              | succ r9 ih =>
                intro c e1
                have e3 := z8_lt hlt c
                have e4 : z8 (fun t => ((Ms.getD j zm0).2.2.1).getD (i9 + t) 0) c < 2 ^ 56 := Nat.lt_of_lt_of_le e3 (by
                  have : 256 ^ c ≤ 256 ^ 7 := Nat.pow_le_pow_right (by decide) (by omega)
                  exact Nat.le_trans this (by decide))
                have J167 : ∀ (inb : Bool) (bb : Nat), bb = ((Ms.getD j zm0).2.2.1).getD (i9 + c) 0 → mm_G V X 9 167 [(0, .ref y), (1, .int (nI j)), (2, .int (nI 2)), (3, .int (nI i9)), (4, .int (nI ((Ms.getD j zm0).2.2.1).length)), (5, .long (lN (z8 (fun t => ((Ms.getD j zm0).2.2.1).getD (i9 + t) 0) (c)))), (7, .int (nI (c))), (8, .int (zb inb))] [.int (nI bb), .long (lN (z8 (fun t => ((Ms.getD j zm0).2.2.1).getD (i9 + t) 0) c) <<< ((nI 8).toInt64 &&& 63))] mem nx 0 0 := by
                  intro inb bb eb
                  subst eb
                  refine g_i2l (pc := 167) hc dMo_bytes_167 rfl ?_
                  refine g_lor (pc := 168) hc dMo_bytes_168 ?_
                  rw [zshl8 e4 (hlt c)]
                  refine g_lstore (pc := 169) hc dMo_bytes_169 (by decide) rfl ?_
                  refine g_iinc (pc := 171) hc dMo_bytes_171 rfl (zinc _) (by decide) rfl ?_
                  refine g_goto (tgt := 66) (pc := 174) hc dMo_bytes_174 (by decide) ?_
                  refine g_lv (lv' := [(0, .ref y), (1, .int (nI j)), (2, .int (nI 2)), (3, .int (nI i9)), (4, .int (nI ((Ms.getD j zm0).2.2.1).length)), (5, .long (lN (z8 (fun t => ((Ms.getD j zm0).2.2.1).getD (i9 + t) 0) (c + 1)))), (7, .int (nI (c + 1)))]) ⟨rfl, rfl, rfl, rfl, rfl, rfl, rfl, trivial⟩ ?_
                  exact ih (c + 1) (by omega)
                have J93 : ∀ inb : Bool, inb = decide (i9 + c < ((Ms.getD j zm0).2.2.1).length) → mm_G V X 9 93 [(0, .ref y), (1, .int (nI j)), (2, .int (nI 2)), (3, .int (nI i9)), (4, .int (nI ((Ms.getD j zm0).2.2.1).length)), (5, .long (lN (z8 (fun t => ((Ms.getD j zm0).2.2.1).getD (i9 + t) 0) (c)))), (7, .int (nI (c)))] [.int (zb inb)] mem nx 0 0 := by
                  intro inb ei
                  refine g_istore (pc := 93) hc dMo_bytes_93 (by decide) rfl ?_
                  refine g_lload (pc := 95) hc dMo_bytes_95 rfl ?_
                  refine g_bipush (v := nI 8) (pc := 97) hc dMo_bytes_97 (by decide) ?_
                  refine g_lshl (pc := 99) hc dMo_bytes_99 rfl ?_
                  refine g_iload (pc := 100) hc dMo_bytes_100 rfl ?_
                  refine g_if_ne (tgt := 109) (pc := 102) hc dMo_bytes_102 (by decide) (fun c102 => ?_) (fun c102 => ?_)
                  · simp (disch := omega) only [nI_leI, nI_ltI, nI_eq, nI_eq0, nI_lt0, nI_0le, nI_0lt, nI_le0, zb_0] at c102
                    have d102 : i9 + c < ((Ms.getD j zm0).2.2.1).length := by
                      have : inb = true := by simpa using c102
                      rw [ei] at this
                      exact of_decide_eq_true this
                    refine g_iload_n (pc := 109) hc dMo_bytes_109 rfl ?_
                    refine g_if_ne (tgt := 131) (pc := 110) hc dMo_bytes_110 (by decide) (fun _ => ?_) (fun c110 => absurd c110 (by decide))
                    refine g_iload_n (pc := 131) hc dMo_bytes_131 rfl ?_
                    refine g_iconst (v := nI 1) (pc := 132) hc dMo_bytes_132 (by decide) ?_
                    refine g_icmp_ne (tgt := 153) (pc := 133) hc dMo_bytes_133 (by decide) (fun _ => ?_) (fun c133 => absurd c133 (by decide))
                    refine g_aload_n (pc := 153) hc dMo_bytes_153 rfl ?_
                    refine g_get (pc := 154) hc dMo_bytes_154 x_Mo_44 hm (by rfl) ?_
                    refine g_bipush (v := nI 110) (pc := 157) hc dMo_bytes_157 (by decide) ?_
                    refine g_iload_n (pc := 159) hc dMo_bytes_159 rfl ?_
                    refine g_imul (pc := 160) hc dMo_bytes_160 ?_
                    rw [pk_mul]
                    refine g_iload_n (pc := 161) hc dMo_bytes_161 rfl ?_
                    refine g_iadd (pc := 162) hc dMo_bytes_162 ?_
                    rw [nI_add]
                    refine g_iload (pc := 163) hc dMo_bytes_163 rfl ?_
                    refine g_iadd (pc := 165) hc dMo_bytes_165 ?_
                    rw [nI_add]
                    obtain ⟨gs, hgs, hgls, hgfs⟩ := id hMs.2.2.2.2.2.1
                    have hrow := hgfs j (by simp; omega)
                    rw [zgmapL (fun μ => μ.2.2.1) hj] at hrow
                    refine g_iald (pc := 166) (t := kI) hc dMo_bytes_166 rfl hgs (vp_in_nI (show 110 * j + i9 + c < 1100 by omega) (by decide)) ?_
                    rw [nI_clamp (by omega), Nat.add_assoc, hrow.2 (i9 + c) (by omega)]
                    refine g_lv (lv' := [(0, .ref y), (1, .int (nI j)), (2, .int (nI 2)), (3, .int (nI i9)), (4, .int (nI ((Ms.getD j zm0).2.2.1).length)), (5, .long (lN (z8 (fun t => ((Ms.getD j zm0).2.2.1).getD (i9 + t) 0) (c)))), (7, .int (nI (c))), (8, .int (zb inb))]) ⟨rfl, rfl, rfl, rfl, rfl, rfl, rfl, rfl, trivial⟩ ?_
                    exact J167 inb _ rfl
                  · simp (disch := omega) only [nI_leI, nI_ltI, nI_eq, nI_eq0, nI_lt0, nI_0le, nI_0lt, nI_le0, zb_0] at c102
                    have d102 : ¬ i9 + c < ((Ms.getD j zm0).2.2.1).length := by
                      rw [ei] at c102
                      exact of_decide_eq_false c102
                    refine g_iconst (v := nI 0) (pc := 105) hc dMo_bytes_105 (by decide) ?_
                    refine g_goto (tgt := 167) (pc := 106) hc dMo_bytes_106 (by decide) ?_
                    refine g_lv (lv' := [(0, .ref y), (1, .int (nI j)), (2, .int (nI 2)), (3, .int (nI i9)), (4, .int (nI ((Ms.getD j zm0).2.2.1).length)), (5, .long (lN (z8 (fun t => ((Ms.getD j zm0).2.2.1).getD (i9 + t) 0) (c)))), (7, .int (nI (c))), (8, .int (zb inb))]) ⟨rfl, rfl, rfl, rfl, rfl, rfl, rfl, rfl, trivial⟩ ?_
                    exact J167 inb 0 (zgetD_out (by omega)).symm
                refine g_iload (pc := 66) hc dMo_bytes_66 rfl ?_
                refine g_bipush (v := nI 8) (pc := 68) hc dMo_bytes_68 (by decide) ?_
                refine g_icmp_ge (tgt := 177) (pc := 70) hc dMo_bytes_70 (by decide) (fun c70 => absurd c70 (nI_ge (by omega) (by omega))) (fun _ => ?_)
                refine g_iload_n (pc := 73) hc dMo_bytes_73 rfl ?_
                refine g_iload (pc := 74) hc dMo_bytes_74 rfl ?_
                refine g_icmp_ge (tgt := 92) (pc := 76) hc dMo_bytes_76 (by decide) (fun c76 => ?_) (fun c76 => ?_)
                · simp (disch := omega) only [nI_leI, nI_ltI, nI_eq, nI_eq0, nI_lt0, nI_0le, nI_0lt, nI_le0, zb_0] at c76
                  refine g_iconst (v := nI 0) (pc := 92) hc dMo_bytes_92 (by decide) ?_
                  exact J93 false (decide_eq_false (by omega)).symm
                · refine g_iload (pc := 79) hc dMo_bytes_79 rfl ?_
                  refine g_iload (pc := 81) hc dMo_bytes_81 rfl ?_
                  refine g_iload_n (pc := 83) hc dMo_bytes_83 rfl ?_
                  refine g_isub (pc := 84) hc dMo_bytes_84 ?_
                  rw [pk_sub (by rw [nI_leI (by omega) (by omega)] at c76; omega)]
                  refine g_icmp_ge (tgt := 92) (pc := 85) hc dMo_bytes_85 (by decide) (fun c85 => ?_) (fun c85 => ?_)
                  · simp (disch := omega) only [nI_leI, nI_ltI, nI_eq, nI_eq0, nI_lt0, nI_0le, nI_0lt, nI_le0, zb_0] at c76 c85
                    refine g_iconst (v := nI 0) (pc := 92) hc dMo_bytes_92 (by decide) ?_
                    exact J93 false (decide_eq_false (by omega)).symm
                  · simp (disch := omega) only [nI_leI, nI_ltI, nI_eq, nI_eq0, nI_lt0, nI_0le, nI_0lt, nI_le0, zb_0] at c76 c85
                    refine g_iconst (v := nI 1) (pc := 88) hc dMo_bytes_88 (by decide) ?_
                    refine g_goto (tgt := 93) (pc := 89) hc dMo_bytes_89 (by decide) ?_
                    exact J93 true (decide_eq_true (by omega)).symm
            refine g_iload_n (pc := 25) hc dMo_bytes_25 rfl ?_
            refine g_if_ne (tgt := 38) (pc := 26) hc dMo_bytes_26 (by decide) (fun _ => ?_) (fun c26 => absurd c26 (by decide))
            refine g_iload_n (pc := 38) hc dMo_bytes_38 rfl ?_
            refine g_iconst (v := nI 1) (pc := 39) hc dMo_bytes_39 (by decide) ?_
            refine g_icmp_ne (tgt := 52) (pc := 40) hc dMo_bytes_40 (by decide) (fun _ => ?_) (fun c40 => absurd c40 (by decide))
            refine g_aload_n (pc := 52) hc dMo_bytes_52 rfl ?_
            refine g_get (pc := 53) hc dMo_bytes_53 x_Mo_47 (by assumption) (by rfl) ?_
            refine g_iload_n (pc := 56) hc dMo_bytes_56 rfl ?_
            obtain ⟨gq, hgq, hglq, hgfq⟩ := id hMs.2.2.2.2.2.2
            refine g_iald (pc := 57) (t := kI) hc dMo_bytes_57 rfl hgq (vp_in_nI (show j < 10 by omega) (by decide)) ?_
            rw [nI_clamp (by omega), hgfq _ (by simp; omega), zgmap (fun μ => μ.2.2.1.length) (by rfl) hj]
            refine g_istore (pc := 58) hc dMo_bytes_58 (by decide) rfl ?_
            refine g_lconst (v := lN 0) (pc := 60) hc dMo_bytes_60 (by decide) ?_
            refine g_lstore (pc := 61) hc dMo_bytes_61 (by decide) rfl ?_
            refine g_iconst (v := nI 0) (pc := 63) hc dMo_bytes_63 (by decide) ?_
            refine g_istore (pc := 64) hc dMo_bytes_64 (by decide) rfl ?_
            refine g_lv (lv' := [(0, .ref y), (1, .int (nI j)), (2, .int (nI 2)), (3, .int (nI i9)), (4, .int (nI ((Ms.getD j zm0).2.2.1).length)), (5, .long (lN (z8 (fun t => ((Ms.getD j zm0).2.2.1).getD (i9 + t) 0) (0)))), (7, .int (nI (0)))]) ⟨rfl, rfl, rfl, rfl, rfl, rfl, rfl, trivial⟩ ?_
            exact loop 8 0 rfl
        · refine g_ldc2 (pc := 21) hc dMo_bytes_21 x_Mo_243 ?_
          exact g_lret (pc := 24) hc he dMo_bytes_24 (Nat.le_refl _) (Nat.le_refl _) ⟨(by rw [zbyt, eg]; simp only []; rw [if_pos (Int32.not_le.mp c18)]), rfl, rfl⟩
  · refine g_if_eq (tgt := 21) (pc := 5) hc dMo_bytes_5 (by decide) (fun _ => ?_) (fun c5 => absurd (by decide) c5)
    refine g_ldc2 (pc := 21) hc dMo_bytes_21 x_Mo_243 ?_
    exact g_lret (pc := 24) hc he dMo_bytes_24 (Nat.le_refl _) (Nat.le_refl _) ⟨by rw [zbyt, hno], rfl, rfl⟩
set_option maxHeartbeats 4000000 in
set_option maxRecDepth 100000 in
theorem s_Mo_init (V : mm_V) {y : Nat} {mem : mm_M} {nx : Nat} (hm : mem y = some (.inr (kMo, [.int 0, .int 0, .int 0, .int 0, .null, .int 0, .int 0, .int 0, .int 0, .null, .int 0, .int 0, .null, .null, .int 0, .int 0, .int 0, .null, .int 0, .int 0, .null, .null, .null, .null, .null, .null, .null]))) (hnx : nx = y + 1) : mm_S V yMo_init cMo_init 1 none 1 12 5404 [.ref y] mem nx (fun r m x => r = none ∧ x = y + 13 ∧ zR y zst0 m ∧ zsame y (y + 13) mem m) := by
  refine mm_met (by decide) (Nat.le_of_ble_eq_true rfl) ?_
  intro X hc he hnm
  subst hnx
  refine g_aload_n (pc := 0) hc dMo_init_0 rfl ?_
  refine g_objInit (pc := 1) hc dMo_init_1 x_Mo_1 (by decide) (Nat.le_of_ble_eq_true rfl) ?_
  refine g_aload_n (pc := 4) hc dMo_init_4 rfl ?_
  refine g_iconst (v := nI 1) (pc := 5) hc dMo_init_5 (by decide) ?_
  refine g_put (pc := 6) hc dMo_init_6 x_Mo_7 ft_Mo rfl hm rfl rfl (zlt rfl) (fun p0 g0 q0 => ?_)
  refine g_aload_n (pc := 9) hc dMo_init_9 rfl ?_
  refine g_sipush (v := nI 210) (pc := 10) hc dMo_init_10 (by decide) ?_
  refine g_newi (pc := 13) (t := kI) (N := 210) hc dMo_init_13 rfl xw_arrI (by decide) (by decide) (by decide) (by omega) (by omega) (fun n1 x1 u1 => ?_)
  have y1 := (u1 y (by omega)).trans g0
  have a1 : zA (y + 1) 210 [] n1 := ⟨_, x1, Nat.zero_le _, fun j hj => absurd hj (Nat.not_lt_zero j)⟩
  refine g_putF (pc := 15) hc dMo_init_15 hnm x_Mo_13 ft_Mo rfl rfl y1 rfl rfl (zlt rfl) (fun p1 g1 w1 => ?_)
  replace a1 := a1.kpt w1 (by omega)
  refine g_aload_n (pc := 18) hc dMo_init_18 rfl ?_
  refine g_bipush (v := nI 110) (pc := 19) hc dMo_init_19 (by decide) ?_
  refine g_newi (pc := 21) (t := kI) (N := 110) hc dMo_init_21 rfl xw_arrI (by decide) (by decide) (by decide) (by omega) (by omega) (fun n2 x2 u2 => ?_)
  have y2 := (u2 y (by omega)).trans g1
  have a2 : zA (y + 2) 110 [] n2 := ⟨_, x2, Nat.zero_le _, fun j hj => absurd hj (Nat.not_lt_zero j)⟩
  replace a1 := a1.kpt u2 (by omega)
  refine g_putF (pc := 23) hc dMo_init_23 hnm x_Mo_17 ft_Mo rfl rfl y2 rfl rfl (zlt rfl) (fun p2 g2 w2 => ?_)
  replace a1 := a1.kpt w2 (by omega)
  replace a2 := a2.kpt w2 (by omega)
  refine g_aload_n (pc := 26) hc dMo_init_26 rfl ?_
  refine g_sipush (v := nI 440) (pc := 27) hc dMo_init_27 (by decide) ?_
  refine g_newi (pc := 30) (t := kI) (N := 440) hc dMo_init_30 rfl xw_arrI (by decide) (by decide) (by decide) (by omega) (by omega) (fun n3 x3 u3 => ?_)
  have y3 := (u3 y (by omega)).trans g2
  have a3 : zA (y + 3) 440 [] n3 := ⟨_, x3, Nat.zero_le _, fun j hj => absurd hj (Nat.not_lt_zero j)⟩
  replace a1 := a1.kpt u3 (by omega)
  replace a2 := a2.kpt u3 (by omega)
  refine g_putF (pc := 32) hc dMo_init_32 hnm x_Mo_20 ft_Mo rfl rfl y3 rfl rfl (zlt rfl) (fun p3 g3 w3 => ?_)
  replace a1 := a1.kpt w3 (by omega)
  replace a2 := a2.kpt w3 (by omega)
  replace a3 := a3.kpt w3 (by omega)
  refine g_aload_n (pc := 35) hc dMo_init_35 rfl ?_
  refine g_iconst (v := nI 4) (pc := 36) hc dMo_init_36 (by decide) ?_
  refine g_newi (pc := 37) (t := kI) (N := 4) hc dMo_init_37 rfl xw_arrI (by decide) (by decide) (by decide) (by omega) (by omega) (fun n4 x4 u4 => ?_)
  have y4 := (u4 y (by omega)).trans g3
  have a4 : zA (y + 4) 4 [] n4 := ⟨_, x4, Nat.zero_le _, fun j hj => absurd hj (Nat.not_lt_zero j)⟩
  replace a1 := a1.kpt u4 (by omega)
  replace a2 := a2.kpt u4 (by omega)
  replace a3 := a3.kpt u4 (by omega)
  refine g_putF (pc := 39) hc dMo_init_39 hnm x_Mo_23 ft_Mo rfl rfl y4 rfl rfl (zlt rfl) (fun p4 g4 w4 => ?_)
  replace a1 := a1.kpt w4 (by omega)
  replace a2 := a2.kpt w4 (by omega)
  replace a3 := a3.kpt w4 (by omega)
  replace a4 := a4.kpt w4 (by omega)
  refine g_aload_n (pc := 42) hc dMo_init_42 rfl ?_
  refine g_sipush (v := nI 400) (pc := 43) hc dMo_init_43 (by decide) ?_
  refine g_newi (pc := 46) (t := kI) (N := 400) hc dMo_init_46 rfl xw_arrI (by decide) (by decide) (by decide) (by omega) (by omega) (fun n5 x5 u5 => ?_)
  have y5 := (u5 y (by omega)).trans g4
  have a5 : zA (y + 5) 400 [] n5 := ⟨_, x5, Nat.zero_le _, fun j hj => absurd hj (Nat.not_lt_zero j)⟩
  replace a1 := a1.kpt u5 (by omega)
  replace a2 := a2.kpt u5 (by omega)
  replace a3 := a3.kpt u5 (by omega)
  replace a4 := a4.kpt u5 (by omega)
  refine g_putF (pc := 48) hc dMo_init_48 hnm x_Mo_26 ft_Mo rfl rfl y5 rfl rfl (zlt rfl) (fun p5 g5 w5 => ?_)
  replace a1 := a1.kpt w5 (by omega)
  replace a2 := a2.kpt w5 (by omega)
  replace a3 := a3.kpt w5 (by omega)
  replace a4 := a4.kpt w5 (by omega)
  replace a5 := a5.kpt w5 (by omega)
  refine g_aload_n (pc := 51) hc dMo_init_51 rfl ?_
  refine g_sipush (v := nI 2000) (pc := 52) hc dMo_init_52 (by decide) ?_
  refine g_newi (pc := 55) (t := kI) (N := 2000) hc dMo_init_55 rfl xw_arrI (by decide) (by decide) (by decide) (by omega) (by omega) (fun n6 x6 u6 => ?_)
  have y6 := (u6 y (by omega)).trans g5
  have a6 : zA (y + 6) 2000 [] n6 := ⟨_, x6, Nat.zero_le _, fun j hj => absurd hj (Nat.not_lt_zero j)⟩
  replace a1 := a1.kpt u6 (by omega)
  replace a2 := a2.kpt u6 (by omega)
  replace a3 := a3.kpt u6 (by omega)
  replace a4 := a4.kpt u6 (by omega)
  replace a5 := a5.kpt u6 (by omega)
  refine g_putF (pc := 57) hc dMo_init_57 hnm x_Mo_29 ft_Mo rfl rfl y6 rfl rfl (zlt rfl) (fun p6 g6 w6 => ?_)
  replace a1 := a1.kpt w6 (by omega)
  replace a2 := a2.kpt w6 (by omega)
  replace a3 := a3.kpt w6 (by omega)
  replace a4 := a4.kpt w6 (by omega)
  replace a5 := a5.kpt w6 (by omega)
  replace a6 := a6.kpt w6 (by omega)
  refine g_aload_n (pc := 60) hc dMo_init_60 rfl ?_
  refine g_bipush (v := nI 10) (pc := 61) hc dMo_init_61 (by decide) ?_
  refine g_newi (pc := 63) (t := kI) (N := 10) hc dMo_init_63 rfl xw_arrI (by decide) (by decide) (by decide) (by omega) (by omega) (fun n7 x7 u7 => ?_)
  have y7 := (u7 y (by omega)).trans g6
  have a7 : zA (y + 7) 10 [] n7 := ⟨_, x7, Nat.zero_le _, fun j hj => absurd hj (Nat.not_lt_zero j)⟩
  replace a1 := a1.kpt u7 (by omega)
  replace a2 := a2.kpt u7 (by omega)
  replace a3 := a3.kpt u7 (by omega)
  replace a4 := a4.kpt u7 (by omega)
  replace a5 := a5.kpt u7 (by omega)
  replace a6 := a6.kpt u7 (by omega)
  refine g_putF (pc := 65) hc dMo_init_65 hnm x_Mo_32 ft_Mo rfl rfl y7 rfl rfl (zlt rfl) (fun p7 g7 w7 => ?_)
  replace a1 := a1.kpt w7 (by omega)
  replace a2 := a2.kpt w7 (by omega)
  replace a3 := a3.kpt w7 (by omega)
  replace a4 := a4.kpt w7 (by omega)
  replace a5 := a5.kpt w7 (by omega)
  replace a6 := a6.kpt w7 (by omega)
  replace a7 := a7.kpt w7 (by omega)
  refine g_aload_n (pc := 68) hc dMo_init_68 rfl ?_
  refine g_bipush (v := nI 10) (pc := 69) hc dMo_init_69 (by decide) ?_
  refine g_newi (pc := 71) (t := kI) (N := 10) hc dMo_init_71 rfl xw_arrI (by decide) (by decide) (by decide) (by omega) (by omega) (fun n8 x8 u8 => ?_)
  have y8 := (u8 y (by omega)).trans g7
  have a8 : zA (y + 8) 10 [] n8 := ⟨_, x8, Nat.zero_le _, fun j hj => absurd hj (Nat.not_lt_zero j)⟩
  replace a1 := a1.kpt u8 (by omega)
  replace a2 := a2.kpt u8 (by omega)
  replace a3 := a3.kpt u8 (by omega)
  replace a4 := a4.kpt u8 (by omega)
  replace a5 := a5.kpt u8 (by omega)
  replace a6 := a6.kpt u8 (by omega)
  replace a7 := a7.kpt u8 (by omega)
  refine g_putF (pc := 73) hc dMo_init_73 hnm x_Mo_35 ft_Mo rfl rfl y8 rfl rfl (zlt rfl) (fun p8 g8 w8 => ?_)
  replace a1 := a1.kpt w8 (by omega)
  replace a2 := a2.kpt w8 (by omega)
  replace a3 := a3.kpt w8 (by omega)
  replace a4 := a4.kpt w8 (by omega)
  replace a5 := a5.kpt w8 (by omega)
  replace a6 := a6.kpt w8 (by omega)
  replace a7 := a7.kpt w8 (by omega)
  replace a8 := a8.kpt w8 (by omega)
  refine g_aload_n (pc := 76) hc dMo_init_76 rfl ?_
  refine g_sipush (v := nI 1100) (pc := 77) hc dMo_init_77 (by decide) ?_
  refine g_newi (pc := 80) (t := kI) (N := 1100) hc dMo_init_80 rfl xw_arrI (by decide) (by decide) (by decide) (by omega) (by omega) (fun n9 x9 u9 => ?_)
  have y9 := (u9 y (by omega)).trans g8
  have a9 : zA (y + 9) 1100 [] n9 := ⟨_, x9, Nat.zero_le _, fun j hj => absurd hj (Nat.not_lt_zero j)⟩
  replace a1 := a1.kpt u9 (by omega)
  replace a2 := a2.kpt u9 (by omega)
  replace a3 := a3.kpt u9 (by omega)
  replace a4 := a4.kpt u9 (by omega)
  replace a5 := a5.kpt u9 (by omega)
  replace a6 := a6.kpt u9 (by omega)
  replace a7 := a7.kpt u9 (by omega)
  replace a8 := a8.kpt u9 (by omega)
  refine g_putF (pc := 82) hc dMo_init_82 hnm x_Mo_38 ft_Mo rfl rfl y9 rfl rfl (zlt rfl) (fun p9 g9 w9 => ?_)
  replace a1 := a1.kpt w9 (by omega)
  replace a2 := a2.kpt w9 (by omega)
  replace a3 := a3.kpt w9 (by omega)
  replace a4 := a4.kpt w9 (by omega)
  replace a5 := a5.kpt w9 (by omega)
  replace a6 := a6.kpt w9 (by omega)
  replace a7 := a7.kpt w9 (by omega)
  replace a8 := a8.kpt w9 (by omega)
  replace a9 := a9.kpt w9 (by omega)
  refine g_aload_n (pc := 85) hc dMo_init_85 rfl ?_
  refine g_bipush (v := nI 10) (pc := 86) hc dMo_init_86 (by decide) ?_
  refine g_newi (pc := 88) (t := kI) (N := 10) hc dMo_init_88 rfl xw_arrI (by decide) (by decide) (by decide) (by omega) (by omega) (fun n10 x10 u10 => ?_)
  have y10 := (u10 y (by omega)).trans g9
  have a10 : zA (y + 10) 10 [] n10 := ⟨_, x10, Nat.zero_le _, fun j hj => absurd hj (Nat.not_lt_zero j)⟩
  replace a1 := a1.kpt u10 (by omega)
  replace a2 := a2.kpt u10 (by omega)
  replace a3 := a3.kpt u10 (by omega)
  replace a4 := a4.kpt u10 (by omega)
  replace a5 := a5.kpt u10 (by omega)
  replace a6 := a6.kpt u10 (by omega)
  replace a7 := a7.kpt u10 (by omega)
  replace a8 := a8.kpt u10 (by omega)
  replace a9 := a9.kpt u10 (by omega)
  refine g_putF (pc := 90) hc dMo_init_90 hnm x_Mo_41 ft_Mo rfl rfl y10 rfl rfl (zlt rfl) (fun p10 g10 w10 => ?_)
  replace a1 := a1.kpt w10 (by omega)
  replace a2 := a2.kpt w10 (by omega)
  replace a3 := a3.kpt w10 (by omega)
  replace a4 := a4.kpt w10 (by omega)
  replace a5 := a5.kpt w10 (by omega)
  replace a6 := a6.kpt w10 (by omega)
  replace a7 := a7.kpt w10 (by omega)
  replace a8 := a8.kpt w10 (by omega)
  replace a9 := a9.kpt w10 (by omega)
  replace a10 := a10.kpt w10 (by omega)
  refine g_aload_n (pc := 93) hc dMo_init_93 rfl ?_
  refine g_sipush (v := nI 1100) (pc := 94) hc dMo_init_94 (by decide) ?_
  refine g_newi (pc := 97) (t := kI) (N := 1100) hc dMo_init_97 rfl xw_arrI (by decide) (by decide) (by decide) (by omega) (by omega) (fun n11 x11 u11 => ?_)
  have y11 := (u11 y (by omega)).trans g10
  have a11 : zA (y + 11) 1100 [] n11 := ⟨_, x11, Nat.zero_le _, fun j hj => absurd hj (Nat.not_lt_zero j)⟩
  replace a1 := a1.kpt u11 (by omega)
  replace a2 := a2.kpt u11 (by omega)
  replace a3 := a3.kpt u11 (by omega)
  replace a4 := a4.kpt u11 (by omega)
  replace a5 := a5.kpt u11 (by omega)
  replace a6 := a6.kpt u11 (by omega)
  replace a7 := a7.kpt u11 (by omega)
  replace a8 := a8.kpt u11 (by omega)
  replace a9 := a9.kpt u11 (by omega)
  replace a10 := a10.kpt u11 (by omega)
  refine g_putF (pc := 99) hc dMo_init_99 hnm x_Mo_44 ft_Mo rfl rfl y11 rfl rfl (zlt rfl) (fun p11 g11 w11 => ?_)
  replace a1 := a1.kpt w11 (by omega)
  replace a2 := a2.kpt w11 (by omega)
  replace a3 := a3.kpt w11 (by omega)
  replace a4 := a4.kpt w11 (by omega)
  replace a5 := a5.kpt w11 (by omega)
  replace a6 := a6.kpt w11 (by omega)
  replace a7 := a7.kpt w11 (by omega)
  replace a8 := a8.kpt w11 (by omega)
  replace a9 := a9.kpt w11 (by omega)
  replace a10 := a10.kpt w11 (by omega)
  replace a11 := a11.kpt w11 (by omega)
  refine g_aload_n (pc := 102) hc dMo_init_102 rfl ?_
  refine g_bipush (v := nI 10) (pc := 103) hc dMo_init_103 (by decide) ?_
  refine g_newi (pc := 105) (t := kI) (N := 10) hc dMo_init_105 rfl xw_arrI (by decide) (by decide) (by decide) (by omega) (by omega) (fun n12 x12 u12 => ?_)
  have y12 := (u12 y (by omega)).trans g11
  have a12 : zA (y + 12) 10 [] n12 := ⟨_, x12, Nat.zero_le _, fun j hj => absurd hj (Nat.not_lt_zero j)⟩
  replace a1 := a1.kpt u12 (by omega)
  replace a2 := a2.kpt u12 (by omega)
  replace a3 := a3.kpt u12 (by omega)
  replace a4 := a4.kpt u12 (by omega)
  replace a5 := a5.kpt u12 (by omega)
  replace a6 := a6.kpt u12 (by omega)
  replace a7 := a7.kpt u12 (by omega)
  replace a8 := a8.kpt u12 (by omega)
  replace a9 := a9.kpt u12 (by omega)
  replace a10 := a10.kpt u12 (by omega)
  replace a11 := a11.kpt u12 (by omega)
  refine g_putF (pc := 107) hc dMo_init_107 hnm x_Mo_47 ft_Mo rfl rfl y12 rfl rfl (zlt rfl) (fun p12 g12 w12 => ?_)
  replace a1 := a1.kpt w12 (by omega)
  replace a2 := a2.kpt w12 (by omega)
  replace a3 := a3.kpt w12 (by omega)
  replace a4 := a4.kpt w12 (by omega)
  replace a5 := a5.kpt w12 (by omega)
  replace a6 := a6.kpt w12 (by omega)
  replace a7 := a7.kpt w12 (by omega)
  replace a8 := a8.kpt w12 (by omega)
  replace a9 := a9.kpt w12 (by omega)
  replace a10 := a10.kpt w12 (by omega)
  replace a11 := a11.kpt w12 (by omega)
  replace a12 := a12.kpt w12 (by omega)
  exact g_vret (pc := 110) hc he dMo_init_110 (by omega) (by omega) ⟨rfl, rfl, ⟨0, 0, 0, false, 0, 0, 0, ⟨g12, a1, a2, a3.G, a4, a5, ⟨a6.G, a7, a8, a9.G, a10, a11.G, a12⟩, (fun x (q : x ∈ ([] : List Nat)) => absurd q List.not_mem_nil), (fun q => absurd (show false = true from q) (by decide)), Nat.zero_le _, (fun x (q : x ∈ ([] : List (List Nat))) => absurd q List.not_mem_nil), (fun q => absurd rfl q), Nat.zero_le _, (fun x (q : x ∈ ([] : List zMsg)) => absurd q List.not_mem_nil)⟩, Nat.zero_le _, (fun x (q : x ∈ ([] : List Nat)) => absurd q List.not_mem_nil), ⟨fun q => absurd q (by decide), (fun q => absurd (show false = true from q) (by decide))⟩, by decide, (fun q => absurd (show false = true from q) (by decide)), (fun q => absurd (show false = true from q) (by decide))⟩, fun a q => (w12 a (by omega)).trans ((u12 a (by omega)).trans ((w11 a (by omega)).trans ((u11 a (by omega)).trans ((w10 a (by omega)).trans ((u10 a (by omega)).trans ((w9 a (by omega)).trans ((u9 a (by omega)).trans ((w8 a (by omega)).trans ((u8 a (by omega)).trans ((w7 a (by omega)).trans ((u7 a (by omega)).trans ((w6 a (by omega)).trans ((u6 a (by omega)).trans ((w5 a (by omega)).trans ((u5 a (by omega)).trans ((w4 a (by omega)).trans ((u4 a (by omega)).trans ((w3 a (by omega)).trans ((u3 a (by omega)).trans ((w2 a (by omega)).trans ((u2 a (by omega)).trans ((w1 a (by omega)).trans ((u1 a (by omega)).trans (q0 a (by omega)))))))))))))))))))))))))⟩
