set_option maxHeartbeats 4000000 in
set_option maxRecDepth 100000 in
theorem s_Mo_is (V : mm_V) {y sz la il ss rc : Nat} {th gr hs ln pt : Bool} {fi av be : Int32} {L A : List Nat} {E : zEv} {Ms : List zMsg} {v : Int64} {k n : Nat} {mem : mm_M} {nx : Nat} (h : zK y th gr hs ln sz la il pt ss rc fi av be L A E Ms mem) (hLb : ∀ b ∈ L, b < 256) (hn : n ≤ 8) (hk : k < 65536) : mm_S V yMo_is cMo_is 8 (some .boolean) 1 0 0 [.ref y, .int (nI k), .long v, .int (nI n), .int (nI L.length)] mem nx (fun r m x => r = some (.int (zb (zis L k (zsay v n)))) ∧ mem = m ∧ nx = x) := by
  obtain ⟨hm, hT⟩ := id h
  obtain ⟨hL, hS, hR, hRs, hA, hMs, hW⟩ := id hT
  refine mm_met (by decide) (Nat.le_of_ble_eq_true rfl) ?_
  intro X hc he hnm
  have hnl : (zsay v n).length = n := by simp [zsay]
  obtain ⟨f, ha, hle, hf⟩ := id hL
  have J74 : ∀ lk : Bool, lk = zis L k (zsay v n) → mm_G V X 8 74 [(6, .int (zb lk))] [] mem nx 0 0 := by
    intro lk e
    refine g_iload (pc := 74) hc dMo_is_74 rfl ?_
    exact g_zret (pc := 76) hc he dMo_is_76 (zb_z _) (Nat.le_refl _) (Nat.le_refl _) ⟨by rw [e], rfl, rfl⟩
  have loop : ∀ (j i : Nat) (lk : Bool), j + i = n → (lk && zhi L (k + i) ((zsay v n).drop i)) = zis L k (zsay v n) → (lk = true → k + n ≤ L.length) → mm_G V X 8 19 [(0, .ref y), (1, .int (nI k)), (2, .long v), (4, .int (nI n)), (5, .int (nI L.length)), (6, .int (zb (lk))), (7, .int (nI (i)))] [] mem nx 0 0 := by
    intro j
    induction j with
    | zero =>
      intro i lk e1 e2 e3
      obtain rfl : i = n := by omega
      refine g_iload (pc := 19) hc dMo_is_19 rfl ?_
      refine g_iload (pc := 21) hc dMo_is_21 rfl ?_
      refine g_icmp_ge (tgt := 74) (pc := 23) hc dMo_is_23 (by decide) (fun _ => ?_) (fun c23 => absurd (nI_le (by omega) (by omega)) c23)
      refine g_lv (lv' := [(6, .int (zb lk))]) ⟨rfl, trivial⟩ ?_
      exact J74 lk (by rw [← e2, List.drop_eq_nil_iff.mpr (by omega), zhi, Bool.and_true])
    | succ j ih =>
      intro i lk e1 e2 e3
      have e4 : (zsay v n).drop i = zby v (7 - i) :: (zsay v n).drop (i + 1) := by
        rw [zdrop_cons (by omega)]
        congr 1
        simp [zsay, List.getD_eq_getElem?_getD, show i < n by omega]
      rw [e4, zhi] at e2
      refine g_iload (pc := 19) hc dMo_is_19 rfl ?_
      refine g_iload (pc := 21) hc dMo_is_21 rfl ?_
      refine g_icmp_ge (tgt := 74) (pc := 23) hc dMo_is_23 (by decide) (fun c23 => absurd c23 (nI_ge (by omega) (by omega))) (fun _ => ?_)
      refine g_iload (pc := 26) hc dMo_is_26 rfl ?_
      refine g_if_eq (tgt := 74) (pc := 28) hc dMo_is_28 (by decide) (fun c28 => ?_) (fun c28 => ?_)
      · simp (disch := omega) only [nI_leI, nI_ltI, nI_eq, nI_eq0, nI_lt0, nI_0le, nI_0lt, nI_le0, zb_0] at c28
        refine g_lv (lv' := [(6, .int (zb lk))]) ⟨rfl, trivial⟩ ?_
        exact J74 lk (by rw [← e2, c28]; rfl)
      · simp (disch := omega) only [nI_leI, nI_ltI, nI_eq, nI_eq0, nI_lt0, nI_0le, nI_0lt, nI_le0, zb_0] at c28
        have hlk : lk = true := by simpa using c28
        refine g_aload_n (pc := 31) hc dMo_is_31 rfl ?_
        refine g_get (pc := 32) hc dMo_is_32 x_Mo_13 (by assumption) (by rfl) ?_
        refine g_iload_n (pc := 35) hc dMo_is_35 rfl ?_
        refine g_iload (pc := 36) hc dMo_is_36 rfl ?_
        refine g_iadd (pc := 38) hc dMo_is_38 ?_
        rw [nI_add]
        have d28 := e3 hlk
        refine g_iald (pc := 39) (t := kI) hc dMo_is_39 rfl ha (vp_in_nI (show k + i < 210 by omega) (by decide)) ?_
        rw [nI_clamp (by omega), hf _ (by omega)]
        have hb9 : L.getD (k + i) 0 < 256 := hLb _ (zmem_getD (by omega))
        have hb8 := zhigh_lt hb9
        have hb7 := zby_lt v (7 - i)
        refine g_callS (pc := 40) hc dMo_is_40 x_Mo_108 (s_Mo_high V hb9) (Nat.le_of_ble_eq_true rfl) (Nat.le_of_ble_eq_true rfl) (Nat.le_of_ble_eq_true rfl) (Nat.le_of_ble_eq_true rfl) rfl rfl (Nat.le_of_ble_eq_true rfl) (fun r m x hp => ?_)
        obtain ⟨rfl, rfl, rfl⟩ := hp
        refine g_lload_n (pc := 43) hc dMo_is_43 rfl ?_
        refine g_bipush (v := nI 56) (pc := 44) hc dMo_is_44 (by decide) ?_
        refine g_bipush (v := nI 8) (pc := 46) hc dMo_is_46 (by decide) ?_
        refine g_iload (pc := 48) hc dMo_is_48 rfl ?_
        refine g_imul (pc := 50) hc dMo_is_50 ?_
        rw [pk_mul]
        refine g_isub (pc := 51) hc dMo_is_51 ?_
        rw [pk_sub (by omega), show 56 - 8 * i = 8 * (7 - i) by omega]
        refine g_lshr (pc := 52) hc dMo_is_52 rfl ?_
        refine g_l2i (pc := 53) hc dMo_is_53 rfl ?_
        refine g_sipush (v := nI 255) (pc := 54) hc dMo_is_54 (by decide) ?_
        refine g_iand (pc := 57) hc dMo_is_57 ?_
        rw [zsar v (show 7 - i < 8 by omega)]
        refine g_icmp_ne (tgt := 65) (pc := 58) hc dMo_is_58 (by decide) (fun c58 => ?_) (fun c58 => ?_)
        · simp (disch := omega) only [nI_leI, nI_ltI, nI_eq, nI_eq0, nI_lt0, nI_0le, nI_0lt, nI_le0, zb_0] at c58
          refine g_iconst (v := nI 0) (pc := 65) hc dMo_is_65 (by decide) ?_
          refine g_istore (pc := 66) hc dMo_is_66 (by decide) rfl ?_
          refine g_iinc (pc := 68) hc dMo_is_68 rfl (zinc _) (by decide) rfl ?_
          refine g_goto (tgt := 19) (pc := 71) hc dMo_is_71 (by decide) ?_
          refine g_lv (lv' := [(0, .ref y), (1, .int (nI k)), (2, .long v), (4, .int (nI n)), (5, .int (nI L.length)), (6, .int (zb (false))), (7, .int (nI (i + 1)))]) ⟨rfl, rfl, rfl, rfl, rfl, rfl, rfl, trivial⟩ ?_
          exact ih (i + 1) false (by omega) (by rw [← e2, beq_eq_false_iff_ne.mpr c58]; simp) (fun q => by cases q)
        · simp (disch := omega) only [nI_leI, nI_ltI, nI_eq, nI_eq0, nI_lt0, nI_0le, nI_0lt, nI_le0, zb_0] at c58
          refine g_iconst (v := nI 1) (pc := 61) hc dMo_is_61 (by decide) ?_
          refine g_goto (tgt := 66) (pc := 62) hc dMo_is_62 (by decide) ?_
          refine g_istore (pc := 66) hc dMo_is_66 (by decide) rfl ?_
          refine g_iinc (pc := 68) hc dMo_is_68 rfl (zinc _) (by decide) rfl ?_
          refine g_goto (tgt := 19) (pc := 71) hc dMo_is_71 (by decide) ?_
          refine g_lv (lv' := [(0, .ref y), (1, .int (nI k)), (2, .long v), (4, .int (nI n)), (5, .int (nI L.length)), (6, .int (zb (true))), (7, .int (nI (i + 1)))]) ⟨rfl, rfl, rfl, rfl, rfl, rfl, rfl, trivial⟩ ?_
          exact ih (i + 1) true (by omega) (by rw [← e2, hlk, c58, beq_self_eq_true, Bool.true_and, Bool.true_and, Bool.true_and, Nat.add_assoc]) (fun _ => d28)
  have J14 : ∀ lk : Bool, lk = decide (k + n ≤ L.length) → mm_G V X 8 14 [(0, .ref y), (1, .int (nI k)), (2, .long v), (4, .int (nI n)), (5, .int (nI L.length))] [.int (zb lk)] mem nx 0 0 := by
    intro lk e
    refine g_istore (pc := 14) hc dMo_is_14 (by decide) rfl ?_
    refine g_iconst (v := nI 0) (pc := 16) hc dMo_is_16 (by decide) ?_
    refine g_istore (pc := 17) hc dMo_is_17 (by decide) rfl ?_
    refine g_lv (lv' := [(0, .ref y), (1, .int (nI k)), (2, .long v), (4, .int (nI n)), (5, .int (nI L.length)), (6, .int (zb (lk))), (7, .int (nI (0)))]) ⟨rfl, rfl, rfl, rfl, rfl, rfl, rfl, trivial⟩ ?_
    exact loop n 0 lk rfl (by rw [zis, hnl, e]; rfl) (fun q => by rw [e] at q; exact of_decide_eq_true q)
  refine g_iload_n (pc := 0) hc dMo_is_0 rfl ?_
  refine g_iload (pc := 1) hc dMo_is_1 rfl ?_
  refine g_iadd (pc := 3) hc dMo_is_3 ?_
  rw [nI_add]
  refine g_iload (pc := 4) hc dMo_is_4 rfl ?_
  refine g_icmp_gt (tgt := 13) (pc := 6) hc dMo_is_6 (by decide) (fun c6 => ?_) (fun c6 => ?_)
  · simp (disch := omega) only [nI_leI, nI_ltI, nI_eq, nI_eq0, nI_lt0, nI_0le, nI_0lt, nI_le0, zb_0] at c6
    refine g_iconst (v := nI 0) (pc := 13) hc dMo_is_13 (by decide) ?_
    refine g_lv (lv' := [(0, .ref y), (1, .int (nI k)), (2, .long v), (4, .int (nI n)), (5, .int (nI L.length))]) ⟨rfl, rfl, rfl, rfl, rfl, trivial⟩ ?_
    exact J14 false (by symm; simpa using c6)
  · simp (disch := omega) only [nI_leI, nI_ltI, nI_eq, nI_eq0, nI_lt0, nI_0le, nI_0lt, nI_le0, zb_0] at c6
    refine g_iconst (v := nI 1) (pc := 9) hc dMo_is_9 (by decide) ?_
    refine g_goto (tgt := 14) (pc := 10) hc dMo_is_10 (by decide) ?_
    refine g_lv (lv' := [(0, .ref y), (1, .int (nI k)), (2, .long v), (4, .int (nI n)), (5, .int (nI L.length))]) ⟨rfl, rfl, rfl, rfl, rfl, trivial⟩ ?_
    exact J14 true (by symm; simpa using c6)
set_option maxHeartbeats 4000000 in
set_option maxRecDepth 100000 in
theorem s_Mo_dotted (V : mm_V) {y sz la il ss rc : Nat} {th gr hs ln pt : Bool} {fi av be : Int32} {L A : List Nat} {E : zEv} {Ms : List zMsg} {k most : Nat} {lo : Bool} {mem : mm_M} {nx : Nat} (h : zK y th gr hs ln sz la il pt ss rc fi av be L A E Ms mem) (hLb : ∀ b ∈ L, b < 256) (hL2 : L.length ≤ 200) (hk : k ≤ L.length) (hmo : most < 65536) : mm_S V yMo_dotted cMo_dotted 8 (some .int) 3 0 0 [.ref y, .int (nI k), .int (nI L.length), .int (nI most), .int (zb lo)] mem nx (fun r m x => r = some (.int (zoI (znE (if lo then zs t_lm else zs t_dm) L k most))) ∧ mem = m ∧ nx = x) := by
  obtain ⟨hm, hT⟩ := id h
  obtain ⟨hL, hS, hR, hRs, hA, hMs, hW⟩ := id hT
  refine mm_met (by decide) (Nat.le_of_ble_eq_true rfl) ?_
  intro X hc he hnm
  obtain ⟨f, ha, hle, hf⟩ := id hL
  have J135 : ∀ (i : Nat), k ≤ i → i ≤ L.length → (if zbd L k i then none else some (i - k)) = zne (if lo then zs t_lm else zs t_dm) true (L.drop k) → mm_G V X 8 135 [(0, .ref y), (1, .int (nI k)), (2, .int (nI L.length)), (3, .int (nI most)), (4, .int (zb lo)), (5, .int (nI (i)))] [] mem nx 0 0 := by
    intro i h1 h2 e
    refine g_iload (pc := 135) hc dMo_dotted_135 rfl ?_
    refine g_iload_n (pc := 137) hc dMo_dotted_137 rfl ?_
    refine g_icmp_eq (tgt := 163) (pc := 138) hc dMo_dotted_138 (by decide) (fun c138 => ?_) (fun c138 => ?_)
    · simp (disch := omega) only [nI_leI, nI_ltI, nI_eq, nI_eq0, nI_lt0, nI_0le, nI_0lt, nI_le0, zb_0] at c138
      have eb : zbd L k i = true := by simp [zbd, c138]
      refine g_iconst (v := -1) (pc := 163) hc dMo_dotted_163 (by decide) ?_
      refine g_goto (tgt := 169) (pc := 164) hc dMo_dotted_164 (by decide) ?_
      exact g_iret (pc := 169) hc he dMo_dotted_169 (Nat.le_refl _) (Nat.le_refl _) ⟨by rw [znE, ← e, eb]; rfl, rfl, rfl⟩
    · simp (disch := omega) only [nI_leI, nI_ltI, nI_eq, nI_eq0, nI_lt0, nI_0le, nI_0lt, nI_le0, zb_0] at c138
      refine g_iload (pc := 141) hc dMo_dotted_141 rfl ?_
      refine g_iload_n (pc := 143) hc dMo_dotted_143 rfl ?_
      refine g_isub (pc := 144) hc dMo_dotted_144 ?_
      rw [pk_sub h1]
      refine g_iload_n (pc := 145) hc dMo_dotted_145 rfl ?_
      refine g_icmp_gt (tgt := 163) (pc := 146) hc dMo_dotted_146 (by decide) (fun c146 => ?_) (fun c146 => ?_)
      · simp (disch := omega) only [nI_leI, nI_ltI, nI_eq, nI_eq0, nI_lt0, nI_0le, nI_0lt, nI_le0, zb_0] at c146
        refine g_iconst (v := -1) (pc := 163) hc dMo_dotted_163 (by decide) ?_
        refine g_goto (tgt := 169) (pc := 164) hc dMo_dotted_164 (by decide) ?_
        exact g_iret (pc := 169) hc he dMo_dotted_169 (Nat.le_refl _) (Nat.le_refl _) ⟨by rw [znE, ← e]; cases zbd L k i <;> simp [zoI, show most < i - k from c146], rfl, rfl⟩
      · simp (disch := omega) only [nI_leI, nI_ltI, nI_eq, nI_eq0, nI_lt0, nI_0le, nI_0lt, nI_le0, zb_0] at c146
        refine g_aload_n (pc := 149) hc dMo_dotted_149 rfl ?_
        refine g_get (pc := 150) hc dMo_dotted_150 x_Mo_13 (by assumption) (by rfl) ?_
        refine g_iload (pc := 153) hc dMo_dotted_153 rfl ?_
        refine g_iconst (v := nI 1) (pc := 155) hc dMo_dotted_155 (by decide) ?_
        refine g_isub (pc := 156) hc dMo_dotted_156 ?_
        rw [pk_sub (show 1 ≤ i by omega)]
        refine g_iald (pc := 157) (t := kI) hc dMo_dotted_157 rfl ha (vp_in_nI (show i - 1 < 210 by omega) (by decide)) ?_
        rw [nI_clamp (by omega), hf _ (by omega)]
        have hb9 : L.getD (i - 1) 0 < 256 := hLb _ (zmem_getD (by omega))
        refine g_bipush (v := nI 46) (pc := 158) hc dMo_dotted_158 (by decide) ?_
        refine g_icmp_ne (tgt := 167) (pc := 160) hc dMo_dotted_160 (by decide) (fun c160 => ?_) (fun c160 => ?_)
        · simp (disch := omega) only [nI_leI, nI_ltI, nI_eq, nI_eq0, nI_lt0, nI_0le, nI_0lt, nI_le0, zb_0] at c160
          have eb : zbd L k i = false := by rw [zbd, beq_eq_false_iff_ne.mpr c160]; simpa using c138
          refine g_iload (pc := 167) hc dMo_dotted_167 rfl ?_
          exact g_iret (pc := 169) hc he dMo_dotted_169 (Nat.le_refl _) (Nat.le_refl _) ⟨by rw [znE, ← e, eb]; simp only [Bool.false_eq_true, if_false]; rw [if_neg (by omega), zoI, show k + (i - k) = i by omega], rfl, rfl⟩
        · simp (disch := omega) only [nI_leI, nI_ltI, nI_eq, nI_eq0, nI_lt0, nI_0le, nI_0lt, nI_le0, zb_0] at c160
          have eb : zbd L k i = true := by rw [zbd, c160]; simp
          refine g_iconst (v := -1) (pc := 163) hc dMo_dotted_163 (by decide) ?_
          refine g_goto (tgt := 169) (pc := 164) hc dMo_dotted_164 (by decide) ?_
          exact g_iret (pc := 169) hc he dMo_dotted_169 (Nat.le_refl _) (Nat.le_refl _) ⟨by rw [znE, ← e, eb]; rfl, rfl, rfl⟩
  have loop : ∀ (rest : List Nat) (i : Nat), L.drop i = rest → k ≤ i → i ≤ L.length → (zne (if lo then zs t_lm else zs t_dm) (zbd L k i) rest).map (· + (i - k)) = zne (if lo then zs t_lm else zs t_dm) true (L.drop k) → mm_G V X 8 6 [(0, .ref y), (1, .int (nI k)), (2, .int (nI L.length)), (3, .int (nI most)), (4, .int (zb lo)), (5, .int (nI (i))), (6, .int (zb true))] [] mem nx 0 0 := by
    intro rest
    induction rest with
    | nil =>
      intro i e1 h1 h2 e2
      have e3 : L.length ≤ i := List.drop_eq_nil_iff.mp e1
      have ex : (if zbd L k i then none else some (i - k)) = zne (if lo then zs t_lm else zs t_dm) true (L.drop k) := by rw [← e2, zne]; cases zbd L k i <;> simp
      refine g_iload (pc := 6) hc dMo_dotted_6 rfl ?_
      refine g_if_eq (tgt := 135) (pc := 8) hc dMo_dotted_8 (by decide) (fun c8 => absurd c8 (by decide)) (fun _ => ?_)
      refine g_iload (pc := 11) hc dMo_dotted_11 rfl ?_
      refine g_iload_n (pc := 13) hc dMo_dotted_13 rfl ?_
      refine g_icmp_ge (tgt := 33) (pc := 14) hc dMo_dotted_14 (by decide) (fun _ => ?_) (fun c14 => absurd (nI_le (by omega) (by omega)) c14)
      refine g_iconst (v := nI 0) (pc := 33) hc dMo_dotted_33 (by decide) ?_
      refine g_istore (pc := 34) hc dMo_dotted_34 (by decide) rfl ?_
      refine g_iload (pc := 36) hc dMo_dotted_36 rfl ?_
      refine g_if_eq (tgt := 69) (pc := 38) hc dMo_dotted_38 (by decide) (fun _ => ?_) (fun c38 => absurd (by decide) c38)
      refine g_iload (pc := 69) hc dMo_dotted_69 rfl ?_
      refine g_iload_n (pc := 71) hc dMo_dotted_71 rfl ?_
      refine g_icmp_ge (tgt := 113) (pc := 72) hc dMo_dotted_72 (by decide) (fun _ => ?_) (fun c72 => absurd (nI_le (by omega) (by omega)) c72)
      refine g_iconst (v := nI 0) (pc := 113) hc dMo_dotted_113 (by decide) ?_
      refine g_istore (pc := 114) hc dMo_dotted_114 (by decide) rfl ?_
      refine g_iload (pc := 116) hc dMo_dotted_116 rfl ?_
      refine g_if_eq (tgt := 128) (pc := 118) hc dMo_dotted_118 (by decide) (fun _ => ?_) (fun c118 => absurd (by decide) c118)
      refine g_iload (pc := 128) hc dMo_dotted_128 rfl ?_
      refine g_istore (pc := 130) hc dMo_dotted_130 (by decide) rfl ?_
      refine g_goto (tgt := 6) (pc := 132) hc dMo_dotted_132 (by decide) ?_
      refine g_iload (pc := 6) hc dMo_dotted_6 rfl ?_
      refine g_if_eq (tgt := 135) (pc := 8) hc dMo_dotted_8 (by decide) (fun _ => ?_) (fun c8 => absurd (by decide) c8)
      refine g_lv (lv' := [(0, .ref y), (1, .int (nI k)), (2, .int (nI L.length)), (3, .int (nI most)), (4, .int (zb lo)), (5, .int (nI (i)))]) ⟨rfl, rfl, rfl, rfl, rfl, rfl, trivial⟩ ?_
      exact J135 i h1 h2 ex
    | cons b rest ih =>
      intro i e1 h1 h2 e2
      have e3 : i < L.length := by
        rcases Nat.lt_or_ge i L.length with z | z
        · exact z
        · rw [List.drop_eq_nil_iff.mpr z] at e1; cases e1
      have e4 := zdrop_cons e3
      rw [e1] at e4
      obtain ⟨e5, e6⟩ := List.cons.inj e4
      have hb8 : b < 256 := by rw [e5]; exact hLb _ (zmem_getD e3)
      have go : zne (if lo then zs t_lm else zs t_dm) (zbd L k i) (b :: rest) = (zne (if lo then zs t_lm else zs t_dm) (b == 46) rest).map (· + 1) → mm_G V X 8 114 [(0, .ref y), (1, .int (nI k)), (2, .int (nI L.length)), (3, .int (nI most)), (4, .int (zb lo)), (5, .int (nI (i)))] [.int (zb true)] mem nx 0 0 := by
        intro ez
        refine g_istore (pc := 114) hc dMo_dotted_114 (by decide) rfl ?_
        refine g_iload (pc := 116) hc dMo_dotted_116 rfl ?_
        refine g_if_eq (tgt := 128) (pc := 118) hc dMo_dotted_118 (by decide) (fun c118 => absurd c118 (by decide)) (fun _ => ?_)
        refine g_iload (pc := 121) hc dMo_dotted_121 rfl ?_
        refine g_iconst (v := nI 1) (pc := 123) hc dMo_dotted_123 (by decide) ?_
        refine g_iadd (pc := 124) hc dMo_dotted_124 ?_
        rw [nI_add]
        refine g_goto (tgt := 130) (pc := 125) hc dMo_dotted_125 (by decide) ?_
        refine g_istore (pc := 130) hc dMo_dotted_130 (by decide) rfl ?_
        refine g_goto (tgt := 6) (pc := 132) hc dMo_dotted_132 (by decide) ?_
        refine g_lv (lv' := [(0, .ref y), (1, .int (nI k)), (2, .int (nI L.length)), (3, .int (nI most)), (4, .int (zb lo)), (5, .int (nI (i + 1))), (6, .int (zb true))]) ⟨rfl, rfl, rfl, rfl, rfl, rfl, rfl, trivial⟩ ?_
        exact ih (i + 1) (by rw [e6]) (by omega) (by omega) (by rw [← e2, ez, show zbd L k (i + 1) = (b == 46) by rw [zbd, Nat.add_sub_cancel, ← e5, decide_eq_false (by omega), Bool.false_or]]; cases zne (if lo = true then zs t_lm else zs t_dm) (b == 46) rest <;> simp; omega)
      have no : zne (if lo then zs t_lm else zs t_dm) (zbd L k i) (b :: rest) = (if zbd L k i then none else some 0) → mm_G V X 8 114 [(0, .ref y), (1, .int (nI k)), (2, .int (nI L.length)), (3, .int (nI most)), (4, .int (zb lo)), (5, .int (nI (i)))] [.int (zb false)] mem nx 0 0 := by
        intro ez
        refine g_istore (pc := 114) hc dMo_dotted_114 (by decide) rfl ?_
        refine g_iload (pc := 116) hc dMo_dotted_116 rfl ?_
        refine g_if_eq (tgt := 128) (pc := 118) hc dMo_dotted_118 (by decide) (fun _ => ?_) (fun c118 => absurd (by decide) c118)
        refine g_iload (pc := 128) hc dMo_dotted_128 rfl ?_
        refine g_istore (pc := 130) hc dMo_dotted_130 (by decide) rfl ?_
        refine g_goto (tgt := 6) (pc := 132) hc dMo_dotted_132 (by decide) ?_
        refine g_iload (pc := 6) hc dMo_dotted_6 rfl ?_
        refine g_if_eq (tgt := 135) (pc := 8) hc dMo_dotted_8 (by decide) (fun _ => ?_) (fun c8 => absurd (by decide) c8)
        refine g_lv (lv' := [(0, .ref y), (1, .int (nI k)), (2, .int (nI L.length)), (3, .int (nI most)), (4, .int (zb lo)), (5, .int (nI (i)))]) ⟨rfl, rfl, rfl, rfl, rfl, rfl, trivial⟩ ?_
        exact J135 i h1 h2 (by rw [← e2, ez]; cases zbd L k i <;> simp)
      refine g_iload (pc := 6) hc dMo_dotted_6 rfl ?_
      refine g_if_eq (tgt := 135) (pc := 8) hc dMo_dotted_8 (by decide) (fun c8 => absurd c8 (by decide)) (fun _ => ?_)
      refine g_iload (pc := 11) hc dMo_dotted_11 rfl ?_
      refine g_iload_n (pc := 13) hc dMo_dotted_13 rfl ?_
      refine g_icmp_ge (tgt := 33) (pc := 14) hc dMo_dotted_14 (by decide) (fun c14 => absurd c14 (nI_ge (by omega) (by omega))) (fun _ => ?_)
      refine g_aload_n (pc := 17) hc dMo_dotted_17 rfl ?_
      refine g_get (pc := 18) hc dMo_dotted_18 x_Mo_13 (by assumption) (by rfl) ?_
      refine g_iload (pc := 21) hc dMo_dotted_21 rfl ?_
      refine g_iald (pc := 23) (t := kI) hc dMo_dotted_23 rfl ha (vp_in_nI (show i < 210 by omega) (by decide)) ?_
      rw [nI_clamp (by omega), hf _ (by omega), ← e5]
      refine g_bipush (v := nI 46) (pc := 24) hc dMo_dotted_24 (by decide) ?_
      refine g_icmp_ne (tgt := 33) (pc := 26) hc dMo_dotted_26 (by decide) (fun c26 => ?_) (fun c26 => ?_)
      · simp (disch := omega) only [nI_leI, nI_ltI, nI_eq, nI_eq0, nI_lt0, nI_0le, nI_0lt, nI_le0, zb_0] at c26
        refine g_iconst (v := nI 0) (pc := 33) hc dMo_dotted_33 (by decide) ?_
        refine g_istore (pc := 34) hc dMo_dotted_34 (by decide) rfl ?_
        refine g_iload (pc := 36) hc dMo_dotted_36 rfl ?_
        refine g_if_eq (tgt := 69) (pc := 38) hc dMo_dotted_38 (by decide) (fun _ => ?_) (fun c38 => absurd (by decide) c38)
        refine g_iload (pc := 69) hc dMo_dotted_69 rfl ?_
        refine g_iload_n (pc := 71) hc dMo_dotted_71 rfl ?_
        refine g_icmp_ge (tgt := 113) (pc := 72) hc dMo_dotted_72 (by decide) (fun c72 => absurd c72 (nI_ge (by omega) (by omega))) (fun _ => ?_)
        refine g_iload (pc := 75) hc dMo_dotted_75 rfl ?_
        refine g_if_eq (tgt := 96) (pc := 77) hc dMo_dotted_77 (by decide) (fun c77 => ?_) (fun c77 => ?_)
        · simp (disch := omega) only [nI_leI, nI_ltI, nI_eq, nI_eq0, nI_lt0, nI_0le, nI_0lt, nI_le0, zb_0] at c77
          refine g_aload_n (pc := 96) hc dMo_dotted_96 rfl ?_
          refine g_get (pc := 97) hc dMo_dotted_97 x_Mo_13 (by assumption) (by rfl) ?_
          refine g_iload (pc := 100) hc dMo_dotted_100 rfl ?_
          refine g_iald (pc := 102) (t := kI) hc dMo_dotted_102 rfl ha (vp_in_nI (show i < 210 by omega) (by decide)) ?_
          rw [nI_clamp (by omega), hf _ (by omega), ← e5]
          refine g_callS (pc := 103) hc dMo_dotted_103 x_Mo_116 (s_Mo_isDomain V hb8) (Nat.le_of_ble_eq_true rfl) (Nat.le_of_ble_eq_true rfl) (Nat.le_of_ble_eq_true rfl) (Nat.le_of_ble_eq_true rfl) rfl rfl (Nat.le_of_ble_eq_true rfl) (fun r m x hp => ?_)
          obtain ⟨rfl, rfl, rfl⟩ := hp
          refine g_if_eq (tgt := 113) (pc := 106) hc dMo_dotted_106 (by decide) (fun c106 => ?_) (fun c106 => ?_)
          · simp (disch := omega) only [nI_leI, nI_ltI, nI_eq, nI_eq0, nI_lt0, nI_0le, nI_0lt, nI_le0, zb_0] at c106
            refine g_iconst (v := nI 0) (pc := 113) hc dMo_dotted_113 (by decide) ?_
            refine g_lv (lv' := [(0, .ref y), (1, .int (nI k)), (2, .int (nI L.length)), (3, .int (nI most)), (4, .int (zb lo)), (5, .int (nI (i)))]) ⟨rfl, rfl, rfl, rfl, rfl, rfl, trivial⟩ ?_
            exact no (by rw [zne, if_neg (fun z => c26 z.1), if_pos ⟨c26, by rw [c77]; exact (zDm_eq b hb8).symm.trans c106⟩])
          · simp (disch := omega) only [nI_leI, nI_ltI, nI_eq, nI_eq0, nI_lt0, nI_0le, nI_0lt, nI_le0, zb_0] at c106
            have d106 : zDm b = true := by simpa using c106
            refine g_iconst (v := nI 1) (pc := 109) hc dMo_dotted_109 (by decide) ?_
            refine g_goto (tgt := 114) (pc := 110) hc dMo_dotted_110 (by decide) ?_
            refine g_lv (lv' := [(0, .ref y), (1, .int (nI k)), (2, .int (nI L.length)), (3, .int (nI most)), (4, .int (zb lo)), (5, .int (nI (i)))]) ⟨rfl, rfl, rfl, rfl, rfl, rfl, trivial⟩ ?_
            exact go (by rw [zne, if_neg (fun z => c26 z.1), if_neg (fun z => by rw [c77] at z; exact absurd ((zDm_eq b hb8).trans z.2) (by rw [d106]; decide))])
        · simp (disch := omega) only [nI_leI, nI_ltI, nI_eq, nI_eq0, nI_lt0, nI_0le, nI_0lt, nI_le0, zb_0] at c77
          have d77 : lo = true := by simpa using c77
          refine g_aload_n (pc := 80) hc dMo_dotted_80 rfl ?_
          refine g_get (pc := 81) hc dMo_dotted_81 x_Mo_13 (by assumption) (by rfl) ?_
          refine g_iload (pc := 84) hc dMo_dotted_84 rfl ?_
          refine g_iald (pc := 86) (t := kI) hc dMo_dotted_86 rfl ha (vp_in_nI (show i < 210 by omega) (by decide)) ?_
          rw [nI_clamp (by omega), hf _ (by omega), ← e5]
          refine g_callS (pc := 87) hc dMo_dotted_87 x_Mo_119 (s_Mo_isLocal V hb8) (Nat.le_of_ble_eq_true rfl) (Nat.le_of_ble_eq_true rfl) (Nat.le_of_ble_eq_true rfl) (Nat.le_of_ble_eq_true rfl) rfl rfl (Nat.le_of_ble_eq_true rfl) (fun r m x hp => ?_)
          obtain ⟨rfl, rfl, rfl⟩ := hp
          refine g_if_eq (tgt := 113) (pc := 90) hc dMo_dotted_90 (by decide) (fun c90 => ?_) (fun c90 => ?_)
          · simp (disch := omega) only [nI_leI, nI_ltI, nI_eq, nI_eq0, nI_lt0, nI_0le, nI_0lt, nI_le0, zb_0] at c90
            refine g_iconst (v := nI 0) (pc := 113) hc dMo_dotted_113 (by decide) ?_
            refine g_lv (lv' := [(0, .ref y), (1, .int (nI k)), (2, .int (nI L.length)), (3, .int (nI most)), (4, .int (zb lo)), (5, .int (nI (i)))]) ⟨rfl, rfl, rfl, rfl, rfl, rfl, trivial⟩ ?_
            exact no (by rw [zne, if_neg (fun z => c26 z.1), if_pos ⟨c26, by rw [d77]; exact (zLo_eq b hb8).symm.trans c90⟩])
          · simp (disch := omega) only [nI_leI, nI_ltI, nI_eq, nI_eq0, nI_lt0, nI_0le, nI_0lt, nI_le0, zb_0] at c90
            have d90 : zLo b = true := by simpa using c90
            refine g_goto (tgt := 109) (pc := 93) hc dMo_dotted_93 (by decide) ?_
            refine g_iconst (v := nI 1) (pc := 109) hc dMo_dotted_109 (by decide) ?_
            refine g_goto (tgt := 114) (pc := 110) hc dMo_dotted_110 (by decide) ?_
            refine g_lv (lv' := [(0, .ref y), (1, .int (nI k)), (2, .int (nI L.length)), (3, .int (nI most)), (4, .int (zb lo)), (5, .int (nI (i)))]) ⟨rfl, rfl, rfl, rfl, rfl, rfl, trivial⟩ ?_
            exact go (by rw [zne, if_neg (fun z => c26 z.1), if_neg (fun z => by rw [d77] at z; exact absurd ((zLo_eq b hb8).trans z.2) (by rw [d90]; decide))])
      · simp (disch := omega) only [nI_leI, nI_ltI, nI_eq, nI_eq0, nI_lt0, nI_0le, nI_0lt, nI_le0, zb_0] at c26
        refine g_iconst (v := nI 1) (pc := 29) hc dMo_dotted_29 (by decide) ?_
        refine g_goto (tgt := 34) (pc := 30) hc dMo_dotted_30 (by decide) ?_
        refine g_istore (pc := 34) hc dMo_dotted_34 (by decide) rfl ?_
        refine g_iload (pc := 36) hc dMo_dotted_36 rfl ?_
        refine g_if_eq (tgt := 69) (pc := 38) hc dMo_dotted_38 (by decide) (fun c38 => absurd c38 (by decide)) (fun _ => ?_)
        refine g_iload (pc := 41) hc dMo_dotted_41 rfl ?_
        refine g_iload_n (pc := 43) hc dMo_dotted_43 rfl ?_
        refine g_icmp_le (tgt := 65) (pc := 44) hc dMo_dotted_44 (by decide) (fun c44 => ?_) (fun c44 => ?_)
        · simp (disch := omega) only [nI_leI, nI_ltI, nI_eq, nI_eq0, nI_lt0, nI_0le, nI_0lt, nI_le0, zb_0] at c44
          have eb : zbd L k i = true := by rw [zbd, decide_eq_true (show i = k by omega)]; rfl
          refine g_iconst (v := nI 0) (pc := 65) hc dMo_dotted_65 (by decide) ?_
          refine g_goto (tgt := 114) (pc := 66) hc dMo_dotted_66 (by decide) ?_
          refine g_lv (lv' := [(0, .ref y), (1, .int (nI k)), (2, .int (nI L.length)), (3, .int (nI most)), (4, .int (zb lo)), (5, .int (nI (i)))]) ⟨rfl, rfl, rfl, rfl, rfl, rfl, trivial⟩ ?_
          exact no (by rw [zne, if_pos ⟨c26, eb⟩, eb]; rfl)
        · simp (disch := omega) only [nI_leI, nI_ltI, nI_eq, nI_eq0, nI_lt0, nI_0le, nI_0lt, nI_le0, zb_0] at c44
          refine g_aload_n (pc := 47) hc dMo_dotted_47 rfl ?_
          refine g_get (pc := 48) hc dMo_dotted_48 x_Mo_13 (by assumption) (by rfl) ?_
          refine g_iload (pc := 51) hc dMo_dotted_51 rfl ?_
          refine g_iconst (v := nI 1) (pc := 53) hc dMo_dotted_53 (by decide) ?_
          refine g_isub (pc := 54) hc dMo_dotted_54 ?_
          rw [pk_sub (show 1 ≤ i by omega)]
          refine g_iald (pc := 55) (t := kI) hc dMo_dotted_55 rfl ha (vp_in_nI (show i - 1 < 210 by omega) (by decide)) ?_
          rw [nI_clamp (by omega), hf _ (by omega)]
          have hb9 : L.getD (i - 1) 0 < 256 := hLb _ (zmem_getD (by omega))
          refine g_bipush (v := nI 46) (pc := 56) hc dMo_dotted_56 (by decide) ?_
          refine g_icmp_eq (tgt := 65) (pc := 58) hc dMo_dotted_58 (by decide) (fun c58 => ?_) (fun c58 => ?_)
          · simp (disch := omega) only [nI_leI, nI_ltI, nI_eq, nI_eq0, nI_lt0, nI_0le, nI_0lt, nI_le0, zb_0] at c58
            have eb : zbd L k i = true := by rw [zbd, c58]; simp
            refine g_iconst (v := nI 0) (pc := 65) hc dMo_dotted_65 (by decide) ?_
            refine g_goto (tgt := 114) (pc := 66) hc dMo_dotted_66 (by decide) ?_
            refine g_lv (lv' := [(0, .ref y), (1, .int (nI k)), (2, .int (nI L.length)), (3, .int (nI most)), (4, .int (zb lo)), (5, .int (nI (i)))]) ⟨rfl, rfl, rfl, rfl, rfl, rfl, trivial⟩ ?_
            exact no (by rw [zne, if_pos ⟨c26, eb⟩, eb]; rfl)
          · simp (disch := omega) only [nI_leI, nI_ltI, nI_eq, nI_eq0, nI_lt0, nI_0le, nI_0lt, nI_le0, zb_0] at c58
            have eb : zbd L k i = false := by rw [zbd, beq_eq_false_iff_ne.mpr c58, decide_eq_false (show ¬ i = k by omega)]; rfl
            refine g_iconst (v := nI 1) (pc := 61) hc dMo_dotted_61 (by decide) ?_
            refine g_goto (tgt := 114) (pc := 62) hc dMo_dotted_62 (by decide) ?_
            refine g_lv (lv' := [(0, .ref y), (1, .int (nI k)), (2, .int (nI L.length)), (3, .int (nI most)), (4, .int (zb lo)), (5, .int (nI (i)))]) ⟨rfl, rfl, rfl, rfl, rfl, rfl, trivial⟩ ?_
            exact go (by rw [zne, if_neg (fun z => by rw [eb] at z; exact absurd z.2 (by decide)), if_neg (fun z => z.1 c26)])
  refine g_iload_n (pc := 0) hc dMo_dotted_0 rfl ?_
  refine g_istore (pc := 1) hc dMo_dotted_1 (by decide) rfl ?_
  refine g_iconst (v := nI 1) (pc := 3) hc dMo_dotted_3 (by decide) ?_
  refine g_istore (pc := 4) hc dMo_dotted_4 (by decide) rfl ?_
  refine g_lv (lv' := [(0, .ref y), (1, .int (nI k)), (2, .int (nI L.length)), (3, .int (nI most)), (4, .int (zb lo)), (5, .int (nI (k))), (6, .int (zb true))]) ⟨rfl, rfl, rfl, rfl, rfl, rfl, rfl, trivial⟩ ?_
  exact loop (L.drop k) k rfl (Nat.le_refl _) hk (by rw [Nat.sub_self, show zbd L k k = true by simp [zbd]]; cases zne (if lo then zs t_lm else zs t_dm) true (L.drop k) <;> rfl)
