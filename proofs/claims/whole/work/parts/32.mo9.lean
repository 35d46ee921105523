theorem zC.R {y : Nat} {th gr ln : Bool} {L A : List Nat} {E : zEv} {Ms : List zMsg} {T : List Nat} {tc td : Bool} {tn : Nat} {m : mm_M} (h : zC y th gr ln 0 0 L A E Ms ln m) (hd : ln = true → T = [] ∧ tc = false ∧ td = false ∧ tn = 0 ∧ 0 < E.2.2.length) : zR y (A, ([], false), (T, tc, td, tn), E, Ms, th, gr, ln) m := by
  obtain ⟨il, pt, ss, fi, av, be, hK, hil⟩ := h
  have eL : zLT (A, (([] : List Nat), false), (T, tc, td, tn), E, Ms, th, gr, ln) = [] := by
    cases ln with
    | false => rfl
    | true => exact (hd rfl).1
  have eC : zCR (A, (([] : List Nat), false), (T, tc, td, tn), E, Ms, th, gr, ln) = false := by
    cases ln with
    | false => rfl
    | true => exact (hd rfl).2.1
  refine ⟨0, il, ss, pt, fi, av, be, ?_, ?_, ?_, ?_, by decide, ?_, fun q => ?_⟩
  · rw [eL]; exact ⟨hK.1, hK.2.lin hK.2.1.nil⟩
  · rw [eL]; exact Nat.zero_le _
  · rw [eL]; exact fun x q => absurd q List.not_mem_nil
  · rw [eC]; exact ⟨fun q => absurd q (by decide), fun q => absurd q (by decide)⟩
  · rw [eC]; exact fun q => absurd q (by decide)
  · have q : ln = true := q
    obtain ⟨h1, h2, h3, h4, h5⟩ := hd q
    subst h4
    exact ⟨hil q, fun (z : 0 < 0) => absurd z (by decide), fun _ => h3, h5, rfl, rfl⟩
theorem zmem_take {L : List Nat} {n b : Nat} (h : b ∈ L.take n) : b ∈ L := List.mem_of_mem_take h
set_option maxHeartbeats 4000000 in
set_option maxRecDepth 100000 in
theorem s_Mo_come (V : mm_V) {y tn : Nat} {A Ln T : List Nat} {lc tc td : Bool} {E : zEv} {Ms : List zMsg} {ses gr tx : Bool} {b : Nat} {mem : mm_M} {nx : Nat} (h : zR y (A, (Ln, lc), (T, tc, td, tn), E, Ms, ses, gr, tx) mem) (hb : b < 256) : mm_S V yMo_come cMo_come 4 none 7 0 0 [.ref y, .int (nI b)] mem nx (fun r m x => r = none ∧ nx = x ∧ zR y (zstep (A, (Ln, lc), (T, tc, td, tn), E, Ms, ses, gr, tx) b) m ∧ zsame y (y + 13) mem m) := by
  refine mm_met (by decide) (Nat.le_of_ble_eq_true rfl) ?_
  intro X hc he hnm
  obtain ⟨la, il, ss, pt, fi, av, be, hK, q1, q2, q3, q4, q5, q6⟩ := id h
  have hm := hK.1
  have J35 : ∀ en : Bool, tx = false → en = zlrE lc b → mm_G V X 4 35 [(0, .ref y), (1, .int (nI b)), (2, .int (zb en))] [] mem nx 0 0 := by
    intro en etx een
    subst etx
    have hK : zK y ses gr E.2.1 false Ln.length la il pt ss E.2.2.length fi av be Ln A E Ms mem := hK
    have q1 : Ln.length ≤ 202 := q1
    have q2 : ∀ b ∈ Ln, b < 256 := q2
    have q5 : lc = true → Ln ≠ [] := q5
    refine g_aload_n (pc := 35) hc dMo_come_35 rfl ?_
    refine g_iload_n (pc := 36) hc dMo_come_36 rfl ?_
    refine g_callV (pc := 37) hc dMo_come_37 x_Mo_89 (s_Mo_keep V hK hb rfl q1) cl_Mo (hK.1) (Nat.le_of_ble_eq_true rfl) (Nat.le_of_ble_eq_true rfl) (Nat.le_of_ble_eq_true rfl) (Nat.le_of_ble_eq_true rfl) rfl rfl (Nat.le_of_ble_eq_true rfl) (fun r m x hp => ?_)
    obtain ⟨rfl, rfl, h1, hs1⟩ := hp
    have hm1 := h1.1
    refine g_aload_n (pc := 40) hc dMo_come_40 rfl ?_
    refine g_iload_n (pc := 41) hc dMo_come_41 rfl ?_
    refine g_put (pc := 42) hc dMo_come_42 x_Mo_79 ft_Mo rfl hm1 rfl rfl (zlt rfl) (fun m2 h20 o2 => ?_)
    have h2 : m2 y = some (.inr (kMo, fMo y ses gr E.2.1 false (((Ln ++ [b]).take 202).length) b il pt ss E.2.2.length fi av be A.length Ms.length)) := h20
    refine g_iload_n (pc := 45) hc dMo_come_45 rfl ?_
    refine g_if_ne (tgt := 50) (pc := 46) hc dMo_come_46 (by decide) (fun c46 => ?_) (fun c46 => ?_)
    · simp (disch := omega) only [nI_leI, nI_ltI, nI_eq, nI_eq0, nI_lt0, nI_0le, nI_0lt, nI_le0, zb_0] at c46
      have c46 : en = true := by simpa using c46
      refine g_aload_n (pc := 50) hc dMo_come_50 rfl ?_
      refine g_get (pc := 51) hc dMo_come_51 x_Mo_76 h2 (by rfl) ?_
      refine g_iconst (v := nI 2) (pc := 54) hc dMo_come_54 (by decide) ?_
      have hcr : lc = true := by rw [een] at c46; simp [zlrE] at c46; exact c46.2
      have hb10 : b = 10 := by rw [een] at c46; simp [zlrE] at c46; exact c46.1
      have hpos : 1 ≤ Ln.length := by
        rcases Nat.eq_zero_or_pos Ln.length with z | z
        · exact absurd (List.length_eq_zero_iff.mp z) (q5 hcr)
        · exact z
      have hlen : ((Ln ++ [b]).take 202).length = min 202 (Ln.length + 1) := by simp
      refine g_isub (pc := 55) hc dMo_come_55 ?_
      rw [pk_sub (show 2 ≤ ((Ln ++ [b]).take 202).length by omega)]
      refine g_istore_n (pc := 56) hc dMo_come_56 (by decide) rfl ?_
      refine g_aload_n (pc := 57) hc dMo_come_57 rfl ?_
      refine g_iconst (v := nI 0) (pc := 58) hc dMo_come_58 (by decide) ?_
      refine g_put (pc := 59) hc dMo_come_59 x_Mo_76 ft_Mo rfl h2 rfl rfl (zlt rfl) (fun m3 h30 o3 => ?_)
      have h3 : m3 y = some (.inr (kMo, fMo y ses gr E.2.1 false 0 b il pt ss E.2.2.length fi av be A.length Ms.length)) := h30
      refine g_aload_n (pc := 62) hc dMo_come_62 rfl ?_
      refine g_iconst (v := nI 0) (pc := 63) hc dMo_come_63 (by decide) ?_
      refine g_put (pc := 64) hc dMo_come_64 x_Mo_79 ft_Mo rfl h3 rfl rfl (zlt rfl) (fun m4 h40 o4 => ?_)
      have h4 : m4 y = some (.inr (kMo, fMo y ses gr E.2.1 false 0 0 il pt ss E.2.2.length fi av be A.length Ms.length)) := h40
      have hT4 : zT y ((Ln ++ [b]).take 202) A E Ms ss m4 := ((h1.2.kpt o2).kpt o3).kpt o4
      have ezl : zlrE lc b = true := by rw [hcr, hb10]; rfl
      refine g_iload_n (pc := 67) hc dMo_come_67 rfl ?_
      refine g_bipush (v := nI 100) (pc := 68) hc dMo_come_68 (by decide) ?_
      refine g_icmp_le (tgt := 97) (pc := 70) hc dMo_come_70 (by decide) (fun c70 => ?_) (fun c70 => ?_)
      · simp (disch := omega) only [nI_leI, nI_ltI, nI_eq, nI_eq0, nI_lt0, nI_0le, nI_0lt, nI_le0, zb_0] at c70
        refine g_aload_n (pc := 97) hc dMo_come_97 rfl ?_
        refine g_iload_n (pc := 98) hc dMo_come_98 rfl ?_
        have hl201 : Ln.length ≤ 101 := by omega
        have eLd : ((Ln ++ [b]).take 202).take (((Ln ++ [b]).take 202).length - 2) = Ln.dropLast := by
          rw [List.take_of_length_le (show (Ln ++ [b]).length ≤ 202 by simp; omega), List.length_append, List.dropLast_eq_take]
          rw [show Ln.length + [b].length - 2 = Ln.length - 1 by simp]
          rw [List.take_append_of_le_length (by omega)]
        have eln : ((Ln ++ [b]).take 202).length - 2 = Ln.dropLast.length := by simp; omega
        have hK4 : zK y ses gr E.2.1 false 0 0 il pt ss E.2.2.length fi av be Ln.dropLast A E Ms m4 := ⟨h4, hT4.lin (by rw [← eLd]; exact hT4.1.take)⟩
        rw [eln]
        refine g_callV (pc := 99) hc dMo_come_99 x_Mo_96 (s_Mo_command V hK4 (fun b hb => q2 b ((List.dropLast_sublist _).subset hb)) (by rw [← eln]; omega) rfl) cl_Mo (hK4.1) (Nat.le_of_ble_eq_true rfl) (Nat.le_of_ble_eq_true rfl) (Nat.le_of_ble_eq_true rfl) (Nat.le_of_ble_eq_true rfl) rfl rfl (Nat.le_of_ble_eq_true rfl) (fun r m x hp => ?_)
        obtain ⟨rfl, rfl, h5, hs5⟩ := hp
        refine g_vret (pc := 102) hc he dMo_come_102 (Nat.le_refl _) (Nat.le_refl _) ⟨rfl, rfl, ?_, fun a q => (hs5 a q).trans ((o4 a (by omega)).trans ((o3 a (by omega)).trans ((o2 a (by omega)).trans (hs1 a q))))⟩
        have ez : zstep (A, (Ln, lc), (T, tc, td, tn), E, Ms, ses, gr, false) b = (zans A (zrep gr E Ln.dropLast).1, ([], false), (if (zrep gr E Ln.dropLast).2.2.2.1 then ([], false, false, 0) else (T, tc, td, tn)), (zrep gr E Ln.dropLast).2.1, Ms, ses && !(zrep gr E Ln.dropLast).2.2.2.2, (zrep gr E Ln.dropLast).2.2.1, (zrep gr E Ln.dropLast).2.2.2.1) := by
          unfold zstep
          simp only [Bool.false_eq_true, if_false]
          rw [ezl]
          rfl
        rw [ez]
        by_cases hD : (zrep gr E Ln.dropLast).2.2.2.1 = true
        · rw [if_pos hD]
          exact h5.R (fun _ => ⟨rfl, rfl, rfl, rfl, zrep_data hD⟩)
        · rw [if_neg hD]
          exact h5.R (fun q => absurd q hD)
      · simp (disch := omega) only [nI_leI, nI_ltI, nI_eq, nI_eq0, nI_lt0, nI_0le, nI_0lt, nI_le0, zb_0] at c70
        refine g_aload_n (pc := 73) hc dMo_come_73 rfl ?_
        refine g_ldc2 (pc := 74) hc dMo_come_74 x_Mo_92 ?_
        refine g_bipush (v := nI 8) (pc := 77) hc dMo_come_77 (by decide) ?_
        have hK4 : zK y ses gr E.2.1 false 0 0 il pt ss E.2.2.length fi av be ((Ln ++ [b]).take 202) A E Ms m4 := ⟨h4, hT4⟩
        refine g_callV (pc := 79) hc dMo_come_79 x_Mo_60 (s_Mo_say V (n := 8) hK4 (by decide)) cl_Mo (hK4.1) (Nat.le_of_ble_eq_true rfl) (Nat.le_of_ble_eq_true rfl) (Nat.le_of_ble_eq_true rfl) (Nat.le_of_ble_eq_true rfl) rfl rfl (Nat.le_of_ble_eq_true rfl) (fun r m x hp => ?_)
        obtain ⟨rfl, rfl, h5, hs5⟩ := hp
        refine g_aload_n (pc := 82) hc dMo_come_82 rfl ?_
        refine g_ldc2 (pc := 83) hc dMo_come_83 x_Mo_94 ?_
        refine g_iconst (v := nI 4) (pc := 86) hc dMo_come_86 (by decide) ?_
        refine g_callV (pc := 87) hc dMo_come_87 x_Mo_60 (s_Mo_say V (n := 4) h5 (by decide)) cl_Mo (h5.1) (Nat.le_of_ble_eq_true rfl) (Nat.le_of_ble_eq_true rfl) (Nat.le_of_ble_eq_true rfl) (Nat.le_of_ble_eq_true rfl) rfl rfl (Nat.le_of_ble_eq_true rfl) (fun r m x hp => ?_)
        obtain ⟨rfl, rfl, h6, hs6⟩ := hp
        refine g_aload_n (pc := 90) hc dMo_come_90 rfl ?_
        refine g_callV (pc := 91) hc dMo_come_91 x_Mo_66 (s_Mo_end V h6) cl_Mo (h6.1) (Nat.le_of_ble_eq_true rfl) (Nat.le_of_ble_eq_true rfl) (Nat.le_of_ble_eq_true rfl) (Nat.le_of_ble_eq_true rfl) rfl rfl (Nat.le_of_ble_eq_true rfl) (fun r m x hp => ?_)
        obtain ⟨rfl, rfl, h7, hs7⟩ := hp
        rw [zans2, show zsay 3832616198842838816 8 ++ zsay 7813585267171786752 4 = zs t_500l by decide] at h7
        refine g_goto (tgt := 102) (pc := 94) hc dMo_come_94 (by decide) ?_
        refine g_vret (pc := 102) hc he dMo_come_102 (Nat.le_refl _) (Nat.le_refl _) ⟨rfl, rfl, ?_, fun a q => (hs7 a q).trans ((hs6 a q).trans ((hs5 a q).trans ((o4 a (by omega)).trans ((o3 a (by omega)).trans ((o2 a (by omega)).trans (hs1 a q))))))⟩
        have er : zrep gr E Ln.dropLast = (zs t_500l, E, gr, false, false) := by rw [zrep, if_pos (by simp; omega)]
        have ez : zstep (A, (Ln, lc), (T, tc, td, tn), E, Ms, ses, gr, false) b = (zans A (zs t_500l), ([], false), (T, tc, td, tn), E, Ms, ses, gr, false) := by
          unfold zstep
          simp only [Bool.false_eq_true, if_false]
          rw [ezl, er]
          simp
        rw [ez]
        exact zC.R (zC.of h7) (fun q => absurd q (by decide))
    · simp (disch := omega) only [nI_leI, nI_ltI, nI_eq, nI_eq0, nI_lt0, nI_0le, nI_0lt, nI_le0, zb_0] at c46
      refine g_vret (pc := 49) hc he dMo_come_49 (Nat.le_refl _) (Nat.le_refl _) ⟨rfl, rfl, ?_, fun a q => (o2 a (by omega)).trans (hs1 a q)⟩
      have ez : zstep (A, (Ln, lc), (T, tc, td, tn), E, Ms, ses, gr, false) b = (A, ((Ln ++ [b]).take 202, b == 13), (T, tc, td, tn), E, Ms, ses, gr, false) := by
        unfold zstep
        simp only [Bool.false_eq_true, if_false]
        rw [← een, c46]
        rfl
      rw [ez]
      refine ⟨b, il, ss, pt, fi, av, be, ⟨h2, h1.2.kpt o2⟩, ?_, ?_, ?_, hb, ?_, (fun q => absurd (show false = true from q) (by decide))⟩
      · show ((Ln ++ [b]).take 202).length ≤ 202
        simp; omega
      · show ∀ x ∈ ((Ln ++ [b]).take 202), x < 256
        exact fun x hx => zlt_app q2 hb x (List.mem_of_mem_take hx)
      · show b = 13 ↔ (b == 13) = true
        simp
      · intro _
        show ((Ln ++ [b]).take 202) ≠ []
        simp
  have J20 : ∀ en : Bool, en = (b == 10 && zCR (A, (Ln, lc), (T, tc, td, tn), E, Ms, ses, gr, tx)) → mm_G V X 4 20 [(0, .ref y), (1, .int (nI b))] [.int (zb en)] mem nx 0 0 := by
    intro en een
    refine g_istore_n (pc := 20) hc dMo_come_20 (by decide) rfl ?_
    refine g_aload_n (pc := 21) hc dMo_come_21 rfl ?_
    refine g_get (pc := 22) hc dMo_come_22 x_Mo_82 hm (by rfl) ?_
    refine g_if_eq (tgt := 35) (pc := 25) hc dMo_come_25 (by decide) (fun c25 => ?_) (fun c25 => ?_)
    · simp (disch := omega) only [nI_leI, nI_ltI, nI_eq, nI_eq0, nI_lt0, nI_0le, nI_0lt, nI_le0, zb_0] at c25
      have c25 : tx = false := c25
      refine g_lv (lv' := [(0, .ref y), (1, .int (nI b)), (2, .int (zb en))]) ⟨rfl, rfl, rfl, trivial⟩ ?_
      exact J35 en c25 (by rw [een, c25]; rfl)
    · simp (disch := omega) only [nI_leI, nI_ltI, nI_eq, nI_eq0, nI_lt0, nI_0le, nI_0lt, nI_le0, zb_0] at c25
      have etx : tx = true := by simpa using c25
      subst een
      refine g_aload_n (pc := 28) hc dMo_come_28 rfl ?_
      refine g_iload_n (pc := 29) hc dMo_come_29 rfl ?_
      refine g_iload_n (pc := 30) hc dMo_come_30 rfl ?_
      subst etx
      refine g_callV (pc := 31) hc dMo_come_31 x_Mo_85 (s_Mo_mail V h hb) cl_Mo (hm) (Nat.le_of_ble_eq_true rfl) (Nat.le_of_ble_eq_true rfl) (Nat.le_of_ble_eq_true rfl) (Nat.le_of_ble_eq_true rfl) rfl rfl (Nat.le_of_ble_eq_true rfl) (fun r m x hp => ?_)
      obtain ⟨rfl, rfl, h1, hs1⟩ := hp
      exact g_vret (pc := 34) hc he dMo_come_34 (Nat.le_refl _) (Nat.le_refl _) ⟨rfl, rfl, h1, hs1⟩
  refine g_iload_n (pc := 0) hc dMo_come_0 rfl ?_
  refine g_bipush (v := nI 10) (pc := 1) hc dMo_come_1 (by decide) ?_
  refine g_icmp_ne (tgt := 19) (pc := 3) hc dMo_come_3 (by decide) (fun c3 => ?_) (fun c3 => ?_)
  · simp (disch := omega) only [nI_leI, nI_ltI, nI_eq, nI_eq0, nI_lt0, nI_0le, nI_0lt, nI_le0, zb_0] at c3
    have e9 : (b == 10 && zCR (A, (Ln, lc), (T, tc, td, tn), E, Ms, ses, gr, tx)) = false := by rw [beq_eq_false_iff_ne.mpr c3]; rfl
    refine g_iconst (v := nI 0) (pc := 19) hc dMo_come_19 (by decide) ?_
    exact J20 false e9.symm
  · simp (disch := omega) only [nI_leI, nI_ltI, nI_eq, nI_eq0, nI_lt0, nI_0le, nI_0lt, nI_le0, zb_0] at c3
    refine g_aload_n (pc := 6) hc dMo_come_6 rfl ?_
    refine g_get (pc := 7) hc dMo_come_7 x_Mo_79 hm (by rfl) ?_
    refine g_bipush (v := nI 13) (pc := 10) hc dMo_come_10 (by decide) ?_
    refine g_icmp_ne (tgt := 19) (pc := 12) hc dMo_come_12 (by decide) (fun c12 => ?_) (fun c12 => ?_)
    · simp (disch := omega) only [nI_leI, nI_ltI, nI_eq, nI_eq0, nI_lt0, nI_0le, nI_0lt, nI_le0, zb_0] at c12
      have e9 : (b == 10 && zCR (A, (Ln, lc), (T, tc, td, tn), E, Ms, ses, gr, tx)) = false := by
        have : zCR (A, (Ln, lc), (T, tc, td, tn), E, Ms, ses, gr, tx) = false := by
          cases hz : zCR (A, (Ln, lc), (T, tc, td, tn), E, Ms, ses, gr, tx) with
          | false => rfl
          | true => exact absurd (q3.mpr hz) c12
        rw [this]; simp
      refine g_iconst (v := nI 0) (pc := 19) hc dMo_come_19 (by decide) ?_
      exact J20 false e9.symm
    · simp (disch := omega) only [nI_leI, nI_ltI, nI_eq, nI_eq0, nI_lt0, nI_0le, nI_0lt, nI_le0, zb_0] at c12
      have e9 : (b == 10 && zCR (A, (Ln, lc), (T, tc, td, tn), E, Ms, ses, gr, tx)) = true := by rw [q3.mp c12, c3]; rfl
      refine g_iconst (v := nI 1) (pc := 15) hc dMo_come_15 (by decide) ?_
      refine g_goto (tgt := 20) (pc := 16) hc dMo_come_16 (by decide) ?_
      exact J20 true e9.symm
set_option maxHeartbeats 4000000 in
set_option maxRecDepth 100000 in
theorem s_Mo_send (V : mm_V) {y : Nat} {σ : zSt} {v : Int64} {n : Int32} {mem : mm_M} {nx : Nat} (h : zR y σ mem) : mm_S V yMo_send cMo_send 5 (some .boolean) 8 0 0 [.ref y, .long v, .int n] mem nx (fun r m x => r = some (.int (zb (zok n && zses σ))) ∧ nx = x ∧ zR y (if zok n && zses σ then zfeed σ (zbs v n.toNatClampNeg) else σ) m ∧ zsame y (y + 13) mem m) := by
  refine mm_met (by decide) (Nat.le_of_ble_eq_true rfl) ?_
  intro X hc he hnm
  have hm : ∃ fs : List Value, mem y = some (.inr (kMo, fs)) ∧ fs[0]? = some (.int (zb (zses σ))) := by
    obtain ⟨la, il, ss, pt, fi, av, be, hK, -⟩ := h
    exact ⟨_, hK.1, rfl⟩
  obtain ⟨fs, hm, hf0⟩ := hm
  have loop : ∀ (c : Nat) (ρ : zSt) (m1 : mm_M), c ≤ 8 → zR y ρ m1 → zsame y (y + 13) mem m1 → (zok n && zses σ) = true → zfeed ρ (zbs v c) = zfeed σ (zbs v n.toNatClampNeg) → mm_G V X 5 25 [(0, .ref y), (1, .long v), (4, .int (nI (c) - 1))] [] m1 nx 0 0 := by
    intro c
    induction c with
    | zero =>
      intro ρ m1 h8 h1 hs1 eo e2
      refine g_iload (pc := 25) hc dMo_send_25 rfl ?_
      refine g_if_lt (tgt := 59) (pc := 27) hc dMo_send_27 (by decide) (fun _ => ?_) (fun c27 => absurd (by decide) c27)
      refine g_iconst (v := nI 1) (pc := 59) hc dMo_send_59 (by decide) ?_
      exact g_zret (pc := 60) hc he dMo_send_60 rfl (Nat.le_refl _) (Nat.le_refl _) ⟨by rw [eo]; rfl, rfl, by rw [eo, if_pos rfl, ← e2]; exact h1, hs1⟩
    | succ c ih =>
      intro ρ m1 h8 h1 hs1 eo e2
      have hm1 : ∃ fs : List Value, m1 y = some (.inr (kMo, fs)) ∧ fs[0]? = some (.int (zb (zses ρ))) := by
        obtain ⟨la, il, ss, pt, fi, av, be, hK, -⟩ := id h1
        exact ⟨_, hK.1, rfl⟩
      obtain ⟨fs1, hm1, hf1⟩ := hm1
      rw [nI_pred]
      refine g_iload (pc := 25) hc dMo_send_25 rfl ?_
      refine g_if_lt (tgt := 59) (pc := 27) hc dMo_send_27 (by decide) (fun c27 => absurd c27 (nI_pos (by omega))) (fun _ => ?_)
      refine g_aload_n (pc := 30) hc dMo_send_30 rfl ?_
      refine g_get (pc := 31) hc dMo_send_31 x_Mo_7 hm1 hf1 ?_
      refine g_if_eq (tgt := 59) (pc := 34) hc dMo_send_34 (by decide) (fun c34 => ?_) (fun c34 => ?_)
      · simp (disch := omega) only [nI_leI, nI_ltI, nI_eq, nI_eq0, nI_lt0, nI_0le, nI_0lt, nI_le0, zb_0] at c34
        refine g_iconst (v := nI 1) (pc := 59) hc dMo_send_59 (by decide) ?_
        exact g_zret (pc := 60) hc he dMo_send_60 rfl (Nat.le_refl _) (Nat.le_refl _) ⟨by rw [eo]; rfl, rfl, by rw [eo, if_pos rfl, ← e2, zbs, zfeed_stop c34]; exact h1, hs1⟩
      · simp (disch := omega) only [nI_leI, nI_ltI, nI_eq, nI_eq0, nI_lt0, nI_0le, nI_0lt, nI_le0, zb_0] at c34
        have d34 : zses ρ = true := by simpa using c34
        refine g_aload_n (pc := 37) hc dMo_send_37 rfl ?_
        refine g_lload_n (pc := 38) hc dMo_send_38 rfl ?_
        refine g_bipush (v := nI 8) (pc := 39) hc dMo_send_39 (by decide) ?_
        refine g_iload (pc := 41) hc dMo_send_41 rfl ?_
        refine g_imul (pc := 43) hc dMo_send_43 ?_
        rw [pk_mul]
        refine g_lshr (pc := 44) hc dMo_send_44 rfl ?_
        refine g_l2i (pc := 45) hc dMo_send_45 rfl ?_
        refine g_sipush (v := nI 255) (pc := 46) hc dMo_send_46 (by decide) ?_
        refine g_iand (pc := 49) hc dMo_send_49 ?_
        rw [zsar v (show c < 8 by omega)]
        obtain ⟨A1, ⟨Ln1, lc1⟩, ⟨T1, tc1, td1, tn1⟩, E1, Ms1, ses1, gr1, tx1⟩ := ρ
        refine g_callV (pc := 50) hc dMo_send_50 x_Mo_73 (s_Mo_come V h1 (zby_lt v c)) cl_Mo (hm1) (Nat.le_of_ble_eq_true rfl) (Nat.le_of_ble_eq_true rfl) (Nat.le_of_ble_eq_true rfl) (Nat.le_of_ble_eq_true rfl) rfl rfl (Nat.le_of_ble_eq_true rfl) (fun r m x hp => ?_)
        obtain ⟨rfl, rfl, h2, hs2⟩ := hp
        refine g_iinc (pc := 53) (v := nI c - 1) hc dMo_send_53 rfl (zdec _) (by decide) rfl ?_
        refine g_goto (tgt := 25) (pc := 56) hc dMo_send_56 (by decide) ?_
        refine g_lv (lv' := [(0, .ref y), (1, .long v), (4, .int (nI (c) - 1))]) ⟨rfl, rfl, rfl, trivial⟩ ?_
        exact ih _ _ (by omega) h2 (hs1.tr hs2) eo (by rw [← e2, zbs, zfeed_go d34])
  refine g_iload_n (pc := 0) hc dMo_send_0 rfl ?_
  refine g_iconst (v := nI 1) (pc := 1) hc dMo_send_1 (by decide) ?_
  refine g_icmp_lt (tgt := 18) (pc := 2) hc dMo_send_2 (by decide) (fun c2 => ?_) (fun c2 => ?_)
  · have e9 : (zok n && zses σ) = false := by
      have : zok n = false := by unfold zok; simp only [decide_eq_false_iff_not]; exact fun q => Int32.not_lt.mpr q.1 c2
      rw [this]; rfl
    refine g_iconst (v := nI 0) (pc := 18) hc dMo_send_18 (by decide) ?_
    exact g_zret (pc := 19) hc he dMo_send_19 rfl (Nat.le_refl _) (Nat.le_refl _) ⟨by rw [e9]; rfl, rfl, by rw [e9]; exact h, zsame.rf⟩
  · refine g_iload_n (pc := 5) hc dMo_send_5 rfl ?_
    refine g_bipush (v := nI 8) (pc := 6) hc dMo_send_6 (by decide) ?_
    refine g_icmp_gt (tgt := 18) (pc := 8) hc dMo_send_8 (by decide) (fun c8 => ?_) (fun c8 => ?_)
    · have e9 : (zok n && zses σ) = false := by
        have : zok n = false := by unfold zok; simp only [decide_eq_false_iff_not]; exact fun q => Int32.not_lt.mpr q.2 c8
        rw [this]; rfl
      refine g_iconst (v := nI 0) (pc := 18) hc dMo_send_18 (by decide) ?_
      exact g_zret (pc := 19) hc he dMo_send_19 rfl (Nat.le_refl _) (Nat.le_refl _) ⟨by rw [e9]; rfl, rfl, by rw [e9]; exact h, zsame.rf⟩
    · refine g_aload_n (pc := 11) hc dMo_send_11 rfl ?_
      refine g_get (pc := 12) hc dMo_send_12 x_Mo_7 hm hf0 ?_
      refine g_if_ne (tgt := 20) (pc := 15) hc dMo_send_15 (by decide) (fun c15 => ?_) (fun c15 => ?_)
      · simp (disch := omega) only [nI_leI, nI_ltI, nI_eq, nI_eq0, nI_lt0, nI_0le, nI_0lt, nI_le0, zb_0] at c15
        have d15 : zses σ = true := by simpa using c15
        have e8 : (zok n && zses σ) = true := by
          have : zok n = true := by unfold zok; simp only [decide_eq_true_eq]; exact ⟨Int32.not_lt.mp c2, Int32.not_lt.mp c8⟩
          rw [this, d15]; rfl
        refine g_iload_n (pc := 20) hc dMo_send_20 rfl ?_
        refine g_iconst (v := nI 1) (pc := 21) hc dMo_send_21 (by decide) ?_
        obtain ⟨k, hk, rfl⟩ := nI_of (show ¬ n < 0 from fun q => c2 (zlt1 q))
        rw [nI_ltI (by omega) (by decide)] at c2
        rw [nI_ltI (by decide) (by omega)] at c8
        refine g_isub (pc := 22) hc dMo_send_22 ?_
        refine g_istore (pc := 23) hc dMo_send_23 (by decide) rfl ?_
        refine g_lv (lv' := [(0, .ref y), (1, .long v), (4, .int (nI (k) - 1))]) ⟨rfl, rfl, rfl, trivial⟩ ?_
        exact loop k σ mem (by omega) h zsame.rf e8 (by rw [nI_clamp (by omega)])
      · simp (disch := omega) only [nI_leI, nI_ltI, nI_eq, nI_eq0, nI_lt0, nI_0le, nI_0lt, nI_le0, zb_0] at c15
        have e9 : (zok n && zses σ) = false := by rw [c15]; simp
        refine g_iconst (v := nI 0) (pc := 18) hc dMo_send_18 (by decide) ?_
        exact g_zret (pc := 19) hc he dMo_send_19 rfl (Nat.le_refl _) (Nat.le_refl _) ⟨by rw [e9]; rfl, rfl, by rw [e9]; exact h, zsame.rf⟩
