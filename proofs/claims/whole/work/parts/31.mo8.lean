set_option maxHeartbeats 4000000 in
set_option maxRecDepth 100000 in
theorem s_Mo_mail (V : mm_V) {y tn : Nat} {A Ln T : List Nat} {lc tc td : Bool} {E : zEv} {Ms : List zMsg} {ses gr : Bool} {b : Nat} {mem : mm_M} {nx : Nat} (h : zR y (A, (Ln, lc), (T, tc, td, tn), E, Ms, ses, gr, true) mem) (hb : b < 256) : mm_S V yMo_mail cMo_mail 4 none 4 0 0 [.ref y, .int (nI b), .int (zb (ztL tc b))] mem nx (fun r m x => r = none ∧ nx = x ∧ zR y (zstep (A, (Ln, lc), (T, tc, td, tn), E, Ms, ses, gr, true) b) m ∧ zsame y (y + 13) mem m) := by
  refine mm_met (by decide) (Nat.le_of_ble_eq_true rfl) ?_
  intro X hc he hnm
  obtain ⟨la, il, ss, pt, fi, av, be, hK, q1, q2, q3, q4, q5, q6⟩ := h
  have hK : zK y ses gr E.2.1 true T.length la il pt ss E.2.2.length fi av be T A E Ms mem := hK
  obtain ⟨eil, ept, etd, e0, eLn, elc⟩ := q6 rfl
  have q1 : T.length ≤ 202 := q1
  have q2 : ∀ b ∈ T, b < 256 := q2
  have q5 : tc = true → T ≠ [] := q5
  have eil : il = min tn 4 := eil
  have ept2 : 0 < tn → pt = td := ept
  have etd2 : tn = 0 → td = false := etd
  clear ept etd q6 q3
  have e0 : 0 < E.2.2.length := e0
  have eLn : Ln = [] := eLn
  have elc : lc = false := elc
  subst eLn elc eil
  obtain ⟨hm, hT⟩ := id hK
  obtain ⟨hL, hS, hR, hRs, hA, hMs, hW⟩ := id hT
  have et : E.2.1 = true := hW.2.2.2.2.1 (fun z => by rw [z] at e0; cases e0)
  have J125 : ∀ (m2 : mm_M), zK y ses gr E.2.1 true ((if ztF tn b then T else (T ++ [b]).take 202).length) b (min (tn + 1) 4) (td || ztF tn b) ss E.2.2.length fi av be (if ztF tn b then T else (T ++ [b]).take 202) A E Ms m2 → zsame y (y + 13) mem m2 → ztE tc td tn b = false → mm_G V X 4 125 [(0, .ref y), (1, .int (nI b)), (2, .int (zb (ztL tc b)))] [] m2 nx 0 0 := by
    intro m2 hK2 hs2 hE
    have hln : (if ztF tn b then T else (T ++ [b]).take 202).length ≤ 202 := by
      split
      · exact q1
      · rw [List.length_take]; omega
    have hby : ∀ x ∈ (if ztF tn b then T else (T ++ [b]).take 202), x < 256 := by
      split
      · exact q2
      · exact fun x hx => zlt_app q2 hb x (List.mem_of_mem_take hx)
    have hm2 := hK2.1
    refine g_iload_n (pc := 125) hc dMo_mail_125 rfl ?_
    refine g_if_ne (tgt := 130) (pc := 126) hc dMo_mail_126 (by decide) (fun c126 => ?_) (fun c126 => ?_)
    · simp (disch := omega) only [nI_leI, nI_ltI, nI_eq, nI_eq0, nI_lt0, nI_0le, nI_0lt, nI_le0, zb_0] at c126
      have hl9 : ztL tc b = true := by simpa using c126
      refine g_aload_n (pc := 130) hc dMo_mail_130 rfl ?_
      refine g_iconst (v := nI 0) (pc := 131) hc dMo_mail_131 (by decide) ?_
      refine g_put (pc := 132) hc dMo_mail_132 x_Mo_99 ft_Mo rfl hm2 rfl rfl (zlt rfl) (fun m3 h30 o3 => ?_)
      have h3 : m3 y = some (.inr (kMo, fMo y ses gr E.2.1 true ((if ztF tn b then T else (T ++ [b]).take 202).length) b 0 (td || ztF tn b) ss E.2.2.length fi av be A.length Ms.length)) := h30
      refine g_aload_n (pc := 135) hc dMo_mail_135 rfl ?_
      refine g_iconst (v := nI 0) (pc := 136) hc dMo_mail_136 (by decide) ?_
      refine g_put (pc := 137) hc dMo_mail_137 x_Mo_79 ft_Mo rfl h3 rfl rfl (zlt rfl) (fun m4 h40 o4 => ?_)
      have h4 : m4 y = some (.inr (kMo, fMo y ses gr E.2.1 true ((if ztF tn b then T else (T ++ [b]).take 202).length) 0 0 (td || ztF tn b) ss E.2.2.length fi av be A.length Ms.length)) := h40
      refine g_vret (pc := 140) hc he dMo_mail_140 (Nat.le_refl _) (Nat.le_refl _) ⟨rfl, rfl, ?_, fun a q => (o4 a (by omega)).trans ((o3 a (by omega)).trans (hs2 a q))⟩
      have ez : zstep (A, ([], false), (T, tc, td, tn), E, Ms, ses, gr, true) b = (A, ([], false), (if ztF tn b then T else (T ++ [b]).take 202, false, false, 0), E, Ms, ses, gr, true) := by
        unfold zstep
        simp only [if_true]
        rw [hE]
        simp only [Bool.false_eq_true, if_false]
        unfold ztRow ztCr ztDot ztN
        rw [hE, hl9]
        rfl
      rw [ez]
      exact ⟨0, 0, ss, td || ztF tn b, fi, av, be, ⟨h4, (hK2.2.kpt o3).kpt o4⟩, hln, hby, ⟨fun q => absurd q (by decide), (fun q => absurd (show false = true from q) (by decide))⟩, by decide, (fun q => absurd (show false = true from q) (by decide)), fun _ => ⟨rfl, fun (q : 0 < 0) => absurd q (by decide), fun _ => rfl, e0, rfl, rfl⟩⟩
    · simp (disch := omega) only [nI_leI, nI_ltI, nI_eq, nI_eq0, nI_lt0, nI_0le, nI_0lt, nI_le0, zb_0] at c126
      refine g_vret (pc := 129) hc he dMo_mail_129 (Nat.le_refl _) (Nat.le_refl _) ⟨rfl, rfl, ?_, hs2⟩
      have ez : zstep (A, ([], false), (T, tc, td, tn), E, Ms, ses, gr, true) b = (A, ([], false), (if ztF tn b then T else (T ++ [b]).take 202, b == 13, td || ztF tn b, tn + 1), E, Ms, ses, gr, true) := by
        unfold zstep
        simp only [if_true]
        rw [hE]
        simp only [Bool.false_eq_true, if_false]
        unfold ztRow ztCr ztDot ztN
        rw [hE, c126]
        rfl
      rw [ez]
      refine ⟨b, min (tn + 1) 4, ss, td || ztF tn b, fi, av, be, hK2, hln, hby, ?_, hb, ?_, fun _ => ⟨rfl, fun _ => rfl, fun (q : tn + 1 = 0) => absurd q (by omega), e0, rfl, rfl⟩⟩
      · show b = 13 ↔ (b == 13) = true
        simp
      · intro q
        have q : b = 13 := by simpa using (show (b == 13) = true from q)
        show (if ztF tn b then T else (T ++ [b]).take 202) ≠ []
        have : ztF tn b = false := by simp [ztF, q]
        rw [this]
        simp
  have J116 : ∀ (m2 : mm_M), zK y ses gr E.2.1 true T.length b (min (tn + 1) 4) (td || ztF tn b) ss E.2.2.length fi av be T A E Ms m2 → zsame y (y + 13) mem m2 → ztE tc td tn b = false → mm_G V X 4 116 [(0, .ref y), (1, .int (nI b)), (2, .int (zb (ztL tc b))), (3, .int (zb (ztF tn b)))] [] m2 nx 0 0 := by
    intro m2 hK2 hs2 hE
    refine g_iload_n (pc := 116) hc dMo_mail_116 rfl ?_
    refine g_if_ne (tgt := 125) (pc := 117) hc dMo_mail_117 (by decide) (fun c117 => ?_) (fun c117 => ?_)
    · simp (disch := omega) only [nI_leI, nI_ltI, nI_eq, nI_eq0, nI_lt0, nI_0le, nI_0lt, nI_le0, zb_0] at c117
      have hf9 : ztF tn b = true := by simpa using c117
      refine g_lv (lv' := [(0, .ref y), (1, .int (nI b)), (2, .int (zb (ztL tc b)))]) ⟨rfl, rfl, rfl, trivial⟩ ?_
      exact J125 m2 (by simp only [hf9, if_true] at hK2 ⊢; exact hK2) hs2 hE
    · simp (disch := omega) only [nI_leI, nI_ltI, nI_eq, nI_eq0, nI_lt0, nI_0le, nI_0lt, nI_le0, zb_0] at c117
      refine g_aload_n (pc := 120) hc dMo_mail_120 rfl ?_
      refine g_iload_n (pc := 121) hc dMo_mail_121 rfl ?_
      refine g_callV (pc := 122) hc dMo_mail_122 x_Mo_89 (s_Mo_keep V hK2 hb rfl q1) cl_Mo (hK2.1) (Nat.le_of_ble_eq_true rfl) (Nat.le_of_ble_eq_true rfl) (Nat.le_of_ble_eq_true rfl) (Nat.le_of_ble_eq_true rfl) rfl rfl (Nat.le_of_ble_eq_true rfl) (fun r m x hp => ?_)
      obtain ⟨rfl, rfl, h3, hs3⟩ := hp
      refine g_lv (lv' := [(0, .ref y), (1, .int (nI b)), (2, .int (zb (ztL tc b)))]) ⟨rfl, rfl, rfl, trivial⟩ ?_
      exact J125 _ (by simp only [c117, Bool.false_eq_true, if_false] at h3 ⊢; exact h3) (hs2.tr hs3) hE
  have J67 : ∀ (m2 : mm_M), zK y ses gr E.2.1 true T.length b (min (tn + 1) 4) (td || ztF tn b) ss E.2.2.length fi av be T A E Ms m2 → zsame y (y + 13) mem m2 → mm_G V X 4 67 [(0, .ref y), (1, .int (nI b)), (2, .int (zb (ztL tc b))), (3, .int (zb (ztF tn b)))] [] m2 nx 0 0 := by
    intro m2 hK2 hs2
    obtain ⟨hm2, hT2⟩ := id hK2
    refine g_iload_n (pc := 67) hc dMo_mail_67 rfl ?_
    refine g_if_eq (tgt := 116) (pc := 68) hc dMo_mail_68 (by decide) (fun c68 => ?_) (fun c68 => ?_)
    · simp (disch := omega) only [nI_leI, nI_ltI, nI_eq, nI_eq0, nI_lt0, nI_0le, nI_0lt, nI_le0, zb_0] at c68
      have hE : ztE tc td tn b = false := by simp [ztE, c68]
      refine g_lv (lv' := [(0, .ref y), (1, .int (nI b)), (2, .int (zb (ztL tc b))), (3, .int (zb (ztF tn b)))]) ⟨rfl, rfl, rfl, rfl, trivial⟩ ?_
      exact J116 m2 hK2 hs2 hE
    · simp (disch := omega) only [nI_leI, nI_ltI, nI_eq, nI_eq0, nI_lt0, nI_0le, nI_0lt, nI_le0, zb_0] at c68
      have hl9 : ztL tc b = true := by simpa using c68
      have hcr : tc = true := by simp [ztL] at hl9; exact hl9.2
      refine g_aload_n (pc := 71) hc dMo_mail_71 rfl ?_
      refine g_get (pc := 72) hc dMo_mail_72 x_Mo_102 hm2 (by rfl) ?_
      refine g_if_eq (tgt := 116) (pc := 75) hc dMo_mail_75 (by decide) (fun c75 => ?_) (fun c75 => ?_)
      · simp (disch := omega) only [nI_leI, nI_ltI, nI_eq, nI_eq0, nI_lt0, nI_0le, nI_0lt, nI_le0, zb_0] at c75
        have hE : ztE tc td tn b = false := by simp at c75; simp [ztE, c75.1]
        refine g_lv (lv' := [(0, .ref y), (1, .int (nI b)), (2, .int (zb (ztL tc b))), (3, .int (zb (ztF tn b)))]) ⟨rfl, rfl, rfl, rfl, trivial⟩ ?_
        exact J116 m2 hK2 hs2 hE
      · simp (disch := omega) only [nI_leI, nI_ltI, nI_eq, nI_eq0, nI_lt0, nI_0le, nI_0lt, nI_le0, zb_0] at c75
        have d75 : (td || ztF tn b) = true := (by revert c75; cases (td || ztF tn b) <;> simp)
        refine g_aload_n (pc := 78) hc dMo_mail_78 rfl ?_
        refine g_get (pc := 79) hc dMo_mail_79 x_Mo_99 hm2 (by rfl) ?_
        refine g_iconst (v := nI 3) (pc := 82) hc dMo_mail_82 (by decide) ?_
        refine g_icmp_ne (tgt := 116) (pc := 83) hc dMo_mail_83 (by decide) (fun c83 => ?_) (fun c83 => ?_)
        · simp (disch := omega) only [nI_leI, nI_ltI, nI_eq, nI_eq0, nI_lt0, nI_0le, nI_0lt, nI_le0, zb_0] at c83
          have hE : ztE tc td tn b = false := by
            have : (tn == 2) = false := by rw [beq_eq_false_iff_ne]; omega
            simp [ztE, this]
          refine g_lv (lv' := [(0, .ref y), (1, .int (nI b)), (2, .int (zb (ztL tc b))), (3, .int (zb (ztF tn b)))]) ⟨rfl, rfl, rfl, rfl, trivial⟩ ?_
          exact J116 m2 hK2 hs2 hE
        · simp (disch := omega) only [nI_leI, nI_ltI, nI_eq, nI_eq0, nI_lt0, nI_0le, nI_0lt, nI_le0, zb_0] at c83
          have hn2 : tn = 2 := by omega
          have htd : td = true := by
            have hf : ztF tn b = false := by simp [ztF, hn2]
            rw [hf, Bool.or_false] at d75
            exact d75
          have hE : ztE tc td tn b = true := by simp [ztE, hl9, htd, hn2]
          refine g_aload_n (pc := 86) hc dMo_mail_86 rfl ?_
          refine g_aload_n (pc := 87) hc dMo_mail_87 rfl ?_
          refine g_get (pc := 88) hc dMo_mail_88 x_Mo_76 hm2 (by rfl) ?_
          refine g_iconst (v := nI 1) (pc := 91) hc dMo_mail_91 (by decide) ?_
          have hne : T ≠ [] := q5 hcr
          have hpos : 1 ≤ T.length := by
            rcases Nat.eq_zero_or_pos T.length with z | z
            · exact absurd (List.length_eq_zero_iff.mp z) hne
            · exact z
          refine g_isub (pc := 92) hc dMo_mail_92 ?_
          rw [pk_sub hpos]
          refine g_put (pc := 93) hc dMo_mail_93 x_Mo_76 ft_Mo rfl hm2 rfl rfl (zlt rfl) (fun m3 h30 o3 => ?_)
          have h3 : m3 y = some (.inr (kMo, fMo y ses gr E.2.1 true (T.length - 1) b (min (tn + 1) 4) (td || ztF tn b) ss E.2.2.length fi av be A.length Ms.length)) := h30
          refine g_aload_n (pc := 96) hc dMo_mail_96 rfl ?_
          refine g_iconst (v := nI 0) (pc := 97) hc dMo_mail_97 (by decide) ?_
          refine g_put (pc := 98) hc dMo_mail_98 x_Mo_82 ft_Mo rfl h3 rfl rfl (zlt rfl) (fun m4 h40 o4 => ?_)
          have h4 : m4 y = some (.inr (kMo, fMo y ses gr E.2.1 false (T.length - 1) b (min (tn + 1) 4) (td || ztF tn b) ss E.2.2.length fi av be A.length Ms.length)) := h40
          refine g_aload_n (pc := 101) hc dMo_mail_101 rfl ?_
          refine g_iconst (v := nI 0) (pc := 102) hc dMo_mail_102 (by decide) ?_
          refine g_put (pc := 103) hc dMo_mail_103 x_Mo_79 ft_Mo rfl h4 rfl rfl (zlt rfl) (fun m5 h50 o5 => ?_)
          have h5 : m5 y = some (.inr (kMo, fMo y ses gr E.2.1 false (T.length - 1) 0 (min (tn + 1) 4) (td || ztF tn b) ss E.2.2.length fi av be A.length Ms.length)) := h50
          have hTd : zT y T.dropLast A E Ms ss m5 := (((hT2.kpt o3).kpt o4).kpt o5).lin (by rw [List.dropLast_eq_take]; exact ((((hT2.1.kpt o3 (by omega)).kpt o4 (by omega)).kpt o5 (by omega))).take)
          have hK5 : zK y ses gr E.2.1 false (T.length - 1) 0 (min (tn + 1) 4) (td || ztF tn b) ss E.2.2.length fi av be T.dropLast A E Ms m5 := ⟨h5, hTd⟩
          refine g_aload_n (pc := 106) hc dMo_mail_106 rfl ?_
          refine g_callV (pc := 107) hc dMo_mail_107 x_Mo_105 (s_Mo_hand V hK5 (by simp) (by simp; omega) (fun b hb => q2 b ((List.dropLast_sublist _).subset hb)) et e0) cl_Mo (hK5.1) (Nat.le_of_ble_eq_true rfl) (Nat.le_of_ble_eq_true rfl) (Nat.le_of_ble_eq_true rfl) (Nat.le_of_ble_eq_true rfl) rfl rfl (Nat.le_of_ble_eq_true rfl) (fun r m x hp => ?_)
          obtain ⟨rfl, rfl, h6, hs6⟩ := hp
          refine g_aload_n (pc := 110) hc dMo_mail_110 rfl ?_
          refine g_iconst (v := nI 0) (pc := 111) hc dMo_mail_111 (by decide) ?_
          refine g_put (pc := 112) hc dMo_mail_112 x_Mo_76 ft_Mo rfl h6.1 rfl rfl (zlt rfl) (fun m7 h7 o7 => ?_)
          refine g_vret (pc := 115) hc he dMo_mail_115 (Nat.le_refl _) (Nat.le_refl _) ⟨rfl, rfl, ?_, fun a q => (o7 a (by omega)).trans ((hs6 a q).trans ((o5 a (by omega)).trans ((o4 a (by omega)).trans ((o3 a (by omega)).trans (hs2 a q)))))⟩
          have ez : zstep (A, ([], false), (T, tc, td, tn), E, Ms, ses, gr, true) b = (zfin A T.dropLast (decide (10 ≤ Ms.length)) E.2.2, ([], false), (T.dropLast, ztCr tc td tn b, ztDot tc td tn b, ztN tc td tn b), ([], false, []), (if 200 < T.dropLast.length ∨ 10 ≤ Ms.length then Ms else Ms ++ [(T.dropLast, E.1, E.2.2.getD 0 [], E.2.2.length)]), ses, gr, false) := by
            unfold zstep
            simp only [if_true]
            rw [hE, show ztRow T tc td tn b = T.dropLast by unfold ztRow; rw [hE]; rfl]
            simp only [if_true]
          rw [ez]
          exact ⟨0, min (tn + 1) 4, ss, td || ztF tn b, fi, av, be, ⟨h7, (h6.2.kpt o7).lin (h6.2.kpt o7).1.nil⟩, Nat.zero_le _, (fun x (q : x ∈ ([] : List Nat)) => absurd q List.not_mem_nil), ⟨fun q => absurd q (by decide), (fun q => absurd (show false = true from q) (by decide))⟩, by decide, (fun q => absurd (show false = true from q) (by decide)), (fun q => absurd (show false = true from q) (by decide))⟩
  have J59 : ∀ (m1 : mm_M), m1 y = some (.inr (kMo, fMo y ses gr E.2.1 true T.length la (min tn 4) (td || ztF tn b) ss E.2.2.length fi av be A.length Ms.length)) → zsame y (y + 13) mem m1 → zT y T A E Ms ss m1 → mm_G V X 4 59 [(0, .ref y), (1, .int (nI b)), (2, .int (zb (ztL tc b))), (3, .int (zb (ztF tn b)))] [.int (nI (min (tn + 1) 4)), .ref y] m1 nx 0 0 := by
    intro m1 h1 hs1 hT1
    refine g_put (pc := 59) hc dMo_mail_59 x_Mo_99 ft_Mo rfl h1 rfl rfl (zlt rfl) (fun m2 h20 o2 => ?_)
    have h2 : m2 y = some (.inr (kMo, fMo y ses gr E.2.1 true T.length la (min (tn + 1) 4) (td || ztF tn b) ss E.2.2.length fi av be A.length Ms.length)) := h20
    refine g_aload_n (pc := 62) hc dMo_mail_62 rfl ?_
    refine g_iload_n (pc := 63) hc dMo_mail_63 rfl ?_
    refine g_put (pc := 64) hc dMo_mail_64 x_Mo_79 ft_Mo rfl h2 rfl rfl (zlt rfl) (fun m3 h30 o3 => ?_)
    have h3 : m3 y = some (.inr (kMo, fMo y ses gr E.2.1 true T.length b (min (tn + 1) 4) (td || ztF tn b) ss E.2.2.length fi av be A.length Ms.length)) := h30
    exact J67 m3 ⟨h3, (hT1.kpt o2).kpt o3⟩ (fun a q => (o3 a (by omega)).trans ((o2 a (by omega)).trans (hs1 a q)))
  have J35 : mm_G V X 4 35 [(0, .ref y), (1, .int (nI b)), (2, .int (zb (ztL tc b))), (3, .int (zb (ztF tn b)))] [.int (zb (td || ztF tn b)), .ref y] mem nx 0 0 := by
    refine g_put (pc := 35) hc dMo_mail_35 x_Mo_102 ft_Mo rfl hm (zb_z _) (zb_f _) (zlt rfl) (fun m1 h10 o1 => ?_)
    have h1 : m1 y = some (.inr (kMo, fMo y ses gr E.2.1 true T.length la (min tn 4) (td || ztF tn b) ss E.2.2.length fi av be A.length Ms.length)) := h10
    refine g_aload_n (pc := 38) hc dMo_mail_38 rfl ?_
    refine g_aload_n (pc := 39) hc dMo_mail_39 rfl ?_
    refine g_get (pc := 40) hc dMo_mail_40 x_Mo_99 h1 (by rfl) ?_
    refine g_iconst (v := nI 1) (pc := 43) hc dMo_mail_43 (by decide) ?_
    refine g_iadd (pc := 44) hc dMo_mail_44 ?_
    rw [nI_add]
    refine g_iconst (v := nI 4) (pc := 45) hc dMo_mail_45 (by decide) ?_
    refine g_icmp_ge (tgt := 58) (pc := 46) hc dMo_mail_46 (by decide) (fun c46 => ?_) (fun c46 => ?_)
    · simp (disch := omega) only [nI_leI, nI_ltI, nI_eq, nI_eq0, nI_lt0, nI_0le, nI_0lt, nI_le0, zb_0] at c46
      refine g_iconst (v := nI 4) (pc := 58) hc dMo_mail_58 (by decide) ?_
      have j := J59 m1 h1 (fun a q => o1 a (by omega)) (hT.kpt o1)
      rw [show min (tn + 1) 4 = 4 by omega] at j
      exact j
    · simp (disch := omega) only [nI_leI, nI_ltI, nI_eq, nI_eq0, nI_lt0, nI_0le, nI_0lt, nI_le0, zb_0] at c46
      refine g_aload_n (pc := 49) hc dMo_mail_49 rfl ?_
      refine g_get (pc := 50) hc dMo_mail_50 x_Mo_99 h1 (by rfl) ?_
      refine g_iconst (v := nI 1) (pc := 53) hc dMo_mail_53 (by decide) ?_
      refine g_iadd (pc := 54) hc dMo_mail_54 ?_
      rw [nI_add]
      refine g_goto (tgt := 59) (pc := 55) hc dMo_mail_55 (by decide) ?_
      have j := J59 m1 h1 (fun a q => o1 a (by omega)) (hT.kpt o1)
      rw [show min (tn + 1) 4 = min tn 4 + 1 by omega] at j
      exact j
  have J18 : mm_G V X 4 18 [(0, .ref y), (1, .int (nI b)), (2, .int (zb (ztL tc b)))] [.int (zb (ztF tn b))] mem nx 0 0 := by
    refine g_istore_n (pc := 18) hc dMo_mail_18 (by decide) rfl ?_
    refine g_aload_n (pc := 19) hc dMo_mail_19 rfl ?_
    refine g_aload_n (pc := 20) hc dMo_mail_20 rfl ?_
    refine g_get (pc := 21) hc dMo_mail_21 x_Mo_99 (by assumption) (by rfl) ?_
    refine g_if_ne (tgt := 31) (pc := 24) hc dMo_mail_24 (by decide) (fun c24 => ?_) (fun c24 => ?_)
    · simp (disch := omega) only [nI_leI, nI_ltI, nI_eq, nI_eq0, nI_lt0, nI_0le, nI_0lt, nI_le0, zb_0] at c24
      refine g_aload_n (pc := 31) hc dMo_mail_31 rfl ?_
      refine g_get (pc := 32) hc dMo_mail_32 x_Mo_102 (by assumption) (by rfl) ?_
      refine g_lv (lv' := [(0, .ref y), (1, .int (nI b)), (2, .int (zb (ztL tc b))), (3, .int (zb (ztF tn b)))]) ⟨rfl, rfl, rfl, rfl, trivial⟩ ?_
      have j := J35
      rw [show ztF tn b = false by simp [ztF]; omega, Bool.or_false, ← ept2 (by omega)] at j
      rw [show ztF tn b = false by simp [ztF]; omega]
      exact j
    · simp (disch := omega) only [nI_leI, nI_ltI, nI_eq, nI_eq0, nI_lt0, nI_0le, nI_0lt, nI_le0, zb_0] at c24
      refine g_iload_n (pc := 27) hc dMo_mail_27 rfl ?_
      refine g_goto (tgt := 35) (pc := 28) hc dMo_mail_28 (by decide) ?_
      refine g_lv (lv' := [(0, .ref y), (1, .int (nI b)), (2, .int (zb (ztL tc b))), (3, .int (zb (ztF tn b)))]) ⟨rfl, rfl, rfl, rfl, trivial⟩ ?_
      have j := J35
      rw [etd2 (by omega), Bool.false_or] at j
      exact j
  refine g_iload_n (pc := 0) hc dMo_mail_0 rfl ?_
  refine g_bipush (v := nI 46) (pc := 1) hc dMo_mail_1 (by decide) ?_
  refine g_icmp_ne (tgt := 17) (pc := 3) hc dMo_mail_3 (by decide) (fun c3 => ?_) (fun c3 => ?_)
  · simp (disch := omega) only [nI_leI, nI_ltI, nI_eq, nI_eq0, nI_lt0, nI_0le, nI_0lt, nI_le0, zb_0] at c3
    have hd : ztF tn b = false := by simp [ztF, c3]
    refine g_iconst (v := nI 0) (pc := 17) hc dMo_mail_17 (by decide) ?_
    rw [hd] at J18
    exact J18
  · simp (disch := omega) only [nI_leI, nI_ltI, nI_eq, nI_eq0, nI_lt0, nI_0le, nI_0lt, nI_le0, zb_0] at c3
    refine g_aload_n (pc := 6) hc dMo_mail_6 rfl ?_
    refine g_get (pc := 7) hc dMo_mail_7 x_Mo_99 (by assumption) (by rfl) ?_
    refine g_if_ne (tgt := 17) (pc := 10) hc dMo_mail_10 (by decide) (fun c10 => ?_) (fun c10 => ?_)
    · simp (disch := omega) only [nI_leI, nI_ltI, nI_eq, nI_eq0, nI_lt0, nI_0le, nI_0lt, nI_le0, zb_0] at c10
      have hd : ztF tn b = false := by
        have : (tn == 0) = false := by rw [beq_eq_false_iff_ne]; omega
        simp [ztF, this]
      refine g_iconst (v := nI 0) (pc := 17) hc dMo_mail_17 (by decide) ?_
      rw [hd] at J18
      exact J18
    · simp (disch := omega) only [nI_leI, nI_ltI, nI_eq, nI_eq0, nI_lt0, nI_0le, nI_0lt, nI_le0, zb_0] at c10
      have hd : ztF tn b = true := by
        have : tn = 0 := by omega
        simp [ztF, this, c3]
      refine g_iconst (v := nI 1) (pc := 13) hc dMo_mail_13 (by decide) ?_
      refine g_goto (tgt := 18) (pc := 14) hc dMo_mail_14 (by decide) ?_
      rw [hd] at J18
      exact J18
