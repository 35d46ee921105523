set_option maxHeartbeats 4000000 in
set_option maxRecDepth 100000 in
theorem s_ML_replyTo (V : mm_V) {z tn : Nat} {A Ln : List Nat} {lc : Bool} {T : List Nat} {tc td : Bool} {E : zEv} {Ms : List zMsg} {ses gr tx : Bool} {mem : mm_M} {nx : Nat} (h : zML z A Ln lc T tc td tn E Ms ses gr tx mem) : mm_S V yML_replyTo cML_replyTo 2 (some (.object "java/lang/String")) 8 0 0 [.ref z, .ref (z + 3 + 1)] mem nx (fun r m x => ∃ i : Nat, i < mm_nS ∧ r = some (.ref (V.2.2.2.2.1 i)) ∧ nx = x ∧ zs i = (zrep gr E Ln).1 ∧ zML z A Ln lc (if (zrep gr E Ln).2.2.2.1 then [] else T) (if (zrep gr E Ln).2.2.2.1 then false else tc) (if (zrep gr E Ln).2.2.2.1 then false else td) (if (zrep gr E Ln).2.2.2.1 then 0 else tn) ((zrep gr E Ln).2.1) Ms (ses && !(zrep gr E Ln).2.2.2.2) ((zrep gr E Ln).2.2.1) (tx || (zrep gr E Ln).2.2.2.1) m ∧ zsame z (z + 92) mem m) := by
  obtain ⟨hm, hA, hLn, hT, hE, ⟨g, hg, hg7⟩, hMs, hLe⟩ := id h
  refine mm_met (by decide) (Nat.le_of_ble_eq_true rfl) ?_
  intro X hc he hnm
  have hlb := hLn.2.le
  refine g_aload_n (pc := 0) hc dML_replyTo_0 rfl ?_
  refine g_callV (pc := 1) hc dML_replyTo_1 x_ML_53 (s_Row_length V hLn.2) cl_Row (hLn.2.obj) (Nat.le_of_ble_eq_true rfl) (Nat.le_of_ble_eq_true rfl) (Nat.le_of_ble_eq_true rfl) (Nat.le_of_ble_eq_true rfl) rfl rfl (Nat.le_of_ble_eq_true rfl) (fun r m x hp => ?_)
  obtain ⟨rfl, rfl, rfl⟩ := hp
  refine g_bipush (v := nI 100) (pc := 4) hc dML_replyTo_4 (by decide) ?_
  refine g_icmp_le (tgt := 12) (pc := 6) hc dML_replyTo_6 (by decide) (fun c6 => ?_) (fun c6 => ?_)
  · simp (disch := omega) only [nI_leI, nI_ltI, nI_eq, nI_eq0, nI_lt0, nI_0le, nI_0lt, nI_le0, zb_0] at c6
    refine g_aload_n (pc := 12) hc dML_replyTo_12 rfl ?_
    refine g_ldcS (pc := 13) hc dML_replyTo_13 xt_ML_145 ?_
    refine g_callS (pc := 15) hc dML_replyTo_15 x_ML_147 (s_Gr_hasFirstWord V hLn.2 (show t_LHLO < mm_nS by decide)) (Nat.le_of_ble_eq_true rfl) (Nat.le_of_ble_eq_true rfl) (Nat.le_of_ble_eq_true rfl) (Nat.le_of_ble_eq_true rfl) rfl rfl (Nat.le_of_ble_eq_true rfl) (fun r m x hp => ?_)
    obtain ⟨rfl, rfl, rfl⟩ := hp
    refine g_if_eq (tgt := 27) (pc := 18) hc dML_replyTo_18 (by decide) (fun c18 => ?_) (fun c18 => ?_)
    · simp (disch := omega) only [nI_leI, nI_ltI, nI_eq, nI_eq0, nI_lt0, nI_0le, nI_0lt, nI_le0, zb_0] at c18
      refine g_aload_n (pc := 27) hc dML_replyTo_27 rfl ?_
      refine g_ldcS (pc := 28) hc dML_replyTo_28 xt_ML_156 ?_
      refine g_callS (pc := 30) hc dML_replyTo_30 x_ML_147 (s_Gr_hasFirstWord V hLn.2 (show t_MAIL < mm_nS by decide)) (Nat.le_of_ble_eq_true rfl) (Nat.le_of_ble_eq_true rfl) (Nat.le_of_ble_eq_true rfl) (Nat.le_of_ble_eq_true rfl) rfl rfl (Nat.le_of_ble_eq_true rfl) (fun r m x hp => ?_)
      obtain ⟨rfl, rfl, rfl⟩ := hp
      refine g_if_eq (tgt := 54) (pc := 33) hc dML_replyTo_33 (by decide) (fun c33 => ?_) (fun c33 => ?_)
      · simp (disch := omega) only [nI_leI, nI_ltI, nI_eq, nI_eq0, nI_lt0, nI_0le, nI_0lt, nI_le0, zb_0] at c33
        refine g_aload_n (pc := 54) hc dML_replyTo_54 rfl ?_
        refine g_ldcS (pc := 55) hc dML_replyTo_55 xt_ML_163 ?_
        refine g_callS (pc := 57) hc dML_replyTo_57 x_ML_147 (s_Gr_hasFirstWord V hLn.2 (show t_RCPT < mm_nS by decide)) (Nat.le_of_ble_eq_true rfl) (Nat.le_of_ble_eq_true rfl) (Nat.le_of_ble_eq_true rfl) (Nat.le_of_ble_eq_true rfl) rfl rfl (Nat.le_of_ble_eq_true rfl) (fun r m x hp => ?_)
        obtain ⟨rfl, rfl, rfl⟩ := hp
        refine g_if_eq (tgt := 81) (pc := 60) hc dML_replyTo_60 (by decide) (fun c60 => ?_) (fun c60 => ?_)
        · simp (disch := omega) only [nI_leI, nI_ltI, nI_eq, nI_eq0, nI_lt0, nI_0le, nI_0lt, nI_le0, zb_0] at c60
          refine g_aload_n (pc := 81) hc dML_replyTo_81 rfl ?_
          refine g_ldcS (pc := 82) hc dML_replyTo_82 xt_ML_168 ?_
          refine g_callS (pc := 84) hc dML_replyTo_84 x_ML_147 (s_Gr_hasFirstWord V hLn.2 (show t_DATA < mm_nS by decide)) (Nat.le_of_ble_eq_true rfl) (Nat.le_of_ble_eq_true rfl) (Nat.le_of_ble_eq_true rfl) (Nat.le_of_ble_eq_true rfl) rfl rfl (Nat.le_of_ble_eq_true rfl) (fun r m x hp => ?_)
          obtain ⟨rfl, rfl, rfl⟩ := hp
          refine g_if_eq (tgt := 108) (pc := 87) hc dML_replyTo_87 (by decide) (fun c87 => ?_) (fun c87 => ?_)
          · simp (disch := omega) only [nI_leI, nI_ltI, nI_eq, nI_eq0, nI_lt0, nI_0le, nI_0lt, nI_le0, zb_0] at c87
            refine g_aload_n (pc := 108) hc dML_replyTo_108 rfl ?_
            refine g_ldcS (pc := 109) hc dML_replyTo_109 xt_ML_173 ?_
            refine g_callS (pc := 111) hc dML_replyTo_111 x_ML_147 (s_Gr_hasFirstWord V hLn.2 (show t_RSET < mm_nS by decide)) (Nat.le_of_ble_eq_true rfl) (Nat.le_of_ble_eq_true rfl) (Nat.le_of_ble_eq_true rfl) (Nat.le_of_ble_eq_true rfl) rfl rfl (Nat.le_of_ble_eq_true rfl) (fun r m x hp => ?_)
            obtain ⟨rfl, rfl, rfl⟩ := hp
            refine g_if_eq (tgt := 123) (pc := 114) hc dML_replyTo_114 (by decide) (fun c114 => ?_) (fun c114 => ?_)
            · simp (disch := omega) only [nI_leI, nI_ltI, nI_eq, nI_eq0, nI_lt0, nI_0le, nI_0lt, nI_le0, zb_0] at c114
              refine g_aload_n (pc := 123) hc dML_replyTo_123 rfl ?_
              refine g_ldcS (pc := 124) hc dML_replyTo_124 xt_ML_178 ?_
              refine g_callS (pc := 126) hc dML_replyTo_126 x_ML_147 (s_Gr_hasFirstWord V hLn.2 (show t_NOOP < mm_nS by decide)) (Nat.le_of_ble_eq_true rfl) (Nat.le_of_ble_eq_true rfl) (Nat.le_of_ble_eq_true rfl) (Nat.le_of_ble_eq_true rfl) rfl rfl (Nat.le_of_ble_eq_true rfl) (fun r m x hp => ?_)
              obtain ⟨rfl, rfl, rfl⟩ := hp
              refine g_if_eq (tgt := 147) (pc := 129) hc dML_replyTo_129 (by decide) (fun c129 => ?_) (fun c129 => ?_)
              · simp (disch := omega) only [nI_leI, nI_ltI, nI_eq, nI_eq0, nI_lt0, nI_0le, nI_0lt, nI_le0, zb_0] at c129
                refine g_aload_n (pc := 147) hc dML_replyTo_147 rfl ?_
                refine g_ldcS (pc := 148) hc dML_replyTo_148 xt_ML_188 ?_
                refine g_callS (pc := 150) hc dML_replyTo_150 x_ML_147 (s_Gr_hasFirstWord V hLn.2 (show t_QUIT < mm_nS by decide)) (Nat.le_of_ble_eq_true rfl) (Nat.le_of_ble_eq_true rfl) (Nat.le_of_ble_eq_true rfl) (Nat.le_of_ble_eq_true rfl) rfl rfl (Nat.le_of_ble_eq_true rfl) (fun r m x hp => ?_)
                obtain ⟨rfl, rfl, rfl⟩ := hp
                refine g_if_eq (tgt := 162) (pc := 153) hc dML_replyTo_153 (by decide) (fun c153 => ?_) (fun c153 => ?_)
                · simp (disch := omega) only [nI_leI, nI_ltI, nI_eq, nI_eq0, nI_lt0, nI_0le, nI_0lt, nI_le0, zb_0] at c153
                  refine g_ldcS (pc := 162) hc dML_replyTo_162 xt_ML_193 ?_
                  have ez : zrep gr E Ln = (zs t_500u, E, gr, false, false) := by rw [zrep, if_neg (show ¬ 100 < Ln.length by omega), c18, if_neg (by decide), c33, if_neg (by decide), c60, if_neg (by decide), c87, if_neg (by decide), c114, if_neg (by decide), c129, if_neg (by decide), c153, if_neg (by decide)]
                  exact g_aret (pc := 164) hc he dML_replyTo_164 (Or.inr ⟨_, rfl⟩) (Nat.le_refl _) (Nat.le_refl _) ⟨t_500u, by decide, rfl, rfl, by rw [ez], by rw [ez]; simpa using h, zsame.rf⟩
                · simp (disch := omega) only [nI_leI, nI_ltI, nI_eq, nI_eq0, nI_lt0, nI_0le, nI_0lt, nI_le0, zb_0] at c153
                  have d153 : zfw Ln (zs t_QUIT) = true := by simpa using c153
                  refine g_aload_n (pc := 156) hc dML_replyTo_156 rfl ?_
                  refine g_aload_n (pc := 157) hc dML_replyTo_157 rfl ?_
                  refine g_callV (pc := 158) hc dML_replyTo_158 x_ML_190 (s_ML_replyToQuit V h) cl_ML (h.1) (Nat.le_of_ble_eq_true rfl) (Nat.le_of_ble_eq_true rfl) (Nat.le_of_ble_eq_true rfl) (Nat.le_of_ble_eq_true rfl) rfl rfl (Nat.le_of_ble_eq_true rfl) (fun r m x hp => ?_)
                  obtain ⟨i, hi, rfl, rfl, et, h1, hs1⟩ := hp
                  have ez : zrep gr E Ln = (if Ln.length == 4 then (zs t_221, E, gr, false, true) else (zs t_501, E, gr, false, false)) := by rw [zrep, if_neg (show ¬ 100 < Ln.length by omega), c18, if_neg (by decide), c33, if_neg (by decide), c60, if_neg (by decide), c87, if_neg (by decide), c114, if_neg (by decide), c129, if_neg (by decide), d153, if_pos rfl]
                  refine g_aret (pc := 161) hc he dML_replyTo_161 (Or.inr ⟨_, rfl⟩) (Nat.le_refl _) (Nat.le_refl _) ⟨i, hi, rfl, rfl, ?_, ?_, hs1⟩
                  · rw [et, ez]; cases (Ln.length == 4) <;> rfl
                  · rw [ez]; cases hK : (Ln.length == 4) <;> rw [hK] at h1 <;> simpa using h1
              · simp (disch := omega) only [nI_leI, nI_ltI, nI_eq, nI_eq0, nI_lt0, nI_0le, nI_0lt, nI_le0, zb_0] at c129
                have d129 : zfw Ln (zs t_NOOP) = true := by simpa using c129
                refine g_aload_n (pc := 132) hc dML_replyTo_132 rfl ?_
                refine g_callS (pc := 133) hc dML_replyTo_133 x_ML_180 (s_Gr_isBareWord V hLn.2) (Nat.le_of_ble_eq_true rfl) (Nat.le_of_ble_eq_true rfl) (Nat.le_of_ble_eq_true rfl) (Nat.le_of_ble_eq_true rfl) rfl rfl (Nat.le_of_ble_eq_true rfl) (fun r m x hp => ?_)
                obtain ⟨rfl, rfl, rfl⟩ := hp
                refine g_if_eq (tgt := 144) (pc := 136) hc dML_replyTo_136 (by decide) (fun c136 => ?_) (fun c136 => ?_)
                · simp (disch := omega) only [nI_leI, nI_ltI, nI_eq, nI_eq0, nI_lt0, nI_0le, nI_0lt, nI_le0, zb_0] at c136
                  refine g_ldcS (pc := 144) hc dML_replyTo_144 xt_ML_186 ?_
                  have ez : zrep gr E Ln = (zs t_501, E, gr, false, false) := by rw [zrep, if_neg (show ¬ 100 < Ln.length by omega), c18, if_neg (by decide), c33, if_neg (by decide), c60, if_neg (by decide), c87, if_neg (by decide), c114, if_neg (by decide), d129, if_pos rfl, c136, if_neg (by decide)]
                  exact g_aret (pc := 146) hc he dML_replyTo_146 (Or.inr ⟨_, rfl⟩) (Nat.le_refl _) (Nat.le_refl _) ⟨t_501, by decide, rfl, rfl, by rw [ez], by rw [ez]; simpa using h, zsame.rf⟩
                · simp (disch := omega) only [nI_leI, nI_ltI, nI_eq, nI_eq0, nI_lt0, nI_0le, nI_0lt, nI_le0, zb_0] at c136
                  have d136 : (Ln.length == 4) = true := by simpa using c136
                  refine g_ldcS (pc := 139) hc dML_replyTo_139 xt_ML_184 ?_
                  refine g_goto (tgt := 146) (pc := 141) hc dML_replyTo_141 (by decide) ?_
                  have ez : zrep gr E Ln = (zs t_250o, E, gr, false, false) := by rw [zrep, if_neg (show ¬ 100 < Ln.length by omega), c18, if_neg (by decide), c33, if_neg (by decide), c60, if_neg (by decide), c87, if_neg (by decide), c114, if_neg (by decide), d129, if_pos rfl, d136, if_pos rfl]
                  exact g_aret (pc := 146) hc he dML_replyTo_146 (Or.inr ⟨_, rfl⟩) (Nat.le_refl _) (Nat.le_refl _) ⟨t_250o, by decide, rfl, rfl, by rw [ez], by rw [ez]; simpa using h, zsame.rf⟩
            · simp (disch := omega) only [nI_leI, nI_ltI, nI_eq, nI_eq0, nI_lt0, nI_0le, nI_0lt, nI_le0, zb_0] at c114
              have d114 : zfw Ln (zs t_RSET) = true := by simpa using c114
              refine g_aload_n (pc := 117) hc dML_replyTo_117 rfl ?_
              refine g_aload_n (pc := 118) hc dML_replyTo_118 rfl ?_
              refine g_callV (pc := 119) hc dML_replyTo_119 x_ML_175 (s_ML_replyToReset V h) cl_ML (h.1) (Nat.le_of_ble_eq_true rfl) (Nat.le_of_ble_eq_true rfl) (Nat.le_of_ble_eq_true rfl) (Nat.le_of_ble_eq_true rfl) rfl rfl (Nat.le_of_ble_eq_true rfl) (fun r m x hp => ?_)
              obtain ⟨i, hi, rfl, rfl, et, h1, hs1⟩ := hp
              have ez : zrep gr E Ln = (if Ln.length == 4 then (zs t_250o, ([], false, []), gr, false, false) else (zs t_501, E, gr, false, false)) := by rw [zrep, if_neg (show ¬ 100 < Ln.length by omega), c18, if_neg (by decide), c33, if_neg (by decide), c60, if_neg (by decide), c87, if_neg (by decide), d114, if_pos rfl]
              refine g_aret (pc := 122) hc he dML_replyTo_122 (Or.inr ⟨_, rfl⟩) (Nat.le_refl _) (Nat.le_refl _) ⟨i, hi, rfl, rfl, ?_, ?_, hs1⟩
              · rw [et, ez]; cases (Ln.length == 4) <;> rfl
              · rw [ez]; cases hK : (Ln.length == 4) <;> rw [hK] at h1 <;> simpa using h1
          · simp (disch := omega) only [nI_leI, nI_ltI, nI_eq, nI_eq0, nI_lt0, nI_0le, nI_0lt, nI_le0, zb_0] at c87
            have d87 : zfw Ln (zs t_DATA) = true := by simpa using c87
            refine g_aload_n (pc := 90) hc dML_replyTo_90 rfl ?_
            refine g_get (pc := 91) hc dML_replyTo_91 x_ML_70 (by assumption) (by rfl) ?_
            refine g_if_eq (tgt := 105) (pc := 94) hc dML_replyTo_94 (by decide) (fun c94 => ?_) (fun c94 => ?_)
            · simp (disch := omega) only [nI_leI, nI_ltI, nI_eq, nI_eq0, nI_lt0, nI_0le, nI_0lt, nI_le0, zb_0] at c94
              refine g_ldcS (pc := 105) hc dML_replyTo_105 xt_ML_161 ?_
              have ez : zrep gr E Ln = (zs t_503, E, gr, false, false) := by rw [zrep, if_neg (show ¬ 100 < Ln.length by omega), c18, if_neg (by decide), c33, if_neg (by decide), c60, if_neg (by decide), d87, if_pos rfl, c94, if_neg (by decide)]
              exact g_aret (pc := 107) hc he dML_replyTo_107 (Or.inr ⟨_, rfl⟩) (Nat.le_refl _) (Nat.le_refl _) ⟨t_503, by decide, rfl, rfl, by rw [ez], by rw [ez]; simpa using h, zsame.rf⟩
            · simp (disch := omega) only [nI_leI, nI_ltI, nI_eq, nI_eq0, nI_lt0, nI_0le, nI_0lt, nI_le0, zb_0] at c94
              have d94 : gr = true := by simpa using c94
              refine g_aload_n (pc := 97) hc dML_replyTo_97 rfl ?_
              refine g_aload_n (pc := 98) hc dML_replyTo_98 rfl ?_
              refine g_callV (pc := 99) hc dML_replyTo_99 x_ML_170 (s_ML_replyToData V h) cl_ML (h.1) (Nat.le_of_ble_eq_true rfl) (Nat.le_of_ble_eq_true rfl) (Nat.le_of_ble_eq_true rfl) (Nat.le_of_ble_eq_true rfl) rfl rfl (Nat.le_of_ble_eq_true rfl) (fun r m x hp => ?_)
              obtain ⟨i, hi, rfl, rfl, et, h1, hs1⟩ := hp
              refine g_goto (tgt := 107) (pc := 102) hc dML_replyTo_102 (by decide) ?_
              have ez : zrep gr E Ln = (if Ln.length == 4 then (if E.2.2.length = 0 then (zs t_503, E, gr, false, false) else (zs t_354, E, gr, true, false)) else (zs t_501, E, gr, false, false)) := by rw [zrep, if_neg (show ¬ 100 < Ln.length by omega), c18, if_neg (by decide), c33, if_neg (by decide), c60, if_neg (by decide), d87, if_pos rfl, d94, if_pos rfl]
              refine g_aret (pc := 107) hc he dML_replyTo_107 (Or.inr ⟨_, rfl⟩) (Nat.le_refl _) (Nat.le_refl _) ⟨i, hi, rfl, rfl, ?_, ?_, hs1⟩
              · rw [et, ez]; cases (Ln.length == 4) <;> by_cases h0 : E.2.2.length = 0 <;> simp [h0]
              · rw [ez]; cases hK : (Ln.length == 4) <;> by_cases h0 : E.2.2.length = 0 <;> simp only [hK, h0] at h1 <;> simpa [h0] using h1
        · simp (disch := omega) only [nI_leI, nI_ltI, nI_eq, nI_eq0, nI_lt0, nI_0le, nI_0lt, nI_le0, zb_0] at c60
          have d60 : zfw Ln (zs t_RCPT) = true := by simpa using c60
          refine g_aload_n (pc := 63) hc dML_replyTo_63 rfl ?_
          refine g_get (pc := 64) hc dML_replyTo_64 x_ML_70 (by assumption) (by rfl) ?_
          refine g_if_eq (tgt := 78) (pc := 67) hc dML_replyTo_67 (by decide) (fun c67 => ?_) (fun c67 => ?_)
          · simp (disch := omega) only [nI_leI, nI_ltI, nI_eq, nI_eq0, nI_lt0, nI_0le, nI_0lt, nI_le0, zb_0] at c67
            refine g_ldcS (pc := 78) hc dML_replyTo_78 xt_ML_161 ?_
            have ez : zrep gr E Ln = (zs t_503, E, gr, false, false) := by rw [zrep, if_neg (show ¬ 100 < Ln.length by omega), c18, if_neg (by decide), c33, if_neg (by decide), d60, if_pos rfl, c67, if_neg (by decide)]
            exact g_aret (pc := 80) hc he dML_replyTo_80 (Or.inr ⟨_, rfl⟩) (Nat.le_refl _) (Nat.le_refl _) ⟨t_503, by decide, rfl, rfl, by rw [ez], by rw [ez]; simpa using h, zsame.rf⟩
          · simp (disch := omega) only [nI_leI, nI_ltI, nI_eq, nI_eq0, nI_lt0, nI_0le, nI_0lt, nI_le0, zb_0] at c67
            have d67 : gr = true := by simpa using c67
            refine g_aload_n (pc := 70) hc dML_replyTo_70 rfl ?_
            refine g_aload_n (pc := 71) hc dML_replyTo_71 rfl ?_
            refine g_callV (pc := 72) hc dML_replyTo_72 x_ML_165 (s_ML_replyToRecipient V h (by omega)) cl_ML (h.1) (Nat.le_of_ble_eq_true rfl) (Nat.le_of_ble_eq_true rfl) (Nat.le_of_ble_eq_true rfl) (Nat.le_of_ble_eq_true rfl) rfl rfl (Nat.le_of_ble_eq_true rfl) (fun r m x hp => ?_)
            obtain ⟨i, hi, rfl, rfl, et, h1, hs1⟩ := hp
            refine g_goto (tgt := 80) (pc := 75) hc dML_replyTo_75 (by decide) ?_
            have ez : zrep gr E Ln = ((zrR E Ln).1, (zrR E Ln).2, gr, false, false) := by rw [zrep, if_neg (show ¬ 100 < Ln.length by omega), c18, if_neg (by decide), c33, if_neg (by decide), d60, if_pos rfl, d67, if_pos rfl]
            refine g_aret (pc := 80) hc he dML_replyTo_80 (Or.inr ⟨_, rfl⟩) (Nat.le_refl _) (Nat.le_refl _) ⟨i, hi, rfl, rfl, ?_, ?_, hs1⟩
            · rw [et, ez]
            · rw [ez]; simpa using h1
      · simp (disch := omega) only [nI_leI, nI_ltI, nI_eq, nI_eq0, nI_lt0, nI_0le, nI_0lt, nI_le0, zb_0] at c33
        have d33 : zfw Ln (zs t_MAIL) = true := by simpa using c33
        refine g_aload_n (pc := 36) hc dML_replyTo_36 rfl ?_
        refine g_get (pc := 37) hc dML_replyTo_37 x_ML_70 (by assumption) (by rfl) ?_
        refine g_if_eq (tgt := 51) (pc := 40) hc dML_replyTo_40 (by decide) (fun c40 => ?_) (fun c40 => ?_)
        · simp (disch := omega) only [nI_leI, nI_ltI, nI_eq, nI_eq0, nI_lt0, nI_0le, nI_0lt, nI_le0, zb_0] at c40
          refine g_ldcS (pc := 51) hc dML_replyTo_51 xt_ML_161 ?_
          have ez : zrep gr E Ln = (zs t_503, E, gr, false, false) := by rw [zrep, if_neg (show ¬ 100 < Ln.length by omega), c18, if_neg (by decide), d33, if_pos rfl, c40, if_neg (by decide)]
          exact g_aret (pc := 53) hc he dML_replyTo_53 (Or.inr ⟨_, rfl⟩) (Nat.le_refl _) (Nat.le_refl _) ⟨t_503, by decide, rfl, rfl, by rw [ez], by rw [ez]; simpa using h, zsame.rf⟩
        · simp (disch := omega) only [nI_leI, nI_ltI, nI_eq, nI_eq0, nI_lt0, nI_0le, nI_0lt, nI_le0, zb_0] at c40
          have d40 : gr = true := by simpa using c40
          refine g_aload_n (pc := 43) hc dML_replyTo_43 rfl ?_
          refine g_aload_n (pc := 44) hc dML_replyTo_44 rfl ?_
          refine g_callV (pc := 45) hc dML_replyTo_45 x_ML_158 (s_ML_replyToSender V h (by omega)) cl_ML (h.1) (Nat.le_of_ble_eq_true rfl) (Nat.le_of_ble_eq_true rfl) (Nat.le_of_ble_eq_true rfl) (Nat.le_of_ble_eq_true rfl) rfl rfl (Nat.le_of_ble_eq_true rfl) (fun r m x hp => ?_)
          obtain ⟨i, hi, rfl, rfl, et, h1, hs1⟩ := hp
          refine g_goto (tgt := 53) (pc := 48) hc dML_replyTo_48 (by decide) ?_
          have ez : zrep gr E Ln = ((zrM E Ln).1, (zrM E Ln).2, gr, false, false) := by rw [zrep, if_neg (show ¬ 100 < Ln.length by omega), c18, if_neg (by decide), d33, if_pos rfl, d40, if_pos rfl]
          refine g_aret (pc := 53) hc he dML_replyTo_53 (Or.inr ⟨_, rfl⟩) (Nat.le_refl _) (Nat.le_refl _) ⟨i, hi, rfl, rfl, ?_, ?_, hs1⟩
          · rw [et, ez]
          · rw [ez]; simpa using h1
    · simp (disch := omega) only [nI_leI, nI_ltI, nI_eq, nI_eq0, nI_lt0, nI_0le, nI_0lt, nI_le0, zb_0] at c18
      have d18 : zfw Ln (zs t_LHLO) = true := by simpa using c18
      refine g_aload_n (pc := 21) hc dML_replyTo_21 rfl ?_
      refine g_aload_n (pc := 22) hc dML_replyTo_22 rfl ?_
      refine g_callV (pc := 23) hc dML_replyTo_23 x_ML_153 (s_ML_replyToGreeting V h) cl_ML (h.1) (Nat.le_of_ble_eq_true rfl) (Nat.le_of_ble_eq_true rfl) (Nat.le_of_ble_eq_true rfl) (Nat.le_of_ble_eq_true rfl) rfl rfl (Nat.le_of_ble_eq_true rfl) (fun r m x hp => ?_)
      obtain ⟨i, hi, rfl, rfl, et, h1, hs1⟩ := hp
      have ez : zrep gr E Ln = (if zgr (zs t_dm) Ln then (zs t_250h, ([], false, []), true, false, false) else (zs t_501, E, gr, false, false)) := by rw [zrep, if_neg (show ¬ 100 < Ln.length by omega), d18, if_pos rfl]
      refine g_aret (pc := 26) hc he dML_replyTo_26 (Or.inr ⟨_, rfl⟩) (Nat.le_refl _) (Nat.le_refl _) ⟨i, hi, rfl, rfl, ?_, ?_, hs1⟩
      · rw [et, ez]; cases zgr (zs t_dm) Ln <;> rfl
      · rw [ez]; cases hK : zgr (zs t_dm) Ln <;> rw [hK] at h1 <;> simpa using h1
  · simp (disch := omega) only [nI_leI, nI_ltI, nI_eq, nI_eq0, nI_lt0, nI_0le, nI_0lt, nI_le0, zb_0] at c6
    refine g_ldcS (pc := 9) hc dML_replyTo_9 xt_ML_143 ?_
    have ez : zrep gr E Ln = (zs t_500l, E, gr, false, false) := by rw [zrep, if_pos (show 100 < Ln.length by omega)]
    exact g_aret (pc := 11) hc he dML_replyTo_11 (Or.inr ⟨_, rfl⟩) (Nat.le_refl _) (Nat.le_refl _) ⟨t_500l, by decide, rfl, rfl, by rw [ez], by rw [ez]; simpa using h, zsame.rf⟩
theorem zdropR {L : List (List Nat)} {a : Nat} (h : a < L.length) : L.drop a = L.getD a [] :: L.drop (a + 1) := by
  rw [List.drop_eq_getElem_cons h, List.getD_eq_getElem?_getD, List.getElem?_eq_getElem h]
  rfl
set_option maxHeartbeats 4000000 in
set_option maxRecDepth 100000 in
theorem s_ML_endText (V : mm_V) {z tn : Nat} {A Ln : List Nat} {lc : Bool} {T : List Nat} {tc td : Bool} {E : zEv} {Ms : List zMsg} {ses gr tx : Bool} {mem : mm_M} {nx : Nat} (h : zML z A Ln lc T tc td tn E Ms ses gr tx mem) (h0 : 0 < E.2.2.length) : mm_S V yML_endText cML_endText 6 none 6 0 0 [.ref z, .ref (z + 6 + 1)] mem nx (fun r m x => r = none ∧ nx = x ∧ zML z (zfin A T (decide (10 ≤ Ms.length)) E.2.2) Ln lc T tc td tn (([], false, [])) (if 200 < T.length ∨ 10 ≤ Ms.length then Ms else Ms ++ [(T, E.1, E.2.2.getD 0 [], E.2.2.length)]) ses gr false m ∧ zsame z (z + 92) mem m) := by
  obtain ⟨hm, hA, hLn, hT, hE, ⟨g, hg, hg7⟩, hMs, hLe⟩ := id h
  refine mm_met (by decide) (Nat.le_of_ble_eq_true rfl) ?_
  intro X hc he hnm
  have hb4 := hE.2.2.2.1
  have hb5 := hT.2.le
  have J138 : ∀ (A9 : List Nat) (Ms9 : List zMsg) (m9 : mm_M), zML z A9 Ln lc T tc td tn E Ms9 ses gr tx m9 → zsame z (z + 92) mem m9 → A9 = zfin A T (decide (10 ≤ Ms.length)) E.2.2 → Ms9 = (if 200 < T.length ∨ 10 ≤ Ms.length then Ms else Ms ++ [(T, E.1, E.2.2.getD 0 [], E.2.2.length)]) → mm_G V X 6 138 [(0, .ref z)] [] m9 nx 0 0 := by
    intro A9 Ms9 m9 h9 hs9 ea em
    have hE9 := h9.2.2.2.2.1
    have hm9 := h9.1
    refine g_aload_n (pc := 138) hc dML_endText_138 rfl ?_
    refine g_get (pc := 139) hc dML_endText_139 x_ML_35 (by assumption) (by rfl) ?_
    refine g_callV (pc := 142) hc dML_endText_142 x_ML_79 (s_Env_clear V hE9) cl_Env (hE9.1) (Nat.le_of_ble_eq_true rfl) (Nat.le_of_ble_eq_true rfl) (Nat.le_of_ble_eq_true rfl) (Nat.le_of_ble_eq_true rfl) rfl rfl (Nat.le_of_ble_eq_true rfl) (fun r m x hp => ?_)
    obtain ⟨rfl, rfl, hE2, hs2⟩ := hp
    have H2 := h9.env hE2 hs2
    have hm2 := H2.1
    refine g_aload_n (pc := 145) hc dML_endText_145 rfl ?_
    refine g_iconst (v := nI 0) (pc := 146) hc dML_endText_146 (by decide) ?_
    refine g_put (pc := 147) hc dML_endText_147 x_ML_73 ft_ML rfl hm2 rfl rfl (zlt rfl) (fun m3 h3 o3 => ?_)
    have H3 : zML z A9 Ln lc T tc td tn ([], false, []) Ms9 ses gr false m3 := H2.flag h3 o3
    subst ea em
    exact g_vret (pc := 150) hc he dML_endText_150 (Nat.le_refl _) (Nat.le_refl _) ⟨rfl, rfl, H3, fun a q => (o3 a (by omega)).trans ((hs2 a (by omega)).trans (hs9 a q))⟩
  have J103 : ∀ (A1 : List Nat) (m1 : mm_M), zML z A1 Ln lc T tc td tn E Ms ses gr tx m1 → zsame z (z + 92) mem m1 → A1 = zfin A T (decide (10 ≤ Ms.length)) E.2.2 → mm_G V X 6 103 [(0, .ref z), (1, .ref (z + 6 + 1)), (2, .int (zb (decide (200 < T.length)))), (3, .int (zb (decide (10 ≤ Ms.length))))] [] m1 nx 0 0 := by
    intro A1 m1 h1 hs1 ea
    obtain ⟨hm1, hA1, hLn1, hT1, hE1, ⟨g1, hg1, hg2⟩, hMs1, hLe1⟩ := id h1
    refine g_iload_n (pc := 103) hc dML_endText_103 rfl ?_
    refine g_if_ne (tgt := 138) (pc := 104) hc dML_endText_104 (by decide) (fun c104 => ?_) (fun c104 => ?_)
    · simp (disch := omega) only [nI_leI, nI_ltI, nI_eq, nI_eq0, nI_lt0, nI_0le, nI_0lt, nI_le0, zb_0] at c104
      have d104 : 200 < T.length := by simpa using c104
      refine g_lv (lv' := [(0, .ref z)]) ⟨rfl, trivial⟩ ?_
      exact J138 A1 Ms m1 h1 hs1 ea (by rw [if_pos (Or.inl d104)])
    · simp (disch := omega) only [nI_leI, nI_ltI, nI_eq, nI_eq0, nI_lt0, nI_0le, nI_0lt, nI_le0, zb_0] at c104
      have d104 : ¬ 200 < T.length := by simpa using c104
      refine g_iload_n (pc := 107) hc dML_endText_107 rfl ?_
      refine g_if_ne (tgt := 138) (pc := 108) hc dML_endText_108 (by decide) (fun c108 => ?_) (fun c108 => ?_)
      · simp (disch := omega) only [nI_leI, nI_ltI, nI_eq, nI_eq0, nI_lt0, nI_0le, nI_0lt, nI_le0, zb_0] at c108
        have d108 : 10 ≤ Ms.length := by simpa using c108
        refine g_lv (lv' := [(0, .ref z)]) ⟨rfl, trivial⟩ ?_
        exact J138 A1 Ms m1 h1 hs1 ea (by rw [if_pos (Or.inr d108)])
      · simp (disch := omega) only [nI_leI, nI_ltI, nI_eq, nI_eq0, nI_lt0, nI_0le, nI_0lt, nI_le0, zb_0] at c108
        have d108 : ¬ 10 ≤ Ms.length := by simpa using c108
        refine g_aload_n (pc := 111) hc dML_endText_111 rfl ?_
        refine g_get (pc := 112) hc dML_endText_112 x_ML_41 (by assumption) (by rfl) ?_
        refine g_aload_n (pc := 115) hc dML_endText_115 rfl ?_
        refine g_get (pc := 116) hc dML_endText_116 x_ML_102 (by assumption) (by rfl) ?_
        have hl0 := hLe1 Ms.length (by omega)
        rw [show Ms.getD Ms.length zm0 = zm0 by simp [List.getD_eq_getElem?_getD]] at hl0
        refine g_aald (pc := 119) (t := kLA) hc dML_endText_119 rfl hg1 (vp_in_nI (by omega) (by omega)) ?_
        rw [nI_clamp (by omega), hg2 _ (by omega), zrf]
        refine g_aload_n (pc := 120) hc dML_endText_120 rfl ?_
        refine g_aload_n (pc := 121) hc dML_endText_121 rfl ?_
        refine g_get (pc := 122) hc dML_endText_122 x_ML_35 (by assumption) (by rfl) ?_
        refine g_callV (pc := 125) hc dML_endText_125 x_ML_259 (s_Let_fill V hl0 hT1.2 (by omega) hE1 h0 (by omega) (by omega)) cl_Let (hl0.1) (Nat.le_of_ble_eq_true rfl) (Nat.le_of_ble_eq_true rfl) (Nat.le_of_ble_eq_true rfl) (Nat.le_of_ble_eq_true rfl) rfl rfl (Nat.le_of_ble_eq_true rfl) (fun r m x hp => ?_)
        obtain ⟨rfl, rfl, hl2, hs2⟩ := hp
        have hm2 := (hs2 z (by omega)).trans hm1
        refine g_aload_n (pc := 128) hc dML_endText_128 rfl ?_
        refine g_dup (pc := 129) hc dML_endText_129 rfl ?_
        refine g_get (pc := 130) hc dML_endText_130 x_ML_102 hm2 (by rfl) ?_
        refine g_iconst (v := nI 1) (pc := 133) hc dML_endText_133 (by decide) ?_
        refine g_iadd (pc := 134) hc dML_endText_134 ?_
        rw [nI_add]
        refine g_put (pc := 135) hc dML_endText_135 x_ML_102 ft_ML rfl hm2 rfl rfl (zlt rfl) (fun m3 h3 o3 => ?_)
        refine g_lv (lv' := [(0, .ref z)]) ⟨rfl, trivial⟩ ?_
        have hs3 : zsame z (z + 1) _ m3 := zsame.one o3 (Nat.le_refl _) (by omega)
        refine J138 A1 (Ms ++ [(T, E.1, E.2.2.getD 0 [], E.2.2.length)]) m3 ⟨?_, (hA1.off hs2 (by omega)).off hs3 (by omega), (hLn1.off hs2 (by omega)).off hs3 (by omega), (hT1.off hs2 (by omega)).off hs3 (by omega), (hE1.off hs2 (by omega)).off hs3 (by omega), ⟨g1, (hs3 _ (by omega)).trans ((hs2 _ (by omega)).trans hg1), hg2⟩, by simp; omega, fun i hi => ?_⟩ (fun a q => (o3 a (by omega)).trans ((hs2 a (by omega)).trans (hs1 a q))) ea (by rw [if_neg (by omega)])
        · rw [h3]; simp
        · rw [zgetD_app]
          by_cases e : i = Ms.length
          · subst e
            rw [if_neg (by omega), if_pos rfl]
            exact hl2.off hs3 (by omega)
          · have q1 := ((hLe1 i hi).off hs2 (by omega)).off hs3 (by omega)
            by_cases e2 : i < Ms.length
            · rw [if_pos e2]; exact q1
            · rw [if_neg e2, if_neg e]
              rw [show Ms.getD i zm0 = zm0 by rw [List.getD_eq_getElem?_getD, List.getElem?_eq_none (by omega)]; rfl] at q1
              exact q1
  have loop : ∀ (n k : Nat) (A1 : List Nat) (m1 : mm_M), k + n = E.2.2.length → zML z A1 Ln lc T tc td tn E Ms ses gr tx m1 → zsame (z + 1) (z + 3) mem m1 → (E.2.2.drop k).foldl (fun A R => zans A (if 200 < T.length then zs t_552 else if decide (10 ≤ Ms.length) = true then zs t_452f else zs t_250l ++ R ++ [62])) A1 = zfin A T (decide (10 ≤ Ms.length)) E.2.2 → mm_G V X 6 37 [(0, .ref z), (1, .ref (z + 6 + 1)), (2, .int (zb (decide (200 < T.length)))), (3, .int (zb (decide (10 ≤ Ms.length)))), (4, .int (nI (k)))] [] m1 nx 0 0 := by
    intro n
    induction n with
    | zero =>
      intro k A1 m1 e1 h1 hs1 e2
      have hm1 := h1.1
      have hE1 := h1.2.2.2.2.1
      rw [List.drop_eq_nil_iff.mpr (by omega)] at e2
      refine g_iload (pc := 37) hc dML_endText_37 rfl ?_
      refine g_aload_n (pc := 39) hc dML_endText_39 rfl ?_
      refine g_get (pc := 40) hc dML_endText_40 x_ML_35 (by assumption) (by rfl) ?_
      refine g_callV (pc := 43) hc dML_endText_43 x_ML_106 (s_Env_recipients V hE1) cl_Env (hE1.1) (Nat.le_of_ble_eq_true rfl) (Nat.le_of_ble_eq_true rfl) (Nat.le_of_ble_eq_true rfl) (Nat.le_of_ble_eq_true rfl) rfl rfl (Nat.le_of_ble_eq_true rfl) (fun r m x hp => ?_)
      obtain ⟨rfl, rfl, rfl⟩ := hp
      refine g_icmp_ge (tgt := 103) (pc := 46) hc dML_endText_46 (by decide) (fun _ => ?_) (fun c46 => absurd (nI_le (by omega) (by omega)) c46)
      refine g_lv (lv' := [(0, .ref z), (1, .ref (z + 6 + 1)), (2, .int (zb (decide (200 < T.length)))), (3, .int (zb (decide (10 ≤ Ms.length))))]) ⟨rfl, rfl, rfl, rfl, trivial⟩ ?_
      exact J103 A1 m1 h1 (hs1.wide (by omega) (by omega)) e2
    | succ n ih =>
      intro k A1 m1 e1 h1 hs1 e2
      have hm1 := h1.1
      have hE1 := h1.2.2.2.2.1
      refine g_iload (pc := 37) hc dML_endText_37 rfl ?_
      refine g_aload_n (pc := 39) hc dML_endText_39 rfl ?_
      refine g_get (pc := 40) hc dML_endText_40 x_ML_35 (by assumption) (by rfl) ?_
      refine g_callV (pc := 43) hc dML_endText_43 x_ML_106 (s_Env_recipients V hE1) cl_Env (hE1.1) (Nat.le_of_ble_eq_true rfl) (Nat.le_of_ble_eq_true rfl) (Nat.le_of_ble_eq_true rfl) (Nat.le_of_ble_eq_true rfl) rfl rfl (Nat.le_of_ble_eq_true rfl) (fun r m x hp => ?_)
      obtain ⟨rfl, rfl, rfl⟩ := hp
      refine g_icmp_ge (tgt := 103) (pc := 46) hc dML_endText_46 (by decide) (fun c46 => absurd c46 (nI_ge (by omega) (by omega))) (fun _ => ?_)
      refine g_aload_n (pc := 49) hc dML_endText_49 rfl ?_
      refine g_get (pc := 50) hc dML_endText_50 x_ML_35 (by assumption) (by rfl) ?_
      refine g_iload (pc := 53) hc dML_endText_53 rfl ?_
      refine g_callV (pc := 55) hc dML_endText_55 x_ML_250 (s_Env_recipientOrNull V (i := k) hE1 (by omega)) cl_Env (hE1.1) (Nat.le_of_ble_eq_true rfl) (Nat.le_of_ble_eq_true rfl) (Nat.le_of_ble_eq_true rfl) (Nat.le_of_ble_eq_true rfl) rfl rfl (Nat.le_of_ble_eq_true rfl) (fun r m x hp => ?_)
      rw [if_pos (show k < E.2.2.length by omega)] at hp
      obtain ⟨rfl, rfl, rfl⟩ := hp
      refine g_astore (pc := 58) hc dML_endText_58 (by decide) rfl ?_
      refine g_iload_n (pc := 60) hc dML_endText_60 rfl ?_
      refine g_if_eq (tgt := 73) (pc := 61) hc dML_endText_61 (by decide) (fun c61 => ?_) (fun c61 => ?_)
      · simp (disch := omega) only [nI_leI, nI_ltI, nI_eq, nI_eq0, nI_lt0, nI_0le, nI_0lt, nI_le0, zb_0] at c61
        have d61 : ¬ 200 < T.length := by simpa using c61
        refine g_iload_n (pc := 73) hc dML_endText_73 rfl ?_
        refine g_if_eq (tgt := 86) (pc := 74) hc dML_endText_74 (by decide) (fun c74 => ?_) (fun c74 => ?_)
        · simp (disch := omega) only [nI_leI, nI_ltI, nI_eq, nI_eq0, nI_lt0, nI_0le, nI_0lt, nI_le0, zb_0] at c74
          refine g_aload (pc := 86) hc dML_endText_86 rfl ?_
          refine g_ifnull (pc := 88) hc dML_endText_88 ?_
          refine g_aload_n (pc := 91) hc dML_endText_91 rfl ?_
          refine g_aload (pc := 92) hc dML_endText_92 rfl ?_
          refine g_callV (pc := 94) hc dML_endText_94 x_ML_256 (s_ML_answerTaken V h1 (show k < E.2.2.length by omega)) cl_ML (h1.1) (Nat.le_of_ble_eq_true rfl) (Nat.le_of_ble_eq_true rfl) (Nat.le_of_ble_eq_true rfl) (Nat.le_of_ble_eq_true rfl) rfl rfl (Nat.le_of_ble_eq_true rfl) (fun r m x hp => ?_)
          obtain ⟨rfl, rfl, h3, hs3⟩ := hp
          refine g_iinc (pc := 97) hc dML_endText_97 rfl (zinc _) (by decide) rfl ?_
          refine g_goto (tgt := 37) (pc := 100) hc dML_endText_100 (by decide) ?_
          refine g_lv (lv' := [(0, .ref z), (1, .ref (z + 6 + 1)), (2, .int (zb (decide (200 < T.length)))), (3, .int (zb (decide (10 ≤ Ms.length)))), (4, .int (nI (k + 1)))]) ⟨rfl, rfl, rfl, rfl, rfl, trivial⟩ ?_
          refine ih (k + 1) _ _ (by omega) h3 (hs1.tr hs3) ?_
          rw [← e2, zdropR (show k < E.2.2.length by omega), List.foldl_cons]
          congr 1
          rw [if_neg d61, if_neg (by rw [c74]; decide)]
        · simp (disch := omega) only [nI_leI, nI_ltI, nI_eq, nI_eq0, nI_lt0, nI_0le, nI_0lt, nI_le0, zb_0] at c74
          have d74 : decide (10 ≤ Ms.length) = true := by simpa using c74
          refine g_aload_n (pc := 77) hc dML_endText_77 rfl ?_
          refine g_ldcS (pc := 78) hc dML_endText_78 xt_ML_254 ?_
          refine g_callV (pc := 80) hc dML_endText_80 x_ML_124 (s_ML_answer V h1 (show t_452f < mm_nS by decide)) cl_ML (h1.1) (Nat.le_of_ble_eq_true rfl) (Nat.le_of_ble_eq_true rfl) (Nat.le_of_ble_eq_true rfl) (Nat.le_of_ble_eq_true rfl) rfl rfl (Nat.le_of_ble_eq_true rfl) (fun r m x hp => ?_)
          obtain ⟨rfl, rfl, h3, hs3⟩ := hp
          refine g_goto (tgt := 97) (pc := 83) hc dML_endText_83 (by decide) ?_
          refine g_iinc (pc := 97) hc dML_endText_97 rfl (zinc _) (by decide) rfl ?_
          refine g_goto (tgt := 37) (pc := 100) hc dML_endText_100 (by decide) ?_
          refine g_lv (lv' := [(0, .ref z), (1, .ref (z + 6 + 1)), (2, .int (zb (decide (200 < T.length)))), (3, .int (zb (decide (10 ≤ Ms.length)))), (4, .int (nI (k + 1)))]) ⟨rfl, rfl, rfl, rfl, rfl, trivial⟩ ?_
          refine ih (k + 1) _ _ (by omega) h3 (hs1.tr hs3) ?_
          rw [← e2, zdropR (show k < E.2.2.length by omega), List.foldl_cons]
          congr 1
          rw [if_neg d61, if_pos d74]
      · simp (disch := omega) only [nI_leI, nI_ltI, nI_eq, nI_eq0, nI_lt0, nI_0le, nI_0lt, nI_le0, zb_0] at c61
        have d61 : 200 < T.length := by simpa using c61
        refine g_aload_n (pc := 64) hc dML_endText_64 rfl ?_
        refine g_ldcS (pc := 65) hc dML_endText_65 xt_ML_223 ?_
        refine g_callV (pc := 67) hc dML_endText_67 x_ML_124 (s_ML_answer V h1 (show t_552 < mm_nS by decide)) cl_ML (h1.1) (Nat.le_of_ble_eq_true rfl) (Nat.le_of_ble_eq_true rfl) (Nat.le_of_ble_eq_true rfl) (Nat.le_of_ble_eq_true rfl) rfl rfl (Nat.le_of_ble_eq_true rfl) (fun r m x hp => ?_)
        obtain ⟨rfl, rfl, h3, hs3⟩ := hp
        refine g_goto (tgt := 97) (pc := 70) hc dML_endText_70 (by decide) ?_
        refine g_iinc (pc := 97) hc dML_endText_97 rfl (zinc _) (by decide) rfl ?_
        refine g_goto (tgt := 37) (pc := 100) hc dML_endText_100 (by decide) ?_
        refine g_lv (lv' := [(0, .ref z), (1, .ref (z + 6 + 1)), (2, .int (zb (decide (200 < T.length)))), (3, .int (zb (decide (10 ≤ Ms.length)))), (4, .int (nI (k + 1)))]) ⟨rfl, rfl, rfl, rfl, rfl, trivial⟩ ?_
        refine ih (k + 1) _ _ (by omega) h3 (hs1.tr hs3) ?_
        rw [← e2, zdropR (show k < E.2.2.length by omega), List.foldl_cons]
        congr 1
        rw [if_pos d61]
  have J34 : mm_G V X 6 34 [(0, .ref z), (1, .ref (z + 6 + 1)), (2, .int (zb (decide (200 < T.length)))), (3, .int (zb (decide (10 ≤ Ms.length))))] [] mem nx 0 0 := by
    refine g_iconst (v := nI 0) (pc := 34) hc dML_endText_34 (by decide) ?_
    refine g_istore (pc := 35) hc dML_endText_35 (by decide) rfl ?_
    refine g_lv (lv' := [(0, .ref z), (1, .ref (z + 6 + 1)), (2, .int (zb (decide (200 < T.length)))), (3, .int (zb (decide (10 ≤ Ms.length)))), (4, .int (nI (0)))]) ⟨rfl, rfl, rfl, rfl, rfl, trivial⟩ ?_
    exact loop _ 0 A mem (Nat.zero_add _) h zsame.rf rfl
  have J15 : mm_G V X 6 15 [(0, .ref z), (1, .ref (z + 6 + 1))] [.int (zb (decide (200 < T.length)))] mem nx 0 0 := by
    refine g_istore_n (pc := 15) hc dML_endText_15 (by decide) rfl ?_
    refine g_aload_n (pc := 16) hc dML_endText_16 rfl ?_
    refine g_get (pc := 17) hc dML_endText_17 x_ML_102 (by assumption) (by rfl) ?_
    refine g_aload_n (pc := 20) hc dML_endText_20 rfl ?_
    refine g_get (pc := 21) hc dML_endText_21 x_ML_41 (by assumption) (by rfl) ?_
    refine g_alen (pc := 24) (t := kLA) (v := nI 10) hc dML_endText_24 rfl hg rfl ?_
    refine g_icmp_lt (tgt := 32) (pc := 25) hc dML_endText_25 (by decide) (fun c25 => ?_) (fun c25 => ?_)
    · simp (disch := omega) only [nI_leI, nI_ltI, nI_eq, nI_eq0, nI_lt0, nI_0le, nI_0lt, nI_le0, zb_0] at c25
      have d25 : decide (10 ≤ Ms.length) = false := by simpa using c25
      refine g_iconst (v := nI 0) (pc := 32) hc dML_endText_32 (by decide) ?_
      refine g_istore_n (pc := 33) hc dML_endText_33 (by decide) rfl ?_
      refine g_lv (lv' := [(0, .ref z), (1, .ref (z + 6 + 1)), (2, .int (zb (decide (200 < T.length)))), (3, .int (zb (decide (10 ≤ Ms.length))))]) (by rw [d25]; exact ⟨rfl, rfl, rfl, rfl, trivial⟩) ?_
      exact J34
    · simp (disch := omega) only [nI_leI, nI_ltI, nI_eq, nI_eq0, nI_lt0, nI_0le, nI_0lt, nI_le0, zb_0] at c25
      have d25 : decide (10 ≤ Ms.length) = true := by simpa using c25
      refine g_iconst (v := nI 1) (pc := 28) hc dML_endText_28 (by decide) ?_
      refine g_goto (tgt := 33) (pc := 29) hc dML_endText_29 (by decide) ?_
      refine g_istore_n (pc := 33) hc dML_endText_33 (by decide) rfl ?_
      refine g_lv (lv' := [(0, .ref z), (1, .ref (z + 6 + 1)), (2, .int (zb (decide (200 < T.length)))), (3, .int (zb (decide (10 ≤ Ms.length))))]) (by rw [d25]; exact ⟨rfl, rfl, rfl, rfl, trivial⟩) ?_
      exact J34
  refine g_aload_n (pc := 0) hc dML_endText_0 rfl ?_
  refine g_callV (pc := 1) hc dML_endText_1 x_ML_53 (s_Row_length V hT.2) cl_Row (hT.2.obj) (Nat.le_of_ble_eq_true rfl) (Nat.le_of_ble_eq_true rfl) (Nat.le_of_ble_eq_true rfl) (Nat.le_of_ble_eq_true rfl) rfl rfl (Nat.le_of_ble_eq_true rfl) (fun r m x hp => ?_)
  obtain ⟨rfl, rfl, rfl⟩ := hp
  refine g_sipush (v := nI 200) (pc := 4) hc dML_endText_4 (by decide) ?_
  refine g_icmp_le (tgt := 14) (pc := 7) hc dML_endText_7 (by decide) (fun c7 => ?_) (fun c7 => ?_)
  · simp (disch := omega) only [nI_leI, nI_ltI, nI_eq, nI_eq0, nI_lt0, nI_0le, nI_0lt, nI_le0, zb_0] at c7
    have d7 : decide (200 < T.length) = false := by simpa using c7
    refine g_iconst (v := nI 0) (pc := 14) hc dML_endText_14 (by decide) ?_
    rw [d7] at J15
    exact J15
  · simp (disch := omega) only [nI_leI, nI_ltI, nI_eq, nI_eq0, nI_lt0, nI_0le, nI_0lt, nI_le0, zb_0] at c7
    have d7 : decide (200 < T.length) = true := by simpa using c7
    refine g_iconst (v := nI 1) (pc := 10) hc dML_endText_10 (by decide) ?_
    refine g_goto (tgt := 15) (pc := 11) hc dML_endText_11 (by decide) ?_
    rw [d7] at J15
    exact J15
set_option maxHeartbeats 4000000 in
set_option maxRecDepth 100000 in
theorem s_ML_takeByte (V : mm_V) {z tn : Nat} {A Ln : List Nat} {lc : Bool} {T : List Nat} {tc td : Bool} {E : zEv} {Ms : List zMsg} {ses gr tx : Bool} {b : Nat} {mem : mm_M} {nx : Nat} (h : zML z A Ln lc T tc td tn E Ms ses gr tx mem) (hb : b < 256) (hn : tn < 65536) (h0 : tx = true → 0 < E.2.2.length) : mm_S V yML_takeByte cML_takeByte 2 none 9 0 0 [.ref z, .int (nI b)] mem nx (fun r m x => r = none ∧ nx = x ∧ zM z (zstep (A, (Ln, lc), (T, tc, td, tn), E, Ms, ses, gr, tx) b) m ∧ zsame z (z + 92) mem m) := by
  obtain ⟨hm, hA, hLn, hT, hE, ⟨g, hg, hg7⟩, hMs, hLe⟩ := id h
  refine mm_met (by decide) (Nat.le_of_ble_eq_true rfl) ?_
  intro X hc he hnm
  refine g_aload_n (pc := 0) hc dML_takeByte_0 rfl ?_
  refine g_get (pc := 1) hc dML_takeByte_1 x_ML_73 (by assumption) (by rfl) ?_
  refine g_if_eq (tgt := 32) (pc := 4) hc dML_takeByte_4 (by decide) (fun c4 => ?_) (fun c4 => ?_)
  · simp (disch := omega) only [nI_leI, nI_ltI, nI_eq, nI_eq0, nI_lt0, nI_0le, nI_0lt, nI_le0, zb_0] at c4
    refine g_aload_n (pc := 32) hc dML_takeByte_32 rfl ?_
    refine g_get (pc := 33) hc dML_takeByte_33 x_ML_21 (by assumption) (by rfl) ?_
    refine g_iload_n (pc := 36) hc dML_takeByte_36 rfl ?_
    refine g_callV (pc := 37) hc dML_takeByte_37 x_ML_119 (s_LR_endsWith V hLn hb) cl_LR (hLn.1) (Nat.le_of_ble_eq_true rfl) (Nat.le_of_ble_eq_true rfl) (Nat.le_of_ble_eq_true rfl) (Nat.le_of_ble_eq_true rfl) rfl rfl (Nat.le_of_ble_eq_true rfl) (fun r m x hp => ?_)
    obtain ⟨rfl, rfl, hL1, hs1⟩ := hp
    have H1 := h.line hL1 hs1
    have hm1 := H1.1
    refine g_if_eq (tgt := 65) (pc := 40) hc dML_takeByte_40 (by decide) (fun c40 => ?_) (fun c40 => ?_)
    · simp (disch := omega) only [nI_leI, nI_ltI, nI_eq, nI_eq0, nI_lt0, nI_0le, nI_0lt, nI_le0, zb_0] at c40
      rw [c40] at H1
      exact g_vret (pc := 65) hc he dML_takeByte_65 (Nat.le_refl _) (Nat.le_refl _) ⟨rfl, rfl, by unfold zstep; rw [c4]; simp only [Bool.false_eq_true, if_false]; rw [c40]; simp only [Bool.false_eq_true, if_false]; rw [c4] at H1; exact H1, fun a q => hs1 a (by omega)⟩
    · simp (disch := omega) only [nI_leI, nI_ltI, nI_eq, nI_eq0, nI_lt0, nI_0le, nI_0lt, nI_le0, zb_0] at c40
      have d40 : zlrE lc b = true := by simpa using c40
      refine g_aload_n (pc := 43) hc dML_takeByte_43 rfl ?_
      refine g_aload_n (pc := 44) hc dML_takeByte_44 rfl ?_
      refine g_aload_n (pc := 45) hc dML_takeByte_45 rfl ?_
      refine g_get (pc := 46) hc dML_takeByte_46 x_ML_21 hm1 (by rfl) ?_
      refine g_callV (pc := 49) hc dML_takeByte_49 x_ML_110 (s_LR_row V hL1) cl_LR (hL1.1) (Nat.le_of_ble_eq_true rfl) (Nat.le_of_ble_eq_true rfl) (Nat.le_of_ble_eq_true rfl) (Nat.le_of_ble_eq_true rfl) rfl rfl (Nat.le_of_ble_eq_true rfl) (fun r m x hp => ?_)
      obtain ⟨rfl, rfl, rfl⟩ := hp
      refine g_callV (pc := 52) hc dML_takeByte_52 x_ML_120 (s_ML_replyTo V H1) cl_ML (H1.1) (Nat.le_of_ble_eq_true rfl) (Nat.le_of_ble_eq_true rfl) (Nat.le_of_ble_eq_true rfl) (Nat.le_of_ble_eq_true rfl) rfl rfl (Nat.le_of_ble_eq_true rfl) (fun r m x hp => ?_)
      obtain ⟨i, hi, rfl, rfl, et, H2, hs2⟩ := hp
      refine g_callV (pc := 55) hc dML_takeByte_55 x_ML_124 (s_ML_answer V H2 hi) cl_ML (H2.1) (Nat.le_of_ble_eq_true rfl) (Nat.le_of_ble_eq_true rfl) (Nat.le_of_ble_eq_true rfl) (Nat.le_of_ble_eq_true rfl) rfl rfl (Nat.le_of_ble_eq_true rfl) (fun r m x hp => ?_)
      obtain ⟨rfl, rfl, H3, hs3⟩ := hp
      have hm3 := H3.1
      have hL3 := H3.2.2.1
      refine g_aload_n (pc := 58) hc dML_takeByte_58 rfl ?_
      refine g_get (pc := 59) hc dML_takeByte_59 x_ML_21 hm3 (by rfl) ?_
      refine g_callV (pc := 62) hc dML_takeByte_62 x_ML_76 (s_LR_clear V hL3) cl_LR (hL3.1) (Nat.le_of_ble_eq_true rfl) (Nat.le_of_ble_eq_true rfl) (Nat.le_of_ble_eq_true rfl) (Nat.le_of_ble_eq_true rfl) rfl rfl (Nat.le_of_ble_eq_true rfl) (fun r m x hp => ?_)
      obtain ⟨rfl, rfl, hL4, hs4⟩ := hp
      have H4 := H3.line hL4 hs4
      refine g_vret (pc := 65) hc he dML_takeByte_65 (Nat.le_refl _) (Nat.le_refl _) ⟨rfl, rfl, ?_, fun a q => (hs4 a (by omega)).trans ((hs3 a (by omega)).trans ((hs2 a q).trans (hs1 a (by omega))))⟩
      unfold zstep
      rw [c4]
      simp only [Bool.false_eq_true, if_false]
      rw [et, d40] at H4
      simp only [if_true] at H4
      rw [d40, if_pos rfl]
      rw [c4, Bool.false_or] at H4
      cases hD : (zrep gr E Ln.dropLast).2.2.2.1 <;> rw [hD] at H4 <;> unfold zM <;> simpa using H4
  · simp (disch := omega) only [nI_leI, nI_ltI, nI_eq, nI_eq0, nI_lt0, nI_0le, nI_0lt, nI_le0, zb_0] at c4
    have d4 : tx = true := by simpa using c4
    refine g_aload_n (pc := 7) hc dML_takeByte_7 rfl ?_
    refine g_get (pc := 8) hc dML_takeByte_8 x_ML_28 (by assumption) (by rfl) ?_
    refine g_iload_n (pc := 11) hc dML_takeByte_11 rfl ?_
    refine g_callV (pc := 12) hc dML_takeByte_12 x_ML_111 (s_TR_endsWith V hT hb hn) cl_TR (hT.1) (Nat.le_of_ble_eq_true rfl) (Nat.le_of_ble_eq_true rfl) (Nat.le_of_ble_eq_true rfl) (Nat.le_of_ble_eq_true rfl) rfl rfl (Nat.le_of_ble_eq_true rfl) (fun r m x hp => ?_)
    obtain ⟨rfl, rfl, hT1, hs1⟩ := hp
    have H1 := h.text hT1 hs1
    have hm1 := H1.1
    refine g_if_eq (tgt := 65) (pc := 15) hc dML_takeByte_15 (by decide) (fun c15 => ?_) (fun c15 => ?_)
    · simp (disch := omega) only [nI_leI, nI_ltI, nI_eq, nI_eq0, nI_lt0, nI_0le, nI_0lt, nI_le0, zb_0] at c15
      exact g_vret (pc := 65) hc he dML_takeByte_65 (Nat.le_refl _) (Nat.le_refl _) ⟨rfl, rfl, by unfold zstep; rw [d4]; simp only [if_true]; rw [c15]; simp only [Bool.false_eq_true, if_false]; rw [d4] at H1; exact H1, fun a q => hs1 a (by omega)⟩
    · simp (disch := omega) only [nI_leI, nI_ltI, nI_eq, nI_eq0, nI_lt0, nI_0le, nI_0lt, nI_le0, zb_0] at c15
      have d15 : ztE tc td tn b = true := by simpa using c15
      refine g_aload_n (pc := 18) hc dML_takeByte_18 rfl ?_
      refine g_aload_n (pc := 19) hc dML_takeByte_19 rfl ?_
      refine g_get (pc := 20) hc dML_takeByte_20 x_ML_28 hm1 (by rfl) ?_
      refine g_callV (pc := 23) hc dML_takeByte_23 x_ML_107 (s_TR_row V hT1) cl_TR (hT1.1) (Nat.le_of_ble_eq_true rfl) (Nat.le_of_ble_eq_true rfl) (Nat.le_of_ble_eq_true rfl) (Nat.le_of_ble_eq_true rfl) rfl rfl (Nat.le_of_ble_eq_true rfl) (fun r m x hp => ?_)
      obtain ⟨rfl, rfl, rfl⟩ := hp
      refine g_callV (pc := 26) hc dML_takeByte_26 x_ML_115 (s_ML_endText V H1 (h0 d4)) cl_ML (H1.1) (Nat.le_of_ble_eq_true rfl) (Nat.le_of_ble_eq_true rfl) (Nat.le_of_ble_eq_true rfl) (Nat.le_of_ble_eq_true rfl) rfl rfl (Nat.le_of_ble_eq_true rfl) (fun r m x hp => ?_)
      obtain ⟨rfl, rfl, H2, hs2⟩ := hp
      refine g_goto (tgt := 65) (pc := 29) hc dML_takeByte_29 (by decide) ?_
      exact g_vret (pc := 65) hc he dML_takeByte_65 (Nat.le_refl _) (Nat.le_refl _) ⟨rfl, rfl, by unfold zstep; rw [d4]; simp only [if_true]; rw [d15]; simp only [if_true]; exact H2, fun a q => (hs2 a q).trans (hs1 a (by omega))⟩
