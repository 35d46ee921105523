theorem zG_upd {f : Nat → Int32} {w : Nat} {Ls : List (List Nat)} {T : List Nat} {b : Nat} (h : ∀ r, r < (Ls ++ [T]).length → ((Ls ++ [T]).getD r []).length ≤ w ∧ ∀ j, j < ((Ls ++ [T]).getD r []).length → f (w * r + j) = nI (((Ls ++ [T]).getD r []).getD j 0)) (hT : T.length < w) : ∀ r, r < (Ls ++ [T ++ [b]]).length → ((Ls ++ [T ++ [b]]).getD r []).length ≤ w ∧ ∀ j, j < ((Ls ++ [T ++ [b]]).getD r []).length → upd f (w * Ls.length + T.length) (nI b) (w * r + j) = nI (((Ls ++ [T ++ [b]]).getD r []).getD j 0) := by
  intro r hr
  have hr2 : r < (Ls ++ [T]).length := by simpa using hr
  have h1 := h r hr2
  rw [zgetD_app] at h1 ⊢
  by_cases e : r < Ls.length
  · rw [if_pos e] at h1 ⊢
    refine ⟨h1.1, fun j hj => ?_⟩
    rw [pk_un, h1.2 j hj]
    have h2 : w * (r + 1) ≤ w * Ls.length := Nat.mul_le_mul_left w e
    rw [Nat.mul_add] at h2
    omega
  · have e2 : r = Ls.length := by simp at hr; omega
    rw [if_neg e, if_pos e2] at h1 ⊢
    subst e2
    refine ⟨by simp; omega, fun j hj => ?_⟩
    by_cases ej : j = T.length
    · subst ej
      rw [pk_us, zgetD_mid]
    · have hj2 : j < T.length := by simp at hj; omega
      rw [pk_un (by omega), h1.2 j hj2]
      simp [List.getD_eq_getElem?_getD, List.getElem?_append_left hj2]
theorem zG.start {a N w : Nat} {Ls : List (List Nat)} {m : mm_M} (h : zG a N w Ls m) (hN : (Ls.length + 1) * w ≤ N) : zG a N w (Ls ++ [[]]) m := by
  obtain ⟨f, h1, h2, h3⟩ := h
  refine ⟨f, h1, by simpa using hN, fun r hr => ?_⟩
  rw [zgetD_app]
  by_cases e : r < Ls.length
  · rw [if_pos e]; exact h3 r e
  · rw [if_neg e]
    by_cases e2 : r = Ls.length
    · rw [if_pos e2]; exact ⟨Nat.zero_le _, fun j hj => absurd hj (Nat.not_lt_zero j)⟩
    · rw [if_neg e2]; exact ⟨Nat.zero_le _, fun j hj => absurd hj (Nat.not_lt_zero j)⟩
theorem zG.step {a N w : Nat} {Ls : List (List Nat)} {T : List Nat} {b : Nat} {f : Nat → Int32} {m' : mm_M} (hl : (Ls.length + 1) * w ≤ N) (h : ∀ r, r < (Ls ++ [T]).length → ((Ls ++ [T]).getD r []).length ≤ w ∧ ∀ j, j < ((Ls ++ [T]).getD r []).length → f (w * r + j) = nI (((Ls ++ [T]).getD r []).getD j 0)) (hT : T.length < w) (hm : m' a = some (.inl (kI, N, .inl (upd f (w * Ls.length + T.length) (nI b))))) : zG a N w (Ls ++ [T ++ [b]]) m' := ⟨_, hm, by simpa using hl, zG_upd h hT⟩
theorem zlow4 {x : Nat} : (zlow x = 104 → znm (zs t_dm) x = true ∧ ¬ x = 46) ∧ (zlow x = 101 → znm (zs t_dm) x = true ∧ ¬ x = 46) ∧ (zlow x = 114 → znm (zs t_dm) x = true ∧ ¬ x = 46) := by
  refine ⟨fun h => ?_, fun h => ?_, fun h => ?_⟩
  · have : x = 104 ∨ x = 72 := by unfold zlow at h; split at h <;> omega
    rcases this with rfl | rfl <;> decide
  · have : x = 101 ∨ x = 69 := by unfold zlow at h; split at h <;> omega
    rcases this with rfl | rfl <;> decide
  · have : x = 114 ∨ x = 82 := by unfold zlow at h; split at h <;> omega
    rcases this with rfl | rfl <;> decide
theorem zne_go {mk : List Nat} {bd : Bool} {b : Nat} {r : List Nat} (h1 : ¬ b = 46) (h2 : znm mk b = true) : zne mk bd (b :: r) = (zne mk false r).map (· + 1) := by
  rw [zne, if_neg (fun z => h1 z.1), if_neg (fun z => by rw [h2] at z; exact absurd z.2 (by decide)), beq_eq_false_iff_ne.mpr h1]
theorem zhere {L : List Nat} {a e : Nat} (h : zhw L a [64, 104, 101, 114, 101] = true) (h3 : znE (zs t_dm) L (a + 1) 60 = some e) (h4 : L.getD e 0 = 62) (ha : a < L.length) : L.getD (a + 5) 0 = 62 ↔ e - a = 5 := by
  have hl := zhw_len _ _ _ h (by decide) (by omega)
  simp only [List.length_cons, List.length_nil] at hl
  simp only [zhw, Bool.and_eq_true, beq_iff_eq, Bool.and_true] at h
  obtain ⟨-, g1, g2, g3, g4⟩ := h
  have q1 := znE_lt h3
  constructor
  · intro h5
    have hl6 : a + 5 < L.length := by
      rcases Nat.lt_or_ge (a + 5) L.length with z | z
      · exact z
      · rw [zgetD_out z] at h5; cases h5
    have p1 := zlow4.1 (show zlow (L.getD (a + 1) 0) = 104 from g1)
    have p2 := zlow4.2.1 (show zlow (L.getD (a + 1 + 1) 0) = 101 from g2)
    have p3 := zlow4.2.2 (show zlow (L.getD (a + 1 + 1 + 1) 0) = 114 from g3)
    have p4 := zlow4.2.1 (show zlow (L.getD (a + 1 + 1 + 1 + 1) 0) = 101 from g4)
    have ez : zne (zs t_dm) true (L.drop (a + 1)) = some 4 := by
      rw [zdrop_cons (show a + 1 < L.length by omega), zne_go p1.2 p1.1, zdrop_cons (show a + 1 + 1 < L.length by omega), zne_go p2.2 p2.1, zdrop_cons (show a + 1 + 1 + 1 < L.length by omega), zne_go p3.2 p3.1, zdrop_cons (show a + 1 + 1 + 1 + 1 < L.length by omega), zne_go p4.2 p4.1, zdrop_cons (show a + 1 + 1 + 1 + 1 + 1 < L.length by omega), show L.getD (a + 1 + 1 + 1 + 1 + 1) 0 = 62 from h5]
      rw [zne, if_neg (by decide), if_pos (by decide)]
      rfl
    rw [znE, ez] at h3
    simp only [] at h3
    rw [if_neg (by decide)] at h3
    cases h3
    omega
  · intro h5
    rw [show a + 5 = e by omega]
    exact h4
theorem zhe_eq {L : List Nat} {a e : Nat} (h1 : znE (zs t_lm) L 9 40 = some a) (h2 : L.getD a 0 = 64) (h3 : znE (zs t_dm) L (a + 1) 60 = some e) (h4 : L.getD e 0 = 62) : zhe (zs t_lm) (zs t_he) L 9 = (decide (a - 9 ≤ 8) && (decide (e - a = 5) && zis L a (zsay 4632028436397817856 5))) := by
  have ha : a < L.length := by
    rcases Nat.lt_or_ge a L.length with z | z
    · exact z
    · rw [zgetD_out z] at h2; cases h2
  have q1 := znE_lt h1
  have e8 : znE (zs t_lm) L 9 8 = if 8 < a - 9 then none else some a := by
    unfold znE at h1 ⊢
    split at h1
    · cases h1
    · rename_i k hk
      split at h1
      · cases h1
      · cases h1
        rw [show 9 + k - 9 = k by omega]
  have ez : zis L a (zsay 4632028436397817856 5) = zhw L a [64, 104, 101, 114, 101] := zhw_zis (L := L) (w := [64, 104, 101, 114, 101]) (by decide) (by omega)
  have ew : zhw L a (zs t_he) = (zhw L a [64, 104, 101, 114, 101] && (zlow (L.getD (a + 5) 0) == 62 && true)) := zhw_app L [64, 104, 101, 114, 101] [62] a
  rw [zhe, e8, ez]
  by_cases h8 : 8 < a - 9
  · rw [if_pos h8, decide_eq_false (by omega)]; rfl
  · rw [if_neg h8, decide_eq_true (show a - 9 ≤ 8 by omega)]
    simp only []
    rw [ew, Bool.true_and, Bool.and_true]
    cases hw : zhw L a [64, 104, 101, 114, 101] with
    | false => simp
    | true =>
      have hh := zhere hw h3 h4 ha
      rw [Bool.true_and, Bool.and_true, Bool.eq_iff_iff, beq_iff_eq, decide_eq_true_eq, zlow62]
      exact hh
