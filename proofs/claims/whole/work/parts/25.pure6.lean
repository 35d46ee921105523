theorem zis2 {L u w : List Nat} {k : Nat} (hu : ∀ c ∈ u, zlow c ≠ 0) (hw : ∀ c ∈ w, zlow c ≠ 0) (hk : k ≤ L.length) : zhw L k (u ++ w) = (zis L k (u.map zhigh) && zis L (k + u.length) (w.map zhigh)) := by
  rw [zhw_app, zhw_zis hu hk]
  cases e : zhw L k u with
  | false => rfl
  | true =>
    have := zhw_len u L k e hu hk
    rw [zhw_zis hw this]
theorem zmf_eq (L : List Nat) : zhw L 0 (zs t_mf) = (zis L 0 (zsay 5566811205714465359 8) && zis L 8 (zsay 5564760289569669120 2)) := by
  have h := zis2 (L := L) (u := [77, 65, 73, 76, 32, 70, 82, 79]) (w := [77, 58]) (k := 0) (by decide) (by decide) (Nat.zero_le _)
  exact h
theorem zbo_eq {L : List Nat} {i : Nat} (hi : i ≤ L.length) : zhw L i (zs t_bo) = (zis L i (zsay 2324507512650152002 8) && zis L (i + 8) (zsay 5283933240036753408 6)) := by
  have h := zis2 (L := L) (u := [32, 66, 79, 68, 89, 61, 56, 66]) (w := [73, 84, 77, 73, 77, 69]) (k := i) (by decide) (by decide) hi
  exact h
theorem zsi_eq {L : List Nat} {i : Nat} (hi : i ≤ L.length) : zhw L i (zs t_si) = zis L i (zsay 2329286084338188288 6) :=
  (zhw_zis (L := L) (w := zs t_si) (k := i) (by decide) hi).symm
theorem zrt_eq (L : List Nat) : zhw L 0 (zs t_rt) = zis L 0 (zsay 5927669856799575866 8) :=
  (zhw_zis (L := L) (w := zs t_rt) (k := 0) (by decide) (Nat.zero_le _)).symm
theorem zlow60 (x : Nat) : zlow x = 60 ↔ x = 60 := by unfold zlow; split <;> omega
theorem zlow62 (x : Nat) : zlow x = 62 ↔ x = 62 := by unfold zlow; split <;> omega
theorem zns_eq (L : List Nat) : zhw L 0 (zs t_ns) = (zhw L 0 (zs t_mf) && decide (L.getD 10 0 = 60 ∧ L.getD 11 0 = 62)) := by
  have h : zhw L 0 (zs t_ns) = (zhw L 0 (zs t_mf) && (zlow (L.getD 10 0) == 60 && (zlow (L.getD 11 0) == 62 && true))) := zhw_app L (zs t_mf) [60, 62] 0
  rw [h]
  congr 1
  rw [Bool.and_true, Bool.eq_iff_iff, Bool.and_eq_true, beq_iff_eq, beq_iff_eq, decide_eq_true_eq, zlow60, zlow62]
/-- where the parameters of MAIL begin -/
theorem zK0_eq (L : List Nat) : (if zhw L 0 (zs t_ns) then some (zs t_ns).length else zpe (zs t_lm) (zs t_dm) L (zs t_mf)) = (if zhw L 0 (zs t_mf) then (if L.getD 10 0 = 60 ∧ L.getD 11 0 = 62 then some 12 else zpp (zs t_lm) (zs t_dm) L 10) else none) := by
  rw [zns_eq, zpe_zpp]
  cases zhw L 0 (zs t_mf) with
  | false => simp
  | true =>
    by_cases h : L.getD 10 0 = 60 ∧ L.getD 11 0 = 62
    · rw [if_pos (by rw [decide_eq_true h]; rfl), if_pos rfl, if_pos h]; rfl
    · rw [if_neg (by rw [decide_eq_false h]; decide), if_pos rfl, if_pos rfl, if_neg h]; rfl
theorem zdig_no {L : List Nat} {i : Nat} (h : zdg (L.getD i 0) = true) : zhw L i (zs t_bo) = false ∧ zhw L i (zs t_si) = false := by
  have h1 := of_decide_eq_true h
  have h2 : (zlow (L.getD i 0) == zlow 32) = false := by
    rw [beq_eq_false_iff_ne]
    unfold zlow
    rw [if_neg (by omega), if_neg (by omega)]
    omega
  constructor
  · show (zlow (L.getD i 0) == zlow 32 && _) = false
    rw [h2]; rfl
  · show (zlow (L.getD i 0) == zlow 32 && _) = false
    rw [h2]; rfl
theorem ztw_stop : ∀ (l : List Nat), (l.takeWhile zdg).length < l.length → zdg (l.getD (l.takeWhile zdg).length 0) = false
  | [], h => by simp at h
  | b :: l, h => by
    rw [List.takeWhile_cons] at h ⊢
    cases e : zdg b with
    | false => simp [e]
    | true =>
      rw [e] at h
      simp only [if_true, List.length_cons] at h ⊢
      exact ztw_stop l (by omega)
theorem zde_stop {L : List Nat} {s : Nat} (h : zde L s < L.length) : zdg (L.getD (zde L s) 0) = false := by
  have h1 := ztw_stop (L.drop s) (by unfold zde at h; simp; omega)
  rw [← h1]
  congr 1
  simp only [List.getD_eq_getElem?_getD, List.getElem?_drop]
  rfl
theorem znum_step {L : List Nat} {s j : Nat} (h : s + j < L.length) : znum ((L.drop s).take (j + 1)) = znum ((L.drop s).take j) * 10 + L.getD (s + j) 0 - 48 := by
  have h1 : (L.drop s).take (j + 1) = (L.drop s).take j ++ [L.getD (s + j) 0] := by
    rw [List.take_succ]
    congr 1
    rw [List.getElem?_drop, List.getElem?_eq_getElem h, List.getD_eq_getElem?_getD, List.getElem?_eq_getElem h]
    rfl
  rw [h1]
  simp [znum, List.foldl_append]
theorem znum_le {L : List Nat} {s j : Nat} (h : ∀ i, s ≤ i → i < s + j → zdg (L.getD i 0) = true) (hj : j ≤ 9) (hl : s + j ≤ L.length) : znum ((L.drop s).take j) < 10 ^ 9 := by
  have h1 : ∀ d ∈ (L.drop s).take j, zdg d = true := by
    intro d hd
    obtain ⟨i, hi, e⟩ := List.mem_iff_getElem.mp hd
    have hi2 : i < j := by simp at hi; omega
    have := h (s + i) (by omega) (by omega)
    rw [← e, List.getElem_take, List.getElem_drop]
    rw [List.getD_eq_getElem?_getD, List.getElem?_eq_getElem (by omega)] at this
    exact this
  have h2 := znum_lt _ 0 h1
  have h3 : ((L.drop s).take j).length ≤ 9 := by simp; omega
  have h4 : 10 ^ ((L.drop s).take j).length ≤ 10 ^ 9 := Nat.pow_le_pow_right (by decide) h3
  unfold znum
  omega
/-- the first word -/
theorem zhigh32 (x : Nat) : zhigh x = 32 ↔ x = 32 := by unfold zhigh; split <;> omega
theorem zfw_eq (L : List Nat) (w0 w1 w2 w3 : Nat) (h0 : zlow w0 ≠ 0 ∧ w0 ≠ 32) (h1 : zlow w1 ≠ 0 ∧ w1 ≠ 32) (h2 : zlow w2 ≠ 0 ∧ w2 ≠ 32) (h3 : zlow w3 ≠ 0 ∧ w3 ≠ 32) : zfw L [w0, w1, w2, w3] = (decide (zword L = 4) && zis L 0 ([w0, w1, w2, w3].map zhigh)) := by
  have hz : zis L 0 ([w0, w1, w2, w3].map zhigh) = zhw L 0 [w0, w1, w2, w3] := zhw_zis (by
    intro c hc
    simp only [List.mem_cons, List.not_mem_nil, or_false] at hc
    rcases hc with rfl | rfl | rfl | rfl
    · exact h0.1
    · exact h1.1
    · exact h2.1
    · exact h3.1) (Nat.zero_le _)
  rw [hz, zfw]
  cases e : zhw L 0 [w0, w1, w2, w3] with
  | false => simp
  | true =>
    have hl := zhw_len _ _ _ e (by
      intro c hc
      simp only [List.mem_cons, List.not_mem_nil, or_false] at hc
      rcases hc with rfl | rfl | rfl | rfl
      · exact h0.1
      · exact h1.1
      · exact h2.1
      · exact h3.1) (Nat.zero_le _)
    rw [zhw_zhi] at e
    match L, hl, e with
    | a :: b :: c :: d :: r, _, e =>
      simp only [List.map_cons, List.map_nil, zhi, Bool.and_eq_true, beq_iff_eq, Bool.and_true] at e
      have n0 : a ≠ 32 := fun q => h0.2 ((zhigh32 w0).mp (e.1.symm.trans ((zhigh32 a).mpr q)))
      have n1 : b ≠ 32 := fun q => h1.2 ((zhigh32 w1).mp (e.2.1.symm.trans ((zhigh32 b).mpr q)))
      have n2 : c ≠ 32 := fun q => h2.2 ((zhigh32 w2).mp (e.2.2.1.symm.trans ((zhigh32 c).mpr q)))
      have n3 : d ≠ 32 := fun q => h3.2 ((zhigh32 w3).mp (e.2.2.2.symm.trans ((zhigh32 d).mpr q)))
      have hw : zword (a :: b :: c :: d :: r) = zword r + 4 := by
        simp [zword, List.takeWhile_cons, n0, n1, n2, n3]
      rw [hw]
      cases r with
      | nil => rfl
      | cons x r =>
        by_cases hx : x = 32
        · subst hx
          simp [zword]
        · simp [zword, hx, List.takeWhile_cons]
    | [], hl, _ => simp at hl
    | [_], hl, _ => simp at hl
    | [_, _], hl, _ => simp at hl
    | [_, _, _], hl, _ => simp at hl
