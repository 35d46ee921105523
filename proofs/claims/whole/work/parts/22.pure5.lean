/-! the reference's way of looking at a line -/
def zhi (L : List Nat) : Nat → List Nat → Bool
  | _, [] => true
  | k, c :: w => zhigh (L.getD k 0) == c && zhi L (k + 1) w
def zis (L : List Nat) (k : Nat) (w : List Nat) : Bool := decide (k + w.length ≤ L.length) && zhi L k w
theorem zlh (x c : Nat) : zlow x = zlow c ↔ zhigh x = zhigh c := by
  unfold zlow zhigh
  repeat' split
  all_goals omega
theorem zhw_zhi (L : List Nat) : ∀ (w : List Nat) (k : Nat), zhw L k w = zhi L k (w.map zhigh)
  | [], k => rfl
  | c :: w, k => by
    rw [zhw, List.map_cons, zhi, zhw_zhi L w (k + 1)]
    congr 1
    rw [Bool.eq_iff_iff, beq_iff_eq, beq_iff_eq]
    exact zlh _ _
theorem zhw_zis {L : List Nat} {w : List Nat} {k : Nat} (hc : ∀ c ∈ w, zlow c ≠ 0) (hk : k ≤ L.length) : zis L k (w.map zhigh) = zhw L k w := by
  rw [zis, ← zhw_zhi]
  cases e : zhw L k w with
  | false => simp
  | true =>
    have := zhw_len w L k e hc hk
    simp
    omega
theorem zhw_app (L : List Nat) : ∀ (u w : List Nat) (k : Nat), zhw L k (u ++ w) = (zhw L k u && zhw L (k + u.length) w)
  | [], w, k => by simp [zhw]
  | c :: u, w, k => by
    rw [List.cons_append, zhw, zhw, zhw_app L u w (k + 1), Bool.and_assoc, List.length_cons, show k + 1 + u.length = k + (u.length + 1) by omega]
/-- where the first word ends -/
def zword (L : List Nat) : Nat := (L.takeWhile (fun b => b != 32)).length
/-- the place behind the path that begins at k -/
def zpp (lm dm L : List Nat) (k : Nat) : Option Nat := if L.getD k 0 = 60 then (match znE lm L (k + 1) 40 with
  | none => none
  | some a => if L.getD a 0 = 64 then (match znE dm L (a + 1) 60 with
    | none => none
    | some c => if L.getD c 0 = 62 then some (c + 1) else none) else none) else none
theorem zpe_zpp (lm dm L w : List Nat) : zpe lm dm L w = if zhw L 0 w then zpp lm dm L w.length else none := by
  unfold zpe zpp
  cases zhw L 0 w with
  | false => simp
  | true =>
    by_cases h : L.getD w.length 0 = 60
    · rw [if_pos h, if_pos (by rw [h]; rfl), if_pos rfl]
      rfl
    · rw [if_neg h, if_neg (by simpa using h), if_pos rfl]
theorem zpp_some {lm dm L : List Nat} {k e : Nat} (h : zpp lm dm L k = some e) : ∃ a, L.getD k 0 = 60 ∧ znE lm L (k + 1) 40 = some a ∧ L.getD a 0 = 64 ∧ znE dm L (a + 1) 60 = some (e - 1) ∧ L.getD (e - 1) 0 = 62 ∧ k + 1 ≤ a ∧ a + 1 ≤ e - 1 ∧ e - 1 < L.length ∧ 1 ≤ e := by
  unfold zpp at h
  split at h
  · rename_i h0
    split at h
    · cases h
    · rename_i a ha
      split at h
      · rename_i h1
        split at h
        · cases h
        · rename_i c hc
          split at h
          · rename_i h2
            cases h
            have q1 := znE_lt ha
            have q2 := znE_lt hc
            have q3 : c < L.length := by
              rcases Nat.lt_or_ge c L.length with z | z
              · exact z
              · rw [zgetD_out z] at h2; cases h2
            exact ⟨a, h0, ha, h1, by simpa using hc, by simpa using h2, q1.1, by simpa using q2.1, by simpa using q3, by omega⟩
          · cases h
      · cases h
  · cases h
/-- whether byte i of the name that begins at k stands behind a dot (or first) -/
def zbd (L : List Nat) (k i : Nat) : Bool := decide (i = k) || L.getD (i - 1) 0 == 46
