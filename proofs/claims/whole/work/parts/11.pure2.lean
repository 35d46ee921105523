/-! what a command's line must look like, on lists of bytes -/
def zfw (L w : List Nat) : Bool := zhw L 0 w && (L.length == 4 || L.getD 4 0 == 32)
def znm (mk : List Nat) (b : Nat) : Bool := decide (65 ≤ b ∧ b ≤ 90) || decide (97 ≤ b ∧ b ≤ 122) || decide (48 ≤ b ∧ b ≤ 57) || decide (b ∈ mk)
def zne (mk : List Nat) : Bool → List Nat → Option Nat
  | bd, [] => if bd then none else some 0
  | bd, b :: r => if b = 46 ∧ bd = true then none else if ¬ b = 46 ∧ znm mk b = false then (if bd then none else some 0) else (zne mk (b == 46) r).map (· + 1)
theorem zne_le {mk : List Nat} : ∀ {l : List Nat} {bd : Bool} {n : Nat}, zne mk bd l = some n → n ≤ l.length := by
  intro l
  induction l with
  | nil =>
    intro bd n h
    rw [zne] at h
    split at h
    · cases h
    · cases h; exact Nat.le_refl _
  | cons b r ih =>
    intro bd n h
    rw [zne] at h
    split at h
    · cases h
    · split at h
      · split at h
        · cases h
        · cases h; exact Nat.zero_le _
      · obtain ⟨k, hk, rfl⟩ := Option.map_eq_some_iff.mp h
        have := ih hk
        simp
        omega
/-- the end of a name that begins at fr, of at most 'most' bytes -/
def znE (mk L : List Nat) (fr most : Nat) : Option Nat := match zne mk true (L.drop fr) with
  | none => none
  | some n => if most < n then none else some (fr + n)
def zoI : Option Nat → Int32
  | none => -1
  | some n => nI n
theorem znE_lt {mk L : List Nat} {fr most a : Nat} (h : znE mk L fr most = some a) : fr ≤ a ∧ a ≤ fr + (L.length - fr) ∧ a - fr ≤ most := by
  unfold znE at h
  split at h
  · cases h
  · rename_i n hn
    split at h
    · cases h
    · cases h
      have := zne_le hn
      simp at this
      omega
theorem zoI_neg {o : Option Nat} (h : ∀ a, o = some a → a < 2 ^ 31) : zoI o < 0 ↔ o = none := by
  cases o with
  | none => simp [zoI]
  | some a => rw [zoI, nI_lt0 (h a rfl)]; simp
theorem zoI_eq {o : Option Nat} {n : Nat} (h : ∀ a, o = some a → a < 2 ^ 31) (hn : n < 2 ^ 31) : zoI o = nI n ↔ o = some n := by
  cases o with
  | none =>
    simp only [zoI, reduceCtorEq, iff_false]
    intro e
    exact nI_pos hn (by rw [← e]; decide)
  | some a => rw [zoI, nI_eq (h a rfl) hn]; simp
def zdg (b : Nat) : Bool := decide (48 ≤ b ∧ b ≤ 57)
def zde (L : List Nat) (fr : Nat) : Nat := fr + ((L.drop fr).takeWhile zdg).length
def znum (l : List Nat) : Nat := l.foldl (fun v d => v * 10 + d - 48) 0
/-- the largest SIZE from i on; nothing if something else stands there -/
def zls (bo si L : List Nat) : Nat → Nat → Nat → Option Nat
  | 0, _, lg => some lg
  | f + 1, i, lg => if L.length ≤ i then some lg else if zhw L i bo then zls bo si L f (i + bo.length) lg else if zhw L i si then (if zde L (i + si.length) = i + si.length ∨ 9 < zde L (i + si.length) - (i + si.length) then none else zls bo si L f (zde L (i + si.length)) (max lg (znum ((L.drop (i + si.length)).take (zde L (i + si.length) - (i + si.length)))))) else none
/-- the place behind the path that stands behind the words w -/
def zpe (lm dm L w : List Nat) : Option Nat := if zhw L 0 w && L.getD w.length 0 == 60 then (match znE lm L (w.length + 1) 40 with
  | none => none
  | some a => if L.getD a 0 = 64 then (match znE dm L (a + 1) 60 with
    | none => none
    | some c => if L.getD c 0 = 62 then some (c + 1) else none) else none) else none
theorem zpe_lt {lm dm L w : List Nat} {e : Nat} (h : zpe lm dm L w = some e) : w.length + 2 ≤ e ∧ e ≤ L.length ∧ e - 1 - (w.length + 1) ≤ 101 := by
  unfold zpe at h
  split at h
  · split at h
    · cases h
    · rename_i a ha
      split at h
      · split at h
        · cases h
        · rename_i c hc
          split at h
          · rename_i h1 h2
            cases h
            have q1 := znE_lt ha
            have q2 := znE_lt hc
            have q3 : c < L.length := by
              rcases Nat.lt_or_ge c L.length with z | z
              · exact z
              · rw [zgetD_out z] at h2; cases h2
            omega
          · cases h
      · cases h
  · cases h
def zhe (lm he L : List Nat) (fr : Nat) : Bool := match znE lm L fr 8 with
  | none => false
  | some a => zhw L a he
def zgr (dm L : List Nat) : Bool := L.getD 4 0 == 32 && znE dm L 5 60 == some L.length
theorem zde_le {L : List Nat} {fr : Nat} : fr ≤ zde L fr ∧ zde L fr ≤ fr + (L.length - fr) := by
  unfold zde
  have := (List.takeWhile_sublist zdg (l := L.drop fr)).length_le
  simp at this
  omega
theorem znum_lt : ∀ (l : List Nat) (v : Nat), (∀ d ∈ l, zdg d = true) → l.foldl (fun v d => v * 10 + d - 48) v < (v + 1) * 10 ^ l.length
  | [], v, _ => by simp
  | d :: l, v, h => by
    have hd := h d (by simp)
    simp [zdg] at hd
    have := znum_lt l (v * 10 + d - 48) (fun x hx => h x (by simp [hx]))
    simp only [List.foldl_cons, List.length_cons, Nat.pow_succ]
    refine Nat.lt_of_lt_of_le this ?_
    rw [show (v + 1) * (10 ^ l.length * 10) = (v * 10 + 10) * 10 ^ l.length by rw [Nat.mul_comm (10 ^ l.length) 10, ← Nat.mul_assoc]; congr 1; omega]
    exact Nat.mul_le_mul_right _ (by omega)
theorem ztw_getD {L : List Nat} {fr j : Nat} (h1 : fr ≤ j) (h2 : j < zde L fr) : zdg (L.getD j 0) = true := by
  have h3 : j - fr < ((L.drop fr).takeWhile zdg).length := by unfold zde at h2; omega
  have h4 : ((L.drop fr).takeWhile zdg)[j - fr] = L.getD j 0 := by
    have := List.IsPrefix.getElem (List.takeWhile_prefix zdg (l := L.drop fr)) h3
    have h5 : j < L.length := by
      have := zde_le (L := L) (fr := fr)
      omega
    rw [this, List.getElem_drop, List.getD_eq_getElem?_getD, List.getElem?_eq_getElem h5]
    simp only [Option.getD_some]
    congr 1
    omega
  rw [← h4]
  exact List.all_takeWhile (p := zdg) (l := L.drop fr) |> fun h => List.all_eq_true.mp h _ (List.getElem_mem h3)
theorem znum_small {L : List Nat} {fr : Nat} (h : zde L fr ≤ L.length) (h9 : zde L fr - fr ≤ 9) : znum ((L.drop fr).take (zde L fr - fr)) < 10 ^ 9 := by
  have h1 : ∀ d ∈ (L.drop fr).take (zde L fr - fr), zdg d = true := by
    intro d hd
    obtain ⟨j, hj, e⟩ := List.mem_iff_getElem.mp hd
    have hj2 : j < zde L fr - fr := by simp at hj; omega
    have := ztw_getD (L := L) (fr := fr) (j := fr + j) (by omega) (by omega)
    rw [← e, List.getElem_take, List.getElem_drop]
    rw [List.getD_eq_getElem?_getD, List.getElem?_eq_getElem (by omega)] at this
    exact this
  have h2 := znum_lt _ 0 h1
  have h3 : ((L.drop fr).take (zde L fr - fr)).length ≤ 9 := by simp; omega
  have h4 : 10 ^ ((L.drop fr).take (zde L fr - fr)).length ≤ 10 ^ 9 := Nat.pow_le_pow_right (by decide) h3
  unfold znum
  omega
theorem zmax {a b : Nat} (ha : a < 2 ^ 31) (hb : b < 2 ^ 31) : (if nI a < nI b then nI b else nI a) = nI (max a b) := by
  by_cases h : a < b
  · rw [if_pos ((nI_ltI ha hb).mpr h), Nat.max_eq_right (by omega)]
  · rw [if_neg (fun z => h ((nI_ltI ha hb).mp z)), Nat.max_eq_left (by omega)]
