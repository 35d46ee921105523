/-! the reference's memory -/
def zA (a N : Nat) (L : List Nat) (m : mm_M) : Prop := ∃ f : Nat → Int32, m a = some (.inl (kI, N, .inl f)) ∧ L.length ≤ N ∧ ∀ j, j < L.length → f j = nI (L.getD j 0)
theorem zA.kpt {a N q : Nat} {L : List Nat} {m m' : mm_M} (h : zA a N L m) (o : ∀ b : Nat, b ≠ q → m' b = m b) (hq : a ≠ q) : zA a N L m' := by
  obtain ⟨f, h1, h2⟩ := h
  exact ⟨f, (o a hq).trans h1, h2⟩
theorem zA.off {a N lo hi : Nat} {L : List Nat} {m m' : mm_M} (h : zA a N L m) (hs : zsame lo hi m m') (hq : a < lo ∨ hi ≤ a) : zA a N L m' := by
  obtain ⟨f, h1, h2⟩ := h
  exact ⟨f, (hs a hq).trans h1, h2⟩
theorem zA.nil {a N : Nat} {L : List Nat} {m : mm_M} (h : zA a N L m) : zA a N [] m := by
  obtain ⟨f, h1, h2⟩ := h
  exact ⟨f, h1, Nat.zero_le _, fun j hj => absurd hj (Nat.not_lt_zero j)⟩
theorem zA.take {a N k : Nat} {L : List Nat} {m : mm_M} (h : zA a N L m) : zA a N (L.take k) m := by
  obtain ⟨f, h1, h2, h3⟩ := h
  refine ⟨f, h1, by simp; omega, fun j hj => ?_⟩
  rw [List.length_take] at hj
  have h4 := Nat.lt_min.mp hj
  rw [h3 j h4.2]
  simp [List.getD_eq_getElem?_getD, List.getElem?_take, h4.1]
theorem zupd_app {f : Nat → Int32} {L : List Nat} {b : Nat} (hf : ∀ j, j < L.length → f j = nI (L.getD j 0)) : ∀ j, j < (L ++ [b]).length → upd f L.length (nI b) j = nI ((L ++ [b]).getD j 0) := by
  intro j hj
  by_cases e : j = L.length
  · subst e
    rw [pk_us, zgetD_mid]
  · have h1 : j < L.length := by simp at hj; omega
    rw [pk_un e, hf j h1]
    simp [List.getD_eq_getElem?_getD, List.getElem?_append_left h1]
/-- rows of w places in one array -/
def zG (a N w : Nat) (Ls : List (List Nat)) (m : mm_M) : Prop := ∃ f : Nat → Int32, m a = some (.inl (kI, N, .inl f)) ∧ Ls.length * w ≤ N ∧ ∀ r, r < Ls.length → (Ls.getD r []).length ≤ w ∧ ∀ j, j < (Ls.getD r []).length → f (w * r + j) = nI ((Ls.getD r []).getD j 0)
theorem zG.kpt {a N w q : Nat} {L : List (List Nat)} {m m' : mm_M} (h : zG a N w L m) (o : ∀ b : Nat, b ≠ q → m' b = m b) (hq : a ≠ q) : zG a N w L m' := by
  obtain ⟨f, h1, h2⟩ := h
  exact ⟨f, (o a hq).trans h1, h2⟩
theorem zG.off {a N w lo hi : Nat} {L : List (List Nat)} {m m' : mm_M} (h : zG a N w L m) (hs : zsame lo hi m m') (hq : a < lo ∨ hi ≤ a) : zG a N w L m' := by
  obtain ⟨f, h1, h2⟩ := h
  exact ⟨f, (hs a hq).trans h1, h2⟩
theorem zG.nil {a N w : Nat} {L : List (List Nat)} {m : mm_M} (h : zG a N w L m) : zG a N w [] m := by
  obtain ⟨f, h1, h2⟩ := h
  exact ⟨f, h1, by simp, fun j hj => absurd hj (Nat.not_lt_zero j)⟩
def zMs (y : Nat) (Ms : List zMsg) (m : mm_M) : Prop := zG (y + 6) 2000 200 (Ms.map (fun μ => μ.1)) m ∧ zA (y + 7) 10 (Ms.map (fun μ => μ.1.length)) m ∧ zA (y + 8) 10 (Ms.map (fun μ => μ.2.2.2)) m ∧ zG (y + 9) 1100 110 (Ms.map (fun μ => μ.2.1)) m ∧ zA (y + 10) 10 (Ms.map (fun μ => μ.2.1.length)) m ∧ zG (y + 11) 1100 110 (Ms.map (fun μ => μ.2.2.1)) m ∧ zA (y + 12) 10 (Ms.map (fun μ => μ.2.2.1.length)) m
theorem zMs.kpt {y q : Nat} {Ms : List zMsg} {m m' : mm_M} (h : zMs y Ms m) (o : ∀ b : Nat, b ≠ q → m' b = m b) (hq : q < y + 6 ∨ y + 13 ≤ q) : zMs y Ms m' :=
  ⟨h.1.kpt o (by omega), h.2.1.kpt o (by omega), h.2.2.1.kpt o (by omega), h.2.2.2.1.kpt o (by omega), h.2.2.2.2.1.kpt o (by omega), h.2.2.2.2.2.1.kpt o (by omega), h.2.2.2.2.2.2.kpt o (by omega)⟩
theorem zMs.off {y lo hi : Nat} {Ms : List zMsg} {m m' : mm_M} (h : zMs y Ms m) (hs : zsame lo hi m m') (hq : y + 13 ≤ lo ∨ hi ≤ y + 6) : zMs y Ms m' :=
  ⟨h.1.off hs (by omega), h.2.1.off hs (by omega), h.2.2.1.off hs (by omega), h.2.2.2.1.off hs (by omega), h.2.2.2.2.1.off hs (by omega), h.2.2.2.2.2.1.off hs (by omega), h.2.2.2.2.2.2.off hs (by omega)⟩
def zWf (A : List Nat) (E : zEv) (Ms : List zMsg) (ss : Nat) : Prop := (∀ b ∈ A, b < 256) ∧ (E.2.1 = true → ss = E.1.length ∧ E.1.length ≤ 100 ∧ ∀ b ∈ E.1, b < 256) ∧ E.2.2.length ≤ 4 ∧ (∀ R ∈ E.2.2, R.length ≤ 100 ∧ ∀ b ∈ R, b < 256) ∧ (E.2.2 ≠ [] → E.2.1 = true) ∧ Ms.length ≤ 10 ∧ ∀ μ ∈ Ms, (μ.1.length ≤ 200 ∧ ∀ b ∈ μ.1, b < 256) ∧ (μ.2.1.length ≤ 100 ∧ ∀ b ∈ μ.2.1, b < 256) ∧ (μ.2.2.1.length ≤ 100 ∧ ∀ b ∈ μ.2.2.1, b < 256) ∧ μ.2.2.2 ≤ 4
/-- the arrays: line, sender, recipients, answers, messages -/
def zT (y : Nat) (L A : List Nat) (E : zEv) (Ms : List zMsg) (ss : Nat) (m : mm_M) : Prop := zA (y + 1) 210 L m ∧ zA (y + 2) 110 (if E.2.1 then E.1 else []) m ∧ zG (y + 3) 440 110 E.2.2 m ∧ zA (y + 4) 4 (E.2.2.map List.length) m ∧ zA (y + 5) 400 A m ∧ zMs y Ms m ∧ zWf A E Ms ss
theorem zT.kpt {y ss : Nat} {L A : List Nat} {E : zEv} {Ms : List zMsg} {m m' : mm_M} (h : zT y L A E Ms ss m) (o : ∀ b : Nat, b ≠ y → m' b = m b) : zT y L A E Ms ss m' :=
  ⟨h.1.kpt o (by omega), h.2.1.kpt o (by omega), h.2.2.1.kpt o (by omega), h.2.2.2.1.kpt o (by omega), h.2.2.2.2.1.kpt o (by omega), h.2.2.2.2.2.1.kpt o (by omega), h.2.2.2.2.2.2⟩
theorem zT.off {y ss lo hi : Nat} {L A : List Nat} {E : zEv} {Ms : List zMsg} {m m' : mm_M} (h : zT y L A E Ms ss m) (hs : zsame lo hi m m') (hq : y + 13 ≤ lo ∨ hi ≤ y) : zT y L A E Ms ss m' :=
  ⟨h.1.off hs (by omega), h.2.1.off hs (by omega), h.2.2.1.off hs (by omega), h.2.2.2.1.off hs (by omega), h.2.2.2.2.1.off hs (by omega), h.2.2.2.2.2.1.off hs (by omega), h.2.2.2.2.2.2⟩
theorem zT.forget {y ss : Nat} {L A : List Nat} {E : zEv} {Ms : List zMsg} {m : mm_M} (h : zT y L A E Ms ss m) : zT y L A ([], false, []) Ms ss m :=
  ⟨h.1, h.2.1.nil, h.2.2.1.nil, h.2.2.2.1.nil, h.2.2.2.2.1, h.2.2.2.2.2.1, h.2.2.2.2.2.2.1, fun q => (by cases q), Nat.zero_le _, fun _ q => (by cases q), fun q => absurd rfl q, h.2.2.2.2.2.2.2.2.2.2.2⟩
theorem zT.lin {y ss : Nat} {L L' A : List Nat} {E : zEv} {Ms : List zMsg} {m : mm_M} (h : zT y L A E Ms ss m) (hL : zA (y + 1) 210 L' m) : zT y L' A E Ms ss m := ⟨hL, h.2⟩
/-- the object's fields -/
def fMo (y : Nat) (th gr hs ln : Bool) (sz la il : Nat) (pt : Bool) (ss rc : Nat) (fi av be : Int32) (wa ms : Nat) : List Value := [.int (zb th), .int (zb gr), .int (zb hs), .int (zb ln), .ref (y + 1), .int (nI sz), .int (nI la), .int (nI il), .int (zb pt), .ref (y + 2), .int (nI ss), .int (nI rc), .ref (y + 3), .ref (y + 4), .int fi, .int av, .int be, .ref (y + 5), .int (nI wa), .int (nI ms), .ref (y + 6), .ref (y + 7), .ref (y + 8), .ref (y + 9), .ref (y + 10), .ref (y + 11), .ref (y + 12)]
/-- the reference at y -/
def zK (y : Nat) (th gr hs ln : Bool) (sz la il : Nat) (pt : Bool) (ss rc : Nat) (fi av be : Int32) (L A : List Nat) (E : zEv) (Ms : List zMsg) (m : mm_M) : Prop := m y = some (.inr (kMo, fMo y th gr hs ln sz la il pt ss rc fi av be A.length Ms.length)) ∧ zT y L A E Ms ss m
theorem zK.off {y sz la il ss rc lo hi : Nat} {th gr hs ln pt : Bool} {fi av be : Int32} {L A : List Nat} {E : zEv} {Ms : List zMsg} {m m' : mm_M} (h : zK y th gr hs ln sz la il pt ss rc fi av be L A E Ms m) (hs' : zsame lo hi m m') (hq : y + 13 ≤ lo ∨ hi ≤ y) : zK y th gr hs ln sz la il pt ss rc fi av be L A E Ms m' := ⟨(hs' y (by omega)).trans h.1, h.2.off hs' hq⟩
/-- the bytes of a long, the highest first -/
def zsay (v : Int64) (n : Nat) : List Nat := (List.range n).map (fun k => zby v (7 - k))
theorem zsay_succ (v : Int64) (n : Nat) : zsay v (n + 1) = zsay v n ++ [zby v (7 - n)] := by
  simp [zsay, List.range_succ]
theorem zby_lt (v : Int64) (p : Nat) : zby v p < 256 := Nat.mod_lt _ (by decide)
theorem zsar1 {w : Nat} {x : Int} (h : w < 18446744073709551616) (hx : x = (w : Int) ∨ x = (w : Int) - 18446744073709551616) {p : Nat} (hp : p < 8) : ((x / 2 ^ (8 * p)) % 256).toNat = (w / 2 ^ (8 * p)) % 256 := by
  rcases (show p = 0 ∨ p = 1 ∨ p = 2 ∨ p = 3 ∨ p = 4 ∨ p = 5 ∨ p = 6 ∨ p = 7 by omega) with rfl | rfl | rfl | rfl | rfl | rfl | rfl | rfl <;> simp only [Nat.reduceMul, Nat.reducePow, Int.reducePow] <;> rcases hx with rfl | rfl <;> omega
theorem zsar (v : Int64) {p : Nat} (hp : p < 8) : (v >>> ((nI (8 * p)).toInt64 &&& 63)).toInt32 &&& nI 255 = nI (zby v p) := by
  rw [pk_and _ 8 (by decide)]
  congr 1
  have h0 : (v >>> ((nI (8 * p)).toInt64 &&& 63)).toInt = v.toInt >>> (8 * p) := by
    rw [wb_c _ (by omega)]
    show (v >>> lN (8 * p)).toBitVec.toInt = v.toBitVec.toInt >>> (8 * p)
    rw [Int64.toBitVec_shiftRight, wb_tb, wb_sm _ (by omega)]
    rw [BitVec.sshiftRight', BitVec.toInt_sshiftRight]
    congr 1
    simp
    omega
  have h1 : (v >>> ((nI (8 * p)).toInt64 &&& 63)).toInt32.toBitVec.toNat % 2 ^ 8 = ((v.toInt >>> (8 * p)) % 256).toNat := by
    rw [← h0]
    generalize v >>> ((nI (8 * p)).toInt64 &&& 63) = u
    have e1 : u.toInt32.toInt = u.toInt.bmod (2 ^ 32) := Int64.toInt_toInt32 u
    have e2 := BitVec.toInt_eq_toNat_bmod u.toInt32.toBitVec
    have e3 : u.toInt32.toBitVec.toInt = u.toInt.bmod (2 ^ 32) := e1
    have e4 := u.toInt32.toBitVec.isLt
    rw [Int.bmod_def] at e2 e3
    omega
  rw [h1]
  unfold zby
  have e6 : v.toInt = (v.toBitVec.toNat : Int) ∨ v.toInt = (v.toBitVec.toNat : Int) - 18446744073709551616 := by
    have e7 : v.toInt = if 2 * v.toBitVec.toNat < 2 ^ 64 then (v.toBitVec.toNat : Int) else (v.toBitVec.toNat : Int) - ((2 ^ 64 : Nat) : Int) := BitVec.toInt_eq_toNat_cond v.toBitVec
    by_cases e8 : 2 * v.toBitVec.toNat < 2 ^ 64
    · rw [if_pos e8] at e7; exact Or.inl e7
    · rw [if_neg e8] at e7; exact Or.inr e7
  rw [Int.shiftRight_eq_div_pow]
  exact zsar1 (show v.toBitVec.toNat < 18446744073709551616 from v.toBitVec.isLt) e6 hp
