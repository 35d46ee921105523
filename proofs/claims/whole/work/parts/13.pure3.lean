/-! the class's state and what a line does to it -/
abbrev zMsg : Type := List Nat × List Nat × List Nat × Nat
abbrev zEv : Type := List Nat × Bool × List (List Nat)
def zm0 : zMsg := ([], [], [], 0)
/-- the object at z -/
def zML (z : Nat) (A Ln : List Nat) (lc : Bool) (T : List Nat) (tc td : Bool) (tn : Nat) (E : zEv) (Ms : List zMsg) (ses gr tx : Bool) (m : mm_M) : Prop :=
  m z = some (.inr (kML, [.ref (z + 1), .ref (z + 3), .ref (z + 6), .ref (z + 9), .ref (z + 21), .int (nI Ms.length), .int (zb ses), .int (zb gr), .int (zb tx)])) ∧ zRow (z + 1) 400 A m ∧ zLR (z + 3) Ln lc m ∧ zTR (z + 6) T tc td tn m ∧ zEnv (z + 9) E.1 E.2.1 E.2.2 m ∧ (∃ g : Nat → Option Nat, m (z + 21) = some (.inl (kLA, 10, .inr (.inr (.inr (.inr g))))) ∧ ∀ i, i < 10 → g i = some (z + 22 + 7 * i)) ∧ Ms.length ≤ 10 ∧ ∀ i, i < 10 → zLet (z + 22 + 7 * i) (Ms.getD i zm0).1 (Ms.getD i zm0).2.1 (Ms.getD i zm0).2.2.1 (Ms.getD i zm0).2.2.2 m
section
variable {z tn : Nat} {A Ln : List Nat} {lc : Bool} {T : List Nat} {tc td : Bool} {E : zEv} {Ms : List zMsg} {ses gr tx : Bool} {m m' : mm_M}
theorem zML.off {lo hi : Nat} (h : zML z A Ln lc T tc td tn E Ms ses gr tx m) (hs : zsame lo hi m m') (hq : z + 92 ≤ lo ∨ hi ≤ z) : zML z A Ln lc T tc td tn E Ms ses gr tx m' := by
  obtain ⟨h1, h2, h3, h4, h5, ⟨g, h6, h7⟩, h8, h9⟩ := h
  exact ⟨(hs _ (by omega)).trans h1, h2.off hs (by omega), h3.off hs (by omega), h4.off hs (by omega), h5.off hs (by omega), ⟨g, (hs _ (by omega)).trans h6, h7⟩, h8, fun i hi => (h9 i hi).off hs (by omega)⟩
theorem zML.ans {A' : List Nat} (h : zML z A Ln lc T tc td tn E Ms ses gr tx m) (hr : zRow (z + 1) 400 A' m') (hs : zsame (z + 1) (z + 3) m m') : zML z A' Ln lc T tc td tn E Ms ses gr tx m' := by
  obtain ⟨h1, h2, h3, h4, h5, ⟨g, h6, h7⟩, h8, h9⟩ := h
  exact ⟨(hs _ (by omega)).trans h1, hr, h3.off hs (by omega), h4.off hs (by omega), h5.off hs (by omega), ⟨g, (hs _ (by omega)).trans h6, h7⟩, h8, fun i hi => (h9 i hi).off hs (by omega)⟩
theorem zML.line {L' : List Nat} {c' : Bool} (h : zML z A Ln lc T tc td tn E Ms ses gr tx m) (hr : zLR (z + 3) L' c' m') (hs : zsame (z + 3) (z + 6) m m') : zML z A L' c' T tc td tn E Ms ses gr tx m' := by
  obtain ⟨h1, h2, h3, h4, h5, ⟨g, h6, h7⟩, h8, h9⟩ := h
  exact ⟨(hs _ (by omega)).trans h1, h2.off hs (by omega), hr, h4.off hs (by omega), h5.off hs (by omega), ⟨g, (hs _ (by omega)).trans h6, h7⟩, h8, fun i hi => (h9 i hi).off hs (by omega)⟩
theorem zML.text {T' : List Nat} {c' d' : Bool} {n' : Nat} (h : zML z A Ln lc T tc td tn E Ms ses gr tx m) (hr : zTR (z + 6) T' c' d' n' m') (hs : zsame (z + 6) (z + 9) m m') : zML z A Ln lc T' c' d' n' E Ms ses gr tx m' := by
  obtain ⟨h1, h2, h3, h4, h5, ⟨g, h6, h7⟩, h8, h9⟩ := h
  exact ⟨(hs _ (by omega)).trans h1, h2.off hs (by omega), h3.off hs (by omega), hr, h5.off hs (by omega), ⟨g, (hs _ (by omega)).trans h6, h7⟩, h8, fun i hi => (h9 i hi).off hs (by omega)⟩
theorem zML.env {S' : List Nat} {t' : Bool} {R' : List (List Nat)} (h : zML z A Ln lc T tc td tn E Ms ses gr tx m) (hr : zEnv (z + 9) S' t' R' m') (hs : zsame (z + 9) (z + 21) m m') : zML z A Ln lc T tc td tn (S', t', R') Ms ses gr tx m' := by
  obtain ⟨h1, h2, h3, h4, h5, ⟨g, h6, h7⟩, h8, h9⟩ := h
  exact ⟨(hs _ (by omega)).trans h1, h2.off hs (by omega), h3.off hs (by omega), h4.off hs (by omega), hr, ⟨g, (hs _ (by omega)).trans h6, h7⟩, h8, fun i hi => (h9 i hi).off hs (by omega)⟩
theorem zML.flag {s' g' t' : Bool} (h : zML z A Ln lc T tc td tn E Ms ses gr tx m) (hr : m' z = some (.inr (kML, [.ref (z + 1), .ref (z + 3), .ref (z + 6), .ref (z + 9), .ref (z + 21), .int (nI Ms.length), .int (zb s'), .int (zb g'), .int (zb t')]))) (ho : ∀ b : Nat, b ≠ z → m' b = m b) : zML z A Ln lc T tc td tn E Ms s' g' t' m' := by
  obtain ⟨h1, h2, h3, h4, h5, ⟨g, h6, h7⟩, h8, h9⟩ := h
  have hs : zsame z (z + 1) m m' := zsame.one ho (Nat.le_refl _) (by omega)
  exact ⟨hr, h2.off hs (by omega), h3.off hs (by omega), h4.off hs (by omega), h5.off hs (by omega), ⟨g, (hs _ (by omega)).trans h6, h7⟩, h8, fun i hi => (h9 i hi).off hs (by omega)⟩
end
def zans (A r : List Nat) : List Nat := (A ++ r ++ [13, 10]).take 400
theorem zans3 (A r : List Nat) : (((A ++ r).take 400 ++ [13]).take 400 ++ [10]).take 400 = zans A r := by
  rw [ztake_take, List.append_assoc, ztake_take, List.append_assoc]
  simp [zans]
theorem zhw_len : ∀ (w L : List Nat) (a : Nat), zhw L a w = true → (∀ c ∈ w, zlow c ≠ 0) → a ≤ L.length → a + w.length ≤ L.length
  | [], L, a, _, _, h => by simpa using h
  | c :: w, L, a, h, hc, ha => by
    rw [zhw] at h
    simp only [Bool.and_eq_true, beq_iff_eq] at h
    have h1 : a < L.length := by
      rcases Nat.lt_or_ge a L.length with z | z
      · exact z
      · rw [zgetD_out z] at h
        exact absurd h.1.symm (hc c (by simp))
    have := zhw_len w L (a + 1) h.2 (fun x hx => hc x (by simp [hx])) h1
    simp
    omega
/-- MAIL -/
def zrM (E : zEv) (L : List Nat) : List Nat × zEv :=
  match (if zhw L 0 (zs t_ns) then some (zs t_ns).length else zpe (zs t_lm) (zs t_dm) L (zs t_mf)) with
  | none => (zs t_501, E)
  | some e => match zls (zs t_bo) (zs t_si) L 100 e 0 with
    | none => (zs t_501, E)
    | some sz => if E.2.1 then (zs t_503, E) else if 200 < sz then (zs t_552, E) else (zs t_250s, ((L.drop ((zs t_mf).length + 1)).take (e - 1 - ((zs t_mf).length + 1)), true, E.2.2))
/-- RCPT -/
def zrR (E : zEv) (L : List Nat) : List Nat × zEv :=
  if zpe (zs t_lm) (zs t_dm) L (zs t_rt) = some L.length then
    if E.2.1 = false then (zs t_503, E) else if zhe (zs t_lm) (zs t_he) L ((zs t_rt).length + 1) = false then (zs t_550, E) else if 4 ≤ E.2.2.length then (zs t_452m, E)
    else (zs t_250r, (E.1, E.2.1, E.2.2 ++ [(L.drop ((zs t_rt).length + 1)).take (L.length - 1 - ((zs t_rt).length + 1))]))
  else (zs t_501, E)
theorem zls_lt {bo si L : List Nat} : ∀ (f i lg sz : Nat), lg < 10 ^ 9 → zls bo si L f i lg = some sz → sz < 10 ^ 9
  | 0, i, lg, sz, h, e => by rw [zls] at e; cases e; exact h
  | f + 1, i, lg, sz, h, e => by
    rw [zls] at e
    split at e
    · cases e; exact h
    · split at e
      · exact zls_lt f _ lg sz h e
      · split at e
        · split at e
          · cases e
          · rename_i h1
            have q := zde_le (L := L) (fr := i + si.length)
            exact zls_lt f _ _ sz (Nat.max_lt.mpr ⟨h, znum_small (by omega) (by omega)⟩) e
        · cases e
/-- what a line is answered; the envelope behind it; whether there was an LHLO; whether a message's lines begin; whether the session ends -/
abbrev zRes : Type := List Nat × zEv × Bool × Bool × Bool
def zrep (gr : Bool) (E : zEv) (L : List Nat) : zRes :=
  if 100 < L.length then (zs t_500l, E, gr, false, false)
  else if zfw L (zs t_LHLO) then (if zgr (zs t_dm) L then (zs t_250h, ([], false, []), true, false, false) else (zs t_501, E, gr, false, false))
  else if zfw L (zs t_MAIL) then (if gr then ((zrM E L).1, (zrM E L).2, gr, false, false) else (zs t_503, E, gr, false, false))
  else if zfw L (zs t_RCPT) then (if gr then ((zrR E L).1, (zrR E L).2, gr, false, false) else (zs t_503, E, gr, false, false))
  else if zfw L (zs t_DATA) then (if gr then (if L.length == 4 then (if E.2.2.length = 0 then (zs t_503, E, gr, false, false) else (zs t_354, E, gr, true, false)) else (zs t_501, E, gr, false, false)) else (zs t_503, E, gr, false, false))
  else if zfw L (zs t_RSET) then (if L.length == 4 then (zs t_250o, ([], false, []), gr, false, false) else (zs t_501, E, gr, false, false))
  else if zfw L (zs t_NOOP) then (if L.length == 4 then (zs t_250o, E, gr, false, false) else (zs t_501, E, gr, false, false))
  else if zfw L (zs t_QUIT) then (if L.length == 4 then (zs t_221, E, gr, false, true) else (zs t_501, E, gr, false, false))
  else (zs t_500u, E, gr, false, false)
/-- the answers behind a message's lines -/
def zfin (A T : List Nat) (full : Bool) (Rs : List (List Nat)) : List Nat := Rs.foldl (fun A R => zans A (if 200 < T.length then zs t_552 else if full then zs t_452f else zs t_250l ++ R ++ [62])) A
abbrev zSt : Type := List Nat × (List Nat × Bool) × (List Nat × Bool × Bool × Nat) × zEv × List zMsg × Bool × Bool × Bool
def zM (z : Nat) (σ : zSt) (m : mm_M) : Prop := zML z σ.1 σ.2.1.1 σ.2.1.2 σ.2.2.1.1 σ.2.2.1.2.1 σ.2.2.1.2.2.1 σ.2.2.1.2.2.2 σ.2.2.2.1 σ.2.2.2.2.1 σ.2.2.2.2.2.1 σ.2.2.2.2.2.2.1 σ.2.2.2.2.2.2.2 m
/-- a byte comes -/
def zstep (σ : zSt) (b : Nat) : zSt := match σ with
  | (A, (Ln, lc), (T, tc, td, tn), E, Ms, ses, gr, tx) =>
    if tx then
      (if ztE tc td tn b then (zfin A (ztRow T tc td tn b) (decide (10 ≤ Ms.length)) E.2.2, (Ln, lc), (ztRow T tc td tn b, ztCr tc td tn b, ztDot tc td tn b, ztN tc td tn b), ([], false, []), (if 200 < (ztRow T tc td tn b).length ∨ 10 ≤ Ms.length then Ms else Ms ++ [(ztRow T tc td tn b, E.1, E.2.2.getD 0 [], E.2.2.length)]), ses, gr, false)
      else (A, (Ln, lc), (ztRow T tc td tn b, ztCr tc td tn b, ztDot tc td tn b, ztN tc td tn b), E, Ms, ses, gr, tx))
    else if zlrE lc b then
      (zans A (zrep gr E Ln.dropLast).1, ([], false), (if (zrep gr E Ln.dropLast).2.2.2.1 then ([], false, false, 0) else (T, tc, td, tn)), (zrep gr E Ln.dropLast).2.1, Ms, ses && !(zrep gr E Ln.dropLast).2.2.2.2, (zrep gr E Ln.dropLast).2.2.1, (zrep gr E Ln.dropLast).2.2.2.1)
    else (A, ((Ln ++ [b]).take 202, b == 13), (T, tc, td, tn), E, Ms, ses, gr, tx)
def zses (σ : zSt) : Bool := σ.2.2.2.2.2.1
/-- bytes come, until the session ends -/
def zfeed : zSt → List Nat → zSt
  | σ, [] => σ
  | σ, b :: bs => if zses σ then zfeed (zstep σ b) bs else σ
theorem zfeed_stop {σ : zSt} {b : Nat} {bs : List Nat} (h : zses σ = false) : zfeed σ (b :: bs) = σ := by rw [zfeed, if_neg (by rw [h]; decide)]
theorem zfeed_go {σ : zSt} {b : Nat} {bs : List Nat} (h : zses σ = true) : zfeed σ (b :: bs) = zfeed (zstep σ b) bs := by rw [zfeed, if_pos h]
/-- what holds all along: where a message's lines come there is a recipient -/
def zInv (N : Nat) (σ : zSt) : Prop := σ.2.2.1.2.2.2 ≤ N ∧ (σ.2.2.2.2.2.2.2 = true → 0 < σ.2.2.2.1.2.2.length)
theorem zrep_data {gr : Bool} {E : zEv} {L : List Nat} (h : (zrep gr E L).2.2.2.1 = true) : 0 < (zrep gr E L).2.1.2.2.length := by
  unfold zrep at h ⊢
  repeat' (first | (split at h <;> rename_i hc <;> first | rw [if_pos hc] | rw [if_neg hc]) | (simp at h; done))
  all_goals (simp; omega)
theorem zInv.step {N : Nat} {σ : zSt} (h : zInv N σ) (b : Nat) : zInv (N + 1) (zstep σ b) := by
  obtain ⟨A, ⟨Ln, lc⟩, ⟨T, tc, td, tn⟩, E, Ms, ses, gr, tx⟩ := σ
  obtain ⟨h1, h2⟩ := h
  simp only at h1 h2
  have ht : ztN tc td tn b ≤ N + 1 := by
    unfold ztN
    split
    · omega
    · split <;> omega
  unfold zstep zInv
  simp only
  cases tx with
  | true =>
    rw [if_pos rfl]
    by_cases e : ztE tc td tn b
    · rw [if_pos e]
      exact ⟨ht, fun q => by cases q⟩
    · rw [if_neg e]
      exact ⟨ht, h2⟩
  | false =>
    rw [if_neg (by decide)]
    by_cases e : zlrE lc b
    · rw [if_pos e]
      refine ⟨?_, fun q => zrep_data q⟩
      simp only
      split
      · exact Nat.zero_le _
      · simp only; omega
    · rw [if_neg e]
      exact ⟨by simp only; omega, fun q => by cases q⟩
theorem zsw {x : Int32} (n : Nat) (hn : n < 1000) (h : ∀ j, j < n → x ≠ nI j) : x.toInt < 0 ∨ ((n : Int) - 1) < x.toInt := by
  rcases Int.lt_or_le x.toInt 0 with q | q
  · exact Or.inl q
  · rcases Int.lt_or_le ((n : Int) - 1) x.toInt with q2 | q2
    · exact Or.inr q2
    · exfalso
      refine h x.toInt.toNat (by omega) (Int32.toInt_inj.mp ?_)
      rw [nI_toInt (by omega)]
      omega
def zget (Ms : List zMsg) (k : Int32) : Option zMsg := if k < 0 then none else Ms[k.toNatClampNeg]?
theorem zget_some {Ms : List zMsg} {k : Nat} (h : k < Ms.length) (h10 : Ms.length ≤ 10) : zget Ms (nI k) = some (Ms.getD k zm0) := by
  rw [zget, if_neg (nI_pos (by omega)), nI_clamp (by omega), List.getD_eq_getElem?_getD, List.getElem?_eq_getElem h]
  rfl
theorem zget_none {Ms : List zMsg} {i : Int32} (h : ∀ k : Nat, k < Ms.length → i ≠ nI k) : zget Ms i = none := by
  unfold zget
  split
  · rfl
  · rename_i h0
    obtain ⟨j, hj, rfl⟩ := nI_of h0
    rw [nI_clamp hj]
    refine List.getElem?_eq_none ?_
    rcases Nat.lt_or_ge j Ms.length with z | z
    · exact absurd rfl (h j z)
    · exact z
def zmsg (Ms : List zMsg) (k what : Int32) : Int32 := match zget Ms k with
  | none => -1
  | some μ => if what = nI 0 then nI μ.1.length else if what = nI 1 then nI μ.2.2.2 else if what = nI 2 then nI μ.2.1.length else if what = nI 3 then nI μ.2.2.1.length else -1
def zbyt (Ms : List zMsg) (k part i : Int32) : Int64 := match zget Ms k with
  | none => -1
  | some μ => if i < 0 then -1 else if part = nI 0 then lN (z8 (fun j => μ.1.getD (i.toNatClampNeg + j) 0) 8) else if part = nI 1 then lN (z8 (fun j => μ.2.1.getD (i.toNatClampNeg + j) 0) 8) else if part = nI 2 then lN (z8 (fun j => μ.2.2.1.getD (i.toNatClampNeg + j) 0) 8) else -1
def zcnt (σ : zSt) (what : Int32) : Int32 := match σ with
  | (A, (Ln, _), (T, _, _, _), E, Ms, ses, _, tx) => if what = nI 0 then nI Ms.length else if what = nI 1 then zb ses else if what = nI 2 then zb tx else if what = nI 3 then nI E.2.2.length else if what = nI 4 then (if tx then nI T.length else nI Ln.length) else if what = nI 5 then nI A.length else -1
def zopen (σ : zSt) : zSt := match σ with
  | (A, _, t, _, Ms, _, _, _) => (A, ([], false), t, ([], false, []), Ms, true, false, false)
/-- the bytes of v, the highest of the lowest n first -/
def zby (v : Int64) (p : Nat) : Nat := (v.toBitVec.toNat / 2 ^ (8 * p)) % 256
def zbs (v : Int64) : Nat → List Nat
  | 0 => []
  | p + 1 => zby v p :: zbs v p
def zok (n : Int32) : Bool := decide (1 ≤ n ∧ n ≤ 8)
theorem zby_eq (v : Int64) {p : Nat} (hp : p < 8) : (v.toUInt64 >>> ((nI 8 * nI p).toInt64.toUInt64 &&& Int64.toUInt64 63)).toInt64.toInt32 &&& nI 255 = nI (zby v p) := by
  have hv : v = lN v.toBitVec.toNat := wb_inj (by rw [wb_tb]; exact (BitVec.ofNat_toNat 64 v.toBitVec ▸ by simp))
  have hl : v.toBitVec.toNat < 2 ^ 64 := v.toBitVec.isLt
  unfold zby
  generalize v.toBitVec.toNat = w at hv hl
  subst hv
  rw [pk_mul, wb_shr hl (by omega), lN_i, pk_and _ 8 (by decide)]
  congr 1
  show (Int32.ofNat (w / 2 ^ (8 * p))).toBitVec.toNat % 2 ^ 8 = _
  have : (Int32.ofNat (w / 2 ^ (8 * p))).toBitVec.toNat = (w / 2 ^ (8 * p)) % 2 ^ 32 := by
    show (BitVec.ofNat 32 _).toNat = _
    simp
  rw [this]
  omega
def zrw (t : Nat) (g : Nat → Nat) : Nat → Nat
  | 0 => t
  | n + 1 => zrw t g n * 256 + g n
theorem zrw_lt {t : Nat} {g : Nat → Nat} (ht : t < 8) (h : ∀ j, g j < 256) : ∀ n, zrw t g n < 8 * 256 ^ n
  | 0 => by simpa [zrw] using ht
  | n + 1 => by
    have h1 := zrw_lt ht h n
    have h2 := h n
    rw [zrw, Nat.pow_succ]
    omega
theorem zmin {a b : Nat} (ha : a < 2 ^ 31) (hb : b < 2 ^ 31) : (if nI b < nI a then nI b else nI a) = nI (min a b) := by
  by_cases h : b < a
  · rw [if_pos ((nI_ltI hb ha).mpr h), Nat.min_eq_right (by omega)]
  · rw [if_neg (fun z => h ((nI_ltI hb ha).mp z)), Nat.min_eq_left (by omega)]
