theorem wb_tb (n : Nat) : (lN n).toBitVec = BitVec.ofNat 64 n := rfl
theorem wb_inj {a b : Int64} (h : a.toBitVec = b.toBitVec) : a = b := Int64.toBitVec_inj.mp h
theorem wb_tn {n : Nat} (h : n < 2 ^ 64) : (lN n).toBitVec.toNat = n := by rw [wb_tb, BitVec.toNat_ofNat, Nat.mod_eq_of_lt h]
theorem wb_of (x : Int64) : ∃ n, n < 2 ^ 64 ∧ x = lN n := ⟨x.toBitVec.toNat, x.toBitVec.isLt, wb_inj (by rw [wb_tb]; simp)⟩
theorem wb_of32 (x : Int32) : ∃ n, n < 2 ^ 32 ∧ x = nI n := ⟨x.toBitVec.toNat, x.toBitVec.isLt, Int32.toBitVec_inj.mp (by show _ = BitVec.ofNat 32 _; simp)⟩
theorem wb_c : ∀ k, k < 64 → ((nI k).toInt64 &&& 63) = lN k := by decide +kernel
theorem wb_cu : ∀ k, k < 64 → ((nI k).toInt64.toUInt64 &&& Int64.toUInt64 63) = UInt64.ofNat k := by decide +kernel
theorem wb_sm : ∀ k, k < 64 → (BitVec.ofNat 64 k).smod 64 = BitVec.ofNat 64 k := by decide +kernel
theorem wb_pw {a b : Nat} (h : a ≤ b) : 2 ^ b = 2 ^ a * 2 ^ (b - a) := by rw [← Nat.pow_add]; congr 1; omega
theorem wb_lt2 {a b : Nat} (h : a < b) : 2 ^ a < 2 ^ b := Nat.pow_lt_pow_right (by decide) h
theorem wb_mod (n : Nat) : lN n = lN (n % 2 ^ 64) := wb_inj (by rw [wb_tb, wb_tb]; apply BitVec.eq_of_toNat_eq; rw [BitVec.toNat_ofNat, BitVec.toNat_ofNat, Nat.mod_mod])
theorem wb_shr {n k : Nat} (hn : n < 2 ^ 64) (hk : k < 64) : ((lN n).toUInt64 >>> ((nI k).toInt64.toUInt64 &&& Int64.toUInt64 63)).toInt64 = lN (n / 2 ^ k) := by
  rw [wb_cu k hk]
  apply wb_inj
  apply BitVec.eq_of_toNat_eq
  show ((lN n).toUInt64 >>> UInt64.ofNat k).toNat = (BitVec.ofNat 64 _).toNat
  have h1 : (UInt64.ofNat k).toNat = k := by
    show (BitVec.ofNat 64 k).toNat = k
    rw [BitVec.toNat_ofNat, Nat.mod_eq_of_lt (by omega)]
  have h2 : (lN n).toUInt64.toNat = n := wb_tn hn
  rw [UInt64.toNat_shiftRight, h1, h2, Nat.mod_eq_of_lt hk, Nat.shiftRight_eq_div_pow, BitVec.toNat_ofNat, Nat.mod_eq_of_lt (Nat.lt_of_le_of_lt (Nat.div_le_self _ _) hn)]
theorem wb_shl (n : Nat) {k : Nat} (hk : k < 64) : lN n <<< ((nI k).toInt64 &&& 63) = lN (n * 2 ^ k) := by
  rw [wb_c k hk]
  apply wb_inj
  rw [Int64.toBitVec_shiftLeft, wb_tb, wb_tb, wb_tb, wb_sm k hk]
  apply BitVec.eq_of_toNat_eq
  rw [BitVec.shiftLeft_eq', BitVec.toNat_shiftLeft, BitVec.toNat_ofNat, BitVec.toNat_ofNat, BitVec.toNat_ofNat, Nat.mod_eq_of_lt (show k < 2 ^ 64 by omega), Nat.shiftLeft_eq, Nat.mul_mod, Nat.mod_mod, ← Nat.mul_mod]
theorem wb_and {a b : Nat} (ha : a < 2 ^ 64) (hb : b < 2 ^ 64) : lN a &&& lN b = lN (a &&& b) := by
  apply wb_inj
  rw [Int64.toBitVec_and, wb_tb, wb_tb, wb_tb]
  apply BitVec.eq_of_toNat_eq
  rw [BitVec.toNat_and, BitVec.toNat_ofNat, BitVec.toNat_ofNat, BitVec.toNat_ofNat, Nat.mod_eq_of_lt ha, Nat.mod_eq_of_lt hb, Nat.mod_eq_of_lt (Nat.and_lt_two_pow _ hb)]
theorem wb_or {a b : Nat} (ha : a < 2 ^ 64) (hb : b < 2 ^ 64) : lN a ||| lN b = lN (a ||| b) := by
  apply wb_inj
  rw [Int64.toBitVec_or, wb_tb, wb_tb, wb_tb]
  apply BitVec.eq_of_toNat_eq
  rw [BitVec.toNat_or, BitVec.toNat_ofNat, BitVec.toNat_ofNat, BitVec.toNat_ofNat, Nat.mod_eq_of_lt ha, Nat.mod_eq_of_lt hb, Nat.mod_eq_of_lt (Nat.or_lt_two_pow ha hb)]
theorem wb_mask {n k : Nat} (hn : n < 2 ^ 64) (hk : k < 64) : lN n &&& lN (2 ^ k - 1) = lN (n % 2 ^ k) := by
  rw [wb_and hn (by have := wb_lt2 hk; omega), Nat.and_two_pow_sub_one_eq_mod]
theorem wb_a1 {n : Nat} (hn : n < 2 ^ 64) : lN n &&& 1 = lN (n % 2) := wb_mask (k := 1) hn (by decide)
/-! pure words: small ints by their numbers, texts, rows of bytes -/
def zb (b : Bool) : Int32 := nI b.toNat
theorem zb_0 {b : Bool} : zb b = 0 ↔ b = false := by cases b <;> decide
theorem zb_z (b : Bool) : narrow .boolean (.int (zb b)) = .int (zb b) := by cases b <;> rfl
theorem zb_f (b : Bool) : fits .boolean (.int (zb b)) = true := by cases b <;> rfl
theorem zlt {a b : Nat} (h : Nat.ble (a + 1) b = true) : a < b := Nat.le_of_ble_eq_true h
theorem zinc (a : Nat) : nI a + Int32.ofInt 1 = nI (a + 1) := nI_1 a
theorem nI_eq0 {a : Nat} (h : a < 2 ^ 31) : nI a = 0 ↔ a = 0 := by rw [← nI_0]; exact nI_eq h (by decide)
theorem nI_lt0 {a : Nat} (h : a < 2 ^ 31) : nI a < 0 ↔ False := ⟨nI_pos h, False.elim⟩
theorem nI_0le {a : Nat} (h : a < 2 ^ 31) : 0 ≤ nI a ↔ True := ⟨fun _ => trivial, fun _ => nI_pos' h⟩
theorem nI_0lt {a : Nat} (h : a < 2 ^ 31) : 0 < nI a ↔ 0 < a := by rw [← nI_0]; exact nI_ltI (by decide) h
theorem nI_le0 {a : Nat} (h : a < 2 ^ 31) : nI a ≤ 0 ↔ a = 0 := by
  rw [← nI_0, nI_leI h (by decide)]; omega
theorem zc128 : ∀ c, c < 128 → nI c &&& nI 255 = nI c ∧ ((nI c).toUInt32 % 65536).toInt32 = nI c ∧ (nI c).toInt8.toInt32 = nI c := by decide +kernel
theorem zchar : ∀ c, c < 256 → ((nI c).toUInt32 % 65536).toInt32 = nI c ∧ narrow .char (.int (nI c)) = .int (nI c) := fun c h => ⟨(sb_byte c h).2.1, (pk_charN (by omega)).1⟩
-- texts
def zs (i : Nat) : List Nat := zsT.getD i []
theorem zs_ok : ∀ i, i < mm_nS → (zs i).length < 64 ∧ ∀ c ∈ zs i, c < 128 := by decide +kernel
theorem zgetD_map {α β : Type} (f : α → β) (l : List α) (i : Nat) (d : α) : (l.map f).getD i (f d) = f (l.getD i d) := by
  simp only [List.getD_eq_getElem?_getD, List.getElem?_map]
  cases l[i]? <;> rfl
theorem zs_len (i : Nat) : mm_len.getD i 0 = (zs i).length := zgetD_map List.length zsT i []
theorem zs_byt (i j : Nat) : (mm_byt.getD i []).getD j 0 = nI ((zs i).getD j 0) := by
  have h : mm_byt.getD i [] = (zs i).map nI := zgetD_map (fun l => List.map nI l) zsT i []
  rw [h]
  exact zgetD_map nI (zs i) j 0
theorem zmem_getD {L : List Nat} {j : Nat} (h : j < L.length) : L.getD j 0 ∈ L := by
  rw [List.getD_eq_getElem?_getD, List.getElem?_eq_getElem h]
  exact List.getElem_mem h
theorem zgetD_out {L : List Nat} {j : Nat} (h : L.length ≤ j) : L.getD j 0 = 0 := by
  rw [List.getD_eq_getElem?_getD, List.getElem?_eq_none h]
  rfl
theorem zgetD_mid (v : List Nat) (c : Nat) (w : List Nat) : (v ++ c :: w).getD v.length 0 = c := by
  simp [List.getD_eq_getElem?_getD]
-- rows
def zatI (L : List Nat) (i : Int32) : Nat := if i < 0 then 0 else L.getD i.toNatClampNeg 0
theorem zatI_nI {L : List Nat} {j : Nat} (h : j < 2 ^ 31) : zatI L (nI j) = L.getD j 0 := by rw [zatI, if_neg (nI_pos h), nI_clamp h]
/-- outside of lo .. hi nothing changes -/
def zsame (lo hi : Nat) (m m' : mm_M) : Prop := ∀ a : Nat, a < lo ∨ hi ≤ a → m' a = m a
theorem zsame.rf {lo hi : Nat} {m : mm_M} : zsame lo hi m m := fun _ _ => rfl
theorem zsame.tr {lo hi : Nat} {m m' m'' : mm_M} (h : zsame lo hi m m') (h' : zsame lo hi m' m'') : zsame lo hi m m'' := fun a ha => (h' a ha).trans (h a ha)
theorem zsame.wide {lo hi l2 h2 : Nat} {m m' : mm_M} (h : zsame lo hi m m') (e1 : l2 ≤ lo) (e2 : hi ≤ h2) : zsame l2 h2 m m' := fun a ha => h a (by omega)
theorem zsame.one {a lo hi : Nat} {m m' : mm_M} (h : ∀ b : Nat, b ≠ a → m' b = m b) (e1 : lo ≤ a) (e2 : a < hi) : zsame lo hi m m' := fun b hb => h b (by omega)
/-- a row at q with its bytes at q + 1 -/
def zRow (q cap : Nat) (L : List Nat) (m : mm_M) : Prop := ∃ f : Nat → Int32, m q = some (.inr (kRow, [.ref (q + 1), .int (nI L.length)])) ∧ m (q + 1) = some (.inl (kB, cap, .inl f)) ∧ L.length ≤ cap ∧ cap < 65536 ∧ (∀ j, j < L.length → f j = sb_b (L.getD j 0)) ∧ ∀ x ∈ L, x < 256
theorem zRow.obj {q cap : Nat} {L : List Nat} {m : mm_M} (h : zRow q cap L m) : m q = some (.inr (kRow, [.ref (q + 1), .int (nI L.length)])) := by
  obtain ⟨f, a, -⟩ := h
  exact a
theorem zRow.le {q cap : Nat} {L : List Nat} {m : mm_M} (h : zRow q cap L m) : L.length ≤ cap ∧ cap < 65536 := by
  obtain ⟨f, -, -, a, b, -⟩ := h
  exact ⟨a, b⟩
theorem zRow.lt {q cap : Nat} {L : List Nat} {m : mm_M} (h : zRow q cap L m) : ∀ x ∈ L, x < 256 := by
  obtain ⟨f, -, -, -, -, -, a⟩ := h
  exact a
theorem zRow.atlt {q cap : Nat} {L : List Nat} {m : mm_M} (h : zRow q cap L m) (i : Int32) : zatI L i < 256 := by
  unfold zatI
  split
  · decide
  · rcases Nat.lt_or_ge i.toNatClampNeg L.length with z | z
    · exact h.lt _ (zmem_getD z)
    · rw [zgetD_out z]; decide
theorem zRow.dlt {q cap : Nat} {L : List Nat} {m : mm_M} (h : zRow q cap L m) (j : Nat) : L.getD j 0 < 256 := by
  rcases Nat.lt_or_ge j L.length with z | z
  · exact h.lt _ (zmem_getD z)
  · rw [zgetD_out z]; decide
theorem zRow.kept {q cap : Nat} {L : List Nat} {m m' : mm_M} (h : zRow q cap L m) (h1 : m' q = m q) (h2 : m' (q + 1) = m (q + 1)) : zRow q cap L m' := by
  obtain ⟨f, a, b, c⟩ := h
  exact ⟨f, h1.trans a, h2.trans b, c⟩
theorem zRow.off {q cap lo hi : Nat} {L : List Nat} {m m' : mm_M} (h : zRow q cap L m) (hs : zsame lo hi m m') (hq : q + 2 ≤ lo ∨ hi ≤ q) : zRow q cap L m' := h.kept (hs q (by omega)) (hs (q + 1) (by omega))
theorem zadd_f {f : Nat → Int32} {L : List Nat} {b : Nat} (hf : ∀ j, j < L.length → f j = sb_b (L.getD j 0)) : ∀ j, j < (L ++ [b]).length → upd f L.length (sb_b b) j = sb_b ((L ++ [b]).getD j 0) := by
  intro j hj
  by_cases e : j = L.length
  · subst e
    rw [pk_us, zgetD_mid]
  · have h1 : j < L.length := by simp at hj; omega
    rw [pk_un e, hf j h1]
    simp [List.getD_eq_getElem?_getD, List.getElem?_append_left h1]
theorem ztake_full {L : List Nat} {b cap : Nat} (h : L.length = cap) : (L ++ [b]).take cap = L := by
  rw [← h]; simp
theorem ztake_room {L : List Nat} {b cap : Nat} (h : L.length < cap) : (L ++ [b]).take cap = L ++ [b] := List.take_of_length_le (by simp; omega)
theorem zbb (b : Nat) : ((nI b).toInt8.toInt32).toInt8.toInt32 = sb_b b := pk_vb (nI b)
theorem ztake_take {A B : List Nat} {cap : Nat} : (A.take cap ++ B).take cap = (A ++ B).take cap := by
  rcases Nat.le_total A.length cap with h | h
  · rw [List.take_of_length_le h]
  · rw [List.take_append_of_le_length (by simp; omega), List.take_append_of_le_length h, List.take_take]
    simp
/-- A .. Z as a .. z -/
def zlow (b : Nat) : Nat := if 65 ≤ b ∧ b ≤ 90 then b + 32 else b
/-- the word w stands at i of L, without case -/
def zhw (L : List Nat) : Nat → List Nat → Bool
  | _, [] => true
  | i, c :: w => zlow (L.getD i 0) == zlow c && zhw L (i + 1) w
/-- eight bytes from i on -/
def z8 (g : Nat → Nat) : Nat → Nat
  | 0 => 0
  | n + 1 => z8 g n * 256 + g n
theorem z8_lt {g : Nat → Nat} (h : ∀ j, g j < 256) : ∀ n, z8 g n < 256 ^ n
  | 0 => by simp [z8]
  | n + 1 => by
    have h1 := z8_lt h n
    have h2 := h n
    rw [z8, Nat.pow_succ]
    omega
