theorem zor_add {a b k : Nat} (hb : b < 2 ^ k) (h : a * 2 ^ k + b < 2 ^ 64) : lN (a * 2 ^ k) ||| lN b = lN (a * 2 ^ k + b) := by
  rw [wb_or (by omega) (by omega)]
  congr 1
  have h := Nat.two_pow_add_eq_or_of_lt (i := k) (b := b) hb a
  rw [show a * 2 ^ k = 2 ^ k * a by rw [Nat.mul_comm], ← h]
theorem zrw_pad {t n : Nat} {g : Nat → Nat} (hg : ∀ j, n ≤ j → g j = 0) : ∀ d, zrw t g (n + d) = zrw t g n * 256 ^ d
  | 0 => by simp
  | d + 1 => by
    rw [← Nat.add_assoc, zrw, zrw_pad hg d, hg (n + d) (by omega), Nat.pow_succ, Nat.mul_assoc]
    rfl
