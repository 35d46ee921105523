/-- the part of a condition at a path -/
def zpath : List Bool → Jvm.Cond → Jvm.Cond
  | [], T => T
  | d :: p, T => match T with
    | .and a b => zpath p (if d then b else a)
    | c => c
theorem zpath_ok {args : Array Value} {s : State} : ∀ (p : List Bool) (T : Jvm.Cond), T.before args s = true → (zpath p T).before args s = true
  | [], T, h => h
  | d :: p, T, h => by
    cases T with
    | and a b =>
      rw [Cond.before_and, Bool.and_eq_true] at h
      cases d with
      | false => exact zpath_ok p a h.1
      | true => exact zpath_ok p b h.2
    | _ => exact h
def zpt : List (List Bool × List Bool × List Bool × List Bool × List (List Bool)) := [([true, false, false, false, false, false, true, false, true, true], [true, false, false, false, false, false, true, true, false], [true, false, false, false, false, false, true, true, true, false], [true, false, false, false, false, false, true, true, true, true], [[true, false, false, false, false, true, false, false, false], [true, false, false, false, false, true, false, false, true], [true, false, false, false, false, true, false, true, false], [true, false, false, false, false, true, false, true, true, false], [true, false, false, false, false, true, false, true, true, true], [true, false, false, false, false, true, true, false, false], [true, false, false, false, false, true, true, false, true, false]]),
  ([true, false, false, false, false, true, true, false, true, true], [true, false, false, false, false, true, true, true, false], [true, false, false, false, false, true, true, true, true, false], [true, false, false, false, false, true, true, true, true, true], [[true, false, false, false, true, false, false, false, false], [true, false, false, false, true, false, false, false, true], [true, false, false, false, true, false, false, true, false], [true, false, false, false, true, false, false, true, true, false], [true, false, false, false, true, false, false, true, true, true], [true, false, false, false, true, false, true, false, false], [true, false, false, false, true, false, true, false, true, false], [true, false, false, false, true, false, true, false, true, true]]),
  ([true, false, false, false, true, false, true, true, false], [true, false, false, false, true, false, true, true, true, false], [true, false, false, false, true, false, true, true, true, true], [true, false, false, false, true, true, false, false, false], [[true, false, false, false, true, true, false, false, true], [true, false, false, false, true, true, false, true, false], [true, false, false, false, true, true, false, true, true, false], [true, false, false, false, true, true, false, true, true, true], [true, false, false, false, true, true, true, false, false]]),
  ([true, false, false, false, true, true, true, false, true, false], [true, false, false, false, true, true, true, false, true, true], [true, false, false, false, true, true, true, true, false], [true, false, false, false, true, true, true, true, true, false], [[true, false, false, false, true, true, true, true, true, true], [true, false, false, true, false, false, false, false, false], [true, false, false, true, false, false, false, false, true], [true, false, false, true, false, false, false, true, false], [true, false, false, true, false, false, false, true, true, false], [true, false, false, true, false, false, false, true, true, true], [true, false, false, true, false, false, true, false, false], [true, false, false, true, false, false, true, false, true, false], [true, false, false, true, false, false, true, false, true, true], [true, false, false, true, false, false, true, true, false], [true, false, false, true, false, false, true, true, true, false], [true, false, false, true, false, false, true, true, true, true]]),
  ([true, false, false, true, false, true, false, false, false], [true, false, false, true, false, true, false, false, true], [true, false, false, true, false, true, false, true, false], [true, false, false, true, false, true, false, true, true, false], [[true, false, false, true, false, true, false, true, true, true], [true, false, false, true, false, true, true, false, false], [true, false, false, true, false, true, true, false, true, false], [true, false, false, true, false, true, true, false, true, true]]),
  ([true, false, false, true, false, true, true, true, false], [true, false, false, true, false, true, true, true, true, false], [true, false, false, true, false, true, true, true, true, true], [true, false, false, true, true, false, false, false, false], [[true, false, false, true, true, false, false, false, true]]),
  ([true, false, false, true, true, false, false, true, false], [true, false, false, true, true, false, false, true, true, false], [true, false, false, true, true, false, false, true, true, true], [true, false, false, true, true, false, true, false, false], [[true, false, false, true, true, false, true, false, true, false], [true, false, false, true, true, false, true, false, true, true], [true, false, false, true, true, false, true, true, false], [true, false, false, true, true, false, true, true, true, false], [true, false, false, true, true, false, true, true, true, true], [true, false, false, true, true, true, false, false, false], [true, false, false, true, true, true, false, false, true, false], [true, false, false, true, true, true, false, false, true, true], [true, false, false, true, true, true, false, true, false], [true, false, false, true, true, true, false, true, true, false]]),
  ([true, false, false, true, true, true, false, true, true, true], [true, false, false, true, true, true, true, false, false], [true, false, false, true, true, true, true, false, true, false], [true, false, false, true, true, true, true, false, true, true], [[true, false, false, true, true, true, true, true, false], [true, false, false, true, true, true, true, true, true, false], [true, false, false, true, true, true, true, true, true, true], [true, false, true, false, false, false, false, false, false], [true, false, true, false, false, false, false, false, true], [true, false, true, false, false, false, false, true, false], [true, false, true, false, false, false, false, true, true, false], [true, false, true, false, false, false, false, true, true, true]]),
  ([true, false, true, false, false, false, true, false, false], [true, false, true, false, false, false, true, false, true, false], [true, false, true, false, false, false, true, false, true, true], [true, false, true, false, false, false, true, true, false], [[true, false, true, false, false, false, true, true, true, false], [true, false, true, false, false, false, true, true, true, true], [true, false, true, false, false, true, false, false, false], [true, false, true, false, false, true, false, false, true]]),
  ([true, false, true, false, false, true, false, true, false], [true, false, true, false, false, true, false, true, true, false], [true, false, true, false, false, true, false, true, true, true], [true, false, true, false, false, true, true, false, false], [[true, false, true, false, false, true, true, false, true, false], [true, false, true, false, false, true, true, false, true, true], [true, false, true, false, false, true, true, true, false], [true, false, true, false, false, true, true, true, true, false], [true, false, true, false, false, true, true, true, true, true], [true, false, true, false, true, false, false, false, false], [true, false, true, false, true, false, false, false, true], [true, false, true, false, true, false, false, true, false], [true, false, true, false, true, false, false, true, true, false], [true, false, true, false, true, false, false, true, true, true], [true, false, true, false, true, false, true, false, false], [true, false, true, false, true, false, true, false, true, false]]),
  ([true, false, true, false, true, false, true, false, true, true], [true, false, true, false, true, false, true, true, false], [true, false, true, false, true, false, true, true, true, false], [true, false, true, false, true, false, true, true, true, true], [[true, false, true, false, true, true, false, false, false], [true, false, true, false, true, true, false, false, true, false], [true, false, true, false, true, true, false, false, true, true], [true, false, true, false, true, true, false, true, false], [true, false, true, false, true, true, false, true, true, false], [true, false, true, false, true, true, false, true, true, true], [true, false, true, false, true, true, true, false, false], [true, false, true, false, true, true, true, false, true, false], [true, false, true, false, true, true, true, false, true, true], [true, false, true, false, true, true, true, true, false]]),
  ([true, false, true, false, true, true, true, true, true, false], [true, false, true, false, true, true, true, true, true, true], [true, false, true, true, false, false, false, false, false], [true, false, true, true, false, false, false, false, true], [[true, false, true, true, false, false, false, true, false], [true, false, true, true, false, false, false, true, true, false], [true, false, true, true, false, false, false, true, true, true], [true, false, true, true, false, false, true, false, false], [true, false, true, true, false, false, true, false, true, false], [true, false, true, true, false, false, true, false, true, true], [true, false, true, true, false, false, true, true, false], [true, false, true, true, false, false, true, true, true, false], [true, false, true, true, false, false, true, true, true, true], [true, false, true, true, false, true, false, false, false], [true, false, true, true, false, true, false, false, true], [true, false, true, true, false, true, false, true, false], [true, false, true, true, false, true, false, true, true, false], [true, false, true, true, false, true, false, true, true, true], [true, false, true, true, false, true, true, false, false], [true, false, true, true, false, true, true, false, true, false], [true, false, true, true, false, true, true, false, true, true], [true, false, true, true, false, true, true, true, false], [true, false, true, true, false, true, true, true, true, false]]),
  ([true, false, true, true, false, true, true, true, true, true], [true, false, true, true, true, false, false, false, false], [true, false, true, true, true, false, false, false, true], [true, false, true, true, true, false, false, true, false], [[true, false, true, true, true, false, false, true, true, false], [true, false, true, true, true, false, false, true, true, true], [true, false, true, true, true, false, true, false, false], [true, false, true, true, true, false, true, false, true, false], [true, false, true, true, true, false, true, false, true, true], [true, false, true, true, true, false, true, true, false], [true, false, true, true, true, false, true, true, true, false], [true, false, true, true, true, false, true, true, true, true], [true, false, true, true, true, true, false, false, false], [true, false, true, true, true, true, false, false, true, false], [true, false, true, true, true, true, false, false, true, true], [true, false, true, true, true, true, false, true, false], [true, false, true, true, true, true, false, true, true, false], [true, false, true, true, true, true, false, true, true, true]]),
  ([true, false, true, true, true, true, true, false, false], [true, false, true, true, true, true, true, false, true, false], [true, false, true, true, true, true, true, false, true, true], [true, false, true, true, true, true, true, true, false], [[true, false, true, true, true, true, true, true, true, false], [true, false, true, true, true, true, true, true, true, true], [true, true, false, false, false, false, false, false, false], [true, true, false, false, false, false, false, false, true], [true, true, false, false, false, false, false, true, false], [true, true, false, false, false, false, false, true, true, false]]),
  ([true, true, false, false, false, false, false, true, true, true], [true, true, false, false, false, false, true, false, false], [true, true, false, false, false, false, true, false, true, false], [true, true, false, false, false, false, true, false, true, true], [[true, true, false, false, false, false, true, true, false], [true, true, false, false, false, false, true, true, true, false], [true, true, false, false, false, false, true, true, true, true], [true, true, false, false, false, true, false, false, false], [true, true, false, false, false, true, false, false, true], [true, true, false, false, false, true, false, true, false], [true, true, false, false, false, true, false, true, true, false], [true, true, false, false, false, true, false, true, true, true], [true, true, false, false, false, true, true, false, false]]),
  ([true, true, false, false, false, true, true, false, true, false], [true, true, false, false, false, true, true, false, true, true], [true, true, false, false, false, true, true, true, false], [true, true, false, false, false, true, true, true, true, false], [[true, true, false, false, false, true, true, true, true, true], [true, true, false, false, true, false, false, false, false], [true, true, false, false, true, false, false, false, true], [true, true, false, false, true, false, false, true, false], [true, true, false, false, true, false, false, true, true, false], [true, true, false, false, true, false, false, true, true, true], [true, true, false, false, true, false, true, false, false], [true, true, false, false, true, false, true, false, true, false], [true, true, false, false, true, false, true, false, true, true], [true, true, false, false, true, false, true, true, false]]),
  ([true, true, false, false, true, false, true, true, true, false], [true, true, false, false, true, false, true, true, true, true], [true, true, false, false, true, true, false, false, false], [true, true, false, false, true, true, false, false, true, false], [[true, true, false, false, true, true, false, false, true, true], [true, true, false, false, true, true, false, true, false], [true, true, false, false, true, true, false, true, true, false], [true, true, false, false, true, true, false, true, true, true]]),
  ([true, true, false, false, true, true, true, false, false], [true, true, false, false, true, true, true, false, true, false], [true, true, false, false, true, true, true, false, true, true], [true, true, false, false, true, true, true, true, false], [[true, true, false, false, true, true, true, true, true, false], [true, true, false, false, true, true, true, true, true, true], [true, true, false, true, false, false, false, false, false], [true, true, false, true, false, false, false, false, true], [true, true, false, true, false, false, false, true, false], [true, true, false, true, false, false, false, true, true, false], [true, true, false, true, false, false, false, true, true, true], [true, true, false, true, false, false, true, false, false]]),
  ([true, true, false, true, false, false, true, false, true, false], [true, true, false, true, false, false, true, false, true, true], [true, true, false, true, false, false, true, true, false], [true, true, false, true, false, false, true, true, true, false], [[true, true, false, true, false, false, true, true, true, true], [true, true, false, true, false, true, false, false, false], [true, true, false, true, false, true, false, false, true], [true, true, false, true, false, true, false, true, false], [true, true, false, true, false, true, false, true, true, false], [true, true, false, true, false, true, false, true, true, true]]),
  ([true, true, false, true, false, true, true, false, false], [true, true, false, true, false, true, true, false, true, false], [true, true, false, true, false, true, true, false, true, true], [true, true, false, true, false, true, true, true, false], [[true, true, false, true, false, true, true, true, true, false], [true, true, false, true, false, true, true, true, true, true], [true, true, false, true, true, false, false, false, false], [true, true, false, true, true, false, false, false, true], [true, true, false, true, true, false, false, true, false], [true, true, false, true, true, false, false, true, true, false], [true, true, false, true, true, false, false, true, true, true], [true, true, false, true, true, false, true, false, false]]),
  ([true, true, false, true, true, false, true, false, true, false], [true, true, false, true, true, false, true, false, true, true], [true, true, false, true, true, false, true, true, false], [true, true, false, true, true, false, true, true, true, false], [[true, true, false, true, true, false, true, true, true, true], [true, true, false, true, true, true, false, false, false], [true, true, false, true, true, true, false, false, true, false], [true, true, false, true, true, true, false, false, true, true], [true, true, false, true, true, true, false, true, false], [true, true, false, true, true, true, false, true, true, false], [true, true, false, true, true, true, false, true, true, true], [true, true, false, true, true, true, true, false, false]]),
  ([true, true, false, true, true, true, true, false, true, false], [true, true, false, true, true, true, true, false, true, true], [true, true, false, true, true, true, true, true, false], [true, true, false, true, true, true, true, true, true, false], [[true, true, false, true, true, true, true, true, true, true], [true, true, true, false, false, false, false, false, false], [true, true, true, false, false, false, false, false, true], [true, true, true, false, false, false, false, true, false], [true, true, true, false, false, false, false, true, true, false], [true, true, true, false, false, false, false, true, true, true], [true, true, true, false, false, false, true, false, false], [true, true, true, false, false, false, true, false, true, false], [true, true, true, false, false, false, true, false, true, true], [true, true, true, false, false, false, true, true, false], [true, true, true, false, false, false, true, true, true, false], [true, true, true, false, false, false, true, true, true, true], [true, true, true, false, false, true, false, false, false]]),
  ([true, true, true, false, false, true, false, false, true], [true, true, true, false, false, true, false, true, false], [true, true, true, false, false, true, false, true, true, false], [true, true, true, false, false, true, false, true, true, true], [[true, true, true, false, false, true, true, false, false], [true, true, true, false, false, true, true, false, true, false], [true, true, true, false, false, true, true, false, true, true], [true, true, true, false, false, true, true, true, false]]),
  ([true, true, true, false, false, true, true, true, true, false], [true, true, true, false, false, true, true, true, true, true], [true, true, true, false, true, false, false, false, false], [true, true, true, false, true, false, false, false, true], [[true, true, true, false, true, false, false, true, false], [true, true, true, false, true, false, false, true, true, false], [true, true, true, false, true, false, false, true, true, true], [true, true, true, false, true, false, true, false, false], [true, true, true, false, true, false, true, false, true, false], [true, true, true, false, true, false, true, false, true, true]]),
  ([true, true, true, false, true, false, true, true, false], [true, true, true, false, true, false, true, true, true, false], [true, true, true, false, true, false, true, true, true, true], [true, true, true, false, true, true, false, false, false], [[true, true, true, false, true, true, false, false, true, false], [true, true, true, false, true, true, false, false, true, true], [true, true, true, false, true, true, false, true, false], [true, true, true, false, true, true, false, true, true, false]]),
  ([true, true, true, false, true, true, false, true, true, true], [true, true, true, false, true, true, true, false, false], [true, true, true, false, true, true, true, false, true, false], [true, true, true, false, true, true, true, false, true, true], [[true, true, true, false, true, true, true, true, false], [true, true, true, false, true, true, true, true, true, false], [true, true, true, false, true, true, true, true, true, true], [true, true, true, true, false, false, false, false, false], [true, true, true, true, false, false, false, false, true], [true, true, true, true, false, false, false, true, false]]),
  ([true, true, true, true, false, false, false, true, true, false], [true, true, true, true, false, false, false, true, true, true], [true, true, true, true, false, false, true, false, false], [true, true, true, true, false, false, true, false, true, false], [[true, true, true, true, false, false, true, false, true, true], [true, true, true, true, false, false, true, true, false], [true, true, true, true, false, false, true, true, true, false], [true, true, true, true, false, false, true, true, true, true]]),
  ([true, true, true, true, false, true, false, false, false], [true, true, true, true, false, true, false, false, true], [true, true, true, true, false, true, false, true, false], [true, true, true, true, false, true, false, true, true, false], [[true, true, true, true, false, true, false, true, true, true], [true, true, true, true, false, true, true, false, false], [true, true, true, true, false, true, true, false, true, false], [true, true, true, true, false, true, true, false, true, true]]),
  ([true, true, true, true, false, true, true, true, false], [true, true, true, true, false, true, true, true, true, false], [true, true, true, true, false, true, true, true, true, true], [true, true, true, true, true, false, false, false, false], [[true, true, true, true, true, false, false, false, true], [true, true, true, true, true, false, false, true, false], [true, true, true, true, true, false, false, true, true, false], [true, true, true, true, true, false, false, true, true, true], [true, true, true, true, true, false, true, false, false], [true, true, true, true, true, false, true, false, true, false], [true, true, true, true, true, false, true, false, true, true]]),
  ([true, true, true, true, true, false, true, true, false], [true, true, true, true, true, false, true, true, true, false], [true, true, true, true, true, false, true, true, true, true], [true, true, true, true, true, true, false, false, false], [[true, true, true, true, true, true, false, false, true, false], [true, true, true, true, true, true, false, false, true, true], [true, true, true, true, true, true, false, true, false], [true, true, true, true, true, true, false, true, true, false], [true, true, true, true, true, true, false, true, true, true], [true, true, true, true, true, true, true, false, false], [true, true, true, true, true, true, true, false, true, false], [true, true, true, true, true, true, true, false, true, true], [true, true, true, true, true, true, true, true, false], [true, true, true, true, true, true, true, true, true, false], [true, true, true, true, true, true, true, true, true, true]])]
def zp1 : List Bool := [true, false, false, false, false, false, false, true, false]
def zp2 : List Bool := [true, false, false, false, false, false, false, true, true, false]
/-! the start: the classes, the array classes, the texts -/
def zstr (i : Nat) : Term := Term.string (mm_strs.getD i ("", 0, "", 0)).1 (mm_strs.getD i ("", 0, "", 0)).2.1
def zval (i : Nat) : Term := .field (zstr i) "java/lang/String" "value" "[B"
def zqt (i : Nat) : List Bool × List Bool × List Bool × List Bool × List (List Bool) := zpt.getD i ([], [], [], [], [])
abbrev zpre : Jvm.Cond := Jvm.Cond.and given_1 narrow_1
def zst_ok (i : Nat) : Bool := decide (zpath (zqt i).1 zpre = Cond.exactly (zstr i) "java/lang/String") && decide (zpath (zqt i).2.1 zpre = Cond.eq (.field (zstr i) "java/lang/String" "coder" "B") (.int 0)) && decide (zpath (zqt i).2.2.1 zpre = Cond.arrayOf (zval i) .byte) && decide (zpath (zqt i).2.2.2.1 zpre = Cond.eq (.length (zval i)) (.int (Int32.ofNat (mm_len.getD i 0)))) && ((List.range (mm_len.getD i 0)).all fun j => decide (zpath ((zqt i).2.2.2.2.getD j []) zpre = Cond.eq (.elem (zval i) (.int (Int32.ofNat j))) (.int ((mm_byt.getD i []).getD j 0))))
set_option maxRecDepth 100000 in
theorem zst_flat1 : ∀ i, i < 10 → zst_ok i = true := by decide +kernel
set_option maxRecDepth 100000 in
theorem zst_flat2 : ∀ i, i < 10 → zst_ok (10 + i) = true := by decide +kernel
set_option maxRecDepth 100000 in
theorem zst_flat3 : ∀ i, i < 10 → zst_ok (20 + i) = true := by decide +kernel
theorem zst_flat (i : Nat) (h : i < mm_nS) : zst_ok i = true := by
  have h : i < 30 := h
  rcases Nat.lt_or_ge i 10 with z | z
  · exact zst_flat1 i z
  · rcases Nat.lt_or_ge i 20 with z2 | z2
    · have q := zst_flat2 (i - 10) (by omega)
      rwa [show 10 + (i - 10) = i by omega] at q
    · have q := zst_flat3 (i - 20) (by omega)
      rwa [show 20 + (i - 20) = i by omega] at q
set_option maxRecDepth 100000 in
theorem zst_tbl : ∀ r ∈ mm_strs, Cond.stringRef r.1 r.2.1 r.2.2.1 ∈ lw_tbl ∧ zstr r.2.2.2 = Term.string r.1 r.2.1 ∧ r.2.2.2 < mm_nS := by decide +kernel
set_option maxRecDepth 100000 in
theorem zst_w : Cond.laysStatic "java/lang/String" "COMPACT_STRINGS" "Z" ∈ lw_tbl ∧ Cond.initialized "java/lang/String" ∈ lw_tbl ∧ Cond.laysStatic "jdk/internal/util/Preconditions" "SIOOBE_FORMATTER" "Ljava/util/function/BiFunction;" ∈ lw_tbl ∧ Cond.initialized "jdk/internal/util/Preconditions" ∈ lw_tbl ∧ Cond.arrayOver (.object R_Row) ∈ lw_tbl ∧ Cond.arrayOver (.object R_Let) ∈ lw_tbl := by decide +kernel
set_option maxRecDepth 100000 in
theorem zst_f : zpath zp1 zpre = Cond.eq (.static "java/lang/String" "COMPACT_STRINGS" "Z") (.int 1) ∧ zpath zp2 zpre = Cond.isRef (.static "jdk/internal/util/Preconditions" "SIOOBE_FORMATTER" "Ljava/util/function/BiFunction;") := by decide +kernel
theorem zst_arr {s : State} {args : Array Value} {ty : FieldType} (h : (Cond.arrayClass ty).before args s = true) : ∃ c, ArrOfT s c ty ∧ s.vm.findClass ("[" ++ ty.toString) = some c := by
  obtain ⟨c, k, comp, h1, h2, h3⟩ := Cond.arrayClass_spec h
  exact ⟨c, fun n z => ⟨(fun k h => by cases h), k, h2, comp, h3⟩, h1⟩
theorem zst_obj {s : State} {args : Array Value} {C : String} (h : (Cond.arrayOver (.object C)).before args s = true) : ∃ c, ArrOfT s c (.object C) ∧ va_RA s c (.object C) := by
  obtain ⟨comp, c, k, h1, h2, h3, h4, h5⟩ := Cond.arrayOver_spec h
  exact ⟨c, fun n z => ⟨(fun k h => by cases h), k, h3, comp, h4⟩, k, comp, h3, h4, h1, h5⟩
set_option maxHeartbeats 4000000 in
set_option maxRecDepth 100000 in
theorem zstart {s : State} {b : Nat} (l : Launch) (hts : ∀ w ∈ lw_tbl, w.before #[Value.ref b] s = true) (hgv : (Jvm.Cond.and given_1 narrow_1).before #[Value.ref b] s = true) : ∃ V : mm_V, V.1 = l ∧ V.2.2.2.1 = s.heap.size ∧ mm_E V s := by
  have hA : ∀ a : Nat, a < s.heap.size → ¬ (fun q : Nat => s.heap.size ≤ q) a := fun a h q => absurd h (Nat.not_lt.mpr q)
  have hfl : ∀ (p : List Bool) {T : Jvm.Cond}, zpath p zpre = T → T.before #[Value.ref b] s = true := fun p T e => by rw [← e]; exact zpath_ok p _ hgv
  have hts2 : ∀ w ∈ mm_TB, w.before #[Value.ref b] s = true := fun w h => hts w (mm_tbl h)
  obtain ⟨c0, i0, k0⟩ := u_known (C := R_Row) (T := T_Row) (N := 2) (n := 2) hts2 in_Row (hts2 _ (xn_ML_7 (.instantiable R_Row 2) (by simp)))
  obtain ⟨c1, i1, k1⟩ := u_known (C := R_LR) (T := T_LR) (N := 2) (n := 2) hts2 in_LR (hts2 _ (xn_ML_18 (.instantiable R_LR 2) (by simp)))
  obtain ⟨c2, i2, k2⟩ := u_known (C := R_TR) (T := T_TR) (N := 4) (n := 4) hts2 in_TR (hts2 _ (xn_ML_25 (.instantiable R_TR 4) (by simp)))
  obtain ⟨c3, i3, k3⟩ := u_known (C := R_Env) (T := T_Env) (N := 4) (n := 4) hts2 in_Env (hts2 _ (xn_ML_32 (.instantiable R_Env 4) (by simp)))
  obtain ⟨c4, i4, k4⟩ := u_known (C := R_Let) (T := T_Let) (N := 4) (n := 4) hts2 in_Let (hts2 _ (xn_ML_39 (.instantiable R_Let 4) (by simp)))
  obtain ⟨c5, i5, k5⟩ := u_known (C := R_ML) (T := T_ML) (N := 9) (n := 9) hts2 in_ML (hts2 _ (xn_Law_7 (.instantiable R_ML 9) (by simp)))
  obtain ⟨c6, i6, k6⟩ := u_known (C := R_Mo) (T := T_Mo) (N := 27) (n := 27) hts2 in_Mo (hts2 _ (xn_Law_10 (.instantiable R_Mo 27) (by simp)))
  have hcls : ∀ k : Nat, ∃ p : ClassId × (Nat → Nat), ∀ q : vw_C, vwCl[k]? = some q → u_Kn s q.1 q.2.1 q.2.2 p.1 p.2 := by
    intro k
    match k with
    | 0 => exact ⟨(c0, i0), fun q hq => by cases hq; exact k0⟩
    | 1 => exact ⟨(c1, i1), fun q hq => by cases hq; exact k1⟩
    | 2 => exact ⟨(c2, i2), fun q hq => by cases hq; exact k2⟩
    | 3 => exact ⟨(c3, i3), fun q hq => by cases hq; exact k3⟩
    | 4 => exact ⟨(c4, i4), fun q hq => by cases hq; exact k4⟩
    | 5 => exact ⟨(c5, i5), fun q hq => by cases hq; exact k5⟩
    | 6 => exact ⟨(c6, i6), fun q hq => by cases hq; exact k6⟩
    | k + 7 => exact ⟨(c0, i0), fun q hq => by simp [vwCl] at hq⟩
  obtain ⟨pc, hpc⟩ := Classical.axiomOfChoice hcls
  obtain ⟨a0, g0, f0⟩ := zst_arr (hts2 _ xw_arrB)
  obtain ⟨a3, g3, f3⟩ := zst_arr (hts2 _ xw_arrI)
  obtain ⟨a1, g1, f1⟩ := zst_obj (hts _ zst_w.2.2.2.2.1)
  obtain ⟨a2, g2, f2⟩ := zst_obj (hts _ zst_w.2.2.2.2.2)
  have harr : ∀ k : Nat, ∃ cA : ClassId, ∀ ty : FieldType, mm_tyl[k]? = some ty → ArrOfT s cA ty ∧ va_RA s cA ty := by
    intro k
    match k with
    | 0 => exact ⟨a0, fun q hq => by cases hq; exact ⟨g0, f0⟩⟩
    | 1 => exact ⟨a1, fun q hq => by cases hq; exact ⟨g1, f1⟩⟩
    | 2 => exact ⟨a2, fun q hq => by cases hq; exact ⟨g2, f2⟩⟩
    | 3 => exact ⟨a3, fun q hq => by cases hq; exact ⟨g3, f3⟩⟩
    | k + 4 => exact ⟨a0, fun q hq => by simp [mm_tyl] at hq⟩
  obtain ⟨aC, haC⟩ := Classical.axiomOfChoice harr
  have hstr : ∀ i : Nat, ∃ q : Nat × Nat, i < mm_nS → vk_S 1 [mm_len.getD i 0] [mm_byt.getD i []] (fun _ => q.1) (fun _ => q.2) (fun q => s.heap.size ≤ q) s s.heap ∧ (zstr i).eval #[Value.ref b] s none [] s = some (.ref q.1) := by
    intro i
    by_cases hi : i < mm_nS
    · have hz := zst_flat i hi
      unfold zst_ok at hz
      simp only [Bool.and_eq_true, decide_eq_true_eq] at hz
      obtain ⟨⟨⟨⟨z1, z2⟩, z3⟩, z4⟩, z5⟩ := hz
      have one : ∀ {j : Nat}, j < 1 → j = 0 := fun h => by omega
      obtain ⟨adK, adV, h1, h2⟩ := vk_Sof (args := #[Value.ref b]) (s := s) (N := 1) (tm := fun _ => zstr i) (len := [mm_len.getD i 0]) (byt := [mm_byt.getD i []]) (A := fun q => s.heap.size ≤ q)
        (fun j hj => by rw [one hj]; show mm_len.getD i 0 < 2 ^ 31; rw [zs_len]; have := (zs_ok i hi).1; omega)
        (fun j _ => hfl _ z1) (fun j _ => hfl _ z2) (fun j _ => hfl _ z3)
        (fun j hj => by rw [one hj]; exact hfl _ z4)
        (fun j hj t ht => by
          rw [one hj] at ht ⊢
          have ht2 : t < mm_len.getD i 0 := ht
          have := List.all_eq_true.mp z5 t (List.mem_range.mpr ht2)
          exact hfl _ (of_decide_eq_true this))
        (fun j k hj hk hjk => absurd ((one hj).trans (one hk).symm) hjk) hA
      refine ⟨(adK 0, adV 0), fun _ => ⟨⟨fun j hj => ?_, fun j k hj hk _ => (one hj).trans (one hk).symm⟩, h2 0 (by decide)⟩⟩
      rw [one hj]
      exact h1.1 0 (by decide)
    · exact ⟨(0, 0), fun h => absurd h hi⟩
  obtain ⟨ad, had⟩ := Classical.axiomOfChoice hstr
  refine ⟨(l, (fun k => (pc k).1, fun k => (pc k).2), aC, s.heap.size, fun i => (ad i).1, fun i => (ad i).2), rfl, rfl, ⟨fun c q hq => hpc c q hq, fun k q hq => ?_⟩, fun i hi => (had i hi).1, fun r hr => ?_, fun r hr => ?_, fun r hr => ?_, fun C hC => ?_⟩
  · match k, hq with
    | 0, hq => cases hq; exact haC 0 _ rfl
    | 1, hq => cases hq; exact haC 1 _ rfl
    | 2, hq => cases hq; exact haC 2 _ rfl
    | 3, hq => cases hq; exact haC 3 _ rfl
    | k + 4, hq => simp [mm_tys, mm_tyl] at hq
  · obtain ⟨w1, w2, w3⟩ := zst_tbl r hr
    refine vk_R.of (hts _ w1) ?_
    rw [← w2]
    exact (had _ w3).2
  · rw [show r = ("java/lang/String", "COMPACT_STRINGS", "Z", 1) by simpa [mm_stat] using hr]
    exact va_Zof (hts _ zst_w.1) (hts _ zst_w.2.1) (va_eqi (hfl _ zst_f.1)) hA
  · rw [show r = ("jdk/internal/util/Preconditions", "SIOOBE_FORMATTER", "Ljava/util/function/BiFunction;") by simpa [mm_statq] using hr]
    exact va_Zqof (hts _ zst_w.2.2.1) (hts _ zst_w.2.2.2.1) (hfl _ zst_f.2) hA
  · simp only [mm_aov, List.mem_cons, List.not_mem_nil, or_false] at hC
    rcases hC with rfl | rfl
    · exact va_AO.of (hts _ zst_w.2.2.2.2.1)
    · exact va_AO.of (hts _ zst_w.2.2.2.2.2)
/-! the law's own instructions: its script, its end -/
theorem g_xld {V : mm_V} {X : mm_X} {cc : ByteArray} {nL : Nat} {own : String} {d k n : Nat} {pc : Nat} {lv : List (Nat × Value)} {st : List Value} {mem : mm_M} {nx cells slots : Nat} {b L : Nat} {xs : Nat → Int32} {i : Int32} (hc : mm_Cx V X cc nL own d k n) (hd : decode cc pc = .ok (.iaload, 1)) (hX : va_X b L xs X.2.2.2.1 X.2.2.2.1.heap) (hz : V.2.2.2.1 = X.2.2.2.1.heap.size) (hb : b < X.2.2.2.1.heap.size) (hi : vp_in i L) (kk : mm_G V X nL (pc + 1) lv (.int (xs i.toNatClampNeg) :: st) mem nx cells slots) : mm_G V X nL pc lv (.int i :: .ref b :: st) mem nx cells slots := by
  intro H locs ls h1 h2 h3
  refine va_sld (A := fun q => V.2.2.2.1 ≤ q) hc.1 hc.2.1 hX hb (by show ¬ V.2.2.2.1 ≤ b; omega) ⟨?_, fun q hq _ => h2.1 q (by omega), h2.2⟩ hi hd (kk H locs ls h1 h2 h3)
  have := h1.1
  have := h1.2.1
  omega
theorem g_xlen {V : mm_V} {X : mm_X} {cc : ByteArray} {nL : Nat} {own : String} {d k n : Nat} {pc : Nat} {lv : List (Nat × Value)} {st : List Value} {mem : mm_M} {nx cells slots : Nat} {b L : Nat} {xs : Nat → Int32} (hc : mm_Cx V X cc nL own d k n) (hd : decode cc pc = .ok (.arraylength, 1)) (hX : va_X b L xs X.2.2.2.1 X.2.2.2.1.heap) (hz : V.2.2.2.1 = X.2.2.2.1.heap.size) (hb : b < X.2.2.2.1.heap.size) (kk : mm_G V X nL (pc + 1) lv (.int (nI L) :: st) mem nx cells slots) : mm_G V X nL pc lv (.ref b :: st) mem nx cells slots := by
  intro H locs ls h1 h2 h3
  refine va_slen (A := fun q => V.2.2.2.1 ≤ q) hc.1 hc.2.1 hX hb (by show ¬ V.2.2.2.1 ≤ b; omega) ⟨?_, fun q hq _ => h2.1 q (by omega), h2.2⟩ hd (kk H locs ls h1 h2 h3)
  have := h1.1
  have := h1.2.1
  omega
