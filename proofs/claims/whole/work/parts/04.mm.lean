/-! mm: a walk over a memory that is a function of addresses. A method's contract takes the whole memory and gives the whole memory back. -/
/-- a cell: an array (place of its type in mm_tys, its length and contents), or an object (place of its class in vwCl, its fields) -/
abbrev mm_C : Type := (Nat × vp_A) ⊕ (Nat × List Value)
abbrev mm_M : Type := Nat → Option mm_C
/-- launch; the classes' numbers and slots; the array classes' numbers; where the law's own cells begin; the texts' addresses -/
abbrev mm_V : Type := Launch × va_G × (Nat → ClassId) × Nat × (Nat → Nat) × (Nat → Nat)
def mm_tys (V : mm_V) : List (ClassId × FieldType) := mm_tyl.zipIdx.map (fun q => (V.2.2.1 q.2, q.1))
def mm_at (V : mm_V) (a : Nat) (e : mm_C) (H : Heap) : Prop := match e with
  | .inl x => va_at V.2.1 vwCl (a, .inl (V.2.2.1 x.1, x.2)) H
  | .inr o => va_at V.2.1 vwCl (a, .inr o) H
theorem mm_at.kept {V : mm_V} {a : Nat} {e : mm_C} {H H1 : Heap} (h : mm_at V a e H) (hq : H1[a]? = H[a]?) : mm_at V a e H1 := by
  cases e with
  | inl x => exact va_at.kept (D := V.2.1) (cl := vwCl) (q := (a, .inl (V.2.2.1 x.1, x.2))) h hq
  | inr o => exact va_at.kept (D := V.2.1) (cl := vwCl) (q := (a, .inr o)) h hq
theorem mm_at.lt {V : mm_V} {a : Nat} {e : mm_C} {H : Heap} (h : mm_at V a e H) : a < H.size := by
  cases e with
  | inl x => exact va_at.lt (D := V.2.1) (cl := vwCl) (q := (a, .inl (V.2.2.1 x.1, x.2))) h
  | inr o => exact va_at.lt (D := V.2.1) (cl := vwCl) (q := (a, .inr o)) h
/-- the heap holds the memory, and nx is its next address -/
def mm_R (V : mm_V) (mem : mm_M) (nx : Nat) (H : Heap) : Prop := H.size = nx ∧ V.2.2.2.1 ≤ nx ∧ ∀ (a : Nat) (e : mm_C), mem a = some e → V.2.2.2.1 ≤ a ∧ mm_at V a e H
theorem mm_R.set {V : mm_V} {mem : mm_M} {nx a : Nat} {H H1 : Heap} {e0 e : mm_C} (h : mm_R V mem nx H) (h0 : mem a = some e0) (z : H1.size = H.size) (oq : ∀ q : Nat, q ≠ a → H1[q]? = H[q]?) (he : mm_at V a e H1) : mm_R V (va_up mem a (some e)) nx H1 := by
  refine ⟨z.trans h.1, h.2.1, fun b x hb => ?_⟩
  by_cases hba : b = a
  · subst hba
    rw [va_up_self] at hb
    cases hb
    exact ⟨(h.2.2 b e0 h0).1, he⟩
  · rw [va_up_ne _ _ hba] at hb
    exact ⟨(h.2.2 b x hb).1, (h.2.2 b x hb).2.kept (oq b hba)⟩
theorem mm_R.push {V : mm_V} {mem : mm_M} {nx : Nat} {H H1 : Heap} {e : mm_C} (h : mm_R V mem nx H) (z : H1.size = nx + 1) (oq : ∀ q : Nat, q < nx → H1[q]? = H[q]?) (he : mm_at V nx e H1) : mm_R V (va_up mem nx (some e)) (nx + 1) H1 := by
  refine ⟨z, Nat.le_succ_of_le h.2.1, fun b x hb => ?_⟩
  by_cases hba : b = nx
  · subst hba
    rw [va_up_self] at hb
    cases hb
    exact ⟨h.2.1, he⟩
  · rw [va_up_ne _ _ hba] at hb
    have h1 := h.2.2 b x hb
    have h2 := h1.2.lt
    rw [h.1] at h2
    exact ⟨h1.1, h1.2.kept (oq b h2)⟩
/-- what was there before the law began is as it was -/
def mm_Kp (V : mm_V) (s : State) (H : Heap) (locs : List Loc) : Prop := (∀ q : Nat, q < V.2.2.2.1 → H[q]? = s.heap[q]?) ∧ ∀ x ∈ locs, V.2.2.2.1 ≤ x.base
theorem mm_Kp.put {V : mm_V} {s : State} {H H1 : Heap} {locs : List Loc} {a i : Nat} (h : mm_Kp V s H locs) (ha : V.2.2.2.1 ≤ a) (oq : ∀ q : Nat, q ≠ a → H1[q]? = H[q]?) : mm_Kp V s H1 (locs ++ [⟨a, i⟩]) := by
  refine ⟨fun q hq => (oq q (by omega)).trans (h.1 q hq), fun x hx => ?_⟩
  rcases List.mem_append.mp hx with h1 | h1
  · exact h.2 x h1
  · rw [List.mem_singleton.mp h1]
    exact ha
/-- what stays the same all through: the classes, the array classes, the texts -/
def mm_E (V : mm_V) (U : State) : Prop := va_K V.2.1 vwCl (mm_tys V) U ∧ (∀ i : Nat, i < mm_nS → vk_S 1 [mm_len.getD i 0] [mm_byt.getD i []] (fun _ => V.2.2.2.2.1 i) (fun _ => V.2.2.2.2.2 i) (fun q => V.2.2.2.1 ≤ q) U U.heap) ∧ (∀ r ∈ mm_strs, vk_R r.1 r.2.1 r.2.2.1 (V.2.2.2.2.1 r.2.2.2) U) ∧ (∀ r ∈ mm_stat, va_Z r.1 r.2.1 r.2.2.1 (.int r.2.2.2) (fun q => V.2.2.2.1 ≤ q) U U.heap) ∧ (∀ r ∈ mm_statq, va_Zq r.1 r.2.1 r.2.2 (fun q => V.2.2.2.1 ≤ q) U U.heap) ∧ ∀ C ∈ mm_aov, va_AO C U
theorem mm_E.to {V : mm_V} {s U : State} (h : mm_E V s) (hW : s.WarmedH U.vm) (hq : ∀ q : Nat, q < V.2.2.2.1 → U.heap[q]? = s.heap[q]?) : mm_E V U :=
  ⟨va_K.moved hW.alike h.1, fun i hi => (vk_S.moved hW.alike (h.2.1 i hi)).kept (fun a _ hn => hq a (Nat.lt_of_not_le hn)), fun r hr => vk_R.warm hW (h.2.2.1 r hr), fun r hr => ((h.2.2.2.1 r hr).moved hW.alike).kept (fun a _ hn => hq a (Nat.lt_of_not_le hn)), fun r hr => ((h.2.2.2.2.1 r hr).moved hW.alike).kept (fun a _ hn => hq a (Nat.lt_of_not_le hn)), fun C hC => (h.2.2.2.2.2 C hC).moved hW.alike⟩
theorem mm_E.same {V : mm_V} {u U : State} (hv : U.vm = u.vm) (hh : U.heap = u.heap) (h : mm_E V u) : mm_E V U := by
  have ha : u.vm.Alike U.vm := by rw [hv]; exact Vm.Alike.refl _
  refine ⟨va_K.moved ha h.1, ?_, fun r hr => vk_R.same hv (h.2.2.1 r hr), fun r hr => ?_, fun r hr => ?_, fun C hC => (h.2.2.2.2.2 C hC).moved ha⟩
  · intro i hi
    rw [hh]
    exact vk_S.moved ha (h.2.1 i hi)
  · rw [hh]
    exact (h.2.2.2.1 r hr).moved ha
  · rw [hh]
    exact (h.2.2.2.2.1 r hr).moved ha
/-- a contract's end -/
def mm_Q (V : mm_V) (P : Option Value → mm_M → Nat → Prop) : Array Value → State → Outcome → State → Prop := fun _ st o t => ∃ (r : Option Value) (mem : mm_M) (nx : Nat), o = .returned r ∧ P r mem nx ∧ mm_R V mem nx t.heap ∧ ∀ q : Nat, q < V.2.2.2.1 → t.heap[q]? = st.heap[q]?
def mm_rm (d k n : Nat) : Room := { frames := d, cells := k, slots := n, locals := d * 40 }
def mm_Pc (V : mm_V) (av : List Value) (mem : mm_M) (nx : Nat) : Array Value → State → Prop := va_Pc av (fun U => mm_E V U ∧ mm_R V mem nx U.heap)
/-- A CONTRACT: the method y, called with av in the memory mem, at most d frames deep, with at most k new cells of n slots, returns, and P holds of its answer and of the memory behind it -/
def mm_S (V : mm_V) (y : MethodName) (cc : ByteArray) (nL : Nat) (ret : Option FieldType) (d k n : Nat) (av : List Value) (mem : mm_M) (nx : Nat) (P : Option Value → mm_M → Nat → Prop) : Prop :=
  Met V.1 y (Cond.code y cc nL ret :: mm_TB) (mm_rm d k n) (mm_Pc V av mem nx) (mm_Q V P) k n (fun q => V.2.2.2.1 ≤ q)
theorem mm_blind (V : mm_V) (av : List Value) (mem : mm_M) (nx : Nat) : FrameBlind (mm_Pc V av mem nx) := by
  intro a U g mk h
  exact ⟨h.1, mm_E.same (u := U) rfl rfl h.2.1, h.2.2⟩
/-- the machine that a walk runs on: program, environment, room, start, method, arguments, frames below, the method's record and code, the end -/
abbrev mm_X : Type := Program × Env × Room × State × MethodId × Array Value × List Frame × Method × Code × (State → Prop)
/-- what a walk may use of it -/
def mm_Cx (V : mm_V) (X : mm_X) (cc : ByteArray) (nL : Nat) (own : String) (d k n : Nat) : Prop :=
  X.1.tables.exec = Jvm.exec ∧ X.2.2.2.2.2.2.2.2.1.code = cc ∧ X.2.2.2.2.2.2.2.2.1.maxLocals = nL ∧ X.2.2.2.1.vm.findClass own = some X.2.2.2.2.1.cls ∧ (∀ w ∈ mm_TB, w.before X.2.2.2.2.2.1 X.2.2.2.1 = true) ∧ mm_E V X.2.2.2.1 ∧ (d ≤ X.2.2.1.frames ∧ d * 40 ≤ X.2.2.1.locals ∧ k ≤ X.2.2.1.cells ∧ n ≤ X.2.2.1.slots)
/-- what a walk's end is -/
def mm_En (V : mm_V) (X : mm_X) (ret : Option FieldType) (k n : Nat) (P : Option Value → mm_M → Nat → Prop) : Prop :=
  X.2.2.2.2.2.2.2.2.2 = MQ X.2.2.2.2.2.2.1 (mm_Q V P) X.2.2.2.2.2.1 X.2.2.2.1 k n (fun q => V.2.2.2.1 ≤ q) ∧ X.2.2.2.2.2.2.2.1.sig.returnType = ret ∧ X.2.2.2.2.2.2.2.1.locks = false
/-- THE WALK: at pc, with the locals lv, the stack st and the memory mem, the machine comes to its end -/
def mm_G (V : mm_V) (X : mm_X) (nL : Nat) (pc : Nat) (lv : List (Nat × Value)) (st : List Value) (mem : mm_M) (nx cells slots : Nat) : Prop :=
  ∀ (H : Heap) (locs : List Loc) (ls : Array Slot), mm_R V mem nx H → mm_Kp V X.2.2.2.1 H locs → lv_has ls nL lv →
    W X.1 V.1 X.2.1 X.2.2.1 X.2.2.2.1 X.2.2.2.2.1 X.2.2.2.2.2.1 X.2.2.2.2.2.2.1 X.2.2.2.2.2.2.2.1 X.2.2.2.2.2.2.2.2.1 H locs cells slots X.2.2.2.2.2.2.2.2.2 (F0 X.2.2.2.2.1 pc ls st)
theorem mm_met {V : mm_V} {y : MethodName} {cc : ByteArray} {nL : Nat} {ret : Option FieldType} {d k n : Nat} {av : List Value} {mem : mm_M} {nx : Nat} {P : Option Value → mm_M → Nat → Prop} (hy : plainName y.cls = true) (hlen : (lg_sl av).length ≤ nL)
    (body : ∀ X : mm_X, mm_Cx V X cc nL y.cls d k n → mm_En V X ret k n P → X.2.2.2.2.2.2.2.1.name = y.name → mm_G V X nL 0 (lv_args 0 av) [] mem nx 0 0) : mm_S V y cc nL ret d k n av mem nx P := by
  refine Met.ofW (cc := cc) (maxL := nL) (ret := ret) hy rfl ?_
  intro p e s m args below meth c s₁ B hml hv
  obtain ⟨rfl, hE, hR⟩ := hv
  have hts := atoms_spec (ws := Cond.code y cc nL ret :: mm_TB) B.pre
  have hown : s.vm.findClass y.cls = some m.cls := findClass_of_methodNamed B.named
  have hnm : meth.name = y.name := (name_of_methodNamed B.named B.method).1
  have hl := lv_entry av (n := nL) hlen
  rw [lg_entry_eq]
  exact body (p, e, mm_rm d k n, s, m, av.toArray, below, meth, c, MQ below (mm_Q V P) av.toArray s k n (fun q => V.2.2.2.1 ≤ q))
    ⟨B.exec, B.bytes, hml, hown, fun w hw => hts w (List.mem_cons_of_mem _ hw), hE, Nat.le_refl _, Nat.le_refl _, Nat.le_refl _, Nat.le_refl _⟩ ⟨rfl, B.returns, B.notSynchronized⟩ hnm s.heap [] _ hR ⟨fun _ _ => rfl, fun _ h => by cases h⟩ hl
theorem mm_lk_mem {lv : List (Nat × Value)} {i : Nat} {v : Value} (h : lv.lookup i = some v) : (i, v) ∈ lv := by
  induction lv with
  | nil => cases h
  | cons q l ih =>
    obtain ⟨j, w⟩ := q
    rw [List.lookup_cons] at h
    by_cases hij : i = j
    · subst hij
      simp at h
      subst h
      exact List.mem_cons_self
    · have : (i == j) = false := by simpa using hij
      rw [this] at h
      exact List.mem_cons_of_mem _ (ih h)
theorem mm_lk {ls : Array Slot} {nL : Nat} {lv : List (Nat × Value)} {i : Nat} {v : Value} (h : lv_has ls nL lv) (hl : lv.lookup i = some v) : ls[i]? = some (.val v) := h.2.2 (i, v) (mm_lk_mem hl)
theorem mm_lk_at {lv : List (Nat × Value)} {i : Nat} {v : Value} (h : lv.lookup i = some v) : ∃ j : Nat, lv[j]? = some (i, v) := List.getElem?_of_mem (mm_lk_mem h)
/-- fewer locals: each is looked up -/
def mm_sub : List (Nat × Value) → List (Nat × Value) → Prop
  | [], _ => True
  | q :: l, lv => lv.lookup q.1 = some q.2 ∧ mm_sub l lv
theorem mm_sub.has {ls : Array Slot} {nL : Nat} {lv : List (Nat × Value)} (h : lv_has ls nL lv) : ∀ {l : List (Nat × Value)}, mm_sub l lv → lv_has ls nL l
  | [], _ => ⟨h.1, h.2.1, fun q hq => by cases hq⟩
  | q :: l, hs => ⟨h.1, h.2.1, fun x hx => by
      rcases List.mem_cons.mp hx with h1 | h1
      · subst h1
        exact mm_lk h hs.1
      · exact (mm_sub.has h hs.2).2.2 x h1⟩
section MM
variable {V : mm_V} {X : mm_X} {cc : ByteArray} {nL : Nat} {own : String} {d k n : Nat} {pc : Nat} {lv : List (Nat × Value)} {st : List Value} {mem : mm_M} {nx cells slots : Nat}
theorem g_lv {lv' : List (Nat × Value)} (h : mm_sub lv' lv) (kk : mm_G V X nL pc lv' st mem nx cells slots) : mm_G V X nL pc lv st mem nx cells slots :=
  fun H locs ls h1 h2 h3 => kk H locs ls h1 h2 (mm_sub.has h3 h)
theorem g_wide {c2 s2 : Nat} (e1 : cells ≤ c2) (e2 : slots ≤ s2) (kk : mm_G V X nL pc lv st mem nx c2 s2) : mm_G V X nL pc lv st mem nx cells slots :=
  fun H locs ls h1 h2 h3 => W.widen e1 e2 (kk H locs ls h1 h2 h3)
-- answers
theorem g_iret {v : Int32} {P : Option Value → mm_M → Nat → Prop} (hc : mm_Cx V X cc nL own d k n) (he : mm_En V X (some .int) k n P) (hd : decode cc pc = .ok (.ireturn, 1)) (hk : cells ≤ k) (hn : slots ≤ n) (hp : P (some (.int v)) mem nx) : mm_G V X nL pc lv [.int v] mem nx cells slots := by
  intro H locs ls h1 h2 h3
  rw [he.1]
  refine W.widen hk hn ?_
  exact W.iret hc.1 hc.2.1 he.2.1 (fun t ht _ => ⟨_, mem, nx, rfl, hp, by rw [ht]; exact h1, fun q hq => by rw [ht]; exact h2.1 q hq⟩) h2.2 hd he.2.2
theorem g_zret {v : Int32} {ty : FieldType} {P : Option Value → mm_M → Nat → Prop} (hc : mm_Cx V X cc nL own d k n) (he : mm_En V X (some ty) k n P) (hd : decode cc pc = .ok (.ireturn, 1)) (hv : narrow ty (.int v) = .int v) (hk : cells ≤ k) (hn : slots ≤ n) (hp : P (some (.int v)) mem nx) : mm_G V X nL pc lv [.int v] mem nx cells slots := by
  intro H locs ls h1 h2 h3
  rw [he.1]
  refine W.widen hk hn ?_
  exact W.zret hc.1 hc.2.1 he.2.1 hv (fun t ht _ => ⟨_, mem, nx, rfl, hp, by rw [ht]; exact h1, fun q hq => by rw [ht]; exact h2.1 q hq⟩) h2.2 hd he.2.2
theorem g_lret {v : Int64} {P : Option Value → mm_M → Nat → Prop} (hc : mm_Cx V X cc nL own d k n) (he : mm_En V X (some .long) k n P) (hd : decode cc pc = .ok (.lreturn, 1)) (hk : cells ≤ k) (hn : slots ≤ n) (hp : P (some (.long v)) mem nx) : mm_G V X nL pc lv [.long v] mem nx cells slots := by
  intro H locs ls h1 h2 h3
  rw [he.1]
  refine W.widen hk hn ?_
  exact W.lret hc.1 hc.2.1 he.2.1 (fun t ht _ => ⟨_, mem, nx, rfl, hp, by rw [ht]; exact h1, fun q hq => by rw [ht]; exact h2.1 q hq⟩) h2.2 hd he.2.2
theorem g_vret {P : Option Value → mm_M → Nat → Prop} (hc : mm_Cx V X cc nL own d k n) (he : mm_En V X none k n P) (hd : decode cc pc = .ok (.return_, 1)) (hk : cells ≤ k) (hn : slots ≤ n) (hp : P none mem nx) : mm_G V X nL pc lv [] mem nx cells slots := by
  intro H locs ls h1 h2 h3
  rw [he.1]
  refine W.widen hk hn ?_
  exact W.vret hc.1 hc.2.1 he.2.1 (fun t ht _ => ⟨_, mem, nx, rfl, hp, by rw [ht]; exact h1, fun q hq => by rw [ht]; exact h2.1 q hq⟩) h2.2 hd he.2.2
theorem g_aret {v : Value} {C : String} {P : Option Value → mm_M → Nat → Prop} (hc : mm_Cx V X cc nL own d k n) (he : mm_En V X (some (.object C)) k n P) (hd : decode cc pc = .ok (.areturn, 1)) (hv : v = .null ∨ ∃ a, v = .ref a) (hk : cells ≤ k) (hn : slots ≤ n) (hp : P (some v) mem nx) : mm_G V X nL pc lv [v] mem nx cells slots := by
  intro H locs ls h1 h2 h3
  rw [he.1]
  refine W.widen hk hn ?_
  exact W.aret hc.1 hc.2.1 he.2.1 (Or.inl ⟨C, rfl⟩) hv (fun t ht _ => ⟨_, mem, nx, rfl, hp, by rw [ht]; exact h1, fun q hq => by rw [ht]; exact h2.1 q hq⟩) h2.2 hd he.2.2
-- fields
/-- the field link idx of class own is field kf of class ci -/
def mm_F (own : String) (idx ci kf : Nat) (C : String) (T : u_T) (N : Nat) : Prop := vwCl[ci]? = some (C, T, N) ∧ kf < N ∧ (∀ w ∈ u_ws C T N, w ∈ mm_TB) ∧ Cond.fieldLink own idx (T kf).1 (T kf).2.1 (T kf).2.2.1 ∈ mm_TB
theorem g_get {idx ci kf a N : Nat} {C : String} {T : u_T} {fs : List Value} {v : Value} (hc : mm_Cx V X cc nL own d k n) (hd : decode cc pc = .ok (.getfield idx, 3)) (hf : mm_F own idx ci kf C T N) (hm : mem a = some (.inr (ci, fs))) (hv : fs[kf]? = some v) (kk : mm_G V X nL (pc + 3) lv (v :: st) mem nx cells slots) : mm_G V X nL pc lv (.ref a :: st) mem nx cells slots := by
  intro H locs ls h1 h2 h3
  have hP : va_P V.2.1 vwCl [(a, .inr (ci, fs))] H := by
    intro j q hq
    cases j with
    | zero => cases hq; exact (h1.2.2 a _ hm).2
    | succ j => simp at hq
  exact va_get hc.1 hc.2.1 hc.2.2.2.2.1 hf.2.2.1 hc.2.2.2.1 hc.2.2.2.2.2.1.1 hP 0 rfl hf.1 kf hf.2.1 (hc.2.2.2.2.1 _ hf.2.2.2) (fun _ h => h) hv hd (kk H locs ls h1 h2 h3)
/-- the types of a class's fields -/
def mm_FT (T : u_T) (N : Nat) (ty : Nat → FieldType) : Prop := (∀ k, k < N → parseFieldDescriptor (T k).2.2.1 = some (ty k)) ∧ ∀ a, a < N → ∀ b, b < N → a ≠ b → (T a).2.1 ≠ (T b).2.1
theorem g_put {idx ci kf a N : Nat} {C : String} {T : u_T} {ty : Nat → FieldType} {fs : List Value} {v : Value} (hc : mm_Cx V X cc nL own d k n) (hd : decode cc pc = .ok (.putfield idx, 3)) (hf : mm_F own idx ci kf C T N) (ht : mm_FT T N ty) (hfin : (T kf).2.2.2 = false) (hm : mem a = some (.inr (ci, fs))) (hv : narrow (ty kf) v = v) (hfit : fits (ty kf) v = true) (hl : kf < fs.length) (kk : ∀ mem' : mm_M, mem' a = some (.inr (ci, fs.set kf v)) → (∀ b : Nat, b ≠ a → mem' b = mem b) → mm_G V X nL (pc + 3) lv st mem' nx cells slots) : mm_G V X nL pc lv (v :: .ref a :: st) mem nx cells slots := by
  intro H locs ls h1 h2 h3
  have hts := hc.2.2.2.2.1
  have hK := hc.2.2.2.2.2.1.1
  have hap := va_apart (own := own) hts hf.2.2.1 ty ht.1 ht.2 hK hf.1
  obtain ⟨hz, hat⟩ := h1.2.2 a _ hm
  obtain ⟨r, e1, cell, q1, q2, q3, q4⟩ := hat
  have hr : r = (C, T, N) := Option.some.inj (e1.symm.trans hf.1)
  subst hr
  obtain ⟨hS, hfc, kC, hkC, hkind⟩ := hK.1 ci _ hf.1
  obtain ⟨cf, kF, fi, f, hi, hsl⟩ := hS kf hf.2.1
  have hlay := hts _ (hf.2.2.1 _ (u_in_lay hf.2.1))
  unfold u_lay at hlay
  rw [if_neg (by rw [hfin]; decide)] at hlay
  have hst := (u_facts hfc hkC (u_lays hts hf.2.2.1 hf.2.1) hi).1
  have h6 := u_store hfc hkC hkind hlay hi (ht.1 kf hf.2.1) hv hfit
  refine W.putK hc.1 hc.2.1 (f := f) ⟨hc.2.2.2.1, hts _ hf.2.2.2, ⟨_, _, _, hi⟩, hst⟩ (by rw [q2]; exact h6) q1 q3 (by rw [hsl]; exact k2_hasslot (q4 kf hf.2.1)) rfl rfl hd fun H' g1 g2 g3 => ?_
  rw [hsl] at g1 ⊢
  exact kk _ (va_up_self _ _ _) (fun _ hb => va_up_ne _ _ hb) H' _ ls (h1.set hm g2 g3 (show va_at V.2.1 vwCl (a, .inr (ci, fs.set kf v)) H' from ⟨_, hf.1, t_OB.to (V := updV (vp_V fs) kf v) ⟨_, g1, q2, q3, t_set q4 hap hf.2.1 v⟩ (fun j _ => vp_updV_set hl v j)⟩)) (h2.put hz g3) h3
theorem g_putF {idx ci kf a N : Nat} {C : String} {T : u_T} {ty : Nat → FieldType} {fs : List Value} {v : Value} (hc : mm_Cx V X cc nL own d k n) (hd : decode cc pc = .ok (.putfield idx, 3)) (hin : X.2.2.2.2.2.2.2.1.name = "<init>") (hf : mm_F own idx ci kf C T N) (ht : mm_FT T N ty) (hfin : (T kf).2.2.2 = true) (hdecl : (T kf).1 = own) (hm : mem a = some (.inr (ci, fs))) (hv : narrow (ty kf) v = v) (hfit : fits (ty kf) v = true) (hl : kf < fs.length) (kk : ∀ mem' : mm_M, mem' a = some (.inr (ci, fs.set kf v)) → (∀ b : Nat, b ≠ a → mem' b = mem b) → mm_G V X nL (pc + 3) lv st mem' nx cells slots) : mm_G V X nL pc lv (v :: .ref a :: st) mem nx cells slots := by
  intro H locs ls h1 h2 h3
  have hts := hc.2.2.2.2.1
  have hK := hc.2.2.2.2.2.1.1
  have hown := hc.2.2.2.1
  have hap := va_apart (own := own) hts hf.2.2.1 ty ht.1 ht.2 hK hf.1
  obtain ⟨hz, hat⟩ := h1.2.2 a _ hm
  obtain ⟨r, e1, cell, q1, q2, q3, q4⟩ := hat
  have hr : r = (C, T, N) := Option.some.inj (e1.symm.trans hf.1)
  subst hr
  obtain ⟨hS, hfc, kC, hkC, hkind⟩ := hK.1 ci _ hf.1
  obtain ⟨cf, kF, fi, f, hi, hsl⟩ := hS kf hf.2.1
  have hlay := hts _ (hf.2.2.1 _ (u_in_lay hf.2.1))
  unfold u_lay at hlay
  rw [if_pos hfin] at hlay
  have hst := (u_facts hfc hkC (u_lays hts hf.2.2.1 hf.2.1) hi).1
  have hcf : X.2.2.2.2.1.cls = cf := by
    obtain ⟨_, _, c', _, _, _, -, -, hf', -, -, -, hown2, -⟩ := Cond.laysFinal_spec hlay
    have e1 : c' = cf := by have := hi.symm.trans hf'; simp at this; exact this.1.symm
    rw [hdecl] at hown2
    rw [← e1]; exact Option.some.inj (hown.symm.trans hown2)
  have h6 := u_fits hfc hkC hkind (Or.inr hlay) hi (ht.1 kf hf.2.1) hv hfit
  refine W.putFinK hc.1 hc.2.1 hown (hts _ hf.2.2.2) hi hst hcf hin (by rw [q2]; exact h6) q1 q3 (by rw [hsl]; exact k2_hasslot (q4 kf hf.2.1)) rfl rfl hd fun H' g1 g2 g3 => ?_
  rw [hsl] at g1 ⊢
  exact kk _ (va_up_self _ _ _) (fun _ hb => va_up_ne _ _ hb) H' _ ls (h1.set hm g2 g3 (show va_at V.2.1 vwCl (a, .inr (ci, fs.set kf v)) H' from ⟨_, hf.1, t_OB.to (V := updV (vp_V fs) kf v) ⟨_, g1, q2, q3, t_set q4 hap hf.2.1 v⟩ (fun j _ => vp_updV_set hl v j)⟩)) (h2.put hz g3) h3
-- arrays
theorem g_alen {a t : Nat} {x : vp_A} {ty : FieldType} {v : Int32} (hc : mm_Cx V X cc nL own d k n) (hd : decode cc pc = .ok (.arraylength, 1)) (ht : (mm_tys V)[t]? = some (V.2.2.1 t, ty)) (hm : mem a = some (.inl (t, x))) (hv : Int32.ofNat x.1 = v) (kk : mm_G V X nL (pc + 1) lv (.int v :: st) mem nx cells slots) : mm_G V X nL pc lv (.ref a :: st) mem nx cells slots := by
  intro H locs ls h1 h2 h3
  have hP : va_P V.2.1 vwCl [(a, .inl (V.2.2.1 t, x))] H := by
    intro j q hq
    cases j with
    | zero => cases hq; exact (h1.2.2 a _ hm).2
    | succ j => simp at hq
  exact va_alen hc.1 hc.2.1 hc.2.2.2.2.2.1.1 hP 0 t rfl ht hv hd (kk H locs ls h1 h2 h3)
theorem g_bald {a t N : Nat} {f : Nat → Int32} {i : Int32} (hc : mm_Cx V X cc nL own d k n) (hd : decode cc pc = .ok (.baload, 1)) (ht : (mm_tys V)[t]? = some (V.2.2.1 t, .byte)) (hm : mem a = some (.inl (t, N, .inl f))) (hi : vp_in i N) (kk : mm_G V X nL (pc + 1) lv (.int (f i.toNatClampNeg) :: st) mem nx cells slots) : mm_G V X nL pc lv (.int i :: .ref a :: st) mem nx cells slots := by
  intro H locs ls h1 h2 h3
  have hP : va_P V.2.1 vwCl [(a, .inl (V.2.2.1 t, N, .inl f))] H := by
    intro j q hq
    cases j with
    | zero => cases hq; exact (h1.2.2 a _ hm).2
    | succ j => simp at hq
  exact va_bald hc.1 hc.2.1 hc.2.2.2.2.2.1.1 hP 0 t rfl ht hi hd (kk H locs ls h1 h2 h3)
theorem g_iald {a t N : Nat} {f : Nat → Int32} {i : Int32} (hc : mm_Cx V X cc nL own d k n) (hd : decode cc pc = .ok (.iaload, 1)) (ht : (mm_tys V)[t]? = some (V.2.2.1 t, .int)) (hm : mem a = some (.inl (t, N, .inl f))) (hi : vp_in i N) (kk : mm_G V X nL (pc + 1) lv (.int (f i.toNatClampNeg) :: st) mem nx cells slots) : mm_G V X nL pc lv (.int i :: .ref a :: st) mem nx cells slots := by
  intro H locs ls h1 h2 h3
  have hP : va_P V.2.1 vwCl [(a, .inl (V.2.2.1 t, N, .inl f))] H := by
    intro j q hq
    cases j with
    | zero => cases hq; exact (h1.2.2 a _ hm).2
    | succ j => simp at hq
  exact va_iald hc.1 hc.2.1 hc.2.2.2.2.2.1.1 hP 0 t rfl ht hi hd (kk H locs ls h1 h2 h3)
theorem g_aald {a t N : Nat} {C : String} {f : Nat → Option Nat} {i : Int32} (hc : mm_Cx V X cc nL own d k n) (hd : decode cc pc = .ok (.aaload, 1)) (ht : (mm_tys V)[t]? = some (V.2.2.1 t, .object C)) (hm : mem a = some (.inl (t, N, .inr (.inr (.inr (.inr f)))))) (hi : vp_in i N) (kk : mm_G V X nL (pc + 1) lv (va_rf (f i.toNatClampNeg) :: st) mem nx cells slots) : mm_G V X nL pc lv (.int i :: .ref a :: st) mem nx cells slots := by
  intro H locs ls h1 h2 h3
  have hP : va_P V.2.1 vwCl [(a, .inl (V.2.2.1 t, N, .inr (.inr (.inr (.inr f)))))] H := by
    intro j q hq
    cases j with
    | zero => cases hq; exact (h1.2.2 a _ hm).2
    | succ j => simp at hq
  exact va_aldq hc.1 hc.2.1 hc.2.2.2.2.2.1.1 hP 0 t rfl ht hi hd (kk H locs ls h1 h2 h3)
theorem g_bast {a t N : Nat} {f : Nat → Int32} {i x : Int32} (hc : mm_Cx V X cc nL own d k n) (hd : decode cc pc = .ok (.bastore, 1)) (ht : (mm_tys V)[t]? = some (V.2.2.1 t, .byte)) (hm : mem a = some (.inl (t, N, .inl f))) (hi : vp_in i N) (kk : ∀ mem' : mm_M, mem' a = some (.inl (t, N, .inl (upd f i.toNatClampNeg x.toInt8.toInt32))) → (∀ b : Nat, b ≠ a → mem' b = mem b) → mm_G V X nL (pc + 1) lv st mem' nx cells slots) : mm_G V X nL pc lv (.int x :: .int i :: .ref a :: st) mem nx cells slots := by
  intro H locs ls h1 h2 h3
  obtain ⟨hz, hat⟩ := h1.2.2 a _ hm
  refine W.bast hc.1 hc.2.1 hat ((hc.2.2.2.2.2.1.1.2 t _ ht).1 N (fun j => .int (f j))) (fun q => by cases q) (by show ¬ (i < 0 ∨ (arrV _ _ _).slots.size ≤ _); rw [arrV_size]; exact hi) rfl rfl hd fun H1 e z oq => ?_
  refine kk _ (va_up_self _ _ _) (fun _ hb => va_up_ne _ _ hb) H1 _ ls (h1.set hm z oq ?_) (h2.put hz oq) h3
  show H1[a]? = some (vp_cell _ _)
  rw [e]
  rw [vp_cell_i, vp_cell_i, arrV_store]
  congr 2
  funext q
  by_cases hq : q = i.toNatClampNeg
  · subst hq
    simp [updV, upd]
    try rfl
  · simp [updV, upd, hq]
theorem g_iast {a t N : Nat} {f : Nat → Int32} {i x : Int32} (hc : mm_Cx V X cc nL own d k n) (hd : decode cc pc = .ok (.iastore, 1)) (ht : (mm_tys V)[t]? = some (V.2.2.1 t, .int)) (hm : mem a = some (.inl (t, N, .inl f))) (hi : vp_in i N) (kk : ∀ mem' : mm_M, mem' a = some (.inl (t, N, .inl (upd f i.toNatClampNeg x))) → (∀ b : Nat, b ≠ a → mem' b = mem b) → mm_G V X nL (pc + 1) lv st mem' nx cells slots) : mm_G V X nL pc lv (.int x :: .int i :: .ref a :: st) mem nx cells slots := by
  intro H locs ls h1 h2 h3
  obtain ⟨hz, hat⟩ := h1.2.2 a _ hm
  refine W.iast hc.1 hc.2.1 hat ((hc.2.2.2.2.2.1.1.2 t _ ht).1 N (fun j => .int (f j))) (fun q => by cases q) (by show ¬ (i < 0 ∨ (arrV _ _ _).slots.size ≤ _); rw [arrV_size]; exact hi) rfl rfl hd fun H1 e z oq => ?_
  refine kk _ (va_up_self _ _ _) (fun _ hb => va_up_ne _ _ hb) H1 _ ls (h1.set hm z oq ?_) (h2.put hz oq) h3
  show H1[a]? = some (vp_cell _ _)
  rw [e]
  rw [vp_cell_i, vp_cell_i, arrV_store]
  congr 2
  funext q
  by_cases hq : q = i.toNatClampNeg
  · subst hq
    simp [updV, upd]
  · simp [updV, upd, hq]
theorem g_aast {a t N v ci : Nat} {C : String} {T : u_T} {M : Nat} {vs : List Value} {f : Nat → Option Nat} {i : Int32} (hc : mm_Cx V X cc nL own d k n) (hd : decode cc pc = .ok (.aastore, 1)) (ht : (mm_tys V)[t]? = some (V.2.2.1 t, .object C)) (hcl : vwCl[ci]? = some (C, T, M)) (hm : mem a = some (.inl (t, N, .inr (.inr (.inr (.inr f)))))) (hv : mem v = some (.inr (ci, vs))) (hi : vp_in i N) (kk : ∀ mem' : mm_M, mem' a = some (.inl (t, N, .inr (.inr (.inr (.inr (va_up f i.toNatClampNeg (some v))))))) → (∀ b : Nat, b ≠ a → mem' b = mem b) → mm_G V X nL (pc + 1) lv st mem' nx cells slots) : mm_G V X nL pc lv (.ref v :: .int i :: .ref a :: st) mem nx cells slots := by
  intro H locs ls h1 h2 h3
  obtain ⟨hz, hat⟩ := h1.2.2 a _ hm
  obtain ⟨r', hr', cellV, g1, g2, g3, -⟩ := (h1.2.2 v _ hv).2
  have hlt : i.toNatClampNeg < N := Nat.not_le.mp fun q => hi (Or.inr q)
  have h0 : ¬ i < 0 := fun q => hi (Or.inl q)
  have hK := hc.2.2.2.2.2.1.1
  have hcls := (hK.1 ci _ hcl).2
  obtain ⟨kA, comp, k1, k2, k3, -⟩ := (hK.2 t _ ht).2
  have hcomp : comp = V.2.1.1 ci := Option.some.inj (k3.symm.trans hcls.1)
  subst hcomp
  obtain ⟨kC, hkC, hkk⟩ := hcls.2
  refine W.aast hc.1 hc.2.1 hat (fun q h => by cases h) (fun h => by cases h) k1 k2 rfl hkC ⟨h0, by show _ < (arrV _ _ _).slots.size; rw [arrV_size]; exact hlt⟩ g1 (fun q h => by rw [g3] at h; cases h) (by rw [g2]; exact hkC) (by rw [g2]; exact va_assign hcls) rfl rfl hd fun H1 e z oq => ?_
  refine kk _ (va_up_self _ _ _) (fun _ hb => va_up_ne _ _ hb) H1 _ ls (h1.set hm z oq ?_) (h2.put hz oq) h3
  show H1[a]? = some (vp_cell _ _)
  rw [e]
  rw [vp_cell_q, vp_cell_q, arrV_store]
  congr 2
  funext q
  by_cases hq : q = i.toNatClampNeg
  · subst hq
    simp [updV, va_up, va_rf]
  · simp [updV, va_up, hq]
-- new cells
theorem g_new {idx ci N : Nat} {C : String} {T : u_T} {ty : Nat → FieldType} {fs : List Value} (hc : mm_Cx V X cc nL own d k n) (hd : decode cc pc = .ok (.new idx, 3)) (hcl : vwCl[ci]? = some (C, T, N)) (hin : ∀ w ∈ u_ws C T N, w ∈ mm_TB) (hw : ∀ w ∈ ([.classLink own idx C, .instantiable C N, .initialized C] : List Cond), w ∈ mm_TB) (ht : mm_FT T N ty) (hfs : ∀ j, j < N → defaultValue (ty j) = vp_V fs j) (hk : cells + 1 ≤ k) (hn : slots + N ≤ n) (kk : ∀ mem' : mm_M, mem' nx = some (.inr (ci, fs)) → (∀ b : Nat, b ≠ nx → mem' b = mem b) → mm_G V X nL (pc + 3) lv (.ref nx :: st) mem' (nx + 1) (cells + 1) (slots + N)) : mm_G V X nL pc lv st mem nx cells slots := by
  intro H locs ls h1 h2 h3
  have hts := hc.2.2.2.2.1
  have hKn := hc.2.2.2.2.2.1.1.1 ci _ hcl
  have hR := hc.2.2.2.2.2.2
  refine W.newcK hc.1 hc.2.1 hc.2.2.2.1 (hts _ (hw (.classLink own idx C) (by simp))) (hts _ (hw (.instantiable C N) (by simp))) (hts _ (hw (.initialized C) (by simp))) rfl hd (Nat.le_trans hk hR.2.2.1) (Nat.le_trans hn hR.2.2.2) hKn.2.1 h1.1 fun H1 kC hkC e1 z1 o1 => ?_
  refine kk _ (va_up_self _ _ _) (fun _ hb => va_up_ne _ _ hb) H1 locs ls (h1.push z1 o1 ?_) ⟨fun q hq => (o1 q (Nat.lt_of_lt_of_le hq h1.2.1)).trans (h2.1 q hq), h2.2⟩ h3
  exact (show va_at V.2.1 vwCl (nx, .inr (ci, fs)) H1 from ⟨_, hcl, (u_born ty hts hin hKn hkC e1 ht.1).to hfs⟩)
theorem g_newb {t N : Nat} {v : Int32} (hc : mm_Cx V X cc nL own d k n) (hd : decode cc pc = .ok (.newarray .byte, 2)) (ht : (mm_tys V)[t]? = some (V.2.2.1 t, .byte)) (hw : Cond.arrayClass .byte ∈ mm_TB) (h0 : ¬ v < 0) (hN : v.toNatClampNeg = N) (hb : N ≤ 536870912) (hk : cells + 1 ≤ k) (hn : slots + N ≤ n) (kk : ∀ mem' : mm_M, mem' nx = some (.inl (t, N, .inl (fun _ => 0))) → (∀ b : Nat, b ≠ nx → mem' b = mem b) → mm_G V X nL (pc + 2) lv (.ref nx :: st) mem' (nx + 1) (cells + 1) (slots + N)) : mm_G V X nL pc lv (.int v :: st) mem nx cells slots := by
  intro H locs ls h1 h2 h3
  have hts := hc.2.2.2.2.1
  have hR := hc.2.2.2.2.2.2
  refine va_newaK (atype := .byte) hc.1 hc.2.1 (hts _ hw) rfl hd rfl h0 hN (by show N * 1 ≤ _; omega) (Nat.le_trans hk hR.2.2.1) (Nat.le_trans hn hR.2.2.2) h1.1 fun H1 cA e1 z1 o1 hAr hNm => ?_
  have hcA : cA = V.2.2.1 t := Option.some.inj (hNm.symm.trans (hc.2.2.2.2.2.1.1.2 t _ ht).2)
  refine kk _ (va_up_self _ _ _) (fun _ hb => va_up_ne _ _ hb) H1 locs ls (h1.push z1 o1 ?_) ⟨fun q hq => (o1 q (Nat.lt_of_lt_of_le hq h1.2.1)).trans (h2.1 q hq), h2.2⟩ h3
  show H1[nx]? = some (vp_cell (V.2.2.1 t) (N, .inl (fun _ => 0)))
  rw [e1, hcA]
  rfl
theorem g_newi {t N : Nat} {v : Int32} (hc : mm_Cx V X cc nL own d k n) (hd : decode cc pc = .ok (.newarray .int, 2)) (ht : (mm_tys V)[t]? = some (V.2.2.1 t, .int)) (hw : Cond.arrayClass .int ∈ mm_TB) (h0 : ¬ v < 0) (hN : v.toNatClampNeg = N) (hb : N * 4 ≤ 536870912) (hk : cells + 1 ≤ k) (hn : slots + N ≤ n) (kk : ∀ mem' : mm_M, mem' nx = some (.inl (t, N, .inl (fun _ => 0))) → (∀ b : Nat, b ≠ nx → mem' b = mem b) → mm_G V X nL (pc + 2) lv (.ref nx :: st) mem' (nx + 1) (cells + 1) (slots + N)) : mm_G V X nL pc lv (.int v :: st) mem nx cells slots := by
  intro H locs ls h1 h2 h3
  have hts := hc.2.2.2.2.1
  have hR := hc.2.2.2.2.2.2
  refine va_newaK (atype := .int) hc.1 hc.2.1 (hts _ hw) rfl hd rfl h0 hN (by show N * 4 ≤ _; omega) (Nat.le_trans hk hR.2.2.1) (Nat.le_trans hn hR.2.2.2) h1.1 fun H1 cA e1 z1 o1 hAr hNm => ?_
  have hcA : cA = V.2.2.1 t := Option.some.inj (hNm.symm.trans (hc.2.2.2.2.2.1.1.2 t _ ht).2)
  refine kk _ (va_up_self _ _ _) (fun _ hb => va_up_ne _ _ hb) H1 locs ls (h1.push z1 o1 ?_) ⟨fun q hq => (o1 q (Nat.lt_of_lt_of_le hq h1.2.1)).trans (h2.1 q hq), h2.2⟩ h3
  show H1[nx]? = some (vp_cell (V.2.2.1 t) (N, .inl (fun _ => 0)))
  rw [e1, hcA]
  rfl
theorem g_anew {t N idx : Nat} {C : String} {v : Int32} (hc : mm_Cx V X cc nL own d k n) (hd : decode cc pc = .ok (.anewarray idx, 3)) (ht : (mm_tys V)[t]? = some (V.2.2.1 t, .object C)) (hw : Cond.classLink own idx C ∈ mm_TB) (hO : C ∈ mm_aov) (h0 : ¬ v < 0) (hN : v.toNatClampNeg = N) (hb : N * 4 ≤ 536870912) (hk : cells + 1 ≤ k) (hn : slots + N ≤ n) (kk : ∀ mem' : mm_M, mem' nx = some (.inl (t, N, .inr (.inr (.inr (.inr (fun _ => none)))))) → (∀ b : Nat, b ≠ nx → mem' b = mem b) → mm_G V X nL (pc + 3) lv (.ref nx :: st) mem' (nx + 1) (cells + 1) (slots + N)) : mm_G V X nL pc lv (.int v :: st) mem nx cells slots := by
  intro H locs ls h1 h2 h3
  have hts := hc.2.2.2.2.1
  have hR := hc.2.2.2.2.2.2
  subst hN
  refine W.anew hc.1 hc.2.1 hc.2.2.2.1 (hts _ hw) (hc.2.2.2.2.2.1.2.2.2.2.2 C hO).use rfl hd rfl h0 hb (Nat.le_trans hk hR.2.2.1) (Nat.le_trans hn hR.2.2.2) fun cA kA comp f1 f2 f3 f4 => ?_
  obtain ⟨kA', comp', -, -, -, f5⟩ := (hc.2.2.2.2.2.1.1.2 t _ ht).2
  have hcA : cA = V.2.2.1 t := Option.some.inj (f1.symm.trans f5)
  have hh : H.size = nx := h1.1
  generalize hH1 : H.push ({ cls := cA, slots := Array.replicate v.toNatClampNeg .null, vm := .none } : Cell) = H1
  have z1 : H1.size = nx + 1 := by rw [← hH1, Array.size_push, hh]
  have e1 : H1[nx]? = some (arrV cA v.toNatClampNeg (fun _ => .null)) := by rw [← hH1, ← hh, Array.getElem?_push_size, ← arrV_new]
  have o1 : ∀ q : Nat, q < nx → H1[q]? = H[q]? := fun q hq => by rw [← hH1, Array.getElem?_push, if_neg (by omega)]
  rw [hh]
  refine kk _ (va_up_self _ _ _) (fun _ hb => va_up_ne _ _ hb) H1 locs ls (h1.push z1 o1 ?_) ⟨fun q hq => (o1 q (Nat.lt_of_lt_of_le hq h1.2.1)).trans (h2.1 q hq), h2.2⟩ h3
  show H1[nx]? = some (vp_cell (V.2.2.1 t) (v.toNatClampNeg, .inr (.inr (.inr (.inr (fun _ => none))))))
  rw [e1, hcA]
  rfl
-- calls
theorem mm_call {k' n' : Nat} {rest : List Value} {P : Option Value → mm_M → Nat → Prop} {a : Array Value}
    (hr : ∀ (H : Heap) (locs : List Loc) (ls : Array Slot), mm_R V mem nx H → mm_Kp V X.2.2.2.1 H locs → lv_has ls nL lv → va_Run X.1 V.1 X.2.1 X.2.2.1 X.2.2.2.1 X.2.2.2.2.1 X.2.2.2.2.2.1 X.2.2.2.2.2.2.1 X.2.2.2.2.2.2.2.1 X.2.2.2.2.2.2.2.2.1 H locs cells slots k' n' (F0 X.2.2.2.2.1 pc ls st) rest (mm_Q V P a) (fun q => V.2.2.2.1 ≤ q))
    (kk : ∀ (r : Option Value) (mem' : mm_M) (nx' : Nat), P r mem' nx' → mm_G V X nL (pc + 3) lv (r.toList ++ rest) mem' nx' (cells + k') (slots + n')) : mm_G V X nL pc lv st mem nx cells slots := by
  intro H locs ls h1 h2 h3 T hT X0
  obtain ⟨v, st₀, t, T', L, h0, X', hL, e1, e2, ⟨r, mem', nx', hv, hp, hr', hq⟩, stp⟩ := hr H locs ls h1 h2 h3 T hT X0
  cases hv
  obtain ⟨t2, a1, b1⟩ := kk v mem' nx' hp T'.heap (locs ++ L) ls (by rw [e1]; exact hr') ⟨fun q h => by rw [e1, hq q h, h0]; exact h2.1 q h, fun x hx => by
      rcases List.mem_append.mp hx with h | h
      · exact h2.2 x h
      · exact hL x h⟩ h3 T' rfl X'
  exact ⟨t2, stp t2 a1, b1⟩
theorem mm_goodIn {ws : List Cond} (h : ∀ w ∈ ws, w ∈ mm_TB) : GoodIn mm_TB ws := fun w hw => mm_TBgood w (h w hw)
theorem mm_pre {V : mm_V} {s : State} {H : Heap} {locs : List Loc} {av : List Value} {mem : mm_M} {nx : Nat} (hE : mm_E V s) (h1 : mm_R V mem nx H) (h2 : mm_Kp V s H locs) : ∀ U : State, U.heap = H → s.WarmedH U.vm → mm_Pc V av mem nx av.toArray U :=
  fun U hU hW => ⟨rfl, hE.to hW (fun q hq => by rw [hU]; exact h2.1 q hq), by rw [hU]; exact h1⟩
/-- the words of a call of an instance method -/
def mm_cv (own : String) (idx : Nat) (C : String) (y : MethodName) (cc : ByteArray) (nL : Nat) (ret : Option FieldType) (na : Nat) : Prop := (∀ w ∈ ([.methodLink own idx y, .instanceMethod y, .selects C y y, .initialized C, .code y cc nL ret] : List Cond), w ∈ mm_TB) ∧ (y.cls = C ∧ y.cls ≠ "java/lang/invoke/MethodHandle" ∧ y.cls ≠ "java/lang/invoke/VarHandle" ∧ (parseMethodDescriptor y.desc).map (fun d => d.parameters.length) = some na)
def mm_cs (own : String) (idx : Nat) (y : MethodName) (cc : ByteArray) (nL : Nat) (ret : Option FieldType) (na : Nat) : Prop := (∀ w ∈ ([.methodLink own idx y, .static y, .initialized y.cls, .code y cc nL ret] : List Cond), w ∈ mm_TB) ∧ (y.cls ≠ "java/lang/invoke/MethodHandle" ∧ y.cls ≠ "java/lang/invoke/VarHandle" ∧ (parseMethodDescriptor y.desc).map (fun d => d.parameters.length) = some na)
def mm_ci (own : String) (idx : Nat) (y : MethodName) (cc : ByteArray) (nL : Nat) (na : Nat) : Prop := (∀ w ∈ ([.methodLink own idx y, .instanceMethod y, .initialized y.cls, .code y cc nL none] : List Cond), w ∈ mm_TB) ∧ y.name = "<init>" ∧ (y.cls ≠ "java/lang/invoke/MethodHandle" ∧ y.cls ≠ "java/lang/invoke/VarHandle" ∧ (parseMethodDescriptor y.desc).map (fun d => d.parameters.length) = some na)
theorem mm_room {R : Room} {d d' k' n' nL : Nat} (hR : d ≤ R.frames ∧ d * 40 ≤ R.locals) (hd : d' + 1 ≤ d) (hl : nL ≤ 21) : (mm_rm d' k' n').frames + 1 ≤ R.frames ∧ 8 + (nL + 11) + (mm_rm d' k' n').locals ≤ R.locals := by
  show d' + 1 ≤ R.frames ∧ 8 + (nL + 11) + d' * 40 ≤ R.locals
  omega
theorem mm_recv {s : State} {H : Heap} {b ci : Nat} {q : vw_C} {fs : List Value} (hE : mm_E V s) (h1 : mm_R V mem nx H) (hcl : vwCl[ci]? = some q) (hm : mem b = some (.inr (ci, fs))) : ∃ cell : Cell, H[b]? = some cell ∧ cell.vm.isStatics = false ∧ s.vm.findClass q.1 = some cell.cls := by
  obtain ⟨r, -, cell, g1, g2, g3, -⟩ := (h1.2.2 b _ hm).2
  exact ⟨cell, g1, by rw [g3]; rfl, by rw [g2]; exact (hE.1.1 ci q hcl).2.1⟩
theorem g_callV0 {idx b : Nat} {C : String} {y : MethodName} {cy : ByteArray} {ly na d' k' n' : Nat} {ret : Option FieldType} {As rest : List Value} {P : Option Value → mm_M → Nat → Prop} (hc : mm_Cx V X cc nL own d k n) (hd : decode cc pc = .ok (.invokevirtual idx, 3)) (hw : mm_cv own idx C y cy ly ret na)
    (hS : mm_S V y cy ly ret d' k' n' (.ref b :: As) mem nx P) (hrc : ∀ (H : Heap) (locs : List Loc), mm_R V mem nx H → mm_Kp V X.2.2.2.1 H locs → ∃ cell : Cell, H[b]? = some cell ∧ cell.vm.isStatics = false ∧ X.2.2.2.1.vm.findClass C = some cell.cls) (hl : ly ≤ 21) (hdd : d' + 1 ≤ d) (hk : cells + k' ≤ k) (hn : slots + n' ≤ n) (hna : As.length = na) (hst : st = As.reverse ++ .ref b :: rest) (hW : (rest.map fun v => v.category).sum ≤ 8)
    (kk : ∀ (r : Option Value) (mem' : mm_M) (nx' : Nat), P r mem' nx' → mm_G V X nL (pc + 3) lv (r.toList ++ rest) mem' nx' (cells + k') (slots + n')) : mm_G V X nL pc lv st mem nx cells slots := by
  refine mm_call (a := (.ref b :: As).toArray) (P := P) (fun H locs ls h1 h2 h3 => ?_) kk
  obtain ⟨hx, hb, hml, hown, hts, hE, hR⟩ := hc
  have hG : GoodIn mm_TB (wsV own idx C y (Cond.code y cy ly ret :: mm_TB)) := mm_goodIn (fun w h => by
    rcases List.mem_append.mp h with h | h
    · exact hw.1 w (by simp at h ⊢; rcases h with h | h | h | h <;> simp [h])
    · rcases List.mem_cons.mp h with h | h
      · exact hw.1 w (by simp [h])
      · exact h)
  exact va_runV (n := na) (As := As) (rest := rest) ⟨hx, hb, hml, hown, hts⟩ hS (cwV na hts hG rfl rfl rfl hw.2 (mm_room ⟨hR.1, hR.2.1⟩ hdd hl)) ⟨mm_blind V _ mem nx, hrc H locs h1 h2, mm_pre hE h1 h2⟩ rfl hna h3.1 hst (lv_room hW) hd ⟨Nat.le_trans hk hR.2.2.1, Nat.le_trans hn hR.2.2.2⟩
theorem g_callV {idx ci b : Nat} {C : String} {y : MethodName} {cy : ByteArray} {ly na d' k' n' : Nat} {ret : Option FieldType} {As rest : List Value} {fs : List Value} {T : u_T} {N : Nat} {P : Option Value → mm_M → Nat → Prop} (hc : mm_Cx V X cc nL own d k n) (hd : decode cc pc = .ok (.invokevirtual idx, 3)) (hw : mm_cv own idx C y cy ly ret na)
    (hS : mm_S V y cy ly ret d' k' n' (.ref b :: As) mem nx P) (hcl : vwCl[ci]? = some (C, T, N)) (hm : mem b = some (.inr (ci, fs))) (hl : ly ≤ 21) (hdd : d' + 1 ≤ d) (hk : cells + k' ≤ k) (hn : slots + n' ≤ n) (hna : As.length = na) (hst : st = As.reverse ++ .ref b :: rest) (hW : (rest.map fun v => v.category).sum ≤ 8)
    (kk : ∀ (r : Option Value) (mem' : mm_M) (nx' : Nat), P r mem' nx' → mm_G V X nL (pc + 3) lv (r.toList ++ rest) mem' nx' (cells + k') (slots + n')) : mm_G V X nL pc lv st mem nx cells slots :=
  g_callV0 hc hd hw hS (fun _ _ h1 _ => mm_recv hc.2.2.2.2.2.1 h1 hcl hm) hl hdd hk hn hna hst hW kk
theorem g_callS {idx : Nat} {y : MethodName} {cy : ByteArray} {ly na d' k' n' : Nat} {ret : Option FieldType} {As rest : List Value} {P : Option Value → mm_M → Nat → Prop} (hc : mm_Cx V X cc nL own d k n) (hd : decode cc pc = .ok (.invokestatic idx, 3)) (hw : mm_cs own idx y cy ly ret na)
    (hS : mm_S V y cy ly ret d' k' n' As mem nx P) (hl : ly ≤ 21) (hdd : d' + 1 ≤ d) (hk : cells + k' ≤ k) (hn : slots + n' ≤ n) (hna : As.length = na) (hst : st = As.reverse ++ rest) (hW : (rest.map fun v => v.category).sum ≤ 8)
    (kk : ∀ (r : Option Value) (mem' : mm_M) (nx' : Nat), P r mem' nx' → mm_G V X nL (pc + 3) lv (r.toList ++ rest) mem' nx' (cells + k') (slots + n')) : mm_G V X nL pc lv st mem nx cells slots := by
  refine mm_call (a := As.toArray) (P := P) (fun H locs ls h1 h2 h3 => ?_) kk
  obtain ⟨hx, hb, hml, hown, hts, hE, hR⟩ := hc
  have hG : GoodIn mm_TB (va_wsS own idx y (Cond.code y cy ly ret :: mm_TB)) := mm_goodIn (fun w h => by
    rcases List.mem_append.mp h with h | h
    · exact hw.1 w (by simp at h ⊢; rcases h with h | h | h <;> simp [h])
    · rcases List.mem_cons.mp h with h | h
      · exact hw.1 w (by simp [h])
      · exact h)
  exact va_runS (n := na) (As := As) (rest := rest) ⟨hx, hb, hml, hown, hts⟩ hS (va_cwS na hts hG rfl rfl rfl hw.2 (mm_room ⟨hR.1, hR.2.1⟩ hdd hl)) ⟨mm_blind V _ mem nx, mm_pre hE h1 h2⟩ rfl hna h3.1 hst (lv_room hW) hd ⟨Nat.le_trans hk hR.2.2.1, Nat.le_trans hn hR.2.2.2⟩
theorem g_callI {idx b : Nat} {y : MethodName} {cy : ByteArray} {ly na d' k' n' : Nat} {As rest : List Value} {P : Option Value → mm_M → Nat → Prop} (hc : mm_Cx V X cc nL own d k n) (hd : decode cc pc = .ok (.invokespecial idx, 3)) (hw : mm_ci own idx y cy ly na)
    (hS : mm_S V y cy ly none d' k' n' (.ref b :: As) mem nx P) (hl : ly ≤ 21) (hdd : d' + 1 ≤ d) (hk : cells + k' ≤ k) (hn : slots + n' ≤ n) (hna : As.length = na) (hst : st = As.reverse ++ .ref b :: rest) (hW : (rest.map fun v => v.category).sum ≤ 8)
    (kk : ∀ (r : Option Value) (mem' : mm_M) (nx' : Nat), P r mem' nx' → mm_G V X nL (pc + 3) lv (r.toList ++ rest) mem' nx' (cells + k') (slots + n')) : mm_G V X nL pc lv st mem nx cells slots := by
  refine mm_call (a := (.ref b :: As).toArray) (P := P) (fun H locs ls h1 h2 h3 => ?_) kk
  obtain ⟨hx, hb, hml, hown, hts, hE, hR⟩ := hc
  have hG : GoodIn mm_TB (Cond.code y cy ly none :: mm_TB) := mm_goodIn (fun w h => by
    rcases List.mem_cons.mp h with h | h
    · exact hw.1 w (by simp [h])
    · exact h)
  exact va_runI (n := na) (As := As) (rest := rest) ⟨hx, hb, hml, hown, hts⟩ hS (cwI na hts hG rfl rfl rfl (hts _ (hw.1 (.initialized y.cls) (by simp))) (hts _ (hw.1 (.methodLink own idx y) (by simp))) (hts _ (hw.1 (.instanceMethod y) (by simp))) hw.2.1 hw.2.2 (mm_room ⟨hR.1, hR.2.1⟩ hdd hl)) ⟨mm_blind V _ mem nx, mm_pre hE h1 h2⟩ rfl hna h3.1 hst (lv_room hW) hd ⟨Nat.le_trans hk hR.2.2.1, Nat.le_trans hn hR.2.2.2⟩
theorem g_objInit {idx a : Nat} (hc : mm_Cx V X cc nL own d k n) (hd : decode cc pc = .ok (.invokespecial idx, 3)) (hw : ∀ w ∈ ([.methodLink own idx objectInit, .instanceMethod objectInit, .code objectInit ⟨#[0xb1]⟩ 1 none] : List Cond), w ∈ mm_TB) (hdd : 1 ≤ d) (hW : (st.map fun v => v.category).sum ≤ 8) (kk : mm_G V X nL (pc + 3) lv st mem nx cells slots) : mm_G V X nL pc lv (.ref a :: st) mem nx cells slots := by
  intro H locs ls h1 h2 h3
  obtain ⟨hx, hb, hml, hown, hts, hE, hR⟩ := hc
  refine W.objInit hx hb hown (hts _ (hw (.methodLink own idx objectInit) (by simp))) (hts _ (hw (.instanceMethod objectInit) (by simp))) (hts _ (hw (.code objectInit ⟨#[0xb1]⟩ 1 none) (by simp))) rfl (by rw [hml]; exact h3.1) rfl hd (by omega) (by show 2 * 0 + _ + 12 ≤ _; omega) ?_
  exact kk H locs ls h1 h2 h3
theorem g_mmax {idx : Nat} {x y : Int32} (hc : mm_Cx V X cc nL own d k n) (hd : decode cc pc = .ok (.invokestatic idx, 3)) (hw : ∀ w ∈ ([.methodLink own idx Lib.Math.max.name, .static Lib.Math.max.name, .initialized "java/lang/Math", .code Lib.Math.max.name Lib.Math.max.code 2 (some .int)] : List Cond), w ∈ mm_TB) (hdd : 1 ≤ d) (hk : cells ≤ k) (hn : slots ≤ n) (hW : (st.map fun v => v.category).sum ≤ 8) (kk : mm_G V X nL (pc + 3) lv (.int (if x < y then y else x) :: st) mem nx cells slots) : mm_G V X nL pc lv (.int y :: .int x :: st) mem nx cells slots := by
  intro H locs ls h1 h2 h3
  obtain ⟨hx, hb, hml, hown, hts, hE, hR⟩ := hc
  exact va_mmax hx hb (by rw [hml]; exact h3.1.symm) hown (hts _ (hw (.methodLink own idx Lib.Math.max.name) (by simp))) (hts _ (hw (.static Lib.Math.max.name) (by simp))) (hts _ (hw (.initialized "java/lang/Math") (by simp))) (hts _ (hw (.code Lib.Math.max.name Lib.Math.max.code 2 (some .int)) (by simp))) (by omega) (by omega) (Nat.le_trans hk hR.2.2.1) (Nat.le_trans hn hR.2.2.2) hd (kk H locs ls h1 h2 h3)
theorem g_mmin {idx : Nat} {x y : Int32} (hc : mm_Cx V X cc nL own d k n) (hd : decode cc pc = .ok (.invokestatic idx, 3)) (hw : ∀ w ∈ ([.methodLink own idx Lib.Math.min.name, .static Lib.Math.min.name, .initialized "java/lang/Math", .code Lib.Math.min.name Lib.Math.min.code 2 (some .int)] : List Cond), w ∈ mm_TB) (hdd : 1 ≤ d) (hk : cells ≤ k) (hn : slots ≤ n) (hW : (st.map fun v => v.category).sum ≤ 8) (kk : mm_G V X nL (pc + 3) lv (.int (if y < x then y else x) :: st) mem nx cells slots) : mm_G V X nL pc lv (.int y :: .int x :: st) mem nx cells slots := by
  intro H locs ls h1 h2 h3
  obtain ⟨hx, hb, hml, hown, hts, hE, hR⟩ := hc
  exact va_mmin hx hb (by rw [hml]; exact h3.1.symm) hown (hts _ (hw (.methodLink own idx Lib.Math.min.name) (by simp))) (hts _ (hw (.static Lib.Math.min.name) (by simp))) (hts _ (hw (.initialized "java/lang/Math") (by simp))) (hts _ (hw (.code Lib.Math.min.name Lib.Math.min.code 2 (some .int)) (by simp))) (by omega) (by omega) (Nat.le_trans hk hR.2.2.1) (Nat.le_trans hn hR.2.2.2) hd (kk H locs ls h1 h2 h3)
-- texts
theorem g_ldcS {idx i : Nat} {tx : String} (hc : mm_Cx V X cc nL own d k n) (hd : decode cc pc = .ok (.ldc idx, 2)) (hr : (own, idx, tx, i) ∈ mm_strs) (kk : mm_G V X nL (pc + 2) lv (.ref (V.2.2.2.2.1 i) :: st) mem nx cells slots) : mm_G V X nL pc lv st mem nx cells slots :=
  fun H locs ls h1 h2 h3 => va_ldcS hc.1 hc.2.1 hc.2.2.2.1 (hc.2.2.2.2.2.1.2.2.1 _ hr) hd (kk H locs ls h1 h2 h3)
theorem mm_srecv {s : State} {H : Heap} {locs : List Loc} {i : Nat} (hE : mm_E V s) (h2 : mm_Kp V s H locs) (hi : i < mm_nS) : ∃ cell : Cell, H[V.2.2.2.2.1 i]? = some cell ∧ cell.vm.isStatics = false ∧ s.vm.findClass "java/lang/String" = some cell.cls := by
  obtain ⟨cell, e1, e2, e3, e4⟩ := ((hE.2.1 i hi).1 0 (by decide)).1
  exact ⟨cell, by rw [h2.1 _ (Nat.lt_of_not_le e4)]; exact e1, e2, e3⟩
theorem g_callT {idx i : Nat} {y : MethodName} {cy : ByteArray} {ly na d' k' n' : Nat} {ret : Option FieldType} {As rest : List Value} {P : Option Value → mm_M → Nat → Prop} (hc : mm_Cx V X cc nL own d k n) (hd : decode cc pc = .ok (.invokevirtual idx, 3)) (hw : mm_cv own idx "java/lang/String" y cy ly ret na)
    (hS : mm_S V y cy ly ret d' k' n' (.ref (V.2.2.2.2.1 i) :: As) mem nx P) (hi : i < mm_nS) (hl : ly ≤ 21) (hdd : d' + 1 ≤ d) (hk : cells + k' ≤ k) (hn : slots + n' ≤ n) (hna : As.length = na) (hst : st = As.reverse ++ .ref (V.2.2.2.2.1 i) :: rest) (hW : (rest.map fun v => v.category).sum ≤ 8)
    (kk : ∀ (r : Option Value) (mem' : mm_M) (nx' : Nat), P r mem' nx' → mm_G V X nL (pc + 3) lv (r.toList ++ rest) mem' nx' (cells + k') (slots + n')) : mm_G V X nL pc lv st mem nx cells slots :=
  g_callV0 hc hd hw hS (fun _ _ _ h2 => mm_srecv hc.2.2.2.2.2.1 h2 hi) hl hdd hk hn hna hst hW kk
theorem g_sval {idx i : Nat} (hc : mm_Cx V X cc nL own d k n) (hd : decode cc pc = .ok (.getfield idx, 3)) (hi : i < mm_nS) (hw : Cond.fieldLink own idx "java/lang/String" "value" "[B" ∈ mm_TB) (kk : mm_G V X nL (pc + 3) lv (.ref (V.2.2.2.2.2 i) :: st) mem nx cells slots) : mm_G V X nL pc lv (.ref (V.2.2.2.2.1 i) :: st) mem nx cells slots := by
  intro H locs ls h1 h2 h3
  obtain ⟨cf, kf, fi, f, cell, e1, e2, e3, e4, e5, e6⟩ := ((hc.2.2.2.2.2.1.2.1 i hi).1 0 (by decide)).2.2.1
  exact W.getf hc.1 hc.2.1 hc.2.2.2.1 (hc.2.2.2.2.1 _ hw) e1 e2 (by rw [h2.1 _ (Nat.lt_of_not_le e6)]; exact e3) e4 e5 rfl rfl hd (kk H locs ls h1 h2 h3)
theorem g_scod {idx i : Nat} (hc : mm_Cx V X cc nL own d k n) (hd : decode cc pc = .ok (.getfield idx, 3)) (hi : i < mm_nS) (hw : Cond.fieldLink own idx "java/lang/String" "coder" "B" ∈ mm_TB) (kk : mm_G V X nL (pc + 3) lv (.int 0 :: st) mem nx cells slots) : mm_G V X nL pc lv (.ref (V.2.2.2.2.1 i) :: st) mem nx cells slots := by
  intro H locs ls h1 h2 h3
  obtain ⟨cf, kf, fi, f, cell, e1, e2, e3, e4, e5, e6⟩ := ((hc.2.2.2.2.2.1.2.1 i hi).1 0 (by decide)).2.1
  exact W.getf hc.1 hc.2.1 hc.2.2.2.1 (hc.2.2.2.2.1 _ hw) e1 e2 (by rw [h2.1 _ (Nat.lt_of_not_le e6)]; exact e3) e4 e5 rfl rfl hd (kk H locs ls h1 h2 h3)
theorem g_slen {i : Nat} (hc : mm_Cx V X cc nL own d k n) (hd : decode cc pc = .ok (.arraylength, 1)) (hi : i < mm_nS) (kk : mm_G V X nL (pc + 1) lv (.int (nI (mm_len.getD i 0)) :: st) mem nx cells slots) : mm_G V X nL pc lv (.ref (V.2.2.2.2.2 i) :: st) mem nx cells slots := by
  intro H locs ls h1 h2 h3
  obtain ⟨cell, e1, e2, e3, e4, e5, e6, e7⟩ := ((hc.2.2.2.2.2.1.2.1 i hi).1 0 (by decide)).2.2.2
  have e5 : cell.slots.size.toInt32 = nI (mm_len.getD i 0) := e5
  exact W.alen hc.1 hc.2.1 (by rw [h2.1 _ (Nat.lt_of_not_le e7)]; exact e1) e2 e5 rfl rfl hd (kk H locs ls h1 h2 h3)
theorem g_sbald {i : Nat} {j : Int32} (hc : mm_Cx V X cc nL own d k n) (hd : decode cc pc = .ok (.baload, 1)) (hi : i < mm_nS) (hj : vp_in j (mm_len.getD i 0)) (kk : mm_G V X nL (pc + 1) lv (.int ((mm_byt.getD i []).getD j.toNatClampNeg 0) :: st) mem nx cells slots) : mm_G V X nL pc lv (.int j :: .ref (V.2.2.2.2.2 i) :: st) mem nx cells slots := by
  intro H locs ls h1 h2 h3
  obtain ⟨cell, e1, e2, e3, e4, e5, e6, e7⟩ := ((hc.2.2.2.2.2.1.2.1 i hi).1 0 (by decide)).2.2.2
  have hlt : j.toNatClampNeg < mm_len.getD i 0 := Nat.not_le.mp fun q => hj (Or.inr q)
  have e4 : mm_len.getD i 0 ≤ cell.slots.size := e4
  exact W.bald hc.1 hc.2.1 (by rw [h2.1 _ (Nat.lt_of_not_le e7)]; exact e1) e2 e3 (fun q => by
    rcases q with q | q
    · exact hj (Or.inl q)
    · omega) (e6 _ hlt) rfl rfl hd (kk H locs ls h1 h2 h3)
theorem g_gets {idx : Nat} {C nm ds : String} {v : Int32} (hc : mm_Cx V X cc nL own d k n) (hd : decode cc pc = .ok (.getstatic idx, 3)) (hr : (C, nm, ds, v) ∈ mm_stat) (hw : Cond.fieldLink own idx C nm ds ∈ mm_TB) (kk : mm_G V X nL (pc + 3) lv (.int v :: st) mem nx cells slots) : mm_G V X nL pc lv st mem nx cells slots := by
  intro H locs ls h1 h2 h3
  obtain ⟨cf, kf, fi, f, a, cell, e1, e2, e3, e4, e5, e6, e7, e8⟩ := hc.2.2.2.2.2.1.2.2.2.1 _ hr
  exact W.gets hc.1 hc.2.1 hc.2.2.2.1 (hc.2.2.2.2.1 _ hw) e1 e2 e3 e4 (by rw [h2.1 _ (Nat.lt_of_not_le e8)]; exact e5) (fun e => by rw [e] at e6; cases e6) e7 rfl hd (kk H locs ls h1 h2 h3)
theorem g_getsq {idx : Nat} {C nm ds : String} (hc : mm_Cx V X cc nL own d k n) (hd : decode cc pc = .ok (.getstatic idx, 3)) (hr : (C, nm, ds) ∈ mm_statq) (hw : Cond.fieldLink own idx C nm ds ∈ mm_TB) (k0 : mm_G V X nL (pc + 3) lv (.null :: st) mem nx cells slots) (k1 : ∀ t : Nat, mm_G V X nL (pc + 3) lv (.ref t :: st) mem nx cells slots) : mm_G V X nL pc lv st mem nx cells slots := by
  intro H locs ls h1 h2 h3
  rcases hc.2.2.2.2.2.1.2.2.2.2.1 _ hr with ⟨cf, kf, fi, f, a, cell, e1, e2, e3, e4, e5, e6, e7, e8⟩ | ⟨t, cf, kf, fi, f, a, cell, e1, e2, e3, e4, e5, e6, e7, e8⟩
  · exact W.gets hc.1 hc.2.1 hc.2.2.2.1 (hc.2.2.2.2.1 _ hw) e1 e2 e3 e4 (by rw [h2.1 _ (Nat.lt_of_not_le e8)]; exact e5) (fun e => by rw [e] at e6; cases e6) e7 rfl hd (k0 H locs ls h1 h2 h3)
  · exact W.gets hc.1 hc.2.1 hc.2.2.2.1 (hc.2.2.2.2.1 _ hw) e1 e2 e3 e4 (by rw [h2.1 _ (Nat.lt_of_not_le e8)]; exact e5) (fun e => by rw [e] at e6; cases e6) e7 rfl hd (k1 t H locs ls h1 h2 h3)
theorem g_copyb {idx a0 a t0 t1 n0 n1 : Nat} {f g : Nat → Int32} {sp dp len : Int32} (hc : mm_Cx V X cc nL own d k n) (hd : decode cc pc = .ok (.invokestatic idx, 3)) (hw : ∀ w ∈ ([.methodLink own idx arraycopyName, .native arraycopyName, .static arraycopyName, .initialized "java/lang/System"] : List Cond), w ∈ mm_TB) (ht0 : (mm_tys V)[t0]? = some (V.2.2.1 t0, .byte)) (ht1 : (mm_tys V)[t1]? = some (V.2.2.1 t1, .byte)) (hm0 : mem a0 = some (.inl (t0, n0, .inl f))) (hm1 : mem a = some (.inl (t1, n1, .inl g)))
    (q1 : ¬ sp < 0) (q2 : ¬ dp < 0) (q3 : ¬ len < 0) (q4 : sp.toNatClampNeg + len.toNatClampNeg ≤ n0) (q5 : dp.toNatClampNeg + len.toNatClampNeg ≤ n1) (hfit : ∀ i, i < len.toNatClampNeg → fits .byte (.int (f (sp.toNatClampNeg + i))) = true) (hdd : 1 ≤ d) (hW : (st.map fun v => v.category).sum ≤ 8)
    (kk : ∀ mem' : mm_M, mem' a = some (.inl (t1, n1, .inl (va_cpy f g sp.toNatClampNeg dp.toNatClampNeg len.toNatClampNeg))) → (∀ b : Nat, b ≠ a → mem' b = mem b) → mm_G V X nL (pc + 3) lv st mem' nx cells slots) : mm_G V X nL pc lv (.int len :: .int dp :: .ref a :: .int sp :: .ref a0 :: st) mem nx cells slots := by
  have nn : ∀ z : Int32, ¬ z < 0 → z.toInt = (z.toNatClampNeg : Int) := by
    intro z hz
    have hz0 : (0 : Int) ≤ z.toInt := by
      have := Int32.not_lt.mp hz
      simpa using Int32.le_iff_toInt_le.mp this
    show z.toInt = ((z.toInt.toNat : Nat) : Int)
    omega
  intro H locs ls h1 h2 h3 T hT X0
  obtain ⟨hx, hb, hml, hown, hts, hE, hR⟩ := hc
  have hK := hE.1
  obtain ⟨hz, hc1⟩ := h1.2.2 a _ hm1
  have hc0 : H[a0]? = some (vp_cell (V.2.2.1 t0) (n0, .inl f)) := (h1.2.2 a0 _ hm0).2
  have hc1 : H[a]? = some (vp_cell (V.2.2.1 t1) (n1, .inl g)) := hc1
  obtain ⟨-, k0, hk0, cm0, hkk0⟩ := (hK.2 t0 _ ht0).1 n0 (fun j => .int (f j))
  obtain ⟨-, k1, hk1, cm1, hkk1⟩ := (hK.2 t1 _ ht1).1 n1 (fun j => .int (g j))
  have hnf : nativeFrameWords "java/lang/System" "arraycopy" 5 ≤ 20 := by decide +kernel
  obtain ⟨vm', X', step⟩ := X0.arraycopy hx hown (hts _ (hw (.methodLink own idx arraycopyName) (by simp))) (hts _ (hw (.native arraycopyName) (by simp))) (hts _ (hw (.static arraycopyName) (by simp))) (hts _ (hw (.initialized "java/lang/System") (by simp))) (src := a0) (dst := a) (cs := vp_cell (V.2.2.1 t0) (n0, .inl f)) (cd := vp_cell (V.2.2.1 t1) (n1, .inl g)) (srcPos := sp) (destPos := dp) (n := len) (by rw [hT]; exact hc0) (by rw [hT]; exact hc1)
    (fun _ h => by cases h) (fun _ h => by cases h) (fun h => by cases h) (fun h => by cases h) hk0 hk1 hkk0 hkk1 (by simp [refKind]) q1 q2 q3
    (by rw [nn sp q1, nn len q3]; show ¬ _ > ((arrV _ n0 (fun j => .int (f j))).slots.size : Int); rw [arrV_size]; omega)
    (by rw [nn dp q2, nn len q3]; show ¬ _ > ((arrV _ n1 (fun j => .int (g j))).slots.size : Int); rw [arrV_size]; omega)
    (fun vm₁ _ i hi => by
      have e : (vp_cell (V.2.2.1 t0) (n0, .inl f)).slots.getD (sp.toNatClampNeg + i) .null = .int (f (sp.toNatClampNeg + i)) := by
        show (arrV _ n0 (fun j => .int (f j))).slots.getD _ _ = _
        rw [Array.getD_eq_getD_getElem?, arrV_read _ _ (by omega)]
        rfl
      refine ⟨?_, ?_⟩
      · rw [e]
        exact hfit i hi
      · rw [e]
        exact trivial)
    (g := F0 X.2.2.2.2.1 pc ls (.int len :: .int dp :: .ref a :: .int sp :: .ref a0 :: st)) rfl (by rw [hml]; exact h3.1) (rest := st) rfl (by rw [hb]; exact hd) (by omega) (by show 2 * 0 + _ + _ ≤ _; omega)
  have e1 : copied (vp_cell (V.2.2.1 t0) (n0, .inl f)) (vp_cell (V.2.2.1 t1) (n1, .inl g)) sp dp len = vp_cell (V.2.2.1 t1) (n1, .inl (va_cpy f g sp.toNatClampNeg dp.toNatClampNeg len.toNatClampNeg)) := va_copied (fun z => .int z) _ _ f g q4
  rw [e1] at X' step
  have hl : a < H.size := (Array.getElem?_eq_some_iff.mp hc1).1
  have hheap : ((T.setVm vm').setCell a (vp_cell (V.2.2.1 t1) (n1, .inl (va_cpy f g sp.toNatClampNeg dp.toNatClampNeg len.toNatClampNeg)))).heap = H.setIfInBounds a (vp_cell (V.2.2.1 t1) (n1, .inl (va_cpy f g sp.toNatClampNeg dp.toNatClampNeg len.toNatClampNeg))) := by rw [← hT]; rfl
  have oq : ∀ q : Nat, q ≠ a → (H.setIfInBounds a (vp_cell (V.2.2.1 t1) (n1, .inl (va_cpy f g sp.toNatClampNeg dp.toNatClampNeg len.toNatClampNeg))))[q]? = H[q]? := fun q hq => by simp [Array.getElem?_setIfInBounds, Ne.symm hq]
  obtain ⟨t, a1, b1⟩ := kk _ (va_up_self _ _ _) (fun _ hb => va_up_ne _ _ hb) _ _ ls (h1.set hm1 (by simp) oq (show (H.setIfInBounds a _)[a]? = some _ by simp [Array.getElem?_setIfInBounds, hl])) ⟨fun q hq => (oq q (by omega)).trans (h2.1 q hq), fun x hx => by
      rcases List.mem_append.mp hx with h | h
      · exact h2.2 x h
      · obtain ⟨z, -, hz'⟩ := List.mem_map.mp h
        rw [← hz']
        exact hz⟩ h3 _ hheap X'
  exact ⟨t, step t a1, b1⟩
theorem g_iconst {i : Int} {v : Int32} (hc : mm_Cx V X cc nL own d k n) (hd : decode cc pc = .ok (.iconst i, 1)) (hv : Int32.ofInt i = v) (kk : mm_G V X nL (pc + 1) lv (.int v :: st) mem nx cells slots) : mm_G V X nL (pc) lv (st) mem nx cells slots :=
  fun H locs ls h1 h2 h3 => lv_iconst hc.1 hc.2.1 hd hv (kk H locs ls h1 h2 h3)
theorem g_bipush {i : Int} {v : Int32} (hc : mm_Cx V X cc nL own d k n) (hd : decode cc pc = .ok (.bipush i, 2)) (hv : (Int8.ofInt i).toInt32 = v) (kk : mm_G V X nL (pc + 2) lv (.int v :: st) mem nx cells slots) : mm_G V X nL (pc) lv (st) mem nx cells slots :=
  fun H locs ls h1 h2 h3 => lv_bipush hc.1 hc.2.1 hd hv (kk H locs ls h1 h2 h3)
theorem g_sipush {i : Int} {v : Int32} (hc : mm_Cx V X cc nL own d k n) (hd : decode cc pc = .ok (.sipush i, 3)) (hv : (Int16.ofInt i).toInt32 = v) (kk : mm_G V X nL (pc + 3) lv (.int v :: st) mem nx cells slots) : mm_G V X nL (pc) lv (st) mem nx cells slots :=
  fun H locs ls h1 h2 h3 => lv_sipush hc.1 hc.2.1 hd hv (kk H locs ls h1 h2 h3)
theorem g_lconst {i : Fin 2} {v : Int64} (hc : mm_Cx V X cc nL own d k n) (hd : decode cc pc = .ok (.lconst i, 1)) (hv : Int64.ofNat (i : Nat) = v) (kk : mm_G V X nL (pc + 1) lv (.long v :: st) mem nx cells slots) : mm_G V X nL (pc) lv (st) mem nx cells slots :=
  fun H locs ls h1 h2 h3 => lv_lconst hc.1 hc.2.1 hd hv (kk H locs ls h1 h2 h3)
theorem g_null  (hc : mm_Cx V X cc nL own d k n) (hd : decode cc pc = .ok (.aconst_null, 1))  (kk : mm_G V X nL (pc + 1) lv (.null :: st) mem nx cells slots) : mm_G V X nL (pc) lv (st) mem nx cells slots :=
  fun H locs ls h1 h2 h3 => lv_null hc.1 hc.2.1 hd  (kk H locs ls h1 h2 h3)
theorem g_iload_n {i : Fin 4} {x : Int32} (hc : mm_Cx V X cc nL own d k n) (hd : decode cc pc = .ok (.iload_n i, 1)) (hl : lv.lookup (i : Nat) = some (.int x)) (kk : mm_G V X nL (pc + 1) lv (.int x :: st) mem nx cells slots) : mm_G V X nL (pc) lv (st) mem nx cells slots :=
  fun H locs ls h1 h2 h3 => lv_iload_n hc.1 hc.2.1 hd rfl (mm_lk h3 hl) (kk H locs ls h1 h2 h3)
theorem g_iload {i : Nat} {x : Int32} (hc : mm_Cx V X cc nL own d k n) (hd : decode cc pc = .ok (.iload i, 2)) (hl : lv.lookup i = some (.int x)) (kk : mm_G V X nL (pc + 2) lv (.int x :: st) mem nx cells slots) : mm_G V X nL (pc) lv (st) mem nx cells slots :=
  fun H locs ls h1 h2 h3 => lv_iload hc.1 hc.2.1 hd (mm_lk h3 hl) (kk H locs ls h1 h2 h3)
theorem g_lload_n {i : Fin 4} {x : Int64} (hc : mm_Cx V X cc nL own d k n) (hd : decode cc pc = .ok (.lload_n i, 1)) (hl : lv.lookup (i : Nat) = some (.long x)) (kk : mm_G V X nL (pc + 1) lv (.long x :: st) mem nx cells slots) : mm_G V X nL (pc) lv (st) mem nx cells slots :=
  fun H locs ls h1 h2 h3 => lv_lload_n hc.1 hc.2.1 hd rfl (mm_lk h3 hl) (kk H locs ls h1 h2 h3)
theorem g_lload {i : Nat} {x : Int64} (hc : mm_Cx V X cc nL own d k n) (hd : decode cc pc = .ok (.lload i, 2)) (hl : lv.lookup i = some (.long x)) (kk : mm_G V X nL (pc + 2) lv (.long x :: st) mem nx cells slots) : mm_G V X nL (pc) lv (st) mem nx cells slots :=
  fun H locs ls h1 h2 h3 => lv_lload hc.1 hc.2.1 hd (mm_lk h3 hl) (kk H locs ls h1 h2 h3)
theorem g_aload_n {i : Fin 4} {x : Nat} (hc : mm_Cx V X cc nL own d k n) (hd : decode cc pc = .ok (.aload_n i, 1)) (hl : lv.lookup (i : Nat) = some (.ref x)) (kk : mm_G V X nL (pc + 1) lv (.ref x :: st) mem nx cells slots) : mm_G V X nL (pc) lv (st) mem nx cells slots :=
  fun H locs ls h1 h2 h3 => lv_aload_n hc.1 hc.2.1 hd rfl (mm_lk h3 hl) (kk H locs ls h1 h2 h3)
theorem g_aload {i : Nat} {x : Nat} (hc : mm_Cx V X cc nL own d k n) (hd : decode cc pc = .ok (.aload i, 2)) (hl : lv.lookup i = some (.ref x)) (kk : mm_G V X nL (pc + 2) lv (.ref x :: st) mem nx cells slots) : mm_G V X nL (pc) lv (st) mem nx cells slots :=
  fun H locs ls h1 h2 h3 => lv_aload hc.1 hc.2.1 hd (mm_lk h3 hl) (kk H locs ls h1 h2 h3)
theorem g_istore_n {i : Fin 4} {x : Int32} {lv' : List (Nat × Value)} (hc : mm_Cx V X cc nL own d k n) (hd : decode cc pc = .ok (.istore_n i, 1)) (hn : (i : Nat) < nL) (hl : ((i : Nat), Value.int x) :: lv.filter (fun q => !(q.1 == (i : Nat)) && !(q.1 + 1 == (i : Nat) && q.2.category == 2)) = lv') (kk : mm_G V X nL (pc + 1) lv' (st) mem nx cells slots) : mm_G V X nL (pc) lv (.int x :: st) mem nx cells slots :=
  fun H locs ls h1 h2 h3 => lv_istore_n hc.1 hc.2.1 hd rfl h3 hn hl (fun ls' h' => kk H locs ls' h1 h2 h')
theorem g_istore {i : Nat} {x : Int32} {lv' : List (Nat × Value)} (hc : mm_Cx V X cc nL own d k n) (hd : decode cc pc = .ok (.istore i, 2)) (hn : i < nL) (hl : (i, Value.int x) :: lv.filter (fun q => !(q.1 == i) && !(q.1 + 1 == i && q.2.category == 2)) = lv') (kk : mm_G V X nL (pc + 2) lv' (st) mem nx cells slots) : mm_G V X nL (pc) lv (.int x :: st) mem nx cells slots :=
  fun H locs ls h1 h2 h3 => lv_istore hc.1 hc.2.1 hd h3 hn hl (fun ls' h' => kk H locs ls' h1 h2 h')
theorem g_lstore_n {i : Fin 4} {x : Int64} {lv' : List (Nat × Value)} (hc : mm_Cx V X cc nL own d k n) (hd : decode cc pc = .ok (.lstore_n i, 1)) (hn : (i : Nat) + 1 < nL) (hl : ((i : Nat), Value.long x) :: lv.filter (fun q => !(q.1 == (i : Nat)) && (!(q.1 == (i : Nat) + 1) && !(q.1 + 1 == (i : Nat) && q.2.category == 2))) = lv') (kk : mm_G V X nL (pc + 1) lv' (st) mem nx cells slots) : mm_G V X nL (pc) lv (.long x :: st) mem nx cells slots :=
  fun H locs ls h1 h2 h3 => lv_lstore_n hc.1 hc.2.1 hd rfl h3 hn hl (fun ls' h' => kk H locs ls' h1 h2 h')
theorem g_lstore {i : Nat} {x : Int64} {lv' : List (Nat × Value)} (hc : mm_Cx V X cc nL own d k n) (hd : decode cc pc = .ok (.lstore i, 2)) (hn : i + 1 < nL) (hl : (i, Value.long x) :: lv.filter (fun q => !(q.1 == i) && (!(q.1 == i + 1) && !(q.1 + 1 == i && q.2.category == 2))) = lv') (kk : mm_G V X nL (pc + 2) lv' (st) mem nx cells slots) : mm_G V X nL (pc) lv (.long x :: st) mem nx cells slots :=
  fun H locs ls h1 h2 h3 => lv_lstore hc.1 hc.2.1 hd h3 hn hl (fun ls' h' => kk H locs ls' h1 h2 h')
theorem g_astore_n {i : Fin 4} {x : Nat} {lv' : List (Nat × Value)} (hc : mm_Cx V X cc nL own d k n) (hd : decode cc pc = .ok (.astore_n i, 1)) (hn : (i : Nat) < nL) (hl : ((i : Nat), Value.ref x) :: lv.filter (fun q => !(q.1 == (i : Nat)) && !(q.1 + 1 == (i : Nat) && q.2.category == 2)) = lv') (kk : mm_G V X nL (pc + 1) lv' (st) mem nx cells slots) : mm_G V X nL (pc) lv (.ref x :: st) mem nx cells slots :=
  fun H locs ls h1 h2 h3 => lv_astore_n hc.1 hc.2.1 hd rfl h3 hn hl (fun ls' h' => kk H locs ls' h1 h2 h')
theorem g_astore {i : Nat} {x : Nat} {lv' : List (Nat × Value)} (hc : mm_Cx V X cc nL own d k n) (hd : decode cc pc = .ok (.astore i, 2)) (hn : i < nL) (hl : (i, Value.ref x) :: lv.filter (fun q => !(q.1 == i) && !(q.1 + 1 == i && q.2.category == 2)) = lv') (kk : mm_G V X nL (pc + 2) lv' (st) mem nx cells slots) : mm_G V X nL (pc) lv (.ref x :: st) mem nx cells slots :=
  fun H locs ls h1 h2 h3 => lv_astore hc.1 hc.2.1 hd h3 hn hl (fun ls' h' => kk H locs ls' h1 h2 h')
theorem g_aloadN_n {i : Fin 4} (hc : mm_Cx V X cc nL own d k n) (hd : decode cc pc = .ok (.aload_n i, 1)) (hl : lv.lookup (i : Nat) = some .null) (kk : mm_G V X nL (pc + 1) lv (.null :: st) mem nx cells slots) : mm_G V X nL (pc) lv (st) mem nx cells slots :=
  fun H locs ls h1 h2 h3 => lv_aload_nN hc.1 hc.2.1 hd rfl (mm_lk h3 hl) (kk H locs ls h1 h2 h3)
theorem g_aloadN {i : Nat} (hc : mm_Cx V X cc nL own d k n) (hd : decode cc pc = .ok (.aload i, 2)) (hl : lv.lookup i = some .null) (kk : mm_G V X nL (pc + 2) lv (.null :: st) mem nx cells slots) : mm_G V X nL (pc) lv (st) mem nx cells slots :=
  fun H locs ls h1 h2 h3 => lv_aloadN hc.1 hc.2.1 hd (mm_lk h3 hl) (kk H locs ls h1 h2 h3)
theorem g_astoreN_n {i : Fin 4} {lv' : List (Nat × Value)} (hc : mm_Cx V X cc nL own d k n) (hd : decode cc pc = .ok (.astore_n i, 1)) (hn : (i : Nat) < nL) (hl : ((i : Nat), Value.null) :: lv.filter (fun q => !(q.1 == (i : Nat)) && !(q.1 + 1 == (i : Nat) && q.2.category == 2)) = lv') (kk : mm_G V X nL (pc + 1) lv' (st) mem nx cells slots) : mm_G V X nL (pc) lv (.null :: st) mem nx cells slots :=
  fun H locs ls h1 h2 h3 => lv_astore_nN hc.1 hc.2.1 hd rfl h3 hn hl (fun ls' h' => kk H locs ls' h1 h2 h')
theorem g_astoreN {i : Nat} {lv' : List (Nat × Value)} (hc : mm_Cx V X cc nL own d k n) (hd : decode cc pc = .ok (.astore i, 2)) (hn : i < nL) (hl : (i, Value.null) :: lv.filter (fun q => !(q.1 == i) && !(q.1 + 1 == i && q.2.category == 2)) = lv') (kk : mm_G V X nL (pc + 2) lv' (st) mem nx cells slots) : mm_G V X nL (pc) lv (.null :: st) mem nx cells slots :=
  fun H locs ls h1 h2 h3 => lv_astoreN hc.1 hc.2.1 hd h3 hn hl (fun ls' h' => kk H locs ls' h1 h2 h')
theorem g_iinc {i : Nat} {a : Int} {x v : Int32} {lv' : List (Nat × Value)} (hc : mm_Cx V X cc nL own d k n) (hd : decode cc pc = .ok (.iinc i a, 3)) (h0 : lv.lookup i = some (.int x)) (hv : x + Int32.ofInt a = v) (hn : i < nL) (hl : (i, Value.int v) :: lv.filter (fun q => !(q.1 == i) && !(q.1 + 1 == i && q.2.category == 2)) = lv') (kk : mm_G V X nL (pc + 3) lv' (st) mem nx cells slots) : mm_G V X nL (pc) lv (st) mem nx cells slots := by
  intro H locs ls h1 h2 h3
  obtain ⟨j, hj⟩ := mm_lk_at h0
  exact lv_iinc hc.1 hc.2.1 hd h3 hj hv hn hl (fun ls' h' => kk H locs ls' h1 h2 h')
theorem g_iadd {x y : Int32} (hc : mm_Cx V X cc nL own d k n) (hd : decode cc pc = .ok (.iadd, 1))  (kk : mm_G V X nL (pc + 1) lv (.int (x + y) :: st) mem nx cells slots) : mm_G V X nL (pc) lv (.int y :: .int x :: st) mem nx cells slots :=
  fun H locs ls h1 h2 h3 => lv_iadd hc.1 hc.2.1 hd  (kk H locs ls h1 h2 h3)
theorem g_isub {x y : Int32} (hc : mm_Cx V X cc nL own d k n) (hd : decode cc pc = .ok (.isub, 1))  (kk : mm_G V X nL (pc + 1) lv (.int (x - y) :: st) mem nx cells slots) : mm_G V X nL (pc) lv (.int y :: .int x :: st) mem nx cells slots :=
  fun H locs ls h1 h2 h3 => lv_isub hc.1 hc.2.1 hd  (kk H locs ls h1 h2 h3)
theorem g_imul {x y : Int32} (hc : mm_Cx V X cc nL own d k n) (hd : decode cc pc = .ok (.imul, 1))  (kk : mm_G V X nL (pc + 1) lv (.int (x * y) :: st) mem nx cells slots) : mm_G V X nL (pc) lv (.int y :: .int x :: st) mem nx cells slots :=
  fun H locs ls h1 h2 h3 => lv_imul hc.1 hc.2.1 hd  (kk H locs ls h1 h2 h3)
theorem g_iand {x y : Int32} (hc : mm_Cx V X cc nL own d k n) (hd : decode cc pc = .ok (.iand, 1))  (kk : mm_G V X nL (pc + 1) lv (.int (x &&& y) :: st) mem nx cells slots) : mm_G V X nL (pc) lv (.int y :: .int x :: st) mem nx cells slots :=
  fun H locs ls h1 h2 h3 => lv_iand hc.1 hc.2.1 hd  (kk H locs ls h1 h2 h3)
theorem g_ior {x y : Int32} (hc : mm_Cx V X cc nL own d k n) (hd : decode cc pc = .ok (.ior, 1))  (kk : mm_G V X nL (pc + 1) lv (.int (x ||| y) :: st) mem nx cells slots) : mm_G V X nL (pc) lv (.int y :: .int x :: st) mem nx cells slots :=
  fun H locs ls h1 h2 h3 => lv_ior hc.1 hc.2.1 hd  (kk H locs ls h1 h2 h3)
theorem g_ixor {x y : Int32} (hc : mm_Cx V X cc nL own d k n) (hd : decode cc pc = .ok (.ixor, 1))  (kk : mm_G V X nL (pc + 1) lv (.int (x ^^^ y) :: st) mem nx cells slots) : mm_G V X nL (pc) lv (.int y :: .int x :: st) mem nx cells slots :=
  fun H locs ls h1 h2 h3 => lv_ixor hc.1 hc.2.1 hd  (kk H locs ls h1 h2 h3)
theorem g_ladd {x y : Int64} (hc : mm_Cx V X cc nL own d k n) (hd : decode cc pc = .ok (.ladd, 1))  (kk : mm_G V X nL (pc + 1) lv (.long (x + y) :: st) mem nx cells slots) : mm_G V X nL (pc) lv (.long y :: .long x :: st) mem nx cells slots :=
  fun H locs ls h1 h2 h3 => lv_ladd hc.1 hc.2.1 hd  (kk H locs ls h1 h2 h3)
theorem g_lsub {x y : Int64} (hc : mm_Cx V X cc nL own d k n) (hd : decode cc pc = .ok (.lsub, 1))  (kk : mm_G V X nL (pc + 1) lv (.long (x - y) :: st) mem nx cells slots) : mm_G V X nL (pc) lv (.long y :: .long x :: st) mem nx cells slots :=
  fun H locs ls h1 h2 h3 => lv_lsub hc.1 hc.2.1 hd  (kk H locs ls h1 h2 h3)
theorem g_lmul {x y : Int64} (hc : mm_Cx V X cc nL own d k n) (hd : decode cc pc = .ok (.lmul, 1))  (kk : mm_G V X nL (pc + 1) lv (.long (x * y) :: st) mem nx cells slots) : mm_G V X nL (pc) lv (.long y :: .long x :: st) mem nx cells slots :=
  fun H locs ls h1 h2 h3 => lv_lmul hc.1 hc.2.1 hd  (kk H locs ls h1 h2 h3)
theorem g_land {x y : Int64} (hc : mm_Cx V X cc nL own d k n) (hd : decode cc pc = .ok (.land, 1))  (kk : mm_G V X nL (pc + 1) lv (.long (x &&& y) :: st) mem nx cells slots) : mm_G V X nL (pc) lv (.long y :: .long x :: st) mem nx cells slots :=
  fun H locs ls h1 h2 h3 => lv_land hc.1 hc.2.1 hd  (kk H locs ls h1 h2 h3)
theorem g_lor {x y : Int64} (hc : mm_Cx V X cc nL own d k n) (hd : decode cc pc = .ok (.lor, 1))  (kk : mm_G V X nL (pc + 1) lv (.long (x ||| y) :: st) mem nx cells slots) : mm_G V X nL (pc) lv (.long y :: .long x :: st) mem nx cells slots :=
  fun H locs ls h1 h2 h3 => lv_lor hc.1 hc.2.1 hd  (kk H locs ls h1 h2 h3)
theorem g_lxor {x y : Int64} (hc : mm_Cx V X cc nL own d k n) (hd : decode cc pc = .ok (.lxor, 1))  (kk : mm_G V X nL (pc + 1) lv (.long (x ^^^ y) :: st) mem nx cells slots) : mm_G V X nL (pc) lv (.long y :: .long x :: st) mem nx cells slots :=
  fun H locs ls h1 h2 h3 => lv_lxor hc.1 hc.2.1 hd  (kk H locs ls h1 h2 h3)
theorem g_ineg {x : Int32} (hc : mm_Cx V X cc nL own d k n) (hd : decode cc pc = .ok (.ineg, 1))  (kk : mm_G V X nL (pc + 1) lv (.int (-x) :: st) mem nx cells slots) : mm_G V X nL (pc) lv (.int x :: st) mem nx cells slots :=
  fun H locs ls h1 h2 h3 => lv_ineg hc.1 hc.2.1 hd  (kk H locs ls h1 h2 h3)
theorem g_ishl {x y : Int32} (hc : mm_Cx V X cc nL own d k n) (hd : decode cc pc = .ok (.ishl, 1))  (kk : mm_G V X nL (pc + 1) lv (.int (x <<< (y &&& 31)) :: st) mem nx cells slots) : mm_G V X nL (pc) lv (.int y :: .int x :: st) mem nx cells slots :=
  fun H locs ls h1 h2 h3 => lv_ishl hc.1 hc.2.1 hd  (kk H locs ls h1 h2 h3)
theorem g_ishr {x y : Int32} (hc : mm_Cx V X cc nL own d k n) (hd : decode cc pc = .ok (.ishr, 1))  (kk : mm_G V X nL (pc + 1) lv (.int (x >>> (y &&& 31)) :: st) mem nx cells slots) : mm_G V X nL (pc) lv (.int y :: .int x :: st) mem nx cells slots :=
  fun H locs ls h1 h2 h3 => lv_ishr hc.1 hc.2.1 hd  (kk H locs ls h1 h2 h3)
theorem g_i2l {x : Int32} {v : Int64} (hc : mm_Cx V X cc nL own d k n) (hd : decode cc pc = .ok (.i2l, 1)) (hv : x.toInt64 = v) (kk : mm_G V X nL (pc + 1) lv (.long v :: st) mem nx cells slots) : mm_G V X nL (pc) lv (.int x :: st) mem nx cells slots :=
  fun H locs ls h1 h2 h3 => lv_i2l hc.1 hc.2.1 hd hv (kk H locs ls h1 h2 h3)
theorem g_l2i {x : Int64} {v : Int32} (hc : mm_Cx V X cc nL own d k n) (hd : decode cc pc = .ok (.l2i, 1)) (hv : x.toInt32 = v) (kk : mm_G V X nL (pc + 1) lv (.int v :: st) mem nx cells slots) : mm_G V X nL (pc) lv (.long x :: st) mem nx cells slots :=
  fun H locs ls h1 h2 h3 => lv_l2i hc.1 hc.2.1 hd hv (kk H locs ls h1 h2 h3)
theorem g_i2b {x v : Int32} (hc : mm_Cx V X cc nL own d k n) (hd : decode cc pc = .ok (.i2b, 1)) (hv : x.toInt8.toInt32 = v) (kk : mm_G V X nL (pc + 1) lv (.int v :: st) mem nx cells slots) : mm_G V X nL (pc) lv (.int x :: st) mem nx cells slots :=
  fun H locs ls h1 h2 h3 => lv_i2b hc.1 hc.2.1 hd hv (kk H locs ls h1 h2 h3)
theorem g_i2c {x v : Int32} (hc : mm_Cx V X cc nL own d k n) (hd : decode cc pc = .ok (.i2c, 1)) (hv : (x.toUInt32 % 65536).toInt32 = v) (kk : mm_G V X nL (pc + 1) lv (.int v :: st) mem nx cells slots) : mm_G V X nL (pc) lv (.int x :: st) mem nx cells slots :=
  fun H locs ls h1 h2 h3 => lv_i2c hc.1 hc.2.1 hd hv (kk H locs ls h1 h2 h3)
theorem g_iushr {x y v : Int32} (hc : mm_Cx V X cc nL own d k n) (hd : decode cc pc = .ok (.iushr, 1)) (hv : (x.toUInt32 >>> (y.toUInt32 &&& Int32.toUInt32 31)).toInt32 = v) (kk : mm_G V X nL (pc + 1) lv (.int v :: st) mem nx cells slots) : mm_G V X nL (pc) lv (.int y :: .int x :: st) mem nx cells slots :=
  fun H locs ls h1 h2 h3 => lv_iushr hc.1 hc.2.1 hd hv (kk H locs ls h1 h2 h3)
theorem g_lushr {x v : Int64} {y : Int32} (hc : mm_Cx V X cc nL own d k n) (hd : decode cc pc = .ok (.lushr, 1)) (hv : (x.toUInt64 >>> (y.toInt64.toUInt64 &&& Int64.toUInt64 63)).toInt64 = v) (kk : mm_G V X nL (pc + 1) lv (.long v :: st) mem nx cells slots) : mm_G V X nL (pc) lv (.int y :: .long x :: st) mem nx cells slots :=
  fun H locs ls h1 h2 h3 => lv_lushr hc.1 hc.2.1 hd hv (kk H locs ls h1 h2 h3)
theorem g_lshl {x v : Int64} {y : Int32} (hc : mm_Cx V X cc nL own d k n) (hd : decode cc pc = .ok (.lshl, 1)) (hv : x <<< (y.toInt64 &&& 63) = v) (kk : mm_G V X nL (pc + 1) lv (.long v :: st) mem nx cells slots) : mm_G V X nL (pc) lv (.int y :: .long x :: st) mem nx cells slots :=
  fun H locs ls h1 h2 h3 => lv_lshl hc.1 hc.2.1 hd hv (kk H locs ls h1 h2 h3)
theorem g_lshr {x v : Int64} {y : Int32} (hc : mm_Cx V X cc nL own d k n) (hd : decode cc pc = .ok (.lshr, 1)) (hv : x >>> (y.toInt64 &&& 63) = v) (kk : mm_G V X nL (pc + 1) lv (.long v :: st) mem nx cells slots) : mm_G V X nL (pc) lv (.int y :: .long x :: st) mem nx cells slots :=
  fun H locs ls h1 h2 h3 => lv_lshr hc.1 hc.2.1 hd hv (kk H locs ls h1 h2 h3)
theorem g_lcmp {x y : Int64} (hc : mm_Cx V X cc nL own d k n) (hd : decode cc pc = .ok (.lcmp, 1))  (kk : mm_G V X nL (pc + 1) lv (.int (lg_cmp x y) :: st) mem nx cells slots) : mm_G V X nL (pc) lv (.long y :: .long x :: st) mem nx cells slots :=
  fun H locs ls h1 h2 h3 => W.lcmp hc.1 hc.2.1 hd  (kk H locs ls h1 h2 h3)
theorem g_dup {va : Value} (hc : mm_Cx V X cc nL own d k n) (hd : decode cc pc = .ok (.dup, 1)) (hva : va.category = 1) (kk : mm_G V X nL (pc + 1) lv (va :: va :: st) mem nx cells slots) : mm_G V X nL (pc) lv (va :: st) mem nx cells slots :=
  fun H locs ls h1 h2 h3 => lv_dup hc.1 hc.2.1 hd hva (kk H locs ls h1 h2 h3)
theorem g_pop {va : Value} (hc : mm_Cx V X cc nL own d k n) (hd : decode cc pc = .ok (.pop, 1)) (hva : va.category = 1) (kk : mm_G V X nL (pc + 1) lv (st) mem nx cells slots) : mm_G V X nL (pc) lv (va :: st) mem nx cells slots :=
  fun H locs ls h1 h2 h3 => lv_pop hc.1 hc.2.1 hd hva (kk H locs ls h1 h2 h3)
theorem g_dup_x1 {va vb : Value} (hc : mm_Cx V X cc nL own d k n) (hd : decode cc pc = .ok (.dup_x1, 1)) (hva : va.category = 1) (hvb : vb.category = 1) (kk : mm_G V X nL (pc + 1) lv (va :: vb :: va :: st) mem nx cells slots) : mm_G V X nL (pc) lv (va :: vb :: st) mem nx cells slots :=
  fun H locs ls h1 h2 h3 => lv_dup_x1 hc.1 hc.2.1 hd hva hvb (kk H locs ls h1 h2 h3)
theorem g_dup_x2 {va vb vd : Value} (hc : mm_Cx V X cc nL own d k n) (hd : decode cc pc = .ok (.dup_x2, 1)) (hva : va.category = 1) (hvb : vb.category = 1) (hvd : vd.category = 1) (kk : mm_G V X nL (pc + 1) lv (va :: vb :: vd :: va :: st) mem nx cells slots) : mm_G V X nL (pc) lv (va :: vb :: vd :: st) mem nx cells slots :=
  fun H locs ls h1 h2 h3 => lv_dup_x2 hc.1 hc.2.1 hd hva hvb hvd (kk H locs ls h1 h2 h3)
theorem g_dup2_11 {va vb : Value} (hc : mm_Cx V X cc nL own d k n) (hd : decode cc pc = .ok (.dup2, 1)) (hva : va.category = 1) (hvb : vb.category = 1) (kk : mm_G V X nL (pc + 1) lv (va :: vb :: va :: vb :: st) mem nx cells slots) : mm_G V X nL (pc) lv (va :: vb :: st) mem nx cells slots :=
  fun H locs ls h1 h2 h3 => lv_dup2_11 hc.1 hc.2.1 hd hva hvb (kk H locs ls h1 h2 h3)
theorem g_if_eq {x : Int32} {off : Int} {tgt : Nat} (hc : mm_Cx V X cc nL own d k n) (hd : decode cc pc = .ok (.ifCond .eq off, 3)) (ht : (pc : Int) + off = (tgt : Int)) (kt : x = 0 → mm_G V X nL (tgt) lv (st) mem nx cells slots) (kf : ¬ (x = 0) → mm_G V X nL (pc + 3) lv (st) mem nx cells slots) : mm_G V X nL (pc) lv (.int x :: st) mem nx cells slots :=
  fun H locs ls h1 h2 h3 => lv_if_eq hc.1 hc.2.1 hd ht (fun c => kt c H locs ls h1 h2 h3) (fun c => kf c H locs ls h1 h2 h3)
theorem g_icmp_eq {x y : Int32} {off : Int} {tgt : Nat} (hc : mm_Cx V X cc nL own d k n) (hd : decode cc pc = .ok (.if_icmp .eq off, 3)) (ht : (pc : Int) + off = (tgt : Int)) (kt : x = y → mm_G V X nL (tgt) lv (st) mem nx cells slots) (kf : ¬ (x = y) → mm_G V X nL (pc + 3) lv (st) mem nx cells slots) : mm_G V X nL (pc) lv (.int y :: .int x :: st) mem nx cells slots :=
  fun H locs ls h1 h2 h3 => lv_icmp_eq hc.1 hc.2.1 hd ht (fun c => kt c H locs ls h1 h2 h3) (fun c => kf c H locs ls h1 h2 h3)
theorem g_if_ne {x : Int32} {off : Int} {tgt : Nat} (hc : mm_Cx V X cc nL own d k n) (hd : decode cc pc = .ok (.ifCond .ne off, 3)) (ht : (pc : Int) + off = (tgt : Int)) (kt : ¬ x = 0 → mm_G V X nL (tgt) lv (st) mem nx cells slots) (kf : x = 0 → mm_G V X nL (pc + 3) lv (st) mem nx cells slots) : mm_G V X nL (pc) lv (.int x :: st) mem nx cells slots :=
  fun H locs ls h1 h2 h3 => lv_if_ne hc.1 hc.2.1 hd ht (fun c => kt c H locs ls h1 h2 h3) (fun c => kf c H locs ls h1 h2 h3)
theorem g_icmp_ne {x y : Int32} {off : Int} {tgt : Nat} (hc : mm_Cx V X cc nL own d k n) (hd : decode cc pc = .ok (.if_icmp .ne off, 3)) (ht : (pc : Int) + off = (tgt : Int)) (kt : ¬ x = y → mm_G V X nL (tgt) lv (st) mem nx cells slots) (kf : x = y → mm_G V X nL (pc + 3) lv (st) mem nx cells slots) : mm_G V X nL (pc) lv (.int y :: .int x :: st) mem nx cells slots :=
  fun H locs ls h1 h2 h3 => lv_icmp_ne hc.1 hc.2.1 hd ht (fun c => kt c H locs ls h1 h2 h3) (fun c => kf c H locs ls h1 h2 h3)
theorem g_if_lt {x : Int32} {off : Int} {tgt : Nat} (hc : mm_Cx V X cc nL own d k n) (hd : decode cc pc = .ok (.ifCond .lt off, 3)) (ht : (pc : Int) + off = (tgt : Int)) (kt : x < 0 → mm_G V X nL (tgt) lv (st) mem nx cells slots) (kf : ¬ (x < 0) → mm_G V X nL (pc + 3) lv (st) mem nx cells slots) : mm_G V X nL (pc) lv (.int x :: st) mem nx cells slots :=
  fun H locs ls h1 h2 h3 => lv_if_lt hc.1 hc.2.1 hd ht (fun c => kt c H locs ls h1 h2 h3) (fun c => kf c H locs ls h1 h2 h3)
theorem g_icmp_lt {x y : Int32} {off : Int} {tgt : Nat} (hc : mm_Cx V X cc nL own d k n) (hd : decode cc pc = .ok (.if_icmp .lt off, 3)) (ht : (pc : Int) + off = (tgt : Int)) (kt : x < y → mm_G V X nL (tgt) lv (st) mem nx cells slots) (kf : ¬ (x < y) → mm_G V X nL (pc + 3) lv (st) mem nx cells slots) : mm_G V X nL (pc) lv (.int y :: .int x :: st) mem nx cells slots :=
  fun H locs ls h1 h2 h3 => lv_icmp_lt hc.1 hc.2.1 hd ht (fun c => kt c H locs ls h1 h2 h3) (fun c => kf c H locs ls h1 h2 h3)
theorem g_if_ge {x : Int32} {off : Int} {tgt : Nat} (hc : mm_Cx V X cc nL own d k n) (hd : decode cc pc = .ok (.ifCond .ge off, 3)) (ht : (pc : Int) + off = (tgt : Int)) (kt : 0 ≤ x → mm_G V X nL (tgt) lv (st) mem nx cells slots) (kf : ¬ (0 ≤ x) → mm_G V X nL (pc + 3) lv (st) mem nx cells slots) : mm_G V X nL (pc) lv (.int x :: st) mem nx cells slots :=
  fun H locs ls h1 h2 h3 => lv_if_ge hc.1 hc.2.1 hd ht (fun c => kt c H locs ls h1 h2 h3) (fun c => kf c H locs ls h1 h2 h3)
theorem g_icmp_ge {x y : Int32} {off : Int} {tgt : Nat} (hc : mm_Cx V X cc nL own d k n) (hd : decode cc pc = .ok (.if_icmp .ge off, 3)) (ht : (pc : Int) + off = (tgt : Int)) (kt : y ≤ x → mm_G V X nL (tgt) lv (st) mem nx cells slots) (kf : ¬ (y ≤ x) → mm_G V X nL (pc + 3) lv (st) mem nx cells slots) : mm_G V X nL (pc) lv (.int y :: .int x :: st) mem nx cells slots :=
  fun H locs ls h1 h2 h3 => lv_icmp_ge hc.1 hc.2.1 hd ht (fun c => kt c H locs ls h1 h2 h3) (fun c => kf c H locs ls h1 h2 h3)
theorem g_if_gt {x : Int32} {off : Int} {tgt : Nat} (hc : mm_Cx V X cc nL own d k n) (hd : decode cc pc = .ok (.ifCond .gt off, 3)) (ht : (pc : Int) + off = (tgt : Int)) (kt : 0 < x → mm_G V X nL (tgt) lv (st) mem nx cells slots) (kf : ¬ (0 < x) → mm_G V X nL (pc + 3) lv (st) mem nx cells slots) : mm_G V X nL (pc) lv (.int x :: st) mem nx cells slots :=
  fun H locs ls h1 h2 h3 => lv_if_gt hc.1 hc.2.1 hd ht (fun c => kt c H locs ls h1 h2 h3) (fun c => kf c H locs ls h1 h2 h3)
theorem g_icmp_gt {x y : Int32} {off : Int} {tgt : Nat} (hc : mm_Cx V X cc nL own d k n) (hd : decode cc pc = .ok (.if_icmp .gt off, 3)) (ht : (pc : Int) + off = (tgt : Int)) (kt : y < x → mm_G V X nL (tgt) lv (st) mem nx cells slots) (kf : ¬ (y < x) → mm_G V X nL (pc + 3) lv (st) mem nx cells slots) : mm_G V X nL (pc) lv (.int y :: .int x :: st) mem nx cells slots :=
  fun H locs ls h1 h2 h3 => lv_icmp_gt hc.1 hc.2.1 hd ht (fun c => kt c H locs ls h1 h2 h3) (fun c => kf c H locs ls h1 h2 h3)
theorem g_if_le {x : Int32} {off : Int} {tgt : Nat} (hc : mm_Cx V X cc nL own d k n) (hd : decode cc pc = .ok (.ifCond .le off, 3)) (ht : (pc : Int) + off = (tgt : Int)) (kt : x ≤ 0 → mm_G V X nL (tgt) lv (st) mem nx cells slots) (kf : ¬ (x ≤ 0) → mm_G V X nL (pc + 3) lv (st) mem nx cells slots) : mm_G V X nL (pc) lv (.int x :: st) mem nx cells slots :=
  fun H locs ls h1 h2 h3 => lv_if_le hc.1 hc.2.1 hd ht (fun c => kt c H locs ls h1 h2 h3) (fun c => kf c H locs ls h1 h2 h3)
theorem g_icmp_le {x y : Int32} {off : Int} {tgt : Nat} (hc : mm_Cx V X cc nL own d k n) (hd : decode cc pc = .ok (.if_icmp .le off, 3)) (ht : (pc : Int) + off = (tgt : Int)) (kt : x ≤ y → mm_G V X nL (tgt) lv (st) mem nx cells slots) (kf : ¬ (x ≤ y) → mm_G V X nL (pc + 3) lv (st) mem nx cells slots) : mm_G V X nL (pc) lv (.int y :: .int x :: st) mem nx cells slots :=
  fun H locs ls h1 h2 h3 => lv_icmp_le hc.1 hc.2.1 hd ht (fun c => kt c H locs ls h1 h2 h3) (fun c => kf c H locs ls h1 h2 h3)
theorem g_goto {off : Int} {tgt : Nat} (hc : mm_Cx V X cc nL own d k n) (hd : decode cc pc = .ok (.goto off, 3)) (ht : (pc : Int) + off = (tgt : Int)) (kk : mm_G V X nL (tgt) lv (st) mem nx cells slots) : mm_G V X nL (pc) lv (st) mem nx cells slots :=
  fun H locs ls h1 h2 h3 => lv_goto hc.1 hc.2.1 hd ht (kk H locs ls h1 h2 h3)
theorem g_ifnonnull {x : Nat} {off : Int} {tgt : Nat} (hc : mm_Cx V X cc nL own d k n) (hd : decode cc pc = .ok (.ifnonnull off, 3)) (ht : (pc : Int) + off = (tgt : Int)) (kk : mm_G V X nL (tgt) lv (st) mem nx cells slots) : mm_G V X nL (pc) lv (.ref x :: st) mem nx cells slots :=
  fun H locs ls h1 h2 h3 => lv_ifnonnull hc.1 hc.2.1 hd ht (kk H locs ls h1 h2 h3)
theorem g_ifnull {x : Nat} {off : Int} (hc : mm_Cx V X cc nL own d k n) (hd : decode cc pc = .ok (.ifnull off, 3)) (kk : mm_G V X nL (pc + 3) lv (st) mem nx cells slots) : mm_G V X nL (pc) lv (.ref x :: st) mem nx cells slots :=
  fun H locs ls h1 h2 h3 => lv_ifnull hc.1 hc.2.1 hd (kk H locs ls h1 h2 h3)
theorem g_ifnullN {off : Int} {tgt : Nat} (hc : mm_Cx V X cc nL own d k n) (hd : decode cc pc = .ok (.ifnull off, 3)) (ht : (pc : Int) + off = (tgt : Int)) (kk : mm_G V X nL (tgt) lv (st) mem nx cells slots) : mm_G V X nL (pc) lv (.null :: st) mem nx cells slots :=
  fun H locs ls h1 h2 h3 => lv_ifnullN hc.1 hc.2.1 hd ht (kk H locs ls h1 h2 h3)
theorem g_ifnonnullN {off : Int} (hc : mm_Cx V X cc nL own d k n) (hd : decode cc pc = .ok (.ifnonnull off, 3)) (kk : mm_G V X nL (pc + 3) lv (st) mem nx cells slots) : mm_G V X nL (pc) lv (.null :: st) mem nx cells slots :=
  fun H locs ls h1 h2 h3 => lv_ifnonnullN hc.1 hc.2.1 hd (kk H locs ls h1 h2 h3)
theorem g_tableOut {dflt lo hi : Int} {offs : Array Int} {len : Nat} {x : Int32} {tgt : Nat} (hc : mm_Cx V X cc nL own d k n) (hd : decode cc pc = .ok (.tableswitch dflt lo hi offs, len)) (h : x.toInt < lo ∨ hi < x.toInt) (ht : (pc : Int) + dflt = (tgt : Int)) (kk : mm_G V X nL (tgt) lv (st) mem nx cells slots) : mm_G V X nL (pc) lv (.int x :: st) mem nx cells slots :=
  fun H locs ls h1 h2 h3 => lv_tableOut hc.1 hc.2.1 hd h ht (kk H locs ls h1 h2 h3)
theorem g_tableIn {dflt lo hi : Int} {offs : Array Int} {len : Nat} {x : Int32} {off : Int} {tgt : Nat} (hc : mm_Cx V X cc nL own d k n) (hd : decode cc pc = .ok (.tableswitch dflt lo hi offs, len)) (q1 : ¬ x.toInt < lo) (q2 : ¬ hi < x.toInt) (ho : offs[(x.toInt - lo).toNat]? = some off) (ht : (pc : Int) + off = (tgt : Int)) (kk : mm_G V X nL (tgt) lv (st) mem nx cells slots) : mm_G V X nL (pc) lv (.int x :: st) mem nx cells slots :=
  fun H locs ls h1 h2 h3 => lv_tableIn hc.1 hc.2.1 hd q1 q2 ho ht (kk H locs ls h1 h2 h3)
theorem g_ldcI {idx : Nat} {v : Int32} (hc : mm_Cx V X cc nL own d k n) (hd : decode cc pc = .ok (.ldc idx, 2)) (hw : Cond.constant own idx v ∈ mm_TB) (kk : mm_G V X nL (pc + 2) lv (.int v :: st) mem nx cells slots) : mm_G V X nL (pc) lv (st) mem nx cells slots :=
  fun H locs ls h1 h2 h3 => lv_ldc hc.1 hc.2.1 hc.2.2.2.1 (hc.2.2.2.2.1 _ hw) hd (kk H locs ls h1 h2 h3)
theorem g_ldc2 {idx : Nat} {v : Int64} (hc : mm_Cx V X cc nL own d k n) (hd : decode cc pc = .ok (.ldc2_w idx, 3)) (hw : Cond.constantLong own idx v ∈ mm_TB) (kk : mm_G V X nL (pc + 3) lv (.long v :: st) mem nx cells slots) : mm_G V X nL (pc) lv (st) mem nx cells slots :=
  fun H locs ls h1 h2 h3 => lv_ldc2 hc.1 hc.2.1 hc.2.2.2.1 (hc.2.2.2.2.1 _ hw) hd (kk H locs ls h1 h2 h3)
end MM
