/-! THE MINI MACHINE: cells by their places behind the start's heap (s0.heap.size + i), ints as Int, a memory i k ↦ Int; a shape says what each cell is -/
abbrev jv_Mem : Type := Int → Int → Int
abbrev jv_i (x : Int) : Value := .int (Int32.ofInt x)
def jv_up (g : jv_Mem) (i k v : Int) : jv_Mem := fun a b => if a = i ∧ b = k then v else g a b
theorem jv_up_s (g : jv_Mem) (i k v : Int) : jv_up g i k v i k = v := by simp [jv_up]
theorem jv_up_i {g : jv_Mem} {i k v a b : Int} (h : a ≠ i) : jv_up g i k v a b = g a b := by simp [jv_up, h]
theorem jv_up_k {g : jv_Mem} {i k v a b : Int} (h : b ≠ k) : jv_up g i k v a b = g a b := by simp [jv_up, h]
/-- what a cell is: an array (0 int, 1 boolean, 2 long, 3 puzzles, 4 solvers; its length; how many references stand in it), or an object (its class's number; its fields: none null, some none a number, some (some i) the cell i) -/
abbrev jv_Kd : Type := (Nat × Nat × Nat) ⊕ (Nat × List (Option (Option Int)))
abbrev jv_Sh : Type := Int → Option jv_Kd
def jv_fs (B : Nat) (g : jv_Mem) (i : Int) : Nat → List (Option (Option Int)) → List Value
  | _, [] => []
  | k, none :: r => .null :: jv_fs B g i (k + 1) r
  | k, some none :: r => jv_i (g i k) :: jv_fs B g i (k + 1) r
  | k, some (some t) :: r => .ref (B + t.toNat) :: jv_fs B g i (k + 1) r
def jv_fv (B : Nat) (g : jv_Mem) (i : Int) (k : Nat) : Option (Option Int) → Value
  | none => .null
  | some none => jv_i (g i k)
  | some (some t) => .ref (B + t.toNat)
/-- the cells that stand in the arrays of references -/
def jv_ra : Nat → Nat → Nat
  | 0, j => 30 + 3 * j
  | _, j => 90 + 6 * j
def jv_E (B : Nat) (ids : Nat → ClassId) (g : jv_Mem) (i : Int) : jv_Kd → va_E
  | .inl (0, n, _) => .inl (ids 0, n, .inl (fun j => Int32.ofInt (g i j)))
  | .inl (1, n, _) => .inl (ids 1, n, .inl (fun j => Int32.ofInt (g i j)))
  | .inl (2, n, _) => .inl (ids 2, n, .inr (.inl (fun j => Int64.ofInt (g i j))))
  | .inl (c + 3, n, mm) => .inl (ids (c + 3), n, .inr (.inr (.inr (.inr (fun j => if j < mm then some (B + jv_ra c j) else none)))))
  | .inr (ci, ds) => .inr (ci, jv_fs B g i 0 ds)
def jv_ty : Nat → FieldType
  | 0 => .int
  | 1 => .boolean
  | 2 => .byte
  | 3 => .object RX3
  | _ => .object RX4
def jv_tys (ids : Nat → ClassId) : List (ClassId × FieldType) := [(ids 0, .int), (ids 1, .boolean), (ids 2, .byte), (ids 3, .object RX3), (ids 4, .object RX4)]
def jv_H (B : Nat) (D : va_G) (ids : Nat → ClassId) (sh : jv_Sh) (g : jv_Mem) (H : Heap) : Prop := ∀ (i : Int) (k : jv_Kd), sh i = some k → 0 ≤ i ∧ va_at D vwCl (B + i.toNat, jv_E B ids g i k) H
def jv_Z (s0 : State) (b0 : Addr) (D : va_G) (ids : Nat → ClassId) : Prop := (∀ w ∈ lw_tbl, w.before #[Value.ref b0] s0 = true) ∧ va_K D vwCl (jv_tys ids) s0
def jv_G (s0 : State) (b0 : Addr) (D : va_G) (ids : Nat → ClassId) (U : State) : Prop := jv_Z s0 b0 D ids ∧ s0.WarmedH U.vm ∧ s0.heap.size ≤ U.heap.size ∧ ∀ q : Nat, q < s0.heap.size → U.heap[q]? = s0.heap[q]?
/-- a method's fixed things -/
def jv_C (p : Program) (s : State) (m : MethodId) (args : Array Value) (c : Code) (cc : ByteArray) (own : String) (s0 : State) (b0 : Addr) (D : va_G) (ids : Nat → ClassId) : Prop :=
  p.tables.exec = Jvm.exec ∧ c.code = cc ∧ s.vm.findClass own = some m.cls ∧ jv_G s0 b0 D ids s
theorem jv_G.word {s0 : State} {b0 : Addr} {D : va_G} {ids : Nat → ClassId} {U : State} (h : jv_G s0 b0 D ids U) {w : Cond} (hw : w ∈ lw_tbl) (hg : goodWord w = true) {a : Array Value} : w.before a U = true :=
  word_at h.2.1 (good_of_word hg) (h.1.1 w hw)
theorem jv_G.K {s0 : State} {b0 : Addr} {D : va_G} {ids : Nat → ClassId} {U : State} (h : jv_G s0 b0 D ids U) : va_K D vwCl (jv_tys ids) U := va_K.moved h.2.1.alike h.1.2
def jv_tb : List Cond := lw_tbl.filter goodWord
theorem jv_tb_in {w : Cond} (h : w ∈ lw_tbl) (hg : goodWord w = true) : w ∈ jv_tb := List.mem_filter.mpr ⟨h, hg⟩
theorem jv_G.hts {s0 : State} {b0 : Addr} {D : va_G} {ids : Nat → ClassId} {U : State} (h : jv_G s0 b0 D ids U) {a : Array Value} : ∀ w ∈ jv_tb, w.before a U = true := fun w hw => h.word (List.mem_filter.mp hw).1 (List.mem_filter.mp hw).2
/-- the locals as a list -/
def jv_la : Nat → List (Option Value) → List (Nat × Value)
  | _, [] => []
  | k, none :: r => jv_la (k + 1) r
  | k, some v :: r => (k, v) :: jv_la (k + 1) r
theorem jv_la_mem : ∀ (ls : List (Option Value)) (k : Nat) (q : Nat × Value), q ∈ jv_la k ls ↔ ∃ i, q.1 = k + i ∧ ls[i]? = some (some q.2) := by
  intro ls
  induction ls with
  | nil => intro k q; simp [jv_la]
  | cons a r ih =>
    intro k q
    have key : (∃ i, q.1 = k + 1 + i ∧ r[i]? = some (some q.2)) ↔ ∃ i, q.1 = k + (i + 1) ∧ (a :: r)[i + 1]? = some (some q.2) := by
      constructor
      · rintro ⟨i, h1, h2⟩; exact ⟨i, by omega, by simpa using h2⟩
      · rintro ⟨i, h1, h2⟩; exact ⟨i, by omega, by simpa using h2⟩
    have split : (∃ i, q.1 = k + i ∧ (a :: r)[i]? = some (some q.2)) ↔ (q.1 = k ∧ a = some q.2) ∨ ∃ i, q.1 = k + (i + 1) ∧ (a :: r)[i + 1]? = some (some q.2) := by
      constructor
      · rintro ⟨i, h1, h2⟩
        cases i with
        | zero => exact Or.inl ⟨by omega, by simpa using h2⟩
        | succ i => exact Or.inr ⟨i, h1, h2⟩
      · rintro (⟨h1, h2⟩ | ⟨i, h1, h2⟩)
        · exact ⟨0, by omega, by simp [h2]⟩
        · exact ⟨i + 1, h1, h2⟩
    rw [split, ← key]
    cases a with
    | none => simp [jv_la, ih]
    | some v =>
      simp only [jv_la, List.mem_cons, ih]
      constructor
      · rintro (h | h)
        · left; subst h; exact ⟨rfl, rfl⟩
        · exact Or.inr h
      · rintro (⟨h1, h2⟩ | h)
        · left
          cases h2
          obtain ⟨x, y⟩ := q
          simp_all
        · exact Or.inr h
def jv_L (arr : Array Slot) (n : Nat) (ls : List (Option Value)) : Prop := lv_has arr n (jv_la 0 ls) ∧ ∀ v, some v ∈ ls → v.category = 1
theorem jv_L.at {arr : Array Slot} {n : Nat} {ls : List (Option Value)} (h : jv_L arr n ls) {i : Nat} {v : Value} (hi : ls[i]? = some (some v)) : arr[i]? = some (.val v) :=
  h.1.2.2 (i, v) ((jv_la_mem ls 0 (i, v)).mpr ⟨i, by simp, hi⟩)
theorem jv_L.set {arr arr' : Array Slot} {n i : Nat} {v : Value} {ls ls' : List (Option Value)} (h : jv_L arr n ls) (hc : v.category = 1) (hs : ls.set i (some v) = ls') (h' : lv_has arr' n ((i, v) :: (jv_la 0 ls).filter (fun q => !(q.1 == i) && !(q.1 + 1 == i && q.2.category == 2)))) : jv_L arr' n ls' := by
  subst hs
  refine ⟨⟨h'.1, h'.2.1, fun q hq => ?_⟩, fun w hw => ?_⟩
  · obtain ⟨j, h1, h2⟩ := (jv_la_mem _ 0 q).mp hq
    refine h'.2.2 q ?_
    have hj : q.1 = j := by omega
    rw [List.getElem?_set] at h2
    by_cases hij : i = j
    · rw [if_pos hij] at h2
      split at h2
      · simp only [Option.some.injEq] at h2
        refine List.mem_cons.mpr (Or.inl ?_)
        obtain ⟨x, y⟩ := q
        simp_all
      · cases h2
    · rw [if_neg hij] at h2
      refine List.mem_cons.mpr (Or.inr (List.mem_filter.mpr ⟨(jv_la_mem _ 0 q).mpr ⟨j, h1, h2⟩, ?_⟩))
      have hcat := h.2 q.2 (List.mem_of_getElem? h2)
      have e1 : (q.1 == i) = false := by simp; omega
      simp [e1, hcat]
  · rcases List.mem_or_eq_of_mem_set hw with h1 | h1
    · exact h.2 w h1
    · cases h1; exact hc
theorem jv_L.entry (vs : List Value) {n : Nat} (h : (lg_sl vs).length ≤ n) (hc : ∀ v ∈ vs, v.category = 1) : jv_L ((lg_sl vs ++ List.replicate (n - (lg_sl vs).length) Slot.unset).toArray) n (vs.map some ++ List.replicate (n - vs.length) none) := by
  have h0 := lv_entry vs h
  refine ⟨⟨h0.1, h0.2.1, fun q hq => h0.2.2 q ?_⟩, fun v hv => ?_⟩
  · obtain ⟨j, h1, h2⟩ := (jv_la_mem _ 0 q).mp hq
    have hlt : j < vs.length := by
      rcases Nat.lt_or_ge j vs.length with h3 | h3
      · exact h3
      · rw [List.getElem?_append_right (by simpa using h3)] at h2
        have := List.mem_of_getElem? h2
        simp at this
    rw [List.getElem?_append_left (by simpa using hlt)] at h2
    have h3 : vs[j]? = some q.2 := by simpa using h2
    have key : ∀ (l : List Value) (k j : Nat) (v : Value), (∀ w ∈ l, w.category = 1) → l[j]? = some v → (k + j, v) ∈ lv_args k l := by
      intro l
      induction l with
      | nil => intro k j v _ h; simp at h
      | cons a r ih =>
        intro k j v hl h
        have ha : a.category = 1 := hl a List.mem_cons_self
        cases j with
        | zero =>
          simp only [List.getElem?_cons_zero, Option.some.injEq] at h
          subst h
          cases a <;> simp [lv_args]
        | succ j =>
          have := ih (k + 1) j v (fun w hw => hl w (List.mem_cons_of_mem _ hw)) (by simpa using h)
          have e : k + (j + 1) = k + 1 + j := by omega
          rw [e]
          cases a <;> simp_all [lv_args, Value.category]
    have := key vs 0 j q.2 hc h3
    have e : q = (0 + j, q.2) := by obtain ⟨x, y⟩ := q; simp_all
    rw [e]; exact this
  · rcases List.mem_append.mp hv with h1 | h1
    · obtain ⟨w, hw, he⟩ := List.mem_map.mp h1
      cases he; exact hc _ hw
    · have := List.eq_of_mem_replicate h1
      cases this
/-- the machine at pc with the locals ls, the stack st, over any heap that holds the memory g in the shape sh, comes to a state with Z -/
def jv_V (p : Program) (l : Launch) (e : Env) (R : Room) (s : State) (m : MethodId) (args : Array Value) (below : List Frame) (meth : Method) (c : Code) (cells slots : Nat) (Z : State → Prop) (s0 : State) (D : va_G) (ids : Nat → ClassId) (ex : Option Nat) (sh : jv_Sh) (g : jv_Mem) (pc : Nat) (ls : List (Option Value)) (st : List Value) : Prop :=
  ∀ (H : Heap) (locs : List Loc) (arr : Array Slot), jv_H s0.heap.size D ids sh g H → (∀ n, ex = some n → H.size = s0.heap.size + n) → va_S (fun q => s0.heap.size ≤ q) s.heap H locs → jv_L arr c.maxLocals ls → W p l e R s m args below meth c H locs cells slots Z (F0 m pc arr st)
