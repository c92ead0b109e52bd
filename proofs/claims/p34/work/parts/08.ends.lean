section JVE
variable {p : Program} {l : Launch} {e : Env} {R : Room} {s : State} {m : MethodId} {args : Array Value} {below : List Frame} {meth : Method} {c : Code} {cells slots : Nat} {Z : State → Prop} {s0 : State} {b0 : Addr} {D : va_G} {ids : Nat → ClassId} {ex ex' : Option Nat} {sh sh' : jv_Sh} {g : jv_Mem} {pc : Nat} {ls ls' : List (Option Value)} {st st0 : List Value} {cc : ByteArray} {own : String}
variable {y : MethodName} {cb : ByteArray} {mL : Nat} {rt : Option FieldType} {fr lo mc ms n idx : Nat} {Q : Option Value → jv_Mem → Prop} {X : String → jv_Mem → Prop} {av : List Value}
abbrev jv_ZM (below : List Frame) (s0 : State) (D : va_G) (ids : Nat → ClassId) (ex : Option Nat) (sh : jv_Sh) (Q : Option Value → jv_Mem → Prop) (args : Array Value) (s : State) (mc ms : Nat) : State → Prop := MQ below (jv_Qc s0 D ids ex sh Q) args s mc ms (fun q => s0.heap.size ≤ q)
abbrev jv_ZX (below : List Frame) (s0 : State) (D : va_G) (ids : Nat → ClassId) (sh : jv_Sh) (Q : Option Value → jv_Mem → Prop) (X : String → jv_Mem → Prop) (args : Array Value) (s : State) (mc ms : Nat) : State → Prop := vx_MQ below (jv_Qc s0 D ids none sh Q) (jv_Xc s0 D ids sh X) args s mc ms (fun q => s0.heap.size ≤ q)
theorem jv_endQ {v : Option Value} (hq : Q v g) {H : Heap} {locs : List Loc} (h1 : jv_H s0.heap.size D ids sh g H) (h2 : ∀ n, ex = some n → H.size = s0.heap.size + n) (h3 : va_S (fun q => s0.heap.size ≤ q) s.heap H locs) (t : State) (ht : t.heap = H) : jv_Qc s0 D ids ex sh Q args s (.returned v) t :=
  ⟨⟨v, g, rfl, hq, by rw [ht]; exact h1, fun n hn => by rw [ht]; exact h2 n hn⟩, h3.F ht⟩
theorem jv_iret (C : jv_C p s m args c cc own s0 b0 D ids) (hr : meth.sig.returnType = some .int) (hlocks : meth.locks = false) {x : Int} (hq : Q (some (jv_i x)) g) (hd : decode cc pc = .ok (.ireturn, 1)) (hc : Nat.ble cells mc = true ∧ Nat.ble slots ms = true) : jv_V p l e R s m args below meth c cells slots (jv_ZM below s0 D ids ex sh Q args s mc ms) s0 D ids ex sh g pc ls [jv_i x] :=
  fun _ _ _ h1 h2 h3 _ => W.widen (Nat.le_of_ble_eq_true hc.1) (Nat.le_of_ble_eq_true hc.2) (W.iret C.1 C.2.1 hr (fun t ht _ => jv_endQ hq h1 h2 h3 t ht) h3.2.2 hd hlocks)
theorem jv_zret (C : jv_C p s m args c cc own s0 b0 D ids) {ty : FieldType} (hr : meth.sig.returnType = some ty) (hlocks : meth.locks = false) {x : Int} (hn : narrow ty (jv_i x) = jv_i x) (hq : Q (some (jv_i x)) g) (hd : decode cc pc = .ok (.ireturn, 1)) (hc : Nat.ble cells mc = true ∧ Nat.ble slots ms = true) : jv_V p l e R s m args below meth c cells slots (jv_ZM below s0 D ids ex sh Q args s mc ms) s0 D ids ex sh g pc ls [jv_i x] :=
  fun _ _ _ h1 h2 h3 _ => W.widen (Nat.le_of_ble_eq_true hc.1) (Nat.le_of_ble_eq_true hc.2) (W.zret C.1 C.2.1 hr hn (fun t ht _ => jv_endQ hq h1 h2 h3 t ht) h3.2.2 hd hlocks)
theorem jv_vret (C : jv_C p s m args c cc own s0 b0 D ids) (hr : meth.sig.returnType = none) (hlocks : meth.locks = false) (hq : Q none g) (hd : decode cc pc = .ok (.return_, 1)) (hc : Nat.ble cells mc = true ∧ Nat.ble slots ms = true) : jv_V p l e R s m args below meth c cells slots (jv_ZM below s0 D ids ex sh Q args s mc ms) s0 D ids ex sh g pc ls [] :=
  fun _ _ _ h1 h2 h3 _ => W.widen (Nat.le_of_ble_eq_true hc.1) (Nat.le_of_ble_eq_true hc.2) (W.vret C.1 C.2.1 hr (fun t ht _ => jv_endQ hq h1 h2 h3 t ht) h3.2.2 hd hlocks)
theorem jv_aret (C : jv_C p s m args c cc own s0 b0 D ids) {K : String} (hr : meth.sig.returnType = some (.object K)) (hlocks : meth.locks = false) {a : Addr} (hq : Q (some (.ref a)) g) (hd : decode cc pc = .ok (.areturn, 1)) (hc : Nat.ble cells mc = true ∧ Nat.ble slots ms = true) : jv_V p l e R s m args below meth c cells slots (jv_ZM below s0 D ids ex sh Q args s mc ms) s0 D ids ex sh g pc ls [.ref a] :=
  fun _ _ _ h1 h2 h3 _ => W.widen (Nat.le_of_ble_eq_true hc.1) (Nat.le_of_ble_eq_true hc.2) (W.aret C.1 C.2.1 hr (Or.inl ⟨K, rfl⟩) (Or.inr ⟨a, rfl⟩) (fun t ht _ => jv_endQ hq h1 h2 h3 t ht) h3.2.2 hd hlocks)
theorem jv_xret (k : jv_V p l e R s m args below meth c cells slots (jv_ZM below s0 D ids none sh' Q args s mc ms) s0 D ids ex sh g pc ls st) : jv_V p l e R s m args below meth c cells slots (jv_ZX below s0 D ids sh' Q X args s mc ms) s0 D ids ex sh g pc ls st :=
  fun H locs arr h1 h2 h3 h4 => vx_ret (k H locs arr h1 h2 h3 h4)
/-- what is thrown here goes on to the caller -/
theorem jv_xout (ht : ∀ x ∈ c.exceptionTable.toList, False) (hlocks : meth.locks = false) {E : String} (hx : X E g) (hc : Nat.ble cells mc = true ∧ Nat.ble slots ms = true) : jv_VX p l e R s m args below meth c cells slots (jv_ZX below s0 D ids sh Q X args s mc ms) s0 D ids sh g pc ls st E :=
  fun _ _ _ _ _ h1 h3 _ hq hv hcl => vx_out (fun x hx => (ht x hx).elim) hlocks hq hv hcl (fun t ht' _ => ⟨⟨g, hx, by rw [ht']; exact h1⟩, h3.F ht'⟩) h3.2.2 (Nat.le_of_ble_eq_true hc.1) (Nat.le_of_ble_eq_true hc.2)
theorem jv_M.of (hy : plainName y.cls = true) (hl : Nat.ble (lg_sl av).length mL = true) (hca : av.all (fun v => v.category == 1) = true)
    (body : ∀ (p : Program) (e : Env) (s : State) (m : MethodId) (args : Array Value) (below : List Frame) (meth : Method) (c : Code), jv_C p s m args c cb y.cls s0 b0 D ids → mL = c.maxLocals → meth.sig.returnType = rt → meth.locks = false → meth.name = y.name → jv_V p l e (jv_rm fr lo mc ms) s m args below meth c 0 0 (jv_ZM below s0 D ids ex' sh' Q args s mc ms) s0 D ids ex sh g 0 (av.map some ++ List.replicate (mL - av.length) none) []) : jv_M l s0 b0 D ids y cb mL rt fr lo mc ms ex sh g av ex' sh' Q := by
  refine Met.ofW (cc := cb) (maxL := mL) (ret := rt) hy rfl ?_
  intro p e s m args below meth c s₁ B hml hv
  obtain ⟨rfl, hG, hH, hz⟩ := hv
  have hown : s.vm.findClass y.cls = some m.cls := findClass_of_methodNamed B.named
  have hin : meth.name = y.name := (name_of_methodNamed B.named B.method).1
  have hl' := Nat.le_of_ble_eq_true hl
  have hcat : ∀ v ∈ av, v.category = 1 := fun v hv => by have := List.all_eq_true.mp hca v hv; simpa using this
  rw [lg_entry_eq]
  exact body p e s m _ below meth c ⟨B.exec, B.bytes, hown, hG⟩ hml.symm B.returns B.notSynchronized hin s.heap [] _ hH hz va_S.rf (by rw [hml]; exact jv_L.entry av hl' hcat)
theorem jv_MX.of (hy : plainName y.cls = true) (hl : Nat.ble (lg_sl av).length mL = true) (hca : av.all (fun v => v.category == 1) = true)
    (body : ∀ (p : Program) (e : Env) (s : State) (m : MethodId) (args : Array Value) (below : List Frame) (meth : Method) (c : Code), jv_C p s m args c cb y.cls s0 b0 D ids → mL = c.maxLocals → meth.sig.returnType = rt → meth.locks = false → (∀ x ∈ c.exceptionTable.toList, False) → jv_V p l e (jv_rm fr lo mc ms) s m args below meth c 0 0 (jv_ZX below s0 D ids sh Q X args s mc ms) s0 D ids none sh g 0 (av.map some ++ List.replicate (mL - av.length) none) []) : jv_MX l s0 b0 D ids y cb mL rt fr lo mc ms sh g av Q X := by
  refine vx_ofW (cc := cb) (maxL := mL) (ret := rt) hy rfl ?_
  intro p e s m args below meth c s₁ B hml htab hv
  obtain ⟨rfl, hG, hH, hz⟩ := hv
  have hown : s.vm.findClass y.cls = some m.cls := findClass_of_methodNamed B.named
  have hl' := Nat.le_of_ble_eq_true hl
  have hcat : ∀ v ∈ av, v.category = 1 := fun v hv => by have := List.all_eq_true.mp hca v hv; simpa using this
  rw [lg_entry_eq]
  exact body p e s m _ below meth c ⟨B.exec, B.bytes, hown, hG⟩ hml.symm B.returns B.notSynchronized htab s.heap [] _ hH hz va_S.rf (by rw [hml]; exact jv_L.entry av hl' hcat)
end JVE
/-- loops: an invariant over the changed locals and the memory, with a number that falls -/
def jv_lp0 (body : (jv_Mem → Prop) → jv_Mem → Prop) (g : jv_Mem) : Prop := ∃ I : Nat → jv_Mem → Prop, (∃ n, I n g) ∧ ∀ (n : Nat) (g : jv_Mem), I n g → body (fun g' => ∃ n', n' < n ∧ I n' g') g
theorem jv_lp0.use {body : (jv_Mem → Prop) → jv_Mem → Prop} {g : jv_Mem} (h : jv_lp0 body g) (W : jv_Mem → Prop) (step : ∀ (K : jv_Mem → Prop), (∀ g, K g → W g) → ∀ g, body K g → W g) : W g := by
  obtain ⟨I, ⟨n, h0⟩, hs⟩ := h
  have key : ∀ (n : Nat) (g : jv_Mem), I n g → W g := by
    intro n
    induction n using Nat.strongRecOn with
    | ind n ih => exact fun g ha => step _ (fun g' h' => by obtain ⟨n', h1, h2⟩ := h'; exact ih n' h1 g' h2) g (hs n g ha)
  exact key n g h0
def jv_lp1 (body : (Int → jv_Mem → Prop) → Int → jv_Mem → Prop) (x1 : Int) (g : jv_Mem) : Prop := ∃ I : Nat → Int → jv_Mem → Prop, (∃ n, I n x1 g) ∧ ∀ (n : Nat) (x1 : Int) (g : jv_Mem), I n x1 g → body (fun x1' g' => ∃ n', n' < n ∧ I n' x1' g') x1 g
theorem jv_lp1.use {body : (Int → jv_Mem → Prop) → Int → jv_Mem → Prop} {x1 : Int} {g : jv_Mem} (h : jv_lp1 body x1 g) (W : Int → jv_Mem → Prop) (step : ∀ (K : Int → jv_Mem → Prop), (∀ x1 g, K x1 g → W x1 g) → ∀ x1 g, body K x1 g → W x1 g) : W x1 g := by
  obtain ⟨I, ⟨n, h0⟩, hs⟩ := h
  have key : ∀ (n : Nat) (x1 : Int) (g : jv_Mem), I n x1 g → W x1 g := by
    intro n
    induction n using Nat.strongRecOn with
    | ind n ih => exact fun x1 g ha => step _ (fun x1' g' h' => by obtain ⟨n', h1, h2⟩ := h'; exact ih n' h1 x1' g' h2) x1 g (hs n x1 g ha)
  exact key n x1 g h0
def jv_lp2 (body : (Int → Int → jv_Mem → Prop) → Int → Int → jv_Mem → Prop) (x1 x2 : Int) (g : jv_Mem) : Prop := ∃ I : Nat → Int → Int → jv_Mem → Prop, (∃ n, I n x1 x2 g) ∧ ∀ (n : Nat) (x1 x2 : Int) (g : jv_Mem), I n x1 x2 g → body (fun x1' x2' g' => ∃ n', n' < n ∧ I n' x1' x2' g') x1 x2 g
theorem jv_lp2.use {body : (Int → Int → jv_Mem → Prop) → Int → Int → jv_Mem → Prop} {x1 x2 : Int} {g : jv_Mem} (h : jv_lp2 body x1 x2 g) (W : Int → Int → jv_Mem → Prop) (step : ∀ (K : Int → Int → jv_Mem → Prop), (∀ x1 x2 g, K x1 x2 g → W x1 x2 g) → ∀ x1 x2 g, body K x1 x2 g → W x1 x2 g) : W x1 x2 g := by
  obtain ⟨I, ⟨n, h0⟩, hs⟩ := h
  have key : ∀ (n : Nat) (x1 x2 : Int) (g : jv_Mem), I n x1 x2 g → W x1 x2 g := by
    intro n
    induction n using Nat.strongRecOn with
    | ind n ih => exact fun x1 x2 g ha => step _ (fun x1' x2' g' h' => by obtain ⟨n', h1, h2⟩ := h'; exact ih n' h1 x1' x2' g' h2) x1 x2 g (hs n x1 x2 g ha)
  exact key n x1 x2 g h0
def jv_lp3 (body : (Int → Int → Int → jv_Mem → Prop) → Int → Int → Int → jv_Mem → Prop) (x1 x2 x3 : Int) (g : jv_Mem) : Prop := ∃ I : Nat → Int → Int → Int → jv_Mem → Prop, (∃ n, I n x1 x2 x3 g) ∧ ∀ (n : Nat) (x1 x2 x3 : Int) (g : jv_Mem), I n x1 x2 x3 g → body (fun x1' x2' x3' g' => ∃ n', n' < n ∧ I n' x1' x2' x3' g') x1 x2 x3 g
theorem jv_lp3.use {body : (Int → Int → Int → jv_Mem → Prop) → Int → Int → Int → jv_Mem → Prop} {x1 x2 x3 : Int} {g : jv_Mem} (h : jv_lp3 body x1 x2 x3 g) (W : Int → Int → Int → jv_Mem → Prop) (step : ∀ (K : Int → Int → Int → jv_Mem → Prop), (∀ x1 x2 x3 g, K x1 x2 x3 g → W x1 x2 x3 g) → ∀ x1 x2 x3 g, body K x1 x2 x3 g → W x1 x2 x3 g) : W x1 x2 x3 g := by
  obtain ⟨I, ⟨n, h0⟩, hs⟩ := h
  have key : ∀ (n : Nat) (x1 x2 x3 : Int) (g : jv_Mem), I n x1 x2 x3 g → W x1 x2 x3 g := by
    intro n
    induction n using Nat.strongRecOn with
    | ind n ih => exact fun x1 x2 x3 g ha => step _ (fun x1' x2' x3' g' h' => by obtain ⟨n', h1, h2⟩ := h'; exact ih n' h1 x1' x2' x3' g' h2) x1 x2 x3 g (hs n x1 x2 x3 g ha)
  exact key n x1 x2 x3 g h0
def jv_lp4 (body : (Int → Int → Int → Int → jv_Mem → Prop) → Int → Int → Int → Int → jv_Mem → Prop) (x1 x2 x3 x4 : Int) (g : jv_Mem) : Prop := ∃ I : Nat → Int → Int → Int → Int → jv_Mem → Prop, (∃ n, I n x1 x2 x3 x4 g) ∧ ∀ (n : Nat) (x1 x2 x3 x4 : Int) (g : jv_Mem), I n x1 x2 x3 x4 g → body (fun x1' x2' x3' x4' g' => ∃ n', n' < n ∧ I n' x1' x2' x3' x4' g') x1 x2 x3 x4 g
theorem jv_lp4.use {body : (Int → Int → Int → Int → jv_Mem → Prop) → Int → Int → Int → Int → jv_Mem → Prop} {x1 x2 x3 x4 : Int} {g : jv_Mem} (h : jv_lp4 body x1 x2 x3 x4 g) (W : Int → Int → Int → Int → jv_Mem → Prop) (step : ∀ (K : Int → Int → Int → Int → jv_Mem → Prop), (∀ x1 x2 x3 x4 g, K x1 x2 x3 x4 g → W x1 x2 x3 x4 g) → ∀ x1 x2 x3 x4 g, body K x1 x2 x3 x4 g → W x1 x2 x3 x4 g) : W x1 x2 x3 x4 g := by
  obtain ⟨I, ⟨n, h0⟩, hs⟩ := h
  have key : ∀ (n : Nat) (x1 x2 x3 x4 : Int) (g : jv_Mem), I n x1 x2 x3 x4 g → W x1 x2 x3 x4 g := by
    intro n
    induction n using Nat.strongRecOn with
    | ind n ih => exact fun x1 x2 x3 x4 g ha => step _ (fun x1' x2' x3' x4' g' h' => by obtain ⟨n', h1, h2⟩ := h'; exact ih n' h1 x1' x2' x3' x4' g' h2) x1 x2 x3 x4 g (hs n x1 x2 x3 x4 g ha)
  exact key n x1 x2 x3 x4 g h0
def jv_lp5 (body : (Int → Int → Int → Int → Int → jv_Mem → Prop) → Int → Int → Int → Int → Int → jv_Mem → Prop) (x1 x2 x3 x4 x5 : Int) (g : jv_Mem) : Prop := ∃ I : Nat → Int → Int → Int → Int → Int → jv_Mem → Prop, (∃ n, I n x1 x2 x3 x4 x5 g) ∧ ∀ (n : Nat) (x1 x2 x3 x4 x5 : Int) (g : jv_Mem), I n x1 x2 x3 x4 x5 g → body (fun x1' x2' x3' x4' x5' g' => ∃ n', n' < n ∧ I n' x1' x2' x3' x4' x5' g') x1 x2 x3 x4 x5 g
theorem jv_lp5.use {body : (Int → Int → Int → Int → Int → jv_Mem → Prop) → Int → Int → Int → Int → Int → jv_Mem → Prop} {x1 x2 x3 x4 x5 : Int} {g : jv_Mem} (h : jv_lp5 body x1 x2 x3 x4 x5 g) (W : Int → Int → Int → Int → Int → jv_Mem → Prop) (step : ∀ (K : Int → Int → Int → Int → Int → jv_Mem → Prop), (∀ x1 x2 x3 x4 x5 g, K x1 x2 x3 x4 x5 g → W x1 x2 x3 x4 x5 g) → ∀ x1 x2 x3 x4 x5 g, body K x1 x2 x3 x4 x5 g → W x1 x2 x3 x4 x5 g) : W x1 x2 x3 x4 x5 g := by
  obtain ⟨I, ⟨n, h0⟩, hs⟩ := h
  have key : ∀ (n : Nat) (x1 x2 x3 x4 x5 : Int) (g : jv_Mem), I n x1 x2 x3 x4 x5 g → W x1 x2 x3 x4 x5 g := by
    intro n
    induction n using Nat.strongRecOn with
    | ind n ih => exact fun x1 x2 x3 x4 x5 g ha => step _ (fun x1' x2' x3' x4' x5' g' h' => by obtain ⟨n', h1, h2⟩ := h'; exact ih n' h1 x1' x2' x3' x4' x5' g' h2) x1 x2 x3 x4 x5 g (hs n x1 x2 x3 x4 x5 g ha)
  exact key n x1 x2 x3 x4 x5 g h0
def jv_lp6 (body : (Int → Int → Int → Int → Int → Int → jv_Mem → Prop) → Int → Int → Int → Int → Int → Int → jv_Mem → Prop) (x1 x2 x3 x4 x5 x6 : Int) (g : jv_Mem) : Prop := ∃ I : Nat → Int → Int → Int → Int → Int → Int → jv_Mem → Prop, (∃ n, I n x1 x2 x3 x4 x5 x6 g) ∧ ∀ (n : Nat) (x1 x2 x3 x4 x5 x6 : Int) (g : jv_Mem), I n x1 x2 x3 x4 x5 x6 g → body (fun x1' x2' x3' x4' x5' x6' g' => ∃ n', n' < n ∧ I n' x1' x2' x3' x4' x5' x6' g') x1 x2 x3 x4 x5 x6 g
theorem jv_lp6.use {body : (Int → Int → Int → Int → Int → Int → jv_Mem → Prop) → Int → Int → Int → Int → Int → Int → jv_Mem → Prop} {x1 x2 x3 x4 x5 x6 : Int} {g : jv_Mem} (h : jv_lp6 body x1 x2 x3 x4 x5 x6 g) (W : Int → Int → Int → Int → Int → Int → jv_Mem → Prop) (step : ∀ (K : Int → Int → Int → Int → Int → Int → jv_Mem → Prop), (∀ x1 x2 x3 x4 x5 x6 g, K x1 x2 x3 x4 x5 x6 g → W x1 x2 x3 x4 x5 x6 g) → ∀ x1 x2 x3 x4 x5 x6 g, body K x1 x2 x3 x4 x5 x6 g → W x1 x2 x3 x4 x5 x6 g) : W x1 x2 x3 x4 x5 x6 g := by
  obtain ⟨I, ⟨n, h0⟩, hs⟩ := h
  have key : ∀ (n : Nat) (x1 x2 x3 x4 x5 x6 : Int) (g : jv_Mem), I n x1 x2 x3 x4 x5 x6 g → W x1 x2 x3 x4 x5 x6 g := by
    intro n
    induction n using Nat.strongRecOn with
    | ind n ih => exact fun x1 x2 x3 x4 x5 x6 g ha => step _ (fun x1' x2' x3' x4' x5' x6' g' h' => by obtain ⟨n', h1, h2⟩ := h'; exact ih n' h1 x1' x2' x3' x4' x5' x6' g' h2) x1 x2 x3 x4 x5 x6 g (hs n x1 x2 x3 x4 x5 x6 g ha)
  exact key n x1 x2 x3 x4 x5 x6 g h0
def jv_lp7 (body : (Int → Int → Int → Int → Int → Int → Int → jv_Mem → Prop) → Int → Int → Int → Int → Int → Int → Int → jv_Mem → Prop) (x1 x2 x3 x4 x5 x6 x7 : Int) (g : jv_Mem) : Prop := ∃ I : Nat → Int → Int → Int → Int → Int → Int → Int → jv_Mem → Prop, (∃ n, I n x1 x2 x3 x4 x5 x6 x7 g) ∧ ∀ (n : Nat) (x1 x2 x3 x4 x5 x6 x7 : Int) (g : jv_Mem), I n x1 x2 x3 x4 x5 x6 x7 g → body (fun x1' x2' x3' x4' x5' x6' x7' g' => ∃ n', n' < n ∧ I n' x1' x2' x3' x4' x5' x6' x7' g') x1 x2 x3 x4 x5 x6 x7 g
theorem jv_lp7.use {body : (Int → Int → Int → Int → Int → Int → Int → jv_Mem → Prop) → Int → Int → Int → Int → Int → Int → Int → jv_Mem → Prop} {x1 x2 x3 x4 x5 x6 x7 : Int} {g : jv_Mem} (h : jv_lp7 body x1 x2 x3 x4 x5 x6 x7 g) (W : Int → Int → Int → Int → Int → Int → Int → jv_Mem → Prop) (step : ∀ (K : Int → Int → Int → Int → Int → Int → Int → jv_Mem → Prop), (∀ x1 x2 x3 x4 x5 x6 x7 g, K x1 x2 x3 x4 x5 x6 x7 g → W x1 x2 x3 x4 x5 x6 x7 g) → ∀ x1 x2 x3 x4 x5 x6 x7 g, body K x1 x2 x3 x4 x5 x6 x7 g → W x1 x2 x3 x4 x5 x6 x7 g) : W x1 x2 x3 x4 x5 x6 x7 g := by
  obtain ⟨I, ⟨n, h0⟩, hs⟩ := h
  have key : ∀ (n : Nat) (x1 x2 x3 x4 x5 x6 x7 : Int) (g : jv_Mem), I n x1 x2 x3 x4 x5 x6 x7 g → W x1 x2 x3 x4 x5 x6 x7 g := by
    intro n
    induction n using Nat.strongRecOn with
    | ind n ih => exact fun x1 x2 x3 x4 x5 x6 x7 g ha => step _ (fun x1' x2' x3' x4' x5' x6' x7' g' h' => by obtain ⟨n', h1, h2⟩ := h'; exact ih n' h1 x1' x2' x3' x4' x5' x6' x7' g' h2) x1 x2 x3 x4 x5 x6 x7 g (hs n x1 x2 x3 x4 x5 x6 x7 g ha)
  exact key n x1 x2 x3 x4 x5 x6 x7 g h0
/-- fewer locals known -/
def jv_sub : List (Option Value) → List (Option Value) → Prop
  | [], _ => True
  | none :: r, _ :: r' => jv_sub r r'
  | some v :: r, x :: r' => x = some v ∧ jv_sub r r'
  | _ :: _, [] => False
theorem jv_sub.get : ∀ {ls ls' : List (Option Value)}, jv_sub ls ls' → ∀ {i : Nat} {v : Value}, ls[i]? = some (some v) → ls'[i]? = some (some v) := by
  intro ls
  induction ls with
  | nil => intro ls' _ i v h; simp at h
  | cons a r ih =>
    intro ls' h i v hi
    cases ls' with
    | nil => cases a <;> exact absurd h (by simp [jv_sub])
    | cons b r' =>
      cases a with
      | none =>
        cases i with
        | zero => simp at hi
        | succ i => simpa using ih (by simpa [jv_sub] using h) (by simpa using hi)
      | some w =>
        have h' : b = some w ∧ jv_sub r r' := by simpa [jv_sub] using h
        cases i with
        | zero => simp at hi; subst hi; simp [h'.1]
        | succ i => simpa using ih h'.2 (by simpa using hi)
theorem jv_L.sub {arr : Array Slot} {n : Nat} {ls ls' : List (Option Value)} (h : jv_L arr n ls') (hs : jv_sub ls ls') : jv_L arr n ls := by
  refine ⟨⟨h.1.1, h.1.2.1, fun q hq => ?_⟩, fun v hv => ?_⟩
  · obtain ⟨j, h1, h2⟩ := (jv_la_mem _ 0 q).mp hq
    exact h.1.2.2 q ((jv_la_mem _ 0 q).mpr ⟨j, h1, hs.get h2⟩)
  · obtain ⟨j, hj⟩ := List.getElem?_of_mem hv
    exact h.2 v (List.mem_of_getElem? (hs.get hj))
section JVN
variable {p : Program} {l : Launch} {e : Env} {R : Room} {s : State} {m : MethodId} {args : Array Value} {below : List Frame} {meth : Method} {c : Code} {cells slots : Nat} {Z : State → Prop} {s0 : State} {b0 : Addr} {D : va_G} {ids : Nat → ClassId} {ex : Option Nat} {sh : jv_Sh} {g : jv_Mem} {pc : Nat} {ls ls' : List (Option Value)} {st : List Value}
theorem jv_less (hs : jv_sub ls' ls) (k : jv_V p l e R s m args below meth c cells slots Z s0 D ids ex sh g pc ls' st) : jv_V p l e R s m args below meth c cells slots Z s0 D ids ex sh g pc ls st :=
  fun H locs arr h1 h2 h3 h4 => k H locs arr h1 h2 h3 (h4.sub hs)
/-- names for the number on top, for the memory -/
theorem jv_top {x : Int} (k : ∀ v : Int, v = x → jv_V p l e R s m args below meth c cells slots Z s0 D ids ex sh g pc ls (jv_i v :: st)) : jv_V p l e R s m args below meth c cells slots Z s0 D ids ex sh g pc ls (jv_i x :: st) := k x rfl
theorem jv_gm (k : ∀ g' : jv_Mem, g' = g → jv_V p l e R s m args below meth c cells slots Z s0 D ids ex sh g' pc ls st) : jv_V p l e R s m args below meth c cells slots Z s0 D ids ex sh g pc ls st := k g rfl
theorem jv_wd {k n : Nat} (h1 : Nat.ble cells k = true) (h2 : Nat.ble slots n = true) (kk : jv_V p l e R s m args below meth c k n Z s0 D ids ex sh g pc ls st) : jv_V p l e R s m args below meth c cells slots Z s0 D ids ex sh g pc ls st :=
  fun H locs arr a1 a2 a3 a4 => W.widen (Nat.le_of_ble_eq_true h1) (Nat.le_of_ble_eq_true h2) (kk H locs arr a1 a2 a3 a4)
end JVN
def jv_qi (Q : Int → jv_Mem → Prop) : Option Value → jv_Mem → Prop := fun v g => ∃ r : Int, v = some (jv_i r) ∧ Q r g
def jv_qv (Q : jv_Mem → Prop) : Option Value → jv_Mem → Prop := fun v g => v = none ∧ Q g
