section JVE
variable {p : Program} {l : Launch} {e : Env} {R : Room} {s : State} {m : MethodId} {args : Array Value} {below : List Frame} {meth : Method} {c : Code} {cells slots : Nat} {Z : State → Prop} {s0 : State} {b0 : Addr} {D : va_G} {ids : Nat → ClassId} {ex ex' : Option Nat} {sh sh' : jv_Sh} {g : jv_Mem} {pc : Nat} {ls ls' : List (Option Value)} {st st0 : List Value} {cc : ByteArray} {own : String}
variable {y : MethodName} {cb : ByteArray} {mL : Nat} {rt : Option FieldType} {fr lo mc ms n idx : Nat} {Q : Option Value → jv_Mem → Prop} {X : String → jv_Mem → Prop} {av : List Value}
abbrev jv_ZM (below : List Frame) (s0 : State) (D : va_G) (ids : Nat → ClassId) (ex : Option Nat) (sh : jv_Sh) (Q : Option Value → jv_Mem → Prop) (args : Array Value) (s : State) (mc ms : Nat) : State → Prop := MQ below (jv_Qc s0 D ids ex sh Q) args s mc ms (fun q => s0.heap.size ≤ q)
abbrev jv_ZX (below : List Frame) (s0 : State) (D : va_G) (ids : Nat → ClassId) (sh : jv_Sh) (Q : Option Value → jv_Mem → Prop) (X : String → jv_Mem → Prop) (args : Array Value) (s : State) (mc ms : Nat) : State → Prop := vx_MQ below (jv_Qc s0 D ids none sh Q) (jv_Xc s0 D ids sh X) args s mc ms (fun q => s0.heap.size ≤ q)
theorem jv_endQ {v : Option Value} (hq : Q v g) {H : Heap} {locs : List Loc} (h1 : jv_H s0.heap.size D ids sh g H) (h2 : ∀ n, ex = some n → H.size = s0.heap.size + n) (h3 : va_S (fun q => s0.heap.size ≤ q) s.heap H locs) (t : State) (ht : t.heap = H) : jv_Qc s0 D ids ex sh Q args s (.returned v) t :=
  ⟨⟨v, g, rfl, hq, by rw [ht]; exact h1, fun n hn => by rw [ht]; exact h2 n hn⟩, h3.F ht⟩
theorem jv_iret (C : jv_C p s m args c cc own s0 b0 D ids) (hr : meth.sig.returnType = some .int) (hlocks : meth.locks = false) {x : Int} (hq : Q (some (jv_i x)) g) (hd : decode cc pc = .ok (.ireturn, 1)) (hc : Nat.ble cells mc = true ∧ Nat.ble slots ms = true) : jv_V p l e R s m args below meth c cells slots (jv_ZM below s0 D ids ex sh Q args s mc ms) s0 D ids ex sh g pc ls [jv_i x] :=
  fun _ _ _ h1 h2 h3 _ => W.widen (Nat.le_of_ble_eq_true hc.1) (Nat.le_of_ble_eq_true hc.2) (W.iret C.1 C.2.1 hr (fun t ht _ => jv_endQ hq h1 h2 h3 t ht) h3.2.2 hd hlocks)
theorem jv_zret (C : jv_C p s m args c cc own s0 b0 D ids) {ty : FieldType} (hr : meth.sig.returnType = some ty) (hlocks : meth.locks = false) {x : Int} (hn : narrow ty (jv_i x) = jv_i x) (hq : Q (some (jv_i x)) g) (hd : decode cc pc = .ok (.ireturn, 1)) (hc : Nat.ble cells mc = true ∧ Nat.ble slots ms = true) : jv_V p l e R s m args below meth c cells slots (jv_ZM below s0 D ids ex sh Q args s mc ms) s0 D ids ex sh g pc ls [jv_i x] :=
  fun _ _ _ h1 h2 h3 _ => W.widen (Nat.le_of_ble_eq_true hc.1) (Nat.le_of_ble_eq_true hc.2) (W.zret C.1 C.2.1 hr hn (fun t ht _ => jv_endQ hq h1 h2 h3 t ht) h3.2.2 hd hlocks)
theorem jv_vret (C : jv_C p s m args c cc own s0 b0 D ids) (hr : meth.sig.returnType = none) (hlocks : meth.locks = false) (hq : Q none g) (hd : decode cc pc = .ok (.return_, 1)) (hc : Nat.ble cells mc = true ∧ Nat.ble slots ms = true) : jv_V p l e R s m args below meth c cells slots (jv_ZM below s0 D ids ex sh Q args s mc ms) s0 D ids ex sh g pc ls [] :=
  fun _ _ _ h1 h2 h3 _ => W.widen (Nat.le_of_ble_eq_true hc.1) (Nat.le_of_ble_eq_true hc.2) (W.vret C.1 C.2.1 hr (fun t ht _ => jv_endQ hq h1 h2 h3 t ht) h3.2.2 hd hlocks)
theorem jv_aret (C : jv_C p s m args c cc own s0 b0 D ids) {K : String} (hr : meth.sig.returnType = some (.object K)) (hlocks : meth.locks = false) {a : Addr} (hq : Q (some (.ref a)) g) (hd : decode cc pc = .ok (.areturn, 1)) (hc : Nat.ble cells mc = true ∧ Nat.ble slots ms = true) : jv_V p l e R s m args below meth c cells slots (jv_ZM below s0 D ids ex sh Q args s mc ms) s0 D ids ex sh g pc ls [.ref a] :=
  fun _ _ _ h1 h2 h3 _ => W.widen (Nat.le_of_ble_eq_true hc.1) (Nat.le_of_ble_eq_true hc.2) (W.aret C.1 C.2.1 hr (Or.inl ⟨K, rfl⟩) (Or.inr ⟨a, rfl⟩) (fun t ht _ => jv_endQ hq h1 h2 h3 t ht) h3.2.2 hd hlocks)
theorem jv_xret (k : jv_V p l e R s m args below meth c cells slots (jv_ZM below s0 D ids none sh' Q args s mc ms) s0 D ids ex sh g pc ls st) : jv_V p l e R s m args below meth c cells slots (jv_ZX below s0 D ids sh' Q X args s mc ms) s0 D ids ex sh g pc ls st :=
  fun H locs arr h1 h2 h3 h4 => vx_ret (k H locs arr h1 h2 h3 h4)
/-- what is thrown here goes on to the caller -/
theorem jv_xout (ht : ∀ x ∈ c.exceptionTable.toList, False) (hlocks : meth.locks = false) {E : String} (hx : X E g) (hc : Nat.ble cells mc = true ∧ Nat.ble slots ms = true) : jv_VX p l e R s m args below meth c cells slots (jv_ZX below s0 D ids sh Q X args s mc ms) s0 D ids sh g pc ls st E :=
  fun _ _ _ _ _ h1 h3 _ hq hv hcl => vx_out (fun x hx => (ht x hx).elim) hlocks hq hv hcl (fun t ht' _ => ⟨⟨g, hx, by rw [ht']; exact h1⟩, h3.F ht'⟩) h3.2.2 (Nat.le_of_ble_eq_true hc.1) (Nat.le_of_ble_eq_true hc.2)
theorem jv_M.of (hy : plainName y.cls = true) (hl : Nat.ble (lg_sl av).length mL = true) (hcat : ∀ v ∈ av, v.category = 1)
    (body : ∀ (p : Program) (e : Env) (s : State) (m : MethodId) (args : Array Value) (below : List Frame) (meth : Method) (c : Code), jv_C p s m args c cb y.cls s0 b0 D ids → mL = c.maxLocals → meth.sig.returnType = rt → meth.locks = false → meth.name = y.name → jv_V p l e (jv_rm fr lo mc ms) s m args below meth c 0 0 (jv_ZM below s0 D ids ex' sh' Q args s mc ms) s0 D ids ex sh g 0 (av.map some ++ List.replicate (mL - av.length) none) []) : jv_M l s0 b0 D ids y cb mL rt fr lo mc ms ex sh g av ex' sh' Q := by
  refine Met.ofW (cc := cb) (maxL := mL) (ret := rt) hy rfl ?_
  intro p e s m args below meth c s₁ B hml hv
  obtain ⟨rfl, hG, hH, hz⟩ := hv
  have hown : s.vm.findClass y.cls = some m.cls := findClass_of_methodNamed B.named
  have hin : meth.name = y.name := (name_of_methodNamed B.named B.method).1
  have hl' := Nat.le_of_ble_eq_true hl
  rw [lg_entry_eq]
  exact body p e s m _ below meth c ⟨B.exec, B.bytes, hown, hG⟩ hml.symm B.returns B.notSynchronized hin s.heap [] _ hH hz va_S.rf (by rw [hml]; exact jv_L.entry av hl' hcat)
theorem jv_MX.of (hy : plainName y.cls = true) (hl : Nat.ble (lg_sl av).length mL = true) (hcat : ∀ v ∈ av, v.category = 1)
    (body : ∀ (p : Program) (e : Env) (s : State) (m : MethodId) (args : Array Value) (below : List Frame) (meth : Method) (c : Code), jv_C p s m args c cb y.cls s0 b0 D ids → mL = c.maxLocals → meth.sig.returnType = rt → meth.locks = false → (∀ x ∈ c.exceptionTable.toList, False) → jv_V p l e (jv_rm fr lo mc ms) s m args below meth c 0 0 (jv_ZX below s0 D ids sh Q X args s mc ms) s0 D ids none sh g 0 (av.map some ++ List.replicate (mL - av.length) none) []) : jv_MX l s0 b0 D ids y cb mL rt fr lo mc ms sh g av Q X := by
  refine vx_ofW (cc := cb) (maxL := mL) (ret := rt) hy rfl ?_
  intro p e s m args below meth c s₁ B hml htab hv
  obtain ⟨rfl, hG, hH, hz⟩ := hv
  have hown : s.vm.findClass y.cls = some m.cls := findClass_of_methodNamed B.named
  have hl' := Nat.le_of_ble_eq_true hl
  rw [lg_entry_eq]
  exact body p e s m _ below meth c ⟨B.exec, B.bytes, hown, hG⟩ hml.symm B.returns B.notSynchronized htab s.heap [] _ hH hz va_S.rf (by rw [hml]; exact jv_L.entry av hl' hcat)
end JVE
/-- loops: by an invariant and a number that falls -/
def jv_lp1 {A : Type} (body : (A → Prop) → A → Prop) (a : A) : Prop := ∃ I : Nat → A → Prop, (∃ n, I n a) ∧ ∀ n a, I n a → body (fun a' => ∃ n', n' < n ∧ I n' a') a
theorem jv_lp1.use {A : Type} {body : (A → Prop) → A → Prop} {a : A} (h : jv_lp1 body a) (W : A → Prop) (step : ∀ (K : A → Prop), (∀ a', K a' → W a') → ∀ a, body K a → W a) : W a := by
  obtain ⟨I, ⟨n, h0⟩, hs⟩ := h
  have key : ∀ n a, I n a → W a := by
    intro n
    induction n using Nat.strongRecOn with
    | ind n ih => exact fun a ha => step _ (fun a' h' => by obtain ⟨n', h1, h2⟩ := h'; exact ih n' h1 a' h2) a (hs n a ha)
  exact key n a h0
