def jv_Pc (s0 : State) (b0 : Addr) (D : va_G) (ids : Nat → ClassId) (ex : Option Nat) (sh : jv_Sh) (g : jv_Mem) (av : List Value) : Array Value → State → Prop := fun v U => v = av.toArray ∧ jv_G s0 b0 D ids U ∧ jv_H s0.heap.size D ids sh g U.heap ∧ ∀ n, ex = some n → U.heap.size = s0.heap.size + n
def jv_Qc (s0 : State) (D : va_G) (ids : Nat → ClassId) (ex : Option Nat) (sh : jv_Sh) (Q : Option Value → jv_Mem → Prop) : Array Value → State → Outcome → State → Prop := fun _ st o t => (∃ (v : Option Value) (g : jv_Mem), o = .returned v ∧ Q v g ∧ jv_H s0.heap.size D ids sh g t.heap ∧ ∀ n, ex = some n → t.heap.size = s0.heap.size + n) ∧ va_F (fun q => s0.heap.size ≤ q) st t
def jv_Xc (s0 : State) (D : va_G) (ids : Nat → ClassId) (sh : jv_Sh) (X : String → jv_Mem → Prop) : String → State → State → Prop := fun E st t => (∃ g : jv_Mem, X E g ∧ jv_H s0.heap.size D ids sh g t.heap) ∧ va_F (fun q => s0.heap.size ≤ q) st t
abbrev jv_rm (fr lo mc ms : Nat) : Room := { frames := fr, cells := mc, slots := ms, locals := lo }
/-- a method that returns -/
def jv_M (l : Launch) (s0 : State) (b0 : Addr) (D : va_G) (ids : Nat → ClassId) (y : MethodName) (cb : ByteArray) (mL : Nat) (rt : Option FieldType) (fr lo mc ms : Nat) (ex : Option Nat) (sh : jv_Sh) (g : jv_Mem) (av : List Value) (ex' : Option Nat) (sh' : jv_Sh) (Q : Option Value → jv_Mem → Prop) : Prop :=
  Met l y [Cond.code y cb mL rt] (jv_rm fr lo mc ms) (jv_Pc s0 b0 D ids ex sh g av) (jv_Qc s0 D ids ex' sh' Q) mc ms (fun q => s0.heap.size ≤ q)
/-- a method that returns or throws -/
def jv_MX (l : Launch) (s0 : State) (b0 : Addr) (D : va_G) (ids : Nat → ClassId) (y : MethodName) (cb : ByteArray) (mL : Nat) (rt : Option FieldType) (fr lo mc ms : Nat) (sh : jv_Sh) (g : jv_Mem) (av : List Value) (Q : Option Value → jv_Mem → Prop) (X : String → jv_Mem → Prop) : Prop :=
  vx_Met l y [Cond.code y cb mL rt] (jv_rm fr lo mc ms) (jv_Pc s0 b0 D ids none sh g av) (jv_Qc s0 D ids none sh Q) (jv_Xc s0 D ids sh X) mc ms (fun q => s0.heap.size ≤ q)
theorem jv_good {L : List Cond} (h : ∀ w ∈ L, w ∈ jv_tb) : GoodIn jv_tb L := fun w hw => ⟨h w hw, good_of_word (List.mem_filter.mp (h w hw)).2⟩
/-- the words of a call: of an object's method, of a static one; among nest mates -/
def jv_KV (own : String) (idx : Nat) (y : MethodName) (cb : ByteArray) (mL : Nat) (rt : Option FieldType) (n : Nat) : Prop := Cond.methodLink own idx y ∈ jv_tb ∧ Cond.instanceMethod y ∈ jv_tb ∧ Cond.selects y.cls y y ∈ jv_tb ∧ Cond.initialized y.cls ∈ jv_tb ∧ Cond.code y cb mL rt ∈ jv_tb ∧ (y.cls ≠ "java/lang/invoke/MethodHandle" ∧ y.cls ≠ "java/lang/invoke/VarHandle" ∧ (parseMethodDescriptor y.desc).map (fun d => d.parameters.length) = some n)
def jv_KS (own : String) (idx : Nat) (y : MethodName) (cb : ByteArray) (mL : Nat) (rt : Option FieldType) (n : Nat) : Prop := Cond.methodLink own idx y ∈ jv_tb ∧ Cond.static y ∈ jv_tb ∧ Cond.initialized y.cls ∈ jv_tb ∧ Cond.code y cb mL rt ∈ jv_tb ∧ (y.cls ≠ "java/lang/invoke/MethodHandle" ∧ y.cls ≠ "java/lang/invoke/VarHandle" ∧ (parseMethodDescriptor y.desc).map (fun d => d.parameters.length) = some n)
def jv_KSN (own : String) (idx : Nat) (y : MethodName) (host : String) (cb : ByteArray) (mL : Nat) (rt : Option FieldType) (n : Nat) : Prop := Cond.methodLinkNest own idx y host ∈ lw_tbl ∧ Cond.static y ∈ jv_tb ∧ Cond.initialized y.cls ∈ jv_tb ∧ Cond.code y cb mL rt ∈ jv_tb ∧ (y.cls ≠ "java/lang/invoke/MethodHandle" ∧ y.cls ≠ "java/lang/invoke/VarHandle" ∧ (parseMethodDescriptor y.desc).map (fun d => d.parameters.length) = some n)
theorem jv_Pc.blind {s0 : State} {b0 : Addr} {D : va_G} {ids : Nat → ClassId} {ex : Option Nat} {sh : jv_Sh} {g : jv_Mem} {av : List Value} : FrameBlind (jv_Pc s0 b0 D ids ex sh g av) := fun _ _ _ _ h => h
section JVC
variable {p : Program} {l : Launch} {e : Env} {R : Room} {s : State} {m : MethodId} {args : Array Value} {below : List Frame} {meth : Method} {c : Code} {cells slots : Nat} {Z : State → Prop} {s0 : State} {b0 : Addr} {D : va_G} {ids : Nat → ClassId} {ex ex' : Option Nat} {sh sh' : jv_Sh} {g : jv_Mem} {pc : Nat} {ls ls' : List (Option Value)} {st st0 : List Value} {cc : ByteArray} {own : String}
variable {y : MethodName} {cb : ByteArray} {mL : Nat} {rt : Option FieldType} {fr lo mc ms n idx : Nat} {Q : Option Value → jv_Mem → Prop} {X : String → jv_Mem → Prop} {av : List Value}
theorem jv_G.pre (C : jv_C p s m args c cc own s0 b0 D ids) {H : Heap} {locs : List Loc} (h1 : jv_H s0.heap.size D ids sh g H) (h2 : ∀ n, ex = some n → H.size = s0.heap.size + n) (h3 : va_S (fun q => s0.heap.size ≤ q) s.heap H locs) (U : State) (hU : U.heap = H) (hW : s.WarmedH U.vm) : jv_Pc s0 b0 D ids ex sh g av av.toArray U := by
  obtain ⟨-, -, -, hZ, hw, hsz, hk⟩ := C
  refine ⟨rfl, ⟨hZ, State.WarmedH.trans hw hW, ?_, fun q hq => ?_⟩, by rw [hU]; exact h1, fun n hn => by rw [hU]; exact h2 n hn⟩
  · rw [hU]; exact Nat.le_trans hsz h3.1
  · rw [hU, h3.2.1 q (Nat.lt_of_lt_of_le hq hsz) (Nat.not_le.mpr hq)]
    exact hk q hq
theorem jv_S.back {H H1 : Heap} {locs L : List Loc} {t st₀ : State} (h3 : va_S (fun q => s0.heap.size ≤ q) s.heap H locs) (h0 : st₀.heap = H) (e1 : H1 = t.heap) (hF : va_F (fun q => s0.heap.size ≤ q) st₀ t) (hL : ∀ q ∈ L, s0.heap.size ≤ q.base) : va_S (fun q => s0.heap.size ≤ q) s.heap H1 (locs ++ L) := by
  obtain ⟨hz, hk⟩ := hF
  rw [h0] at hz hk
  refine ⟨Nat.le_trans h3.1 (by rw [e1]; exact hz), fun q h1 h2 => by rw [e1, hk q (Nat.lt_of_lt_of_le h1 h3.1) h2]; exact h3.2.1 q h1 h2, fun q hq => ?_⟩
  rcases List.mem_append.mp hq with h | h
  · exact h3.2.2 q h
  · exact hL q h
theorem jv_back {H : Heap} {locs : List Loc} {arr : Array Slot} {a : Array Value} (hr : va_Run p l e R s m args below meth c H locs cells slots mc ms (F0 m pc arr st0) st (jv_Qc s0 D ids ex' sh' Q a) (fun q => s0.heap.size ≤ q)) (h3 : va_S (fun q => s0.heap.size ≤ q) s.heap H locs) (h4 : jv_L arr c.maxLocals ls)
    (k : ∀ v g', Q v g' → jv_V p l e R s m args below meth c (cells + mc) (slots + ms) Z s0 D ids ex' sh' g' (pc + 3) ls (v.toList ++ st)) : W p l e R s m args below meth c H locs cells slots Z (F0 m pc arr st0) := by
  intro T hT X
  obtain ⟨v, st₀, t, T', L, h0, X', hL, e1, e2, ⟨⟨v', g', hv, hp, hb, hz⟩, hF⟩, stp⟩ := hr T hT X
  cases hv
  obtain ⟨t2, a1, b1⟩ := k v g' hp T'.heap (locs ++ L) arr (by rw [e1]; exact hb) (fun n hn => by rw [e1]; exact hz n hn) (jv_S.back h3 h0 e1 hF hL) h4 T' rfl X'
  exact ⟨t2, stp t2 a1, b1⟩
/-- q of the class E thrown over this frame -/
def jv_VX (p : Program) (l : Launch) (e : Env) (R : Room) (s : State) (m : MethodId) (args : Array Value) (below : List Frame) (meth : Method) (c : Code) (cells slots : Nat) (Z : State → Prop) (s0 : State) (D : va_G) (ids : Nat → ClassId) (sh : jv_Sh) (g : jv_Mem) (pc : Nat) (ls : List (Option Value)) (st : List Value) (E : String) : Prop :=
  ∀ (H : Heap) (locs : List Loc) (arr : Array Slot) (q : Addr) (ce : Cell), jv_H s0.heap.size D ids sh g H → va_S (fun q => s0.heap.size ≤ q) s.heap H locs → jv_L arr c.maxLocals ls → H[q]? = some ce → ce.vm = .none → s.vm.findClass E = some ce.cls → vx_W p l e R s m args below meth c H locs cells slots Z (F0 m pc arr st) q
theorem jv_backX {H : Heap} {locs : List Loc} {arr : Array Slot} {a : Array Value} (hr : vx_Run p l e R s m args below meth c H locs cells slots mc ms (F0 m pc arr st0) st (jv_Qc s0 D ids none sh Q a) (jv_Xc s0 D ids sh X) (fun q => s0.heap.size ≤ q)) (h3 : va_S (fun q => s0.heap.size ≤ q) s.heap H locs) (h4 : jv_L arr c.maxLocals ls)
    (k : ∀ v g', Q v g' → jv_V p l e R s m args below meth c (cells + mc) (slots + ms) Z s0 D ids none sh g' (pc + 3) ls (v.toList ++ st)) (kx : ∀ E g', X E g' → jv_VX p l e R s m args below meth c (cells + mc) (slots + ms) Z s0 D ids sh g' pc ls st E) : W p l e R s m args below meth c H locs cells slots Z (F0 m pc arr st0) := by
  intro T hT X
  rcases hr T hT X with ⟨v, st₀, t, T', L, h0, X', hL, e1, e2, ⟨⟨v', g', hv, hp, hb, hz⟩, hF⟩, stp⟩ | ⟨q, st₀, t, T', L, E, ce, h0, X', hL, e1, e2, ⟨⟨g', hp, hb⟩, hF⟩, hce, hcv, hcl, stp⟩
  · cases hv
    obtain ⟨t2, a1, b1⟩ := k v g' hp T'.heap (locs ++ L) arr (by rw [e1]; exact hb) (fun n hn => by cases hn) (jv_S.back h3 h0 e1 hF hL) h4 T' rfl X'
    exact ⟨t2, stp t2 a1, b1⟩
  · obtain ⟨t2, a1, b1⟩ := kx E g' hp T'.heap (locs ++ L) arr q ce (by rw [e1]; exact hb) (jv_S.back h3 h0 e1 hF hL) h4 (by rw [e1]; exact hce) hcv hcl T' rfl X'
    exact ⟨t2, stp.trans a1, b1⟩
theorem jv_recv (C : jv_C p s m args c cc own s0 b0 D ids) {i : Int} {ci : Nat} {ds : List (Option (Option Int))} {K : String} {H : Heap} (hs : sh i = some (.inr (ci, ds))) (hK : (vwCl[ci]?).map (fun q => q.1) = some K) (h1 : jv_H s0.heap.size D ids sh g H) : ∃ cellB : Cell, H[s0.heap.size + i.toNat]? = some cellB ∧ cellB.vm.isStatics = false ∧ s.vm.findClass K = some cellB.cls := by
  cases hc : vwCl[ci]? with
  | none => rw [hc] at hK; cases hK
  | some q =>
    rw [hc] at hK
    have hq : q.1 = K := Option.some.inj hK
    subst hq
    exact va_recv C.2.2.2.K (va_P.one (h1 i _ hs).2) (q0 := 0) hc rfl
theorem jv_fix (C : jv_C p s m args c cc own s0 b0 D ids) : CallFix p m c cc c.maxLocals s args jv_tb own := ⟨C.1, C.2.1, rfl, C.2.2.1, C.2.2.2.hts⟩
theorem jv_cw (C : jv_C p s m args c cc own s0 b0 D ids) (hK : jv_KV own idx y cb mL rt n) (hR : Nat.ble (fr + 1) R.frames = true ∧ Nat.ble (8 + (mL + 11) + lo) R.locals = true) : CallW R s args own y.cls idx y cb mL rt [Cond.code y cb mL rt] (jv_rm fr lo mc ms) mc ms n := by
  obtain ⟨k1, k2, k3, k4, k5, k6⟩ := hK
  have hts := C.2.2.2.hts (a := args)
  exact ⟨callB_of n hts (jv_good (fun w hw => by rw [List.mem_singleton.mp hw]; exact k5)) rfl rfl rfl (hts _ k4) (hts _ k1) k6 ⟨Nat.le_of_ble_eq_true hR.1, Nat.le_of_ble_eq_true hR.2⟩, hts _ k2, hts _ k3⟩
theorem jv_cs (C : jv_C p s m args c cc own s0 b0 D ids) (hK : jv_KS own idx y cb mL rt n) (hR : Nat.ble (fr + 1) R.frames = true ∧ Nat.ble (8 + (mL + 11) + lo) R.locals = true) : CallB R s args own idx y cb mL rt [Cond.code y cb mL rt] (jv_rm fr lo mc ms) mc ms n ∧ (Cond.static y).before args s = true := by
  obtain ⟨k1, k2, k4, k5, k6⟩ := hK
  have hts := C.2.2.2.hts (a := args)
  exact ⟨callB_of n hts (jv_good (fun w hw => by rw [List.mem_singleton.mp hw]; exact k5)) rfl rfl rfl (hts _ k4) (hts _ k1) k6 ⟨Nat.le_of_ble_eq_true hR.1, Nat.le_of_ble_eq_true hR.2⟩, hts _ k2⟩
/-- a call of an object's method that returns -/
theorem jv_callV (C : jv_C p s m args c cc own s0 b0 D ids) {i : Int} {ci : Nat} {ds : List (Option (Option Int))} {As : List Value} (M : jv_M l s0 b0 D ids y cb mL rt fr lo mc ms ex sh g (.ref (s0.heap.size + i.toNat) :: As) ex' sh' Q) (hK : jv_KV own idx y cb mL rt n) (hs : sh i = some (.inr (ci, ds))) (hcn : (vwCl[ci]?).map (fun q => q.1) = some y.cls) (hn : As.length = n) (hR : Nat.ble (fr + 1) R.frames = true ∧ Nat.ble (8 + (mL + 11) + lo) R.locals = true) (hst : st0 = As.reverse ++ .ref (s0.heap.size + i.toNat) :: st) (hroom : Nat.ble (st.map fun v => v.category).sum 8 = true) (hf : Nat.ble (cells + mc) R.cells = true ∧ Nat.ble (slots + ms) R.slots = true) (hd : decode cc pc = .ok (.invokevirtual idx, 3))
    (k : ∀ v g', Q v g' → jv_V p l e R s m args below meth c (cells + mc) (slots + ms) Z s0 D ids ex' sh' g' (pc + 3) ls (v.toList ++ st)) : jv_V p l e R s m args below meth c cells slots Z s0 D ids ex sh g pc ls st0 := by
  intro H locs arr h1 h2 h3 h4
  exact jv_back (va_runV (jv_fix C) M (jv_cw C hK hR) ⟨jv_Pc.blind, jv_recv C hs hcn h1, fun U hU hW => jv_G.pre C h1 h2 h3 U hU hW⟩ rfl hn h4.1.1 hst (lv_room (Nat.le_of_ble_eq_true hroom)) hd ⟨Nat.le_of_ble_eq_true hf.1, Nat.le_of_ble_eq_true hf.2⟩) h3 h4 k
theorem jv_callS (C : jv_C p s m args c cc own s0 b0 D ids) {As : List Value} (M : jv_M l s0 b0 D ids y cb mL rt fr lo mc ms ex sh g As ex' sh' Q) (hK : jv_KS own idx y cb mL rt n) (hn : As.length = n) (hR : Nat.ble (fr + 1) R.frames = true ∧ Nat.ble (8 + (mL + 11) + lo) R.locals = true) (hst : st0 = As.reverse ++ st) (hroom : Nat.ble (st.map fun v => v.category).sum 8 = true) (hf : Nat.ble (cells + mc) R.cells = true ∧ Nat.ble (slots + ms) R.slots = true) (hd : decode cc pc = .ok (.invokestatic idx, 3))
    (k : ∀ v g', Q v g' → jv_V p l e R s m args below meth c (cells + mc) (slots + ms) Z s0 D ids ex' sh' g' (pc + 3) ls (v.toList ++ st)) : jv_V p l e R s m args below meth c cells slots Z s0 D ids ex sh g pc ls st0 := by
  intro H locs arr h1 h2 h3 h4
  exact jv_back (va_runS (jv_fix C) M (jv_cs C hK hR) ⟨jv_Pc.blind, fun U hU hW => jv_G.pre C h1 h2 h3 U hU hW⟩ rfl hn h4.1.1 hst (lv_room (Nat.le_of_ble_eq_true hroom)) hd ⟨Nat.le_of_ble_eq_true hf.1, Nat.le_of_ble_eq_true hf.2⟩) h3 h4 k
theorem jv_callSN (C : jv_C p s m args c cc own s0 b0 D ids) {host : String} {As : List Value} (M : jv_M l s0 b0 D ids y cb mL rt fr lo mc ms ex sh g As ex' sh' Q) (hK : jv_KSN own idx y host cb mL rt n) (hn : As.length = n) (hR : Nat.ble (fr + 1) R.frames = true ∧ Nat.ble (8 + (mL + 11) + lo) R.locals = true) (hst : st0 = As.reverse ++ st) (hroom : Nat.ble (st.map fun v => v.category).sum 8 = true) (hf : Nat.ble (cells + mc) R.cells = true ∧ Nat.ble (slots + ms) R.slots = true) (hd : decode cc pc = .ok (.invokestatic idx, 3))
    (k : ∀ v g', Q v g' → jv_V p l e R s m args below meth c (cells + mc) (slots + ms) Z s0 D ids ex' sh' g' (pc + 3) ls (v.toList ++ st)) : jv_V p l e R s m args below meth c cells slots Z s0 D ids ex sh g pc ls st0 := by
  intro H locs arr h1 h2 h3 h4
  obtain ⟨k1, k2, k4, k5, k6⟩ := hK
  have hts := C.2.2.2.hts (a := args)
  have hl : va_Nw (.methodLinkNest own idx y host) s := va_Nw.warmM C.2.2.2.2.1 (va_Nw.of rfl (C.2.2.2.1.1 _ k1))
  exact jv_back (va_runSN (jv_fix C) M ⟨va_cnB n hts (jv_good (fun w hw => by rw [List.mem_singleton.mp hw]; exact k5)) rfl rfl rfl hl (hts _ k4) k6 ⟨Nat.le_of_ble_eq_true hR.1, Nat.le_of_ble_eq_true hR.2⟩, hts _ k2, trivial⟩ ⟨jv_Pc.blind, fun U hU hW => jv_G.pre C h1 h2 h3 U hU hW⟩ rfl hn h4.1.1 hst (lv_room (Nat.le_of_ble_eq_true hroom)) hd ⟨Nat.le_of_ble_eq_true hf.1, Nat.le_of_ble_eq_true hf.2⟩) h3 h4 k
/-- calls of methods that return or throw -/
theorem jv_callVX (C : jv_C p s m args c cc own s0 b0 D ids) {i : Int} {ci : Nat} {ds : List (Option (Option Int))} {As : List Value} (M : jv_MX l s0 b0 D ids y cb mL rt fr lo mc ms sh g (.ref (s0.heap.size + i.toNat) :: As) Q X) (hK : jv_KV own idx y cb mL rt n) (hs : sh i = some (.inr (ci, ds))) (hcn : (vwCl[ci]?).map (fun q => q.1) = some y.cls) (hn : As.length = n) (hR : Nat.ble (fr + 1) R.frames = true ∧ Nat.ble (8 + (mL + 11) + lo) R.locals = true) (hst : st0 = As.reverse ++ .ref (s0.heap.size + i.toNat) :: st) (hroom : Nat.ble (st.map fun v => v.category).sum 8 = true) (hf : Nat.ble (cells + mc) R.cells = true ∧ Nat.ble (slots + ms) R.slots = true) (hd : decode cc pc = .ok (.invokevirtual idx, 3))
    (k : ∀ v g', Q v g' → jv_V p l e R s m args below meth c (cells + mc) (slots + ms) Z s0 D ids none sh g' (pc + 3) ls (v.toList ++ st)) (kx : ∀ E g', X E g' → jv_VX p l e R s m args below meth c (cells + mc) (slots + ms) Z s0 D ids sh g' pc ls st E) : jv_V p l e R s m args below meth c cells slots Z s0 D ids none sh g pc ls st0 := by
  intro H locs arr h1 h2 h3 h4
  exact jv_backX (vx_runV (jv_fix C) M (jv_cw C hK hR) ⟨jv_Pc.blind, jv_recv C hs hcn h1, fun U hU hW => jv_G.pre C h1 h2 h3 U hU hW⟩ rfl hn h4.1.1 hst (lv_room (Nat.le_of_ble_eq_true hroom)) hd ⟨Nat.le_of_ble_eq_true hf.1, Nat.le_of_ble_eq_true hf.2⟩) h3 h4 k kx
theorem jv_callSX (C : jv_C p s m args c cc own s0 b0 D ids) {As : List Value} (M : jv_MX l s0 b0 D ids y cb mL rt fr lo mc ms sh g As Q X) (hK : jv_KS own idx y cb mL rt n) (hn : As.length = n) (hR : Nat.ble (fr + 1) R.frames = true ∧ Nat.ble (8 + (mL + 11) + lo) R.locals = true) (hst : st0 = As.reverse ++ st) (hroom : Nat.ble (st.map fun v => v.category).sum 8 = true) (hf : Nat.ble (cells + mc) R.cells = true ∧ Nat.ble (slots + ms) R.slots = true) (hd : decode cc pc = .ok (.invokestatic idx, 3))
    (k : ∀ v g', Q v g' → jv_V p l e R s m args below meth c (cells + mc) (slots + ms) Z s0 D ids none sh g' (pc + 3) ls (v.toList ++ st)) (kx : ∀ E g', X E g' → jv_VX p l e R s m args below meth c (cells + mc) (slots + ms) Z s0 D ids sh g' pc ls st E) : jv_V p l e R s m args below meth c cells slots Z s0 D ids none sh g pc ls st0 := by
  intro H locs arr h1 h2 h3 h4
  exact jv_backX (vx_runS (jv_fix C) M (jv_cs C hK hR) ⟨jv_Pc.blind, fun U hU hW => jv_G.pre C h1 h2 h3 U hU hW⟩ rfl hn h4.1.1 hst (lv_room (Nat.le_of_ble_eq_true hroom)) hd ⟨Nat.le_of_ble_eq_true hf.1, Nat.le_of_ble_eq_true hf.2⟩) h3 h4 k kx
theorem jv_mmax (C : jv_C p s m args c cc own s0 b0 D ids) {x z : Int} (hx : jv_r x) (hz : jv_r z) (hK : Cond.methodLink own idx Lib.Math.max.name ∈ jv_tb) (hK2 : Cond.static Lib.Math.max.name ∈ jv_tb) (hK3 : Cond.initialized "java/lang/Math" ∈ jv_tb) (hK4 : Cond.code Lib.Math.max.name Lib.Math.max.code 2 (some .int) ∈ jv_tb) (hR : Nat.ble 1 R.frames = true ∧ Nat.ble ((st.map fun v => v.category).sum + 13) R.locals = true) (hc : Nat.ble cells R.cells = true ∧ Nat.ble slots R.slots = true) (hd : decode cc pc = .ok (.invokestatic idx, 3)) (k : jv_V p l e R s m args below meth c cells slots Z s0 D ids ex sh g (pc + 3) ls (jv_i (if x < z then z else x) :: st)) : jv_V p l e R s m args below meth c cells slots Z s0 D ids ex sh g pc ls (jv_i z :: jv_i x :: st) := by
  intro H locs arr h1 h2 h3 h4
  have hts := C.2.2.2.hts (a := args)
  refine va_mmax C.1 C.2.1 h4.1.1.symm C.2.2.1 (hts _ hK) (hts _ hK2) (hts _ hK3) (hts _ hK4) (Nat.le_of_ble_eq_true hR.1) (Nat.le_of_ble_eq_true hR.2) (Nat.le_of_ble_eq_true hc.1) (Nat.le_of_ble_eq_true hc.2) hd ?_
  have h := k H locs arr h1 h2 h3 h4
  have e : (if Int32.ofInt x < Int32.ofInt z then Int32.ofInt z else Int32.ofInt x) = Int32.ofInt (if x < z then z else x) := by
    by_cases h : x < z
    · rw [if_pos h, if_pos ((jv_rlt hx hz).mpr h)]
    · rw [if_neg h, if_neg (fun h' => h ((jv_rlt hx hz).mp h'))]
  rw [e]; exact h
theorem jv_mmin (C : jv_C p s m args c cc own s0 b0 D ids) {x z : Int} (hx : jv_r x) (hz : jv_r z) (hK : Cond.methodLink own idx Lib.Math.min.name ∈ jv_tb) (hK2 : Cond.static Lib.Math.min.name ∈ jv_tb) (hK3 : Cond.initialized "java/lang/Math" ∈ jv_tb) (hK4 : Cond.code Lib.Math.min.name Lib.Math.min.code 2 (some .int) ∈ jv_tb) (hR : Nat.ble 1 R.frames = true ∧ Nat.ble ((st.map fun v => v.category).sum + 13) R.locals = true) (hc : Nat.ble cells R.cells = true ∧ Nat.ble slots R.slots = true) (hd : decode cc pc = .ok (.invokestatic idx, 3)) (k : jv_V p l e R s m args below meth c cells slots Z s0 D ids ex sh g (pc + 3) ls (jv_i (if z < x then z else x) :: st)) : jv_V p l e R s m args below meth c cells slots Z s0 D ids ex sh g pc ls (jv_i z :: jv_i x :: st) := by
  intro H locs arr h1 h2 h3 h4
  have hts := C.2.2.2.hts (a := args)
  refine va_mmin C.1 C.2.1 h4.1.1.symm C.2.2.1 (hts _ hK) (hts _ hK2) (hts _ hK3) (hts _ hK4) (Nat.le_of_ble_eq_true hR.1) (Nat.le_of_ble_eq_true hR.2) (Nat.le_of_ble_eq_true hc.1) (Nat.le_of_ble_eq_true hc.2) hd ?_
  have h := k H locs arr h1 h2 h3 h4
  have e : (if Int32.ofInt z < Int32.ofInt x then Int32.ofInt z else Int32.ofInt x) = Int32.ofInt (if z < x then z else x) := by
    by_cases h : z < x
    · rw [if_pos h, if_pos ((jv_rlt hz hx).mpr h)]
    · rw [if_neg h, if_neg (fun h' => h ((jv_rlt hz hx).mp h'))]
  rw [e]; exact h
end JVC
