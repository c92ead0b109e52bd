theorem jv_lc0 (a b : Int64) : lg_cmp a b = 0 ↔ a = b := by
  unfold lg_cmp
  by_cases h1 : b < a
  · rw [if_pos h1]
    constructor
    · intro h; exact absurd h (by decide)
    · intro h; subst h; rw [Int64.lt_iff_toInt_lt] at h1; omega
  · rw [if_neg h1]
    by_cases h2 : a = b
    · simp [h2]
    · simp [h2]
section JVX
variable {p : Program} {l : Launch} {e : Env} {R : Room} {s : State} {m : MethodId} {args : Array Value} {below : List Frame} {meth : Method} {c : Code} {cells slots : Nat} {Z : State → Prop} {s0 : State} {b0 : Addr} {D : va_G} {ids : Nat → ClassId} {ex ex' : Option Nat} {sh sh' : jv_Sh} {g : jv_Mem} {pc : Nat} {ls ls' : List (Option Value)} {st st0 : List Value} {cc : ByteArray} {own : String}
variable {y : MethodName} {cb : ByteArray} {mL : Nat} {rt : Option FieldType} {fr lo mc ms n idx : Nat}
theorem jv_iincn (C : jv_C p s m args c cc own s0 b0 D ids) {j : Nat} {n x : Int} (hd : decode cc pc = .ok (.iinc j n, 3)) (hn : j < c.maxLocals) (hg : ls[j]? = some (some (jv_i x))) (k : ∀ v : Int, v = x + n → jv_V p l e R s m args below meth c cells slots Z s0 D ids ex sh g (pc + 3) (ls.set j (some (jv_i v))) st) : jv_V p l e R s m args below meth c cells slots Z s0 D ids ex sh g pc ls st := jv_iinc C hd hn hg rfl (k _ rfl)
theorem jv_lset (h : ls = ls') (k : jv_V p l e R s m args below meth c cells slots Z s0 D ids ex sh g pc ls' st) : jv_V p l e R s m args below meth c cells slots Z s0 D ids ex sh g pc ls st := by rw [h]; exact k
theorem jv_i2c (C : jv_C p s m args c cc own s0 b0 D ids) {x : Int} (hb : 0 ≤ x ∧ x < 65536) (hd : decode cc pc = .ok (.i2c, 1)) (k : jv_V p l e R s m args below meth c cells slots Z s0 D ids ex sh g (pc + 1) ls (jv_i x :: st)) : jv_V p l e R s m args below meth c cells slots Z s0 D ids ex sh g pc ls (jv_i x :: st) := by
  intro H locs arr h1 h2 h3 h4
  refine lv_i2c C.1 C.2.1 hd ?_ (k H locs arr h1 h2 h3 h4)
  have hx : x = ((x.toNat : Nat) : Int) := by omega
  have hn : x.toNat < 65536 := by omega
  rw [hx]
  have e : Int32.ofInt ((x.toNat : Nat) : Int) = nI x.toNat := rfl
  rw [e, pk_char, pk_tn (by omega), Nat.mod_eq_of_lt hn]
theorem jv_i2l (C : jv_C p s m args c cc own s0 b0 D ids) {x : Int} (hr : jv_r x) (hd : decode cc pc = .ok (.i2l, 1)) (k : jv_V p l e R s m args below meth c cells slots Z s0 D ids ex sh g (pc + 1) ls (.long (Int64.ofInt x) :: st)) : jv_V p l e R s m args below meth c cells slots Z s0 D ids ex sh g pc ls (jv_i x :: st) := by
  intro H locs arr h1 h2 h3 h4
  refine lv_i2l C.1 C.2.1 hd ?_ (k H locs arr h1 h2 h3 h4)
  apply Int64.toInt_inj.mp
  rw [Int32.toInt_toInt64, hr.to, Int64.toInt_ofInt_of_le (by have := hr.1; omega) (by have := hr.2; omega)]
theorem jv_lconst (C : jv_C p s m args c cc own s0 b0 D ids) {n : Fin 2} (hd : decode cc pc = .ok (.lconst n, 1)) (k : jv_V p l e R s m args below meth c cells slots Z s0 D ids ex sh g (pc + 1) ls (.long (Int64.ofInt ((n : Nat) : Int)) :: st)) : jv_V p l e R s m args below meth c cells slots Z s0 D ids ex sh g pc ls st :=
  fun H locs arr h1 h2 h3 h4 => lv_lconst C.1 C.2.1 hd rfl (k H locs arr h1 h2 h3 h4)
/-- two longs are compared, and if they differ (are the same) .. -/
theorem jv_lne (C : jv_C p s m args c cc own s0 b0 D ids) {x z off : Int} {tgt : Nat} (hx : jv_r x) (hz : jv_r z) (hd : decode cc pc = .ok (.lcmp, 1)) (hd2 : decode cc (pc + 1) = .ok (.ifCond .ne off, 3)) (ht : ((pc + 1 : Nat) : Int) + off = (tgt : Int)) (kt : ¬ x = z → jv_V p l e R s m args below meth c cells slots Z s0 D ids ex sh g tgt ls st) (kf : x = z → jv_V p l e R s m args below meth c cells slots Z s0 D ids ex sh g (pc + 1 + 3) ls st) : jv_V p l e R s m args below meth c cells slots Z s0 D ids ex sh g pc ls (.long (Int64.ofInt z) :: .long (Int64.ofInt x) :: st) := by
  intro H locs arr h1 h2 h3 h4
  have ex : (Int64.ofInt x).toInt = x := Int64.toInt_ofInt_of_le (by have := hx.1; omega) (by have := hx.2; omega)
  have ez : (Int64.ofInt z).toInt = z := Int64.toInt_ofInt_of_le (by have := hz.1; omega) (by have := hz.2; omega)
  have e : lg_cmp (Int64.ofInt x) (Int64.ofInt z) = 0 ↔ x = z := by
    rw [jv_lc0]
    exact ⟨fun h => by rw [← ex, ← ez, h], fun h => by rw [h]⟩
  refine W.lcmp C.1 C.2.1 hd ?_
  refine lv_if_ne C.1 C.2.1 hd2 ht (fun h => kt (fun h' => h (e.mpr h')) H locs arr h1 h2 h3 h4) (fun h => kf (e.mp h) H locs arr h1 h2 h3 h4)
theorem jv_leq (C : jv_C p s m args c cc own s0 b0 D ids) {x z off : Int} {tgt : Nat} (hx : jv_r x) (hz : jv_r z) (hd : decode cc pc = .ok (.lcmp, 1)) (hd2 : decode cc (pc + 1) = .ok (.ifCond .eq off, 3)) (ht : ((pc + 1 : Nat) : Int) + off = (tgt : Int)) (kt : x = z → jv_V p l e R s m args below meth c cells slots Z s0 D ids ex sh g tgt ls st) (kf : ¬ x = z → jv_V p l e R s m args below meth c cells slots Z s0 D ids ex sh g (pc + 1 + 3) ls st) : jv_V p l e R s m args below meth c cells slots Z s0 D ids ex sh g pc ls (.long (Int64.ofInt z) :: .long (Int64.ofInt x) :: st) := by
  intro H locs arr h1 h2 h3 h4
  have ex : (Int64.ofInt x).toInt = x := Int64.toInt_ofInt_of_le (by have := hx.1; omega) (by have := hx.2; omega)
  have ez : (Int64.ofInt z).toInt = z := Int64.toInt_ofInt_of_le (by have := hz.1; omega) (by have := hz.2; omega)
  have e : lg_cmp (Int64.ofInt x) (Int64.ofInt z) = 0 ↔ x = z := by
    rw [jv_lc0]
    exact ⟨fun h => by rw [← ex, ← ez, h], fun h => by rw [h]⟩
  refine W.lcmp C.1 C.2.1 hd ?_
  refine lv_if_eq C.1 C.2.1 hd2 ht (fun h => kt (e.mp h) H locs arr h1 h2 h3 h4) (fun h => kf (fun h' => h (e.mpr h')) H locs arr h1 h2 h3 h4)
end JVX
theorem jv_nz {x : Int} (h : x = 0 ∨ x = 1) : narrow .boolean (jv_i x) = jv_i x := by rcases h with rfl | rfl <;> rfl
theorem jv_nc {x : Int} (h : 0 ≤ x ∧ x < 65536) : narrow .char (jv_i x) = jv_i x := by
  have hx : x = ((x.toNat : Nat) : Int) := by omega
  have hn : x.toNat < 65536 := by omega
  rw [hx]
  exact (pk_charN hn).1
section JVY
variable {p : Program} {l : Launch} {e : Env} {R : Room} {s : State} {m : MethodId} {args : Array Value} {below : List Frame} {meth : Method} {c : Code} {cells slots : Nat} {Z : State → Prop} {s0 : State} {b0 : Addr} {D : va_G} {ids : Nat → ClassId} {ex : Option Nat} {sh : jv_Sh} {g : jv_Mem} {pc : Nat} {ls ls' : List (Option Value)} {st st0 : List Value} {cc : ByteArray} {own : String}
variable {y : MethodName} {cb : ByteArray} {mL : Nat} {rt : Option FieldType} {fr lo mc ms n idx : Nat} {X : String → jv_Mem → Prop} {As : List Value} {host : String}
theorem jv_callVi (C : jv_C p s m args c cc own s0 b0 D ids) {i : Int} {ci : Nat} {ds : List (Option (Option Int))} {Q : Int → jv_Mem → Prop} (M : jv_M l s0 b0 D ids y cb mL rt fr lo 0 0 ex sh g (.ref (s0.heap.size + i.toNat) :: As) ex sh (jv_qi Q)) (hK : jv_KV own idx y cb mL rt n) (hs : sh i = some (.inr (ci, ds))) (hcn : (vwCl[ci]?).map (fun q => q.1) = some y.cls) (hn : As.length = n) (hR : Nat.ble (fr + 1) R.frames = true ∧ Nat.ble (8 + (mL + 11) + lo) R.locals = true) (hst : st0 = As.reverse ++ .ref (s0.heap.size + i.toNat) :: st) (hroom : Nat.ble (st.map fun v => v.category).sum 8 = true) (hf : Nat.ble (cells + 0) R.cells = true ∧ Nat.ble (slots + 0) R.slots = true) (hd : decode cc pc = .ok (.invokevirtual idx, 3)) (k : ∀ (r : Int) (g' : jv_Mem), Q r g' → jv_V p l e R s m args below meth c cells slots Z s0 D ids ex sh g' (pc + 3) ls (jv_i r :: st)) : jv_V p l e R s m args below meth c cells slots Z s0 D ids ex sh g pc ls st0 :=
  jv_callV C M hK hs hcn hn hR hst hroom hf hd (fun v g' hq => by obtain ⟨r, rfl, hq⟩ := hq; exact k r g' hq)
theorem jv_callVv (C : jv_C p s m args c cc own s0 b0 D ids) {i : Int} {ci : Nat} {ds : List (Option (Option Int))} {Q : jv_Mem → Prop} (M : jv_M l s0 b0 D ids y cb mL rt fr lo 0 0 ex sh g (.ref (s0.heap.size + i.toNat) :: As) ex sh (jv_qv Q)) (hK : jv_KV own idx y cb mL rt n) (hs : sh i = some (.inr (ci, ds))) (hcn : (vwCl[ci]?).map (fun q => q.1) = some y.cls) (hn : As.length = n) (hR : Nat.ble (fr + 1) R.frames = true ∧ Nat.ble (8 + (mL + 11) + lo) R.locals = true) (hst : st0 = As.reverse ++ .ref (s0.heap.size + i.toNat) :: st) (hroom : Nat.ble (st.map fun v => v.category).sum 8 = true) (hf : Nat.ble (cells + 0) R.cells = true ∧ Nat.ble (slots + 0) R.slots = true) (hd : decode cc pc = .ok (.invokevirtual idx, 3)) (k : ∀ g' : jv_Mem, Q g' → jv_V p l e R s m args below meth c cells slots Z s0 D ids ex sh g' (pc + 3) ls st) : jv_V p l e R s m args below meth c cells slots Z s0 D ids ex sh g pc ls st0 :=
  jv_callV C M hK hs hcn hn hR hst hroom hf hd (fun v g' hq => by obtain ⟨rfl, hq⟩ := hq; exact k g' hq)
theorem jv_callVXi (C : jv_C p s m args c cc own s0 b0 D ids) {i : Int} {ci : Nat} {ds : List (Option (Option Int))} {Q : Int → jv_Mem → Prop} (M : jv_MX l s0 b0 D ids y cb mL rt fr lo mc ms sh g (.ref (s0.heap.size + i.toNat) :: As) (jv_qi Q) X) (hK : jv_KV own idx y cb mL rt n) (hs : sh i = some (.inr (ci, ds))) (hcn : (vwCl[ci]?).map (fun q => q.1) = some y.cls) (hn : As.length = n) (hR : Nat.ble (fr + 1) R.frames = true ∧ Nat.ble (8 + (mL + 11) + lo) R.locals = true) (hst : st0 = As.reverse ++ .ref (s0.heap.size + i.toNat) :: st) (hroom : Nat.ble (st.map fun v => v.category).sum 8 = true) (hf : Nat.ble (cells + mc) R.cells = true ∧ Nat.ble (slots + ms) R.slots = true) (hd : decode cc pc = .ok (.invokevirtual idx, 3)) (k : ∀ (r : Int) (g' : jv_Mem), Q r g' → jv_V p l e R s m args below meth c (cells + mc) (slots + ms) Z s0 D ids none sh g' (pc + 3) ls (jv_i r :: st)) (kx : ∀ (E : String) (g' : jv_Mem), X E g' → jv_VX p l e R s m args below meth c (cells + mc) (slots + ms) Z s0 D ids sh g' pc ls st E) : jv_V p l e R s m args below meth c cells slots Z s0 D ids none sh g pc ls st0 :=
  jv_callVX C M hK hs hcn hn hR hst hroom hf hd (fun v g' hq => by obtain ⟨r, rfl, hq⟩ := hq; exact k r g' hq) kx
theorem jv_callVXv (C : jv_C p s m args c cc own s0 b0 D ids) {i : Int} {ci : Nat} {ds : List (Option (Option Int))} {Q : jv_Mem → Prop} (M : jv_MX l s0 b0 D ids y cb mL rt fr lo mc ms sh g (.ref (s0.heap.size + i.toNat) :: As) (jv_qv Q) X) (hK : jv_KV own idx y cb mL rt n) (hs : sh i = some (.inr (ci, ds))) (hcn : (vwCl[ci]?).map (fun q => q.1) = some y.cls) (hn : As.length = n) (hR : Nat.ble (fr + 1) R.frames = true ∧ Nat.ble (8 + (mL + 11) + lo) R.locals = true) (hst : st0 = As.reverse ++ .ref (s0.heap.size + i.toNat) :: st) (hroom : Nat.ble (st.map fun v => v.category).sum 8 = true) (hf : Nat.ble (cells + mc) R.cells = true ∧ Nat.ble (slots + ms) R.slots = true) (hd : decode cc pc = .ok (.invokevirtual idx, 3)) (k : ∀ g' : jv_Mem, Q g' → jv_V p l e R s m args below meth c (cells + mc) (slots + ms) Z s0 D ids none sh g' (pc + 3) ls st) (kx : ∀ (E : String) (g' : jv_Mem), X E g' → jv_VX p l e R s m args below meth c (cells + mc) (slots + ms) Z s0 D ids sh g' pc ls st E) : jv_V p l e R s m args below meth c cells slots Z s0 D ids none sh g pc ls st0 :=
  jv_callVX C M hK hs hcn hn hR hst hroom hf hd (fun v g' hq => by obtain ⟨rfl, hq⟩ := hq; exact k g' hq) kx
theorem jv_callSi (C : jv_C p s m args c cc own s0 b0 D ids) {Q : Int → jv_Mem → Prop} (M : jv_M l s0 b0 D ids y cb mL rt fr lo 0 0 ex sh g As ex sh (jv_qi Q)) (hK : jv_KS own idx y cb mL rt n) (hn : As.length = n) (hR : Nat.ble (fr + 1) R.frames = true ∧ Nat.ble (8 + (mL + 11) + lo) R.locals = true) (hst : st0 = As.reverse ++ st) (hroom : Nat.ble (st.map fun v => v.category).sum 8 = true) (hf : Nat.ble (cells + 0) R.cells = true ∧ Nat.ble (slots + 0) R.slots = true) (hd : decode cc pc = .ok (.invokestatic idx, 3)) (k : ∀ (r : Int) (g' : jv_Mem), Q r g' → jv_V p l e R s m args below meth c cells slots Z s0 D ids ex sh g' (pc + 3) ls (jv_i r :: st)) : jv_V p l e R s m args below meth c cells slots Z s0 D ids ex sh g pc ls st0 :=
  jv_callS C M hK hn hR hst hroom hf hd (fun v g' hq => by obtain ⟨r, rfl, hq⟩ := hq; exact k r g' hq)
theorem jv_callSv (C : jv_C p s m args c cc own s0 b0 D ids) {Q : jv_Mem → Prop} (M : jv_M l s0 b0 D ids y cb mL rt fr lo 0 0 ex sh g As ex sh (jv_qv Q)) (hK : jv_KS own idx y cb mL rt n) (hn : As.length = n) (hR : Nat.ble (fr + 1) R.frames = true ∧ Nat.ble (8 + (mL + 11) + lo) R.locals = true) (hst : st0 = As.reverse ++ st) (hroom : Nat.ble (st.map fun v => v.category).sum 8 = true) (hf : Nat.ble (cells + 0) R.cells = true ∧ Nat.ble (slots + 0) R.slots = true) (hd : decode cc pc = .ok (.invokestatic idx, 3)) (k : ∀ g' : jv_Mem, Q g' → jv_V p l e R s m args below meth c cells slots Z s0 D ids ex sh g' (pc + 3) ls st) : jv_V p l e R s m args below meth c cells slots Z s0 D ids ex sh g pc ls st0 :=
  jv_callS C M hK hn hR hst hroom hf hd (fun v g' hq => by obtain ⟨rfl, hq⟩ := hq; exact k g' hq)
theorem jv_callSXi (C : jv_C p s m args c cc own s0 b0 D ids) {Q : Int → jv_Mem → Prop} (M : jv_MX l s0 b0 D ids y cb mL rt fr lo mc ms sh g As (jv_qi Q) X) (hK : jv_KS own idx y cb mL rt n) (hn : As.length = n) (hR : Nat.ble (fr + 1) R.frames = true ∧ Nat.ble (8 + (mL + 11) + lo) R.locals = true) (hst : st0 = As.reverse ++ st) (hroom : Nat.ble (st.map fun v => v.category).sum 8 = true) (hf : Nat.ble (cells + mc) R.cells = true ∧ Nat.ble (slots + ms) R.slots = true) (hd : decode cc pc = .ok (.invokestatic idx, 3)) (k : ∀ (r : Int) (g' : jv_Mem), Q r g' → jv_V p l e R s m args below meth c (cells + mc) (slots + ms) Z s0 D ids none sh g' (pc + 3) ls (jv_i r :: st)) (kx : ∀ (E : String) (g' : jv_Mem), X E g' → jv_VX p l e R s m args below meth c (cells + mc) (slots + ms) Z s0 D ids sh g' pc ls st E) : jv_V p l e R s m args below meth c cells slots Z s0 D ids none sh g pc ls st0 :=
  jv_callSX C M hK hn hR hst hroom hf hd (fun v g' hq => by obtain ⟨r, rfl, hq⟩ := hq; exact k r g' hq) kx
theorem jv_callSXv (C : jv_C p s m args c cc own s0 b0 D ids) {Q : jv_Mem → Prop} (M : jv_MX l s0 b0 D ids y cb mL rt fr lo mc ms sh g As (jv_qv Q) X) (hK : jv_KS own idx y cb mL rt n) (hn : As.length = n) (hR : Nat.ble (fr + 1) R.frames = true ∧ Nat.ble (8 + (mL + 11) + lo) R.locals = true) (hst : st0 = As.reverse ++ st) (hroom : Nat.ble (st.map fun v => v.category).sum 8 = true) (hf : Nat.ble (cells + mc) R.cells = true ∧ Nat.ble (slots + ms) R.slots = true) (hd : decode cc pc = .ok (.invokestatic idx, 3)) (k : ∀ g' : jv_Mem, Q g' → jv_V p l e R s m args below meth c (cells + mc) (slots + ms) Z s0 D ids none sh g' (pc + 3) ls st) (kx : ∀ (E : String) (g' : jv_Mem), X E g' → jv_VX p l e R s m args below meth c (cells + mc) (slots + ms) Z s0 D ids sh g' pc ls st E) : jv_V p l e R s m args below meth c cells slots Z s0 D ids none sh g pc ls st0 :=
  jv_callSX C M hK hn hR hst hroom hf hd (fun v g' hq => by obtain ⟨rfl, hq⟩ := hq; exact k g' hq) kx
theorem jv_callSNi (C : jv_C p s m args c cc own s0 b0 D ids) {Q : Int → jv_Mem → Prop} (M : jv_M l s0 b0 D ids y cb mL rt fr lo 0 0 ex sh g As ex sh (jv_qi Q)) (hK : jv_KSN own idx y host cb mL rt n) (hn : As.length = n) (hR : Nat.ble (fr + 1) R.frames = true ∧ Nat.ble (8 + (mL + 11) + lo) R.locals = true) (hst : st0 = As.reverse ++ st) (hroom : Nat.ble (st.map fun v => v.category).sum 8 = true) (hf : Nat.ble (cells + 0) R.cells = true ∧ Nat.ble (slots + 0) R.slots = true) (hd : decode cc pc = .ok (.invokestatic idx, 3)) (k : ∀ (r : Int) (g' : jv_Mem), Q r g' → jv_V p l e R s m args below meth c cells slots Z s0 D ids ex sh g' (pc + 3) ls (jv_i r :: st)) : jv_V p l e R s m args below meth c cells slots Z s0 D ids ex sh g pc ls st0 :=
  jv_callSN C M hK hn hR hst hroom hf hd (fun v g' hq => by obtain ⟨r, rfl, hq⟩ := hq; exact k r g' hq)
theorem jv_callSNv (C : jv_C p s m args c cc own s0 b0 D ids) {Q : jv_Mem → Prop} (M : jv_M l s0 b0 D ids y cb mL rt fr lo 0 0 ex sh g As ex sh (jv_qv Q)) (hK : jv_KSN own idx y host cb mL rt n) (hn : As.length = n) (hR : Nat.ble (fr + 1) R.frames = true ∧ Nat.ble (8 + (mL + 11) + lo) R.locals = true) (hst : st0 = As.reverse ++ st) (hroom : Nat.ble (st.map fun v => v.category).sum 8 = true) (hf : Nat.ble (cells + 0) R.cells = true ∧ Nat.ble (slots + 0) R.slots = true) (hd : decode cc pc = .ok (.invokestatic idx, 3)) (k : ∀ g' : jv_Mem, Q g' → jv_V p l e R s m args below meth c cells slots Z s0 D ids ex sh g' (pc + 3) ls st) : jv_V p l e R s m args below meth c cells slots Z s0 D ids ex sh g pc ls st0 :=
  jv_callSN C M hK hn hR hst hroom hf hd (fun v g' hq => by obtain ⟨rfl, hq⟩ := hq; exact k g' hq)
end JVY
