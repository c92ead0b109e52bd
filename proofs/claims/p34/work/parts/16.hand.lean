def jv_fill (g : jv_Mem) (r : Int) (n : Int) (v : Int) : jv_Mem := fun a b => if a = r ∧ 0 ≤ b ∧ b < n then v else g a b
theorem jv_fill_0 (g : jv_Mem) (r v : Int) : jv_fill g r 0 v = g := by
  funext a b
  unfold jv_fill
  rw [if_neg (by omega)]
theorem jv_fill_s (g : jv_Mem) (r v : Int) {n : Int} (hn : 0 ≤ n) : jv_up (jv_fill g r n v) r n v = jv_fill g r (n + 1) v := by
  funext a b
  unfold jv_up jv_fill
  by_cases h : a = r ∧ b = n
  · rw [if_pos h, if_pos ⟨h.1, by omega, by omega⟩]
  · rw [if_neg h]
    by_cases h2 : a = r ∧ 0 ≤ b ∧ b < n
    · rw [if_pos h2, if_pos ⟨h2.1, h2.2.1, by omega⟩]
    · rw [if_neg h2, if_neg (fun h3 => h2 ⟨h3.1, h3.2.1, by
        have : b ≠ n := fun h4 => h ⟨h3.1, h4⟩
        omega⟩)]
/-- a method of java.lang.Math that no entry runs -/
theorem jv_plainFD : plainFor yJ9_floorDiv_7cf53 = true := by decide +kernel
theorem jv_M.ofF {l : Launch} {s0 : State} {b0 : Addr} {D : va_G} {ids : Nat → ClassId} {ex ex' : Option Nat} {sh sh' : jv_Sh} {g : jv_Mem} {y : MethodName} {cb : ByteArray} {mL : Nat} {rt : Option FieldType} {fr lo mc ms : Nat} {Q : Option Value → jv_Mem → Prop} {av : List Value} (hy : plainFor y = true) (hl : Nat.ble (lg_sl av).length mL = true) (hca : av.all (fun v => v.category == 1) = true)
    (body : ∀ (p : Program) (e : Env) (s : State) (m : MethodId) (args : Array Value) (below : List Frame) (meth : Method) (c : Code), jv_C p s m args c cb y.cls s0 b0 D ids → mL = c.maxLocals → meth.sig.returnType = rt → meth.locks = false → meth.name = y.name → jv_V p l e (jv_rm fr lo mc ms) s m args below meth c 0 0 (jv_ZM below s0 D ids ex' sh' Q args s mc ms) s0 D ids ex sh g 0 (av.map some ++ List.replicate (mL - av.length) none) []) : jv_M l s0 b0 D ids y cb mL rt fr lo mc ms ex sh g av ex' sh' Q := by
  unfold jv_M Met
  refine MetFree.of_bodySF (code := cb) (maxLocals := mL) (ret := rt) hy ?_ ?_
  · intro args s m h hn
    obtain ⟨meth, c, h1, h2, h3, h4, h5, h6, -, -⟩ := Cond.code_spec hn (atoms_spec (ws := [Cond.code y cb mL rt]) h _ List.mem_cons_self)
    exact ⟨meth, c, h1, h2, h3, h4, h5, h6⟩
  · intro p e s m args below meth c s₁ B hml hv _
    obtain ⟨rfl, hG, hH, hz⟩ := hv
    have hown : s.vm.findClass y.cls = some m.cls := findClass_of_methodNamed B.named
    have hin : meth.name = y.name := (name_of_methodNamed B.named B.method).1
    have hl' := Nat.le_of_ble_eq_true hl
    have hcat : ∀ v ∈ av, v.category = 1 := fun v hv => by have := List.all_eq_true.mp hca v hv; simpa using this
    have hh0 : s₁.heap = s.heap := by rw [B.state]; rfl
    have k := body p e s m av.toArray below meth c ⟨B.exec, B.bytes, hown, hG⟩ hml.symm B.returns B.notSynchronized hin s.heap [] _ hH hz va_S.rf (by rw [hml]; exact jv_L.entry av hl' hcat)
    rw [← lg_entry_eq] at k
    obtain ⟨t, a1, o, b1, b2, b3⟩ := k s₁ hh0 (Stand.of_body B)
    exact ⟨t, o, a1, b1, b2, ⟨b3.1, b3.2⟩⟩
section JVF
variable {p : Program} {l : Launch} {e : Env} {R : Room} {s : State} {m : MethodId} {args : Array Value} {below : List Frame} {meth : Method} {c : Code} {cells slots : Nat} {Z : State → Prop} {s0 : State} {b0 : Addr} {D : va_G} {ids : Nat → ClassId} {ex : Option Nat} {sh : jv_Sh} {g : jv_Mem} {pc : Nat} {ls ls' : List (Option Value)} {st : List Value} {cc : ByteArray} {own : String}
theorem jv_alen (C : jv_C p s m args c cc own s0 b0 D ids) {i : Int} {n mm : Nat} (hs : sh i = some (.inl (0, n, mm))) (hd : decode cc pc = .ok (.arraylength, 1)) (k : jv_V p l e R s m args below meth c cells slots Z s0 D ids ex sh g (pc + 1) ls (jv_i (n : Nat) :: st)) : jv_V p l e R s m args below meth c cells slots Z s0 D ids ex sh g pc ls (.ref (s0.heap.size + i.toNat) :: st) :=
  fun H locs arr h1 h2 h3 h4 => va_alen (D := D) (cl := vwCl) (tys := jv_tys ids) C.1 C.2.1 C.2.2.2.K (va_P.one (h1 i _ hs).2) 0 0 rfl rfl rfl hd (k H locs arr h1 h2 h3 h4)
set_option maxHeartbeats 4000000 in
set_option maxRecDepth 100000 in
/-- Arrays.fill(int[], int) -/
theorem M_J7_fill {r v : Int} {N mm : Nat} (hs : sh r = some (.inl (0, N, mm))) (hN : Nat.blt N 2147483648 = true) {Q : jv_Mem → Prop} (h : Q (jv_fill g r (N : Nat) v)) : jv_M l s0 b0 D ids yJ7_fill_53178 cJ7_fill_53178 4 none 0 0 0 0 ex sh g [.ref (s0.heap.size + r.toNat), jv_i v] ex sh (jv_qv Q) := by
  refine jv_M.of (by decide +kernel) rfl rfl (fun p e s m args below meth c C hml hr hlk hnm => ?_)
  replace C : jv_C p s m args c cJ7_fill_53178 RJ7 s0 b0 D ids := C
  have hN' : N < 2147483648 := by simpa [Nat.blt_eq] using hN
  show jv_V p l e (jv_rm 0 0 0 0) s m args below meth c 0 0 (jv_ZM below s0 D ids ex sh (jv_qv Q) args s 0 0) s0 D ids ex sh g 0 [some (.ref (s0.heap.size + r.toNat)), some (jv_i v), none, none] []
  refine jv_const C dJ7_fill_53178_0 ?_
  refine jv_istore_n (ls' := [some (.ref (s0.heap.size + r.toNat)), some (jv_i v), some (jv_i 0), none]) C dJ7_fill_53178_1 (Nat.lt_of_lt_of_eq (Nat.le_of_ble_eq_true rfl) hml) rfl ?_
  refine jv_aload_n C dJ7_fill_53178_2 rfl ?_
  refine jv_alen C hs dJ7_fill_53178_3 ?_
  refine jv_istore_n (ls' := [some (.ref (s0.heap.size + r.toNat)), some (jv_i v), some (jv_i 0), some (jv_i (N : Nat))]) C dJ7_fill_53178_4 (Nat.lt_of_lt_of_eq (Nat.le_of_ble_eq_true rfl) hml) rfl ?_
  have key : ∀ (k i : Nat), i + k = N → jv_V p l e (jv_rm 0 0 0 0) s m args below meth c 0 0 (jv_ZM below s0 D ids ex sh (jv_qv Q) args s 0 0) s0 D ids ex sh (jv_fill g r (i : Nat) v) 5 [some (.ref (s0.heap.size + r.toNat)), some (jv_i v), some (jv_i (i : Nat)), some (jv_i (N : Nat))] [] := by
    intro k
    induction k with
    | zero =>
      intro i hi
      refine jv_iload_n C dJ7_fill_53178_5 rfl ?_
      refine jv_iload_n C dJ7_fill_53178_6 rfl ?_
      refine jv_icmp_ge (tgt := 20) C ⟨by omega, by omega⟩ ⟨by omega, by omega⟩ dJ7_fill_53178_7 rfl (fun hc => ?_) (fun hc => absurd hc (by omega))
      have e : i = N := by omega
      subst e
      exact jv_vret C hr hlk ⟨rfl, h⟩ dJ7_fill_53178_20 ⟨rfl, rfl⟩
    | succ k ih =>
      intro i hi
      refine jv_iload_n C dJ7_fill_53178_5 rfl ?_
      refine jv_iload_n C dJ7_fill_53178_6 rfl ?_
      refine jv_icmp_ge (tgt := 20) C ⟨by omega, by omega⟩ ⟨by omega, by omega⟩ dJ7_fill_53178_7 rfl (fun hc => absurd hc (by omega)) (fun hc => ?_)
      refine jv_aload_n C dJ7_fill_53178_10 rfl ?_
      refine jv_iload_n C dJ7_fill_53178_11 rfl ?_
      refine jv_iload_n C dJ7_fill_53178_12 rfl ?_
      refine jv_iast C hs hN ⟨by omega, by omega⟩ dJ7_fill_53178_13 ?_
      rw [jv_fill_s g r v (by omega)]
      refine jv_iincn C dJ7_fill_53178_14 (Nat.lt_of_lt_of_eq (Nat.le_of_ble_eq_true rfl) hml) rfl (fun w ew => ?_)
      have ew' : w = ((i + 1 : Nat) : Int) := by omega
      subst ew'
      refine jv_goto (tgt := 5) C dJ7_fill_53178_17 rfl ?_
      exact ih (i + 1) (by omega)
  have := key N 0 (by omega)
  rw [show ((0 : Nat) : Int) = 0 from rfl, jv_fill_0] at this
  exact this
end JVF
theorem M_X4_progress {l : Launch} {s0 : State} {b0 : Addr} {D : va_G} {ids : Nat → ClassId} {ex : Option Nat} {g : jv_Mem} {t : Int} (ht : jv_isSv t) : jv_M l s0 b0 D ids yX4_progress cX4_progress 1 (some (.object "Clueyard$Progress")) 0 0 0 0 ex jv_SH g [.ref (s0.heap.size + t.toNat)] ex jv_SH (fun v g' => v = some (.ref (s0.heap.size + (t + 1).toNat)) ∧ g = g') := by
  refine jv_M.of (by decide +kernel) rfl rfl (fun p e s m args below meth c C hml hr hlk hnm => ?_)
  replace C : jv_C p s m args c cX4_progress RX4 s0 b0 D ids := C
  show jv_V p l e (jv_rm 0 0 0 0) s m args below meth c 0 0 (jv_ZM below s0 D ids ex jv_SH _ args s 0 0) s0 D ids ex jv_SH g 0 [some (.ref (s0.heap.size + t.toNat))] []
  refine jv_aload_n C dX4_progress_0 rfl ?_
  refine jv_getr C kf_X4_12 ht.1 rfl dX4_progress_1 ?_
  exact jv_aret C hr hlk ⟨rfl, rfl⟩ dX4_progress_4 ⟨rfl, rfl⟩
