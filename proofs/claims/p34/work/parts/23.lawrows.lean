/-- a method with a table of its own: it returns -/
def jv_MW (l : Launch) (s0 : State) (b0 : Addr) (D : va_G) (ids : Nat → ClassId) (y : MethodName) (cb : ByteArray) (mL : Nat) (rt : Option FieldType) (hh : List (Nat × Nat × Nat × Nat)) (fr lo mc ms : Nat) (sh : jv_Sh) (g : jv_Mem) (av : List Value) (Q : Option Value → jv_Mem → Prop) : Prop :=
  vx_Met l y [Cond.codeWith y cb mL rt hh] (jv_rm fr lo mc ms) (jv_Pc s0 b0 D ids none sh g av) (jv_Qc s0 D ids none sh Q) (jv_Xc s0 D ids sh (fun _ _ => False)) mc ms (fun q => s0.heap.size ≤ q)
theorem jv_MW.of {l : Launch} {s0 : State} {b0 : Addr} {D : va_G} {ids : Nat → ClassId} {sh : jv_Sh} {g : jv_Mem} {y : MethodName} {cb : ByteArray} {mL : Nat} {rt : Option FieldType} {hh : List (Nat × Nat × Nat × Nat)} {fr lo mc ms : Nat} {Q : Option Value → jv_Mem → Prop} {av : List Value} (hy : plainName y.cls = true) (hl : Nat.ble (lg_sl av).length mL = true) (hca : av.all (fun v => v.category == 1) = true)
    (body : ∀ (p : Program) (e : Env) (s : State) (m : MethodId) (args : Array Value) (below : List Frame) (meth : Method) (c : Code), jv_C p s m args c cb y.cls s0 b0 D ids → mL = c.maxLocals → meth.sig.returnType = rt → meth.locks = false → c.exceptionTable.toList = tableOf hh → jv_V p l e (jv_rm fr lo mc ms) s m args below meth c 0 0 (jv_ZX below s0 D ids sh Q (fun _ _ => False) args s mc ms) s0 D ids none sh g 0 (av.map some ++ List.replicate (mL - av.length) none) []) : jv_MW l s0 b0 D ids y cb mL rt hh fr lo mc ms sh g av Q := by
  refine vx_ofWH (cc := cb) (maxL := mL) (ret := rt) hy rfl ?_
  intro p e s m args below meth c s₁ B hml hv
  obtain ⟨rfl, hG, hH, hz⟩ := hv
  have hcat : ∀ v ∈ av, v.category = 1 := fun v hv => by have := List.all_eq_true.mp hca v hv; simpa using this
  have htab : c.exceptionTable.toList = tableOf hh := vx_table (x := y) B (atoms_spec (ws := [Cond.codeWith y cb mL rt hh]) B.pre _ List.mem_cons_self)
  have hown : s.vm.findClass y.cls = some m.cls := findClass_of_methodNamed B.named
  have hl' := Nat.le_of_ble_eq_true hl
  rw [lg_entry_eq]
  exact body p e s m _ below meth c ⟨B.exec, B.bytes, hown, hG⟩ hml.symm B.returns B.notSynchronized htab s.heap [] _ hH hz va_S.rf (by rw [hml]; exact jv_L.entry av hl' hcat)
def jv_KSW (own : String) (idx : Nat) (y : MethodName) (cb : ByteArray) (mL : Nat) (rt : Option FieldType) (hh : List (Nat × Nat × Nat × Nat)) (n : Nat) : Prop := Cond.methodLink own idx y ∈ jv_tb ∧ Cond.static y ∈ jv_tb ∧ Cond.initialized y.cls ∈ jv_tb ∧ Cond.codeWith y cb mL rt hh ∈ jv_tb ∧ (y.cls ≠ "java/lang/invoke/MethodHandle" ∧ y.cls ≠ "java/lang/invoke/VarHandle" ∧ (parseMethodDescriptor y.desc).map (fun d => d.parameters.length) = some n)
section JVL
variable {p : Program} {l : Launch} {e : Env} {R : Room} {s : State} {m : MethodId} {args : Array Value} {below : List Frame} {meth : Method} {c : Code} {cells slots : Nat} {Z : State → Prop} {s0 : State} {b0 : Addr} {D : va_G} {ids : Nat → ClassId} {sh : jv_Sh} {g : jv_Mem} {pc : Nat} {ls ls' : List (Option Value)} {st st0 : List Value} {cc : ByteArray} {own : String}
variable {y : MethodName} {cb : ByteArray} {mL : Nat} {rt : Option FieldType} {hh : List (Nat × Nat × Nat × Nat)} {fr lo mc ms n idx : Nat} {As : List Value}
theorem jv_lconstK (C : jv_C p s m args c cc own s0 b0 D ids) {n : Fin 2} {k : Int} (hd : decode cc pc = .ok (.lconst n, 1)) (hk : ((n : Nat) : Int) = k) (kk : jv_V p l e R s m args below meth c cells slots Z s0 D ids none sh g (pc + 1) ls (.long (Int64.ofInt k) :: st)) : jv_V p l e R s m args below meth c cells slots Z s0 D ids none sh g pc ls st := jv_lconst C hd (by rw [hk]; exact kk)
theorem jv_callSWi (C : jv_C p s m args c cc own s0 b0 D ids) {Q : Int → jv_Mem → Prop} (M : jv_MW l s0 b0 D ids y cb mL rt hh fr lo mc ms sh g As (jv_qi Q)) (hK : jv_KSW own idx y cb mL rt hh n) (hn : As.length = n) (hR : Nat.ble (fr + 1) R.frames = true ∧ Nat.ble (8 + (mL + 11) + lo) R.locals = true) (hst : st0 = As.reverse ++ st) (hroom : Nat.ble (st.map fun v => v.category).sum 8 = true) (hf : Nat.ble (cells + mc) R.cells = true ∧ Nat.ble (slots + ms) R.slots = true) (hd : decode cc pc = .ok (.invokestatic idx, 3))
    (k : ∀ (r : Int) (g' : jv_Mem), Q r g' → jv_V p l e R s m args below meth c (cells + mc) (slots + ms) Z s0 D ids none sh g' (pc + 3) ls (jv_i r :: st)) : jv_V p l e R s m args below meth c cells slots Z s0 D ids none sh g pc ls st0 := by
  intro H locs arr h1 h2 h3 h4
  obtain ⟨k1, k2, k4, k5, k6⟩ := hK
  have hts := C.2.2.2.hts (a := args)
  have hgood : ∀ w ∈ [Cond.codeWith y cb mL rt hh], w ∈ jv_tb := fun w hw => by rw [List.mem_singleton.mp hw]; exact k5
  have cw : vx_CSW R s args own idx y cb mL rt hh [Cond.codeWith y cb mL rt hh] (jv_rm fr lo mc ms) mc ms n :=
    ⟨⟨rfl, rfl, Nat.le_of_ble_eq_true hR.1, Nat.le_of_ble_eq_true hR.2, pay_in hts (jv_good hgood), List.mem_cons_self⟩, hts _ k5, hts _ k4, ⟨k6.1, k6.2.1⟩, fun sig h => by have h2 := k6.2.2; rw [h] at h2; exact (Option.some.inj h2).symm, hts _ k1, hts _ k2⟩
  exact jv_backX (vx_runSX (jv_fix C) M cw ⟨jv_Pc.blind, fun U hU hW => jv_G.pre C h1 h2 h3 U hU hW⟩ rfl hn h4.1.1 hst (lv_room (Nat.le_of_ble_eq_true hroom)) hd ⟨Nat.le_of_ble_eq_true hf.1, Nat.le_of_ble_eq_true hf.2⟩) h3 h4 (fun v g' hq => by obtain ⟨r, rfl, hq⟩ := hq; exact k r g' hq) (fun E g' hx => hx.elim)
/-- caught by the first row, the second row of the method's table -/
theorem jv_catch1 (C : jv_C p s m args c cc own s0 b0 D ids) {a b h1c t1 : Nat} {rest : List (Nat × Nat × Nat × Nat)} {E : String} (htab : c.exceptionTable.toList = tableOf ((a, b, h1c, t1) :: rest)) (hcov : Nat.ble a pc = true ∧ Nat.ble (pc + 1) b = true) (h0 : t1 ≠ 0) (hlink : Cond.classLink own t1 E ∈ jv_tb) (hcast : Cond.castable E E ∈ lw_tbl) (k : ∀ q : Addr, jv_V p l e R s m args below meth c cells slots Z s0 D ids none sh g h1c ls [.ref q]) : jv_VX p l e R s m args below meth c cells slots Z s0 D ids sh g pc ls st E := by
  intro H locs arr q ce g1 g3 g4 hq hv hcl
  have hts := C.2.2.2.hts (a := args)
  refine vx_catch (own := own) (name := E) (E := E) C.2.2.1 [] ⟨a, b, h1c, t1⟩ (tableOf rest) (by rw [htab]; rfl) (fun z hz => nomatch hz) ?_ h0 (hts _ hlink) (va_Nw.use rfl (va_Nw.warmC C.2.2.2.2.1 (va_Nw.of rfl (C.2.2.2.1.1 _ hcast)))) hq hv hcl (k q H locs arr g1 (fun n hn => by cases hn) g3 g4)
  have h5 := Nat.le_of_ble_eq_true hcov.1
  have h6 := Nat.le_of_ble_eq_true hcov.2
  simp [covers]
  omega
theorem jv_catch2 (C : jv_C p s m args c cc own s0 b0 D ids) (hT : jv_T l s0 b0) {a b h1c t1 a2 b2 h2c t2 : Nat} {E E1 : String} (htab : c.exceptionTable.toList = tableOf [(a, b, h1c, t1), (a2, b2, h2c, t2)]) (hcov : Nat.ble a2 pc = true ∧ Nat.ble (pc + 1) b2 = true) (h0 : t1 ≠ 0 ∧ t2 ≠ 0) (hlink1 : Cond.classLink own t1 E1 ∈ jv_tb) (hlink : Cond.classLink own t2 E ∈ jv_tb) (hcast : Cond.castable E E ∈ lw_tbl) (hnot : Cond.not (.castable E E1) ∈ flatC (Jvm.Cond.and given_1 narrow_1)) (k : ∀ q : Addr, jv_V p l e R s m args below meth c cells slots Z s0 D ids none sh g h2c ls [.ref q]) : jv_VX p l e R s m args below meth c cells slots Z s0 D ids sh g pc ls st E := by
  intro H locs arr q ce g1 g3 g4 hq hv hcl
  have hts := C.2.2.2.hts (a := args)
  have hnc : va_Nc E E1 s := va_Nc.moved C.2.2.2.2.1.alike (va_Nc.of (hT.word hnot))
  refine vx_catch (own := own) (name := E) (E := E) C.2.2.1 [⟨a, b, h1c, t1⟩] ⟨a2, b2, h2c, t2⟩ [] (by rw [htab]; rfl) (fun z hz => by rw [List.mem_singleton.mp hz]; exact Or.inr ⟨h0.1, E1, hts _ hlink1, hnc⟩) ?_ h0.2 (hts _ hlink) (va_Nw.use rfl (va_Nw.warmC C.2.2.2.2.1 (va_Nw.of rfl (C.2.2.2.1.1 _ hcast)))) hq hv hcl (k q H locs arr g1 (fun n hn => by cases hn) g3 g4)
  have h5 := Nat.le_of_ble_eq_true hcov.1
  have h6 := Nat.le_of_ble_eq_true hcov.2
  simp [covers]
  omega
end JVL
theorem kx_L_15 : Cond.classLink RL 15 "java/lang/IllegalStateException" ∈ jv_tb := (jv_tb_in (jv_tm (k := 644) (by decide +kernel)) (by decide +kernel))
theorem kz_IllegalStateException : Cond.castable "java/lang/IllegalStateException" "java/lang/IllegalStateException" ∈ lw_tbl := jv_tm (k := 488) (by decide +kernel)
theorem kw_L_101 : jv_KSW RL 101 yL_addWord cL_addWord 3 (some .int) [(0, 5, 6, 15)] 2 := ⟨(jv_tb_in (jv_tm (k := 641) (by decide +kernel)) (by decide +kernel)), (jv_tb_in (jv_tm (k := 642) (by decide +kernel)) (by decide +kernel)), (jv_tb_in (jv_tm (k := 0) (by decide +kernel)) (by decide +kernel)), (jv_tb_in (jv_tm (k := 643) (by decide +kernel)) (by decide +kernel)), by decide +kernel, by decide +kernel, by decide +kernel⟩
theorem kw_L_123 : jv_KSW RL 123 yL_publish cL_publish 2 (some .int) [(0, 4, 5, 15)] 1 := ⟨(jv_tb_in (jv_tm (k := 662) (by decide +kernel)) (by decide +kernel)), (jv_tb_in (jv_tm (k := 663) (by decide +kernel)) (by decide +kernel)), (jv_tb_in (jv_tm (k := 0) (by decide +kernel)) (by decide +kernel)), (jv_tb_in (jv_tm (k := 664) (by decide +kernel)) (by decide +kernel)), by decide +kernel, by decide +kernel, by decide +kernel⟩
theorem kw_L_115 : jv_KSW RL 115 yL_clue cL_clue 3 (some .int) [(0, 5, 6, 15)] 2 := ⟨(jv_tb_in (jv_tm (k := 726) (by decide +kernel)) (by decide +kernel)), (jv_tb_in (jv_tm (k := 727) (by decide +kernel)) (by decide +kernel)), (jv_tb_in (jv_tm (k := 0) (by decide +kernel)) (by decide +kernel)), (jv_tb_in (jv_tm (k := 728) (by decide +kernel)) (by decide +kernel)), by decide +kernel, by decide +kernel, by decide +kernel⟩
theorem kw_L_120 : jv_KSW RL 120 yL_edit cL_edit 4 (some .int) [(0, 6, 7, 15)] 3 := ⟨(jv_tb_in (jv_tm (k := 738) (by decide +kernel)) (by decide +kernel)), (jv_tb_in (jv_tm (k := 739) (by decide +kernel)) (by decide +kernel)), (jv_tb_in (jv_tm (k := 0) (by decide +kernel)) (by decide +kernel)), (jv_tb_in (jv_tm (k := 740) (by decide +kernel)) (by decide +kernel)), by decide +kernel, by decide +kernel, by decide +kernel⟩
theorem kw_L_144 : jv_KSW RL 144 yL_enter cL_enter 6 (some .int) [(0, 17, 18, 15)] 5 := ⟨(jv_tb_in (jv_tm (k := 751) (by decide +kernel)) (by decide +kernel)), (jv_tb_in (jv_tm (k := 752) (by decide +kernel)) (by decide +kernel)), (jv_tb_in (jv_tm (k := 0) (by decide +kernel)) (by decide +kernel)), (jv_tb_in (jv_tm (k := 753) (by decide +kernel)) (by decide +kernel)), by decide +kernel, by decide +kernel, by decide +kernel⟩
theorem kw_L_141 : jv_KSW RL 141 yL_help cL_help 5 (some .int) [(0, 7, 8, 15)] 4 := ⟨(jv_tb_in (jv_tm (k := 788) (by decide +kernel)) (by decide +kernel)), (jv_tb_in (jv_tm (k := 789) (by decide +kernel)) (by decide +kernel)), (jv_tb_in (jv_tm (k := 0) (by decide +kernel)) (by decide +kernel)), (jv_tb_in (jv_tm (k := 790) (by decide +kernel)) (by decide +kernel)), by decide +kernel, by decide +kernel, by decide +kernel⟩
theorem kw_L_150 : jv_KSW RL 150 yL_judge cL_judge 4 (some .int) [(0, 6, 7, 15)] 3 := ⟨(jv_tb_in (jv_tm (k := 811) (by decide +kernel)) (by decide +kernel)), (jv_tb_in (jv_tm (k := 812) (by decide +kernel)) (by decide +kernel)), (jv_tb_in (jv_tm (k := 0) (by decide +kernel)) (by decide +kernel)), (jv_tb_in (jv_tm (k := 813) (by decide +kernel)) (by decide +kernel)), by decide +kernel, by decide +kernel, by decide +kernel⟩
