section JVLX
variable {p : Program} {l : Launch} {e : Env} {R : Room} {s : State} {m : MethodId} {args : Array Value} {below : List Frame} {meth : Method} {c : Code} {cells slots : Nat} {Z : State → Prop} {s0 : State} {b0 : Addr} {D : va_G} {ids : Nat → ClassId} {ex : Option Nat} {sh : jv_Sh} {g : jv_Mem} {pc : Nat} {ls : List (Option Value)} {st : List Value} {cc : ByteArray} {own : String} {L : Nat} {xs : Nat → Int32}
theorem jv_pop (C : jv_C p s m args c cc own s0 b0 D ids) {v : Value} (hv : v.category = 1) (hd : decode cc pc = .ok (.pop, 1)) (k : jv_V p l e R s m args below meth c cells slots Z s0 D ids ex sh g (pc + 1) ls st) : jv_V p l e R s m args below meth c cells slots Z s0 D ids ex sh g pc ls (v :: st) :=
  fun H locs arr h1 h2 h3 h4 => lv_pop C.1 C.2.1 hd hv (k H locs arr h1 h2 h3 h4)
/-- two memories that tell the same of the heap: from 126 on nothing stands there -/
def jv_sm (g g' : jv_Mem) : Prop := ∀ i k, i < 126 → g' i k = g i k
theorem jv_SH_lt {j : Int} {k : jv_Kd} (h : jv_SH j = some k) : 0 ≤ j ∧ j < 126 := by
  unfold jv_SH at h
  by_cases h1 : j < 0
  · rw [if_pos h1] at h; cases h
  · refine ⟨by omega, ?_⟩
    by_cases h2 : j < 126
    · exact h2
    · rw [if_neg h1, if_neg (by omega), if_neg (by omega), if_neg h2] at h
      cases h
theorem jv_gh {g' : jv_Mem} (hs : jv_sm g g') (k : jv_V p l e R s m args below meth c cells slots Z s0 D ids ex jv_SH g' pc ls st) : jv_V p l e R s m args below meth c cells slots Z s0 D ids ex jv_SH g pc ls st := by
  intro H locs arr h1 h2 h3 h4
  refine k H locs arr (fun i kd hk => ?_) h2 h3 h4
  have hb := (jv_SH_lt hk).2
  have h5 := h1 i kd hk
  rw [jv_E_congr (g := g') (g' := g) (fun a => hs i a hb) kd]
  exact h5
theorem jv_script (C : jv_C p s m args c cc own s0 b0 D ids) (hX : va_X b0 L xs s0 s0.heap) (hbl : b0 < s0.heap.size) : va_X b0 L xs s s.heap :=
  (va_X.moved C.2.2.2.2.1.alike hX).kept (C.2.2.2.2.2.2 b0 hbl)
theorem jv_slen (C : jv_C p s m args c cc own s0 b0 D ids) (hX : va_X b0 L xs s0 s0.heap) (hbl : b0 < s0.heap.size) (hd : decode cc pc = .ok (.arraylength, 1)) (k : jv_V p l e R s m args below meth c cells slots Z s0 D ids ex sh g (pc + 1) ls (jv_i (L : Nat) :: st)) : jv_V p l e R s m args below meth c cells slots Z s0 D ids ex sh g pc ls (.ref b0 :: st) :=
  fun H locs arr h1 h2 h3 h4 => va_slen C.1 C.2.1 (jv_script C hX hbl) (Nat.lt_of_lt_of_le hbl C.2.2.2.2.2.1) (Nat.not_le.mpr hbl) h3 hd (k H locs arr h1 h2 h3 h4)
theorem jv_sld (C : jv_C p s m args c cc own s0 b0 D ids) (hX : va_X b0 L xs s0 s0.heap) (hbl : b0 < s0.heap.size) (hL : L ≤ 260) {x : Int} (hb : 0 ≤ x ∧ x < ((L : Nat) : Int)) (hd : decode cc pc = .ok (.iaload, 1)) (k : ∀ v : Int, jv_r v → jv_V p l e R s m args below meth c cells slots Z s0 D ids ex sh g (pc + 1) ls (jv_i v :: st)) : jv_V p l e R s m args below meth c cells slots Z s0 D ids ex sh g pc ls (jv_i x :: .ref b0 :: st) := by
  intro H locs arr h1 h2 h3 h4
  obtain ⟨a1, a2⟩ := jv_in hb.1 hb.2 (n := L) (by rw [Nat.blt_eq]; omega)
  have a3 : (Int32.ofInt x).toNatClampNeg = x.toNat := by omega
  refine va_sld C.1 C.2.1 (jv_script C hX hbl) (Nat.lt_of_lt_of_le hbl C.2.2.2.2.2.1) (Nat.not_le.mpr hbl) h3 a1 hd ?_
  have := k (xs x.toNat).toInt ⟨Int32.le_toInt _, Int32.toInt_lt _⟩ H locs arr h1 h2 h3 h4
  unfold jv_i at this
  rw [Int32.ofInt_toInt] at this
  rw [a3]; exact this
theorem jv_ofr (x : Int) : ∃ v : Int, jv_r v ∧ jv_i x = jv_i v :=
  ⟨(Int32.ofInt x).toInt, ⟨Int32.le_toInt _, Int32.toInt_lt _⟩, by unfold jv_i; rw [Int32.ofInt_toInt]⟩
/-- the script's number at a place, or another one behind its end: some int -/
def wp_L_cell (a1 : Int) (Q : Int → jv_Mem → Prop) (g : jv_Mem) : Prop := (jv_r a1 ∧ 0 ≤ a1) ∧ ∀ r : Int, jv_r r → Q r g
set_option maxHeartbeats 4000000 in
set_option maxRecDepth 100000 in
theorem M_L_cell {a1 : Int} {Q : Int → jv_Mem → Prop} (hX : va_X b0 L xs s0 s0.heap) (hbl : b0 < s0.heap.size) (hL : L ≤ 260) (h : wp_L_cell a1 Q g) : jv_M l s0 b0 D ids yL_cell cL_cell 2 (some .int) 0 0 0 0 ex jv_SH g [.ref b0, jv_i a1] ex jv_SH (jv_qi Q) := by
  refine jv_M.of (by decide +kernel) rfl rfl (fun p e s m args below meth c C hml hr hlk hnm => ?_)
  replace C : jv_C p s m args c cL_cell RL s0 b0 D ids := C
  show jv_V p l e (jv_rm 0 0 0 0) s m args below meth c 0 0 (jv_ZM below s0 D ids ex jv_SH (jv_qi Q) args s 0 0) s0 D ids ex jv_SH g 0 [some (.ref b0), some (jv_i a1)] []
  unfold wp_L_cell at h
  obtain ⟨⟨hr1, h0⟩, h⟩ := h
  refine jv_iload_n C dL_cell_0 rfl ?_
  refine jv_aload_n C dL_cell_1 rfl ?_
  refine jv_slen C hX hbl dL_cell_2 ?_
  refine jv_icmp_ge (tgt := 12) C hr1 ⟨by omega, by omega⟩ dL_cell_3 rfl (fun hc => ?_) (fun hc => ?_)
  · refine jv_ldc (n := 40503) C dL_cell_12 kc_L_8 ?_
    refine jv_iload_n C dL_cell_14 rfl ?_
    refine jv_imul C dL_cell_15 ?_
    refine jv_sipush C dL_cell_16 (by decide +kernel) ?_
    refine jv_iadd C dL_cell_19 ?_
    obtain ⟨v, hv, e⟩ := jv_ofr (40503 * a1 + 977)
    rw [e]
    exact jv_iret C hr hlk ⟨_, rfl, h v hv⟩ dL_cell_20 ⟨rfl, rfl⟩
  · refine jv_aload_n C dL_cell_6 rfl ?_
    refine jv_iload_n C dL_cell_7 rfl ?_
    refine jv_sld C hX hbl hL ⟨h0, by omega⟩ dL_cell_8 (fun v hv => ?_)
    refine jv_goto (tgt := 20) C dL_cell_9 rfl ?_
    exact jv_iret C hr hlk ⟨_, rfl, h v hv⟩ dL_cell_20 ⟨rfl, rfl⟩
end JVLX
