section JVSW
variable {p : Program} {l : Launch} {e : Env} {R : Room} {m : MethodId} {args : Array Value} {below : List Frame} {meth : Method} {c : Code} {cells slots : Nat} {Z : State → Prop} {s s0 : State} {b0 : Addr} {D : va_G} {ids : Nat → ClassId} {ex : Option Nat} {sh : jv_Sh} {g : jv_Mem} {pc : Nat} {ls ls' : List (Option Value)} {st st0 : List Value} {cc : ByteArray} {own : String} {L : Nat} {xs : Nat → Int32}
theorem jv_slen (C : jv_C p s0 m args c cc own s0 b0 D ids) (hX : va_X b0 L xs s0 s0.heap) (hbl : b0 < s0.heap.size) (hd : decode cc pc = .ok (.arraylength, 1)) (k : jv_V p l e R s0 m args below meth c cells slots Z s0 D ids ex sh g (pc + 1) ls (jv_i (L : Nat) :: st)) : jv_V p l e R s0 m args below meth c cells slots Z s0 D ids ex sh g pc ls (.ref b0 :: st) :=
  fun H locs arr h1 h2 h3 h4 => va_slen C.1 C.2.1 hX hbl (Nat.not_le.mpr hbl) h3 hd (k H locs arr h1 h2 h3 h4)
theorem jv_swI (C : jv_C p s m args c cc own s0 b0 D ids) {dflt lo hi off y : Int} {offs : Array Int} {len tgt : Nat} (hr : jv_r y) (hd : decode cc pc = .ok (.tableswitch dflt lo hi offs, len)) (h1 : ¬ y < lo) (h2 : ¬ hi < y) (ho : offs[(y - lo).toNat]? = some off) (ht : (pc : Int) + off = (tgt : Int)) (k : jv_V p l e R s m args below meth c cells slots Z s0 D ids ex sh g tgt ls st) : jv_V p l e R s m args below meth c cells slots Z s0 D ids ex sh g pc ls (jv_i y :: st) :=
  fun H locs arr a1 a2 a3 a4 => lv_tableIn C.1 C.2.1 hd (by rw [hr.to]; exact h1) (by rw [hr.to]; exact h2) (by rw [hr.to]; exact ho) ht (k H locs arr a1 a2 a3 a4)
theorem jv_swO (C : jv_C p s m args c cc own s0 b0 D ids) {dflt lo hi y : Int} {offs : Array Int} {len tgt : Nat} (hr : jv_r y) (hd : decode cc pc = .ok (.tableswitch dflt lo hi offs, len)) (h1 : y < lo ∨ hi < y) (ht : (pc : Int) + dflt = (tgt : Int)) (k : jv_V p l e R s m args below meth c cells slots Z s0 D ids ex sh g tgt ls st) : jv_V p l e R s m args below meth c cells slots Z s0 D ids ex sh g pc ls (jv_i y :: st) :=
  fun H locs arr a1 a2 a3 a4 => lv_tableOut C.1 C.2.1 hd (by rw [hr.to]; exact h1) ht (k H locs arr a1 a2 a3 a4)
end JVSW
theorem jv_and31 (x : Int) : 0 ≤ jv_and x 31 ∧ jv_and x 31 < 32 := by
  obtain ⟨j, hj, e⟩ := pk_andE (Int32.ofInt x) (m := Int32.ofInt 31) 5 (by decide)
  unfold jv_and
  rw [e, nI_toInt (by omega)]
  omega
theorem jv_lret {p : Program} {l : Launch} {e : Env} {m : MethodId} {below : List Frame} {meth : Method} {c : Code} {cells slots : Nat} {s0 : State} {b0 : Addr} {D : va_G} {ids : Nat → ClassId} {g : jv_Mem} {pc : Nat} {ls : List (Option Value)} (C : jv_C p s0 m #[Value.ref b0] c code RL s0 b0 D ids) (hr : meth.sig.returnType = ret) (hlk : meth.locks = false) (hc : cells ≤ 601024) (hs : slots ≤ 7293034) (hd : decode code pc = .ok (.ireturn, 1)) : jv_V p l e room_1 s0 m #[Value.ref b0] below meth c cells slots (lw_Z below #[Value.ref b0] s0) s0 D ids none jv_SH g pc ls [jv_i 1] :=
  fun H locs arr _ _ h3 _ => va_forget h3.2.2 (W.widen hc hs (lw_ret C.1 C.2.1 hr hlk hd))
set_option maxHeartbeats 4000000 in
set_option maxRecDepth 100000 in
/-- the law's loop, out of an invariant that each case keeps -/
theorem law_loop {p : Program} {l : Launch} {e : Env} {m : MethodId} {below : List Frame} {meth : Method} {c : Code} {s0 : State} {b0 : Addr} {D : va_G} {ids : Nat → ClassId} {L : Nat} {xs : Nat → Int32} (hT : jv_T l s0 b0) (C : jv_C p s0 m #[Value.ref b0] c code RL s0 b0 D ids) (hml : 7 = c.maxLocals) (hr : meth.sig.returnType = ret) (hlk : meth.locks = false) (hX : va_X b0 L xs s0 s0.heap) (hbl : b0 < s0.heap.size) (hL : L ≤ 2560) {I : Int → jv_Mem → Prop} (hm : ∀ (x4 : Int) (g : jv_Mem), I x4 g → I (x4 + 5) g) (hc0 : ∀ (x4 : Int) (g : jv_Mem), 0 ≤ x4 → x4 + 4 < ((L : Nat) : Int) → I x4 g → wp_LC_0 xs L x4 (I (x4 + 5)) g) (hc1 : ∀ (x4 : Int) (g : jv_Mem), 0 ≤ x4 → x4 + 4 < ((L : Nat) : Int) → I x4 g → wp_LC_1 xs L x4 (I (x4 + 5)) g) (hc2 : ∀ (x4 : Int) (g : jv_Mem), 0 ≤ x4 → x4 + 4 < ((L : Nat) : Int) → I x4 g → wp_LC_2 xs L x4 (I (x4 + 5)) g) (hc3 : ∀ (x4 : Int) (g : jv_Mem), 0 ≤ x4 → x4 + 4 < ((L : Nat) : Int) → I x4 g → wp_LC_3 xs L x4 (I (x4 + 5)) g) (hc4 : ∀ (x4 : Int) (g : jv_Mem), 0 ≤ x4 → x4 + 4 < ((L : Nat) : Int) → I x4 g → wp_LC_4 xs L x4 (I (x4 + 5)) g) (hc5 : ∀ (x4 : Int) (g : jv_Mem), 0 ≤ x4 → x4 + 4 < ((L : Nat) : Int) → I x4 g → wp_LC_5 xs L x4 (I (x4 + 5)) g) (hc6 : ∀ (x4 : Int) (g : jv_Mem), 0 ≤ x4 → x4 + 4 < ((L : Nat) : Int) → I x4 g → wp_LC_6 xs L x4 (I (x4 + 5)) g) (hc7 : ∀ (x4 : Int) (g : jv_Mem), 0 ≤ x4 → x4 + 4 < ((L : Nat) : Int) → I x4 g → wp_LC_7 xs L x4 (I (x4 + 5)) g) (hc8 : ∀ (x4 : Int) (g : jv_Mem), 0 ≤ x4 → x4 + 4 < ((L : Nat) : Int) → I x4 g → wp_LC_8 xs L x4 (I (x4 + 5)) g) (hc9 : ∀ (x4 : Int) (g : jv_Mem), 0 ≤ x4 → x4 + 4 < ((L : Nat) : Int) → I x4 g → wp_LC_9 xs L x4 (I (x4 + 5)) g) (hc10 : ∀ (x4 : Int) (g : jv_Mem), 0 ≤ x4 → x4 + 4 < ((L : Nat) : Int) → I x4 g → wp_LC_10 xs L x4 (I (x4 + 5)) g) (hc11 : ∀ (x4 : Int) (g : jv_Mem), 0 ≤ x4 → x4 + 4 < ((L : Nat) : Int) → I x4 g → wp_LC_11 xs L x4 (I (x4 + 5)) g) (hc12 : ∀ (x4 : Int) (g : jv_Mem), 0 ≤ x4 → x4 + 4 < ((L : Nat) : Int) → I x4 g → wp_LC_12 xs L x4 (I (x4 + 5)) g) (hc13 : ∀ (x4 : Int) (g : jv_Mem), 0 ≤ x4 → x4 + 4 < ((L : Nat) : Int) → I x4 g → wp_LC_13 xs L x4 (I (x4 + 5)) g) (hc14 : ∀ (x4 : Int) (g : jv_Mem), 0 ≤ x4 → x4 + 4 < ((L : Nat) : Int) → I x4 g → wp_LC_14 xs L x4 (I (x4 + 5)) g) (hc15 : ∀ (x4 : Int) (g : jv_Mem), 0 ≤ x4 → x4 + 4 < ((L : Nat) : Int) → I x4 g → wp_LC_15 xs L x4 (I (x4 + 5)) g) (hc16 : ∀ (x4 : Int) (g : jv_Mem), 0 ≤ x4 → x4 + 4 < ((L : Nat) : Int) → I x4 g → wp_LC_16 xs L x4 (I (x4 + 5)) g) (hc17 : ∀ (x4 : Int) (g : jv_Mem), 0 ≤ x4 → x4 + 4 < ((L : Nat) : Int) → I x4 g → wp_LC_17 xs L x4 (I (x4 + 5)) g) (hc18 : ∀ (x4 : Int) (g : jv_Mem), 0 ≤ x4 → x4 + 4 < ((L : Nat) : Int) → I x4 g → wp_LC_18 xs L x4 (I (x4 + 5)) g) (hc19 : ∀ (x4 : Int) (g : jv_Mem), 0 ≤ x4 → x4 + 4 < ((L : Nat) : Int) → I x4 g → wp_LC_19 xs L x4 (I (x4 + 5)) g) (hc20 : ∀ (x4 : Int) (g : jv_Mem), 0 ≤ x4 → x4 + 4 < ((L : Nat) : Int) → I x4 g → wp_LC_20 xs L x4 (I (x4 + 5)) g) (hc21 : ∀ (x4 : Int) (g : jv_Mem), 0 ≤ x4 → x4 + 4 < ((L : Nat) : Int) → I x4 g → wp_LC_21 xs L x4 (I (x4 + 5)) g) (hc22 : ∀ (x4 : Int) (g : jv_Mem), 0 ≤ x4 → x4 + 4 < ((L : Nat) : Int) → I x4 g → wp_LC_22 xs L x4 (I (x4 + 5)) g) (hc23 : ∀ (x4 : Int) (g : jv_Mem), 0 ≤ x4 → x4 + 4 < ((L : Nat) : Int) → I x4 g → wp_LC_23 xs L x4 (I (x4 + 5)) g) (hc24 : ∀ (x4 : Int) (g : jv_Mem), 0 ≤ x4 → x4 + 4 < ((L : Nat) : Int) → I x4 g → wp_LC_24 xs L x4 (I (x4 + 5)) g) (hc25 : ∀ (x4 : Int) (g : jv_Mem), 0 ≤ x4 → x4 + 4 < ((L : Nat) : Int) → I x4 g → wp_LC_25 xs L x4 (I (x4 + 5)) g) (hc26 : ∀ (x4 : Int) (g : jv_Mem), 0 ≤ x4 → x4 + 4 < ((L : Nat) : Int) → I x4 g → wp_LC_26 xs L x4 (I (x4 + 5)) g) (hc27 : ∀ (x4 : Int) (g : jv_Mem), 0 ≤ x4 → x4 + 4 < ((L : Nat) : Int) → I x4 g → wp_LC_27 xs L x4 (I (x4 + 5)) g) (hc28 : ∀ (x4 : Int) (g : jv_Mem), 0 ≤ x4 → x4 + 4 < ((L : Nat) : Int) → I x4 g → wp_LC_28 xs L x4 (I (x4 + 5)) g) (hc29 : ∀ (x4 : Int) (g : jv_Mem), 0 ≤ x4 → x4 + 4 < ((L : Nat) : Int) → I x4 g → wp_LC_29 xs L x4 (I (x4 + 5)) g) (hc30 : ∀ (x4 : Int) (g : jv_Mem), 0 ≤ x4 → x4 + 4 < ((L : Nat) : Int) → I x4 g → wp_LC_30 xs L x4 (I (x4 + 5)) g) : ∀ (n : Nat) (x4 : Int) (g : jv_Mem), 0 ≤ x4 → x4 ≤ ((L : Nat) : Int) → ((L : Nat) : Int) - x4 < n → I x4 g → jv_V p l e room_1 s0 m #[Value.ref b0] below meth c (1000 + 4 * x4.toNat + 0) (50000 + 40 * x4.toNat + 0) (lw_Z below #[Value.ref b0] s0) s0 D ids none jv_SH g 23 [some (.ref b0), some (.ref (s0.heap.size + (0 : Int).toNat)), some (.ref (s0.heap.size + (126 : Int).toNat)), some (.ref (s0.heap.size + (148 : Int).toNat)), some (jv_i x4), none, none] [] := by
  intro n
  induction n with
  | zero => intro x4 g h0 h1 hn; omega
  | succ n ih =>
    intro x4 g h0 h1 hn hI
    refine jv_iload C dL_law_23 rfl ?_
    refine jv_aload_n C dL_law_25 rfl ?_
    refine jv_slen C hX hbl dL_law_26 ?_
    refine jv_const C dL_law_27 ?_
    refine jv_isub C dL_law_28 ?_
    refine jv_icmp_gt (tgt := 1710) C ⟨by omega, by omega⟩ ⟨by omega, by omega⟩ dL_law_29 rfl (fun hc => ?_) (fun hc => ?_)
    · refine jv_const C dL_law_1710 ?_
      exact jv_lret C hr hlk (by omega) (by omega) dL_law_1711
    · have hx4 : 0 ≤ x4 ∧ x4 ≤ 2560 := ⟨h0, by omega⟩
      have hb : x4 + 4 < ((L : Nat) : Int) := by omega
      have hU : ∀ g : jv_Mem, I (x4 + 5) g → jv_V p l e room_1 s0 m #[Value.ref b0] below meth c (1000 + 4 * x4.toNat + 20) (50000 + 40 * x4.toNat + 200) (lw_Z below #[Value.ref b0] s0) s0 D ids none jv_SH g 1704 [some (.ref b0), some (.ref (s0.heap.size + (0 : Int).toNat)), some (.ref (s0.heap.size + (126 : Int).toNat)), some (.ref (s0.heap.size + (148 : Int).toNat)), some (jv_i x4), none, none] [] := by
        intro g hI
        refine jv_iincn C dL_law_1704 (Nat.lt_of_lt_of_eq (Nat.le_of_ble_eq_true rfl) hml) rfl (fun v ev => ?_)
        refine jv_lset (ls' := [some (.ref b0), some (.ref (s0.heap.size + (0 : Int).toNat)), some (.ref (s0.heap.size + (126 : Int).toNat)), some (.ref (s0.heap.size + (148 : Int).toNat)), some (jv_i v), none, none]) rfl ?_
        refine jv_goto (tgt := 23) C dL_law_1707 rfl ?_
        refine jv_wd (k := 1000 + 4 * v.toNat + 0) (n := 50000 + 40 * v.toNat + 0) (Nat.ble_eq_true_of_le (by omega)) (Nat.ble_eq_true_of_le (by omega)) ?_
        exact ih v g (by omega) (by omega) (by omega) (by rw [ev]; exact hI)
      refine jv_aload_n C dL_law_32 rfl ?_
      refine jv_iload C dL_law_33 rfl ?_
      refine jv_sld C hX hbl hL ⟨h0, by omega⟩ dL_law_35 ?_
      refine jv_bipush C dL_law_36 (by decide +kernel) ?_
      refine jv_iand C dL_law_38 ?_
      obtain ⟨y0, y1⟩ := jv_and31 (jv_sx xs x4)
      generalize jv_and (jv_sx xs x4) 31 = y at y0 y1 ⊢
      have hry : jv_r y := ⟨by omega, by omega⟩
      have hcs : y = 0 ∨ y = 1 ∨ y = 2 ∨ y = 3 ∨ y = 4 ∨ y = 5 ∨ y = 6 ∨ y = 7 ∨ y = 8 ∨ y = 9 ∨ y = 10 ∨ y = 11 ∨ y = 12 ∨ y = 13 ∨ y = 14 ∨ y = 15 ∨ y = 16 ∨ y = 17 ∨ y = 18 ∨ y = 19 ∨ y = 20 ∨ y = 21 ∨ y = 22 ∨ y = 23 ∨ y = 24 ∨ y = 25 ∨ y = 26 ∨ y = 27 ∨ y = 28 ∨ y = 29 ∨ y = 30 ∨ y = 31 := by omega
      rcases hcs with rfl | rfl | rfl | rfl | rfl | rfl | rfl | rfl | rfl | rfl | rfl | rfl | rfl | rfl | rfl | rfl | rfl | rfl | rfl | rfl | rfl | rfl | rfl | rfl | rfl | rfl | rfl | rfl | rfl | rfl | rfl | rfl
      · exact jv_swI (tgt := 176) C hry dL_law_39 (by decide) (by decide) rfl rfl (LC_0 hT C hml hX hbl hL hx4 hU (hc0 x4 g h0 hb hI))
      · exact jv_swI (tgt := 232) C hry dL_law_39 (by decide) (by decide) rfl rfl (LC_1 hT C hml hX hbl hL hx4 hU (hc1 x4 g h0 hb hI))
      · exact jv_swI (tgt := 288) C hry dL_law_39 (by decide) (by decide) rfl rfl (LC_2 hT C hml hX hbl hL hx4 hU (hc2 x4 g h0 hb hI))
      · exact jv_swI (tgt := 301) C hry dL_law_39 (by decide) (by decide) rfl rfl (LC_3 hT C hml hX hbl hL hx4 hU (hc3 x4 g h0 hb hI))
      · exact jv_swI (tgt := 314) C hry dL_law_39 (by decide) (by decide) rfl rfl (LC_4 hT C hml hX hbl hL hx4 hU (hc4 x4 g h0 hb hI))
      · exact jv_swI (tgt := 370) C hry dL_law_39 (by decide) (by decide) rfl rfl (LC_5 hT C hml hX hbl hL hx4 hU (hc5 x4 g h0 hb hI))
      · exact jv_swI (tgt := 426) C hry dL_law_39 (by decide) (by decide) rfl rfl (LC_6 hT C hml hX hbl hL hx4 hU (hc6 x4 g h0 hb hI))
      · exact jv_swI (tgt := 494) C hry dL_law_39 (by decide) (by decide) rfl rfl (LC_7 hT C hml hX hbl hL hx4 hU (hc7 x4 g h0 hb hI))
      · exact jv_swI (tgt := 519) C hry dL_law_39 (by decide) (by decide) rfl rfl (LC_8 hT C hml hX hbl hL hx4 hU (hc8 x4 g h0 hb hI))
      · exact jv_swI (tgt := 532) C hry dL_law_39 (by decide) (by decide) rfl rfl (LC_9 hT C hml hX hbl hL hx4 hU (hc9 x4 g h0 hb hI))
      · exact jv_swI (tgt := 600) C hry dL_law_39 (by decide) (by decide) rfl rfl (LC_10 hT C hml hX hbl hL hx4 hU (hc10 x4 g h0 hb hI))
      · exact jv_swI (tgt := 613) C hry dL_law_39 (by decide) (by decide) rfl rfl (LC_11 hT C hml hX hbl hL hx4 hU (hc11 x4 g h0 hb hI))
      · exact jv_swI (tgt := 626) C hry dL_law_39 (by decide) (by decide) rfl rfl (LC_12 hT C hml hX hbl hL hx4 hU (hc12 x4 g h0 hb hI))
      · exact jv_swI (tgt := 639) C hry dL_law_39 (by decide) (by decide) rfl rfl (LC_13 hT C hml hX hbl hL hx4 hU (hc13 x4 g h0 hb hI))
      · exact jv_swI (tgt := 695) C hry dL_law_39 (by decide) (by decide) rfl rfl (LC_14 hT C hml hX hbl hL hx4 hU (hc14 x4 g h0 hb hI))
      · exact jv_swI (tgt := 751) C hry dL_law_39 (by decide) (by decide) rfl rfl (LC_15 hT C hml hX hbl hL hx4 hU (hc15 x4 g h0 hb hI))
      · exact jv_swI (tgt := 835) C hry dL_law_39 (by decide) (by decide) rfl rfl (LC_16 hT C hml hX hbl hL hx4 hU (hc16 x4 g h0 hb hI))
      · exact jv_swI (tgt := 891) C hry dL_law_39 (by decide) (by decide) rfl rfl (LC_17 hT C hml hX hbl hL hx4 hU (hc17 x4 g h0 hb hI))
      · exact jv_swI (tgt := 947) C hry dL_law_39 (by decide) (by decide) rfl rfl (LC_18 hT C hml hX hbl hL hx4 hU (hc18 x4 g h0 hb hI))
      · exact jv_swI (tgt := 960) C hry dL_law_39 (by decide) (by decide) rfl rfl (LC_19 hT C hml hX hbl hL hx4 hU (hc19 x4 g h0 hb hI))
      · exact jv_swI (tgt := 1004) C hry dL_law_39 (by decide) (by decide) rfl rfl (LC_20 hT C hml hX hbl hL hx4 hU (hc20 x4 g h0 hb hI))
      · exact jv_swI (tgt := 1072) C hry dL_law_39 (by decide) (by decide) rfl rfl (LC_21 hT C hml hX hbl hL hx4 hU (hc21 x4 g h0 hb hI))
      · exact jv_swI (tgt := 1140) C hry dL_law_39 (by decide) (by decide) rfl rfl (LC_22 hT C hml hX hbl hL hx4 hU (hc22 x4 g h0 hb hI))
      · exact jv_swI (tgt := 1239) C hry dL_law_39 (by decide) (by decide) rfl rfl (LC_23 hT C hml hX hbl hL hx4 hU (hc23 x4 g h0 hb hI))
      · exact jv_swI (tgt := 1319) C hry dL_law_39 (by decide) (by decide) rfl rfl (LC_24 hT C hml hX hbl hL hx4 hU (hc24 x4 g h0 hb hI))
      · exact jv_swI (tgt := 1387) C hry dL_law_39 (by decide) (by decide) rfl rfl (LC_25 hT C hml hX hbl hL hx4 hU (hc25 x4 g h0 hb hI))
      · exact jv_swI (tgt := 1455) C hry dL_law_39 (by decide) (by decide) rfl rfl (LC_26 hT C hml hX hbl hL hx4 hU (hc26 x4 g h0 hb hI))
      · exact jv_swI (tgt := 1511) C hry dL_law_39 (by decide) (by decide) rfl rfl (LC_27 hT C hml hX hbl hL hx4 hU (hc27 x4 g h0 hb hI))
      · exact jv_swI (tgt := 1567) C hry dL_law_39 (by decide) (by decide) rfl rfl (LC_28 hT C hml hX hbl hL hx4 hU (hc28 x4 g h0 hb hI))
      · exact jv_swI (tgt := 1623) C hry dL_law_39 (by decide) (by decide) rfl rfl (LC_29 hT C hml hX hbl hL hx4 hU (hc29 x4 g h0 hb hI))
      · exact jv_swI (tgt := 1679) C hry dL_law_39 (by decide) (by decide) rfl rfl (LC_30 hT C hml hX hbl hL hx4 hU (hc30 x4 g h0 hb hI))
      · refine jv_swO (tgt := 1704) C hry dL_law_39 (Or.inr (by decide)) rfl ?_
        exact jv_wd (Nat.ble_eq_true_of_le (by omega)) (Nat.ble_eq_true_of_le (by omega)) (hU g (hm x4 g hI))
