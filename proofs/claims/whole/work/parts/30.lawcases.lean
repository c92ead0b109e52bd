def jv_sx (xs : Nat → Int32) (j : Int) : Int := (xs j.toNat).toInt
section JVSC
variable {p : Program} {l : Launch} {e : Env} {R : Room} {m : MethodId} {args : Array Value} {below : List Frame} {meth : Method} {c : Code} {cells slots : Nat} {Z : State → Prop} {s0 : State} {b0 : Addr} {D : va_G} {ids : Nat → ClassId} {ex : Option Nat} {sh : jv_Sh} {g : jv_Mem} {pc : Nat} {ls ls' : List (Option Value)} {st st0 : List Value} {cc : ByteArray} {own : String} {L : Nat} {xs : Nat → Int32}
/-- the script's row -/
theorem jv_sld (C : jv_C p s0 m args c cc own s0 b0 D ids) (hX : va_X b0 L xs s0 s0.heap) (hbl : b0 < s0.heap.size) (hL : L ≤ 2560) {x : Int} (hb : 0 ≤ x ∧ x < ((L : Nat) : Int)) (hd : decode cc pc = .ok (.iaload, 1)) (k : jv_V p l e R s0 m args below meth c cells slots Z s0 D ids ex sh g (pc + 1) ls (jv_i (jv_sx xs x) :: st)) : jv_V p l e R s0 m args below meth c cells slots Z s0 D ids ex sh g pc ls (jv_i x :: .ref b0 :: st) := by
  intro H locs arr h1 h2 h3 h4
  obtain ⟨a1, a2⟩ := jv_in hb.1 hb.2 (n := L) (by rw [Nat.blt_eq]; omega)
  have a3 : (Int32.ofInt x).toNatClampNeg = x.toNat := by omega
  refine va_sld C.1 C.2.1 hX hbl (Nat.not_le.mpr hbl) h3 a1 hd ?_
  have := k H locs arr h1 h2 h3 h4
  unfold jv_sx jv_i at this
  rw [Int32.ofInt_toInt] at this
  rw [a3]; exact this
end JVSC

def wB_LC_0_229 (KU : jv_Mem → Prop) (gj_229 : jv_Mem) : Prop :=
  KU gj_229
def wp_LC_0 (xs : Nat → Int32) (L : Nat) (x4 : Int) (KU : jv_Mem → Prop) (g : jv_Mem) : Prop :=
  (((0 : Int) ≤ x4 + 1 ∧ x4 + 1 < ((L : Nat) : Int)) ∧ (wp_L_spell (jv_sx xs (x4 + 1)) (fun (r_184 : Int) (g_184 : jv_Mem) => (((0 : Int) ≤ x4 + 1 ∧ x4 + 1 < ((L : Nat) : Int)) ∧ (wp_X9_spell (jv_sx xs (x4 + 1)) (fun (r_196 : Int) (g_196 : jv_Mem) => (wp_X9_thrown (fun (r_202 : Int) (g_202 : jv_Mem) => ((jv_r r_202 ∧ jv_r r_184) ∧ (r_202 = r_184 → ((jv_r r_184) ∧ (¬ r_184 = 0 → wB_LC_0_229 KU g_202) ∧ (r_184 = 0 → (((0 : Int) ≤ 0 ∧ 0 < (1 : Int)) ∧ (jv_r r_196 ∧ ((jv_r (g_202 148 0) ∧ jv_r r_196) ∧ ((g_202 148 0) = r_196 → wB_LC_0_229 KU g_202) ∧ (¬ (g_202 148 0) = r_196 → False))))))) ∧ (¬ r_202 = r_184 → False))) g_196)) g_184))) g))
set_option maxHeartbeats 4000000 in
set_option maxRecDepth 100000 in
theorem LC_0 {p : Program} {l : Launch} {e : Env} {m : MethodId} {below : List Frame} {meth : Method} {c : Code} {s0 : State} {b0 : Addr} {D : va_G} {ids : Nat → ClassId} {L : Nat} {xs : Nat → Int32} (hT : jv_T l s0 b0) (C : jv_C p s0 m #[Value.ref b0] c code RL s0 b0 D ids) (hml : 7 = c.maxLocals) (hX : va_X b0 L xs s0 s0.heap) (hbl : b0 < s0.heap.size) (hL : L ≤ 2560) {x4 : Int} (hx4 : 0 ≤ x4 ∧ x4 ≤ 2560) {KU : jv_Mem → Prop} (hU : ∀ g : jv_Mem, KU g → jv_V p l e room_1 s0 m #[Value.ref b0] below meth c (1000 + 4 * x4.toNat + 20) (50000 + 40 * x4.toNat + 200) (lw_Z below #[Value.ref b0] s0) s0 D ids none jv_SH g 1704 [some (.ref b0), some (.ref (s0.heap.size + (0 : Int).toNat)), some (.ref (s0.heap.size + (126 : Int).toNat)), some (.ref (s0.heap.size + (148 : Int).toNat)), some (jv_i x4), none, none] []) {g : jv_Mem} (h : wp_LC_0 xs L x4 KU g) : jv_V p l e room_1 s0 m #[Value.ref b0] below meth c (1000 + 4 * x4.toNat + 0) (50000 + 40 * x4.toNat + 0) (lw_Z below #[Value.ref b0] s0) s0 D ids none jv_SH g 176 [some (.ref b0), some (.ref (s0.heap.size + (0 : Int).toNat)), some (.ref (s0.heap.size + (126 : Int).toNat)), some (.ref (s0.heap.size + (148 : Int).toNat)), some (jv_i x4), none, none] [] := by
  unfold wp_LC_0 at h
  refine jv_aload_n C dL_law_176 rfl ?_
  refine jv_aload_n C dL_law_177 rfl ?_
  refine jv_iload C dL_law_178 rfl ?_
  refine jv_const C dL_law_180 ?_
  refine jv_iadd C dL_law_181 ?_
  obtain ⟨hb_182, h⟩ := h
  refine jv_sld C hX hbl hL hb_182 dL_law_182 ?_
  refine jv_aload_n C dL_law_183 rfl ?_
  refine jv_callSWi C (M_L_spell hT h) kw_L_94 rfl ⟨rfl, rfl⟩ (st := []) rfl rfl ⟨Nat.ble_eq_true_of_le (by show _ ≤ 601024; omega), Nat.ble_eq_true_of_le (by show _ ≤ 7293034; omega)⟩ dL_law_184 (fun r_184 g_184 h => ?_)
  refine jv_istore (ls' := [some (.ref b0), some (.ref (s0.heap.size + (0 : Int).toNat)), some (.ref (s0.heap.size + (126 : Int).toNat)), some (.ref (s0.heap.size + (148 : Int).toNat)), some (jv_i x4), some (jv_i r_184), none]) C dL_law_187 (Nat.lt_of_lt_of_eq (Nat.le_of_ble_eq_true rfl) hml) rfl ?_
  refine jv_aload_n C dL_law_189 rfl ?_
  refine jv_aload_n C dL_law_190 rfl ?_
  refine jv_iload C dL_law_191 rfl ?_
  refine jv_const C dL_law_193 ?_
  refine jv_iadd C dL_law_194 ?_
  obtain ⟨hb_195, h⟩ := h
  refine jv_sld C hX hbl hL hb_195 dL_law_195 ?_
  refine jv_callVi C (M_X9_spell h) kw_L_99 sS_126 rfl rfl ⟨rfl, rfl⟩ (st := []) rfl rfl ⟨Nat.ble_eq_true_of_le (by show _ ≤ 601024; omega), Nat.ble_eq_true_of_le (by show _ ≤ 7293034; omega)⟩ dL_law_196 (fun r_196 g_196 h => ?_)
  refine jv_istore (ls' := [some (.ref b0), some (.ref (s0.heap.size + (0 : Int).toNat)), some (.ref (s0.heap.size + (126 : Int).toNat)), some (.ref (s0.heap.size + (148 : Int).toNat)), some (jv_i x4), some (jv_i r_184), some (jv_i r_196)]) C dL_law_199 (Nat.lt_of_lt_of_eq (Nat.le_of_ble_eq_true rfl) hml) rfl ?_
  refine jv_aload_n C dL_law_201 rfl ?_
  refine jv_callVi C (M_X9_thrown h) kw_L_100 sS_126 rfl rfl ⟨rfl, rfl⟩ (st := []) rfl rfl ⟨Nat.ble_eq_true_of_le (by show _ ≤ 601024; omega), Nat.ble_eq_true_of_le (by show _ ≤ 7293034; omega)⟩ dL_law_202 (fun r_202 g_202 h => ?_)
  refine jv_iload C dL_law_205 rfl ?_
  obtain ⟨hr_207, h1_207, h2_207⟩ := h
  refine jv_icmp_eq (tgt := 212) C hr_207.1 hr_207.2 dL_law_207 rfl (fun hc_207 => ?_) (fun hc_207 => ?_)
  · replace h := h1_207 hc_207
    refine jv_iload C dL_law_212 rfl ?_
    have hJ229 : ∀ (gj_229 : jv_Mem), wB_LC_0_229 KU gj_229 → jv_V p l e room_1 s0 m #[Value.ref b0] below meth c (1000 + 4 * x4.toNat + 2) (50000 + 40 * x4.toNat + 12) (lw_Z below #[Value.ref b0] s0) s0 D ids none jv_SH gj_229 229 [some (.ref b0), some (.ref (s0.heap.size + (0 : Int).toNat)), some (.ref (s0.heap.size + (126 : Int).toNat)), some (.ref (s0.heap.size + (148 : Int).toNat)), some (jv_i x4), none, none] [] := by
      intro gj_229 h
      unfold wB_LC_0_229 at h
      refine jv_goto (tgt := 1704) C dL_law_229 rfl ?_
      refine jv_wd (k := 1000 + 4 * x4.toNat + 20) (n := 50000 + 40 * x4.toNat + 200) (Nat.ble_eq_true_of_le (by omega)) (Nat.ble_eq_true_of_le (by omega)) ?_
      exact jv_less (ls' := [some (.ref b0), some (.ref (s0.heap.size + (0 : Int).toNat)), some (.ref (s0.heap.size + (126 : Int).toNat)), some (.ref (s0.heap.size + (148 : Int).toNat)), some (jv_i x4), none, none]) ⟨rfl, ⟨rfl, ⟨rfl, ⟨rfl, ⟨rfl, trivial⟩⟩⟩⟩⟩ (hU _ h)
    obtain ⟨hr_214, h1_214, h2_214⟩ := h
    refine jv_if_ne (tgt := 229) C hr_214 dL_law_214 rfl (fun hc_214 => ?_) (fun hc_214 => ?_)
    · replace h := h1_214 hc_214
      refine jv_wd (k := 1000 + 4 * x4.toNat + 2) (n := 50000 + 40 * x4.toNat + 12) (Nat.ble_eq_true_of_le (by omega)) (Nat.ble_eq_true_of_le (by omega)) ?_
      exact jv_less (ls' := [some (.ref b0), some (.ref (s0.heap.size + (0 : Int).toNat)), some (.ref (s0.heap.size + (126 : Int).toNat)), some (.ref (s0.heap.size + (148 : Int).toNat)), some (jv_i x4), none, none]) ⟨rfl, ⟨rfl, ⟨rfl, ⟨rfl, ⟨rfl, trivial⟩⟩⟩⟩⟩ (hJ229 _ h)
    · replace h := h2_214 hc_214
      refine jv_aload_n C dL_law_217 rfl ?_
      refine jv_const C dL_law_218 ?_
      obtain ⟨hb_219, h⟩ := h
      refine jv_lald C sS_148 rfl hb_219 dL_law_219 ?_
      refine jv_iload C dL_law_220 rfl ?_
      obtain ⟨hr_222, h⟩ := h
      refine jv_i2l C hr_222 dL_law_222 ?_
      obtain ⟨hr_223, h1_223, h2_223⟩ := h
      refine jv_leq (tgt := 229) C hr_223.1 hr_223.2 dL_law_223 dL_law_224 rfl (fun hc_223 => ?_) (fun hc_223 => ?_)
      · replace h := h1_223 hc_223
        refine jv_wd (k := 1000 + 4 * x4.toNat + 2) (n := 50000 + 40 * x4.toNat + 12) (Nat.ble_eq_true_of_le (by omega)) (Nat.ble_eq_true_of_le (by omega)) ?_
        exact jv_less (ls' := [some (.ref b0), some (.ref (s0.heap.size + (0 : Int).toNat)), some (.ref (s0.heap.size + (126 : Int).toNat)), some (.ref (s0.heap.size + (148 : Int).toNat)), some (jv_i x4), none, none]) ⟨rfl, ⟨rfl, ⟨rfl, ⟨rfl, ⟨rfl, trivial⟩⟩⟩⟩⟩ (hJ229 _ h)
      · replace h := h2_223 hc_223
        exact h.elim
  · replace h := h2_207 hc_207
    exact h.elim

def wB_LC_1_285 (KU : jv_Mem → Prop) (gj_285 : jv_Mem) : Prop :=
  KU gj_285
def wp_LC_1 (xs : Nat → Int32) (L : Nat) (x4 : Int) (KU : jv_Mem → Prop) (g : jv_Mem) : Prop :=
  (((0 : Int) ≤ x4 + 1 ∧ x4 + 1 < ((L : Nat) : Int)) ∧ (wp_L_insert (jv_sx xs (x4 + 1)) (fun (r_240 : Int) (g_240 : jv_Mem) => (((0 : Int) ≤ x4 + 1 ∧ x4 + 1 < ((L : Nat) : Int)) ∧ (wp_X9_insert (jv_sx xs (x4 + 1)) (fun (r_252 : Int) (g_252 : jv_Mem) => (wp_X9_thrown (fun (r_258 : Int) (g_258 : jv_Mem) => ((jv_r r_258 ∧ jv_r r_240) ∧ (r_258 = r_240 → ((jv_r r_240) ∧ (¬ r_240 = 0 → wB_LC_1_285 KU g_258) ∧ (r_240 = 0 → (((0 : Int) ≤ 0 ∧ 0 < (1 : Int)) ∧ (jv_r r_252 ∧ ((jv_r (g_258 148 0) ∧ jv_r r_252) ∧ ((g_258 148 0) = r_252 → wB_LC_1_285 KU g_258) ∧ (¬ (g_258 148 0) = r_252 → False))))))) ∧ (¬ r_258 = r_240 → False))) g_252)) g_240))) g))
set_option maxHeartbeats 4000000 in
set_option maxRecDepth 100000 in
theorem LC_1 {p : Program} {l : Launch} {e : Env} {m : MethodId} {below : List Frame} {meth : Method} {c : Code} {s0 : State} {b0 : Addr} {D : va_G} {ids : Nat → ClassId} {L : Nat} {xs : Nat → Int32} (hT : jv_T l s0 b0) (C : jv_C p s0 m #[Value.ref b0] c code RL s0 b0 D ids) (hml : 7 = c.maxLocals) (hX : va_X b0 L xs s0 s0.heap) (hbl : b0 < s0.heap.size) (hL : L ≤ 2560) {x4 : Int} (hx4 : 0 ≤ x4 ∧ x4 ≤ 2560) {KU : jv_Mem → Prop} (hU : ∀ g : jv_Mem, KU g → jv_V p l e room_1 s0 m #[Value.ref b0] below meth c (1000 + 4 * x4.toNat + 20) (50000 + 40 * x4.toNat + 200) (lw_Z below #[Value.ref b0] s0) s0 D ids none jv_SH g 1704 [some (.ref b0), some (.ref (s0.heap.size + (0 : Int).toNat)), some (.ref (s0.heap.size + (126 : Int).toNat)), some (.ref (s0.heap.size + (148 : Int).toNat)), some (jv_i x4), none, none] []) {g : jv_Mem} (h : wp_LC_1 xs L x4 KU g) : jv_V p l e room_1 s0 m #[Value.ref b0] below meth c (1000 + 4 * x4.toNat + 0) (50000 + 40 * x4.toNat + 0) (lw_Z below #[Value.ref b0] s0) s0 D ids none jv_SH g 232 [some (.ref b0), some (.ref (s0.heap.size + (0 : Int).toNat)), some (.ref (s0.heap.size + (126 : Int).toNat)), some (.ref (s0.heap.size + (148 : Int).toNat)), some (jv_i x4), none, none] [] := by
  unfold wp_LC_1 at h
  refine jv_aload_n C dL_law_232 rfl ?_
  refine jv_aload_n C dL_law_233 rfl ?_
  refine jv_iload C dL_law_234 rfl ?_
  refine jv_const C dL_law_236 ?_
  refine jv_iadd C dL_law_237 ?_
  obtain ⟨hb_238, h⟩ := h
  refine jv_sld C hX hbl hL hb_238 dL_law_238 ?_
  refine jv_aload_n C dL_law_239 rfl ?_
  refine jv_callSWi C (M_L_insert hT h) kw_L_103 rfl ⟨rfl, rfl⟩ (st := []) rfl rfl ⟨Nat.ble_eq_true_of_le (by show _ ≤ 601024; omega), Nat.ble_eq_true_of_le (by show _ ≤ 7293034; omega)⟩ dL_law_240 (fun r_240 g_240 h => ?_)
  refine jv_istore (ls' := [some (.ref b0), some (.ref (s0.heap.size + (0 : Int).toNat)), some (.ref (s0.heap.size + (126 : Int).toNat)), some (.ref (s0.heap.size + (148 : Int).toNat)), some (jv_i x4), some (jv_i r_240), none]) C dL_law_243 (Nat.lt_of_lt_of_eq (Nat.le_of_ble_eq_true rfl) hml) rfl ?_
  refine jv_aload_n C dL_law_245 rfl ?_
  refine jv_aload_n C dL_law_246 rfl ?_
  refine jv_iload C dL_law_247 rfl ?_
  refine jv_const C dL_law_249 ?_
  refine jv_iadd C dL_law_250 ?_
  obtain ⟨hb_251, h⟩ := h
  refine jv_sld C hX hbl hL hb_251 dL_law_251 ?_
  refine jv_callVi C (M_X9_insert h) kw_L_105 sS_126 rfl rfl ⟨rfl, rfl⟩ (st := []) rfl rfl ⟨Nat.ble_eq_true_of_le (by show _ ≤ 601024; omega), Nat.ble_eq_true_of_le (by show _ ≤ 7293034; omega)⟩ dL_law_252 (fun r_252 g_252 h => ?_)
  refine jv_istore (ls' := [some (.ref b0), some (.ref (s0.heap.size + (0 : Int).toNat)), some (.ref (s0.heap.size + (126 : Int).toNat)), some (.ref (s0.heap.size + (148 : Int).toNat)), some (jv_i x4), some (jv_i r_240), some (jv_i r_252)]) C dL_law_255 (Nat.lt_of_lt_of_eq (Nat.le_of_ble_eq_true rfl) hml) rfl ?_
  refine jv_aload_n C dL_law_257 rfl ?_
  refine jv_callVi C (M_X9_thrown h) kw_L_100 sS_126 rfl rfl ⟨rfl, rfl⟩ (st := []) rfl rfl ⟨Nat.ble_eq_true_of_le (by show _ ≤ 601024; omega), Nat.ble_eq_true_of_le (by show _ ≤ 7293034; omega)⟩ dL_law_258 (fun r_258 g_258 h => ?_)
  refine jv_iload C dL_law_261 rfl ?_
  obtain ⟨hr_263, h1_263, h2_263⟩ := h
  refine jv_icmp_eq (tgt := 268) C hr_263.1 hr_263.2 dL_law_263 rfl (fun hc_263 => ?_) (fun hc_263 => ?_)
  · replace h := h1_263 hc_263
    refine jv_iload C dL_law_268 rfl ?_
    have hJ285 : ∀ (gj_285 : jv_Mem), wB_LC_1_285 KU gj_285 → jv_V p l e room_1 s0 m #[Value.ref b0] below meth c (1000 + 4 * x4.toNat + 2) (50000 + 40 * x4.toNat + 12) (lw_Z below #[Value.ref b0] s0) s0 D ids none jv_SH gj_285 285 [some (.ref b0), some (.ref (s0.heap.size + (0 : Int).toNat)), some (.ref (s0.heap.size + (126 : Int).toNat)), some (.ref (s0.heap.size + (148 : Int).toNat)), some (jv_i x4), none, none] [] := by
      intro gj_285 h
      unfold wB_LC_1_285 at h
      refine jv_goto (tgt := 1704) C dL_law_285 rfl ?_
      refine jv_wd (k := 1000 + 4 * x4.toNat + 20) (n := 50000 + 40 * x4.toNat + 200) (Nat.ble_eq_true_of_le (by omega)) (Nat.ble_eq_true_of_le (by omega)) ?_
      exact jv_less (ls' := [some (.ref b0), some (.ref (s0.heap.size + (0 : Int).toNat)), some (.ref (s0.heap.size + (126 : Int).toNat)), some (.ref (s0.heap.size + (148 : Int).toNat)), some (jv_i x4), none, none]) ⟨rfl, ⟨rfl, ⟨rfl, ⟨rfl, ⟨rfl, trivial⟩⟩⟩⟩⟩ (hU _ h)
    obtain ⟨hr_270, h1_270, h2_270⟩ := h
    refine jv_if_ne (tgt := 285) C hr_270 dL_law_270 rfl (fun hc_270 => ?_) (fun hc_270 => ?_)
    · replace h := h1_270 hc_270
      refine jv_wd (k := 1000 + 4 * x4.toNat + 2) (n := 50000 + 40 * x4.toNat + 12) (Nat.ble_eq_true_of_le (by omega)) (Nat.ble_eq_true_of_le (by omega)) ?_
      exact jv_less (ls' := [some (.ref b0), some (.ref (s0.heap.size + (0 : Int).toNat)), some (.ref (s0.heap.size + (126 : Int).toNat)), some (.ref (s0.heap.size + (148 : Int).toNat)), some (jv_i x4), none, none]) ⟨rfl, ⟨rfl, ⟨rfl, ⟨rfl, ⟨rfl, trivial⟩⟩⟩⟩⟩ (hJ285 _ h)
    · replace h := h2_270 hc_270
      refine jv_aload_n C dL_law_273 rfl ?_
      refine jv_const C dL_law_274 ?_
      obtain ⟨hb_275, h⟩ := h
      refine jv_lald C sS_148 rfl hb_275 dL_law_275 ?_
      refine jv_iload C dL_law_276 rfl ?_
      obtain ⟨hr_278, h⟩ := h
      refine jv_i2l C hr_278 dL_law_278 ?_
      obtain ⟨hr_279, h1_279, h2_279⟩ := h
      refine jv_leq (tgt := 285) C hr_279.1 hr_279.2 dL_law_279 dL_law_280 rfl (fun hc_279 => ?_) (fun hc_279 => ?_)
      · replace h := h1_279 hc_279
        refine jv_wd (k := 1000 + 4 * x4.toNat + 2) (n := 50000 + 40 * x4.toNat + 12) (Nat.ble_eq_true_of_le (by omega)) (Nat.ble_eq_true_of_le (by omega)) ?_
        exact jv_less (ls' := [some (.ref b0), some (.ref (s0.heap.size + (0 : Int).toNat)), some (.ref (s0.heap.size + (126 : Int).toNat)), some (.ref (s0.heap.size + (148 : Int).toNat)), some (jv_i x4), none, none]) ⟨rfl, ⟨rfl, ⟨rfl, ⟨rfl, ⟨rfl, trivial⟩⟩⟩⟩⟩ (hJ285 _ h)
      · replace h := h2_279 hc_279
        exact h.elim
  · replace h := h2_263 hc_263
    exact h.elim

def wp_LC_2 (xs : Nat → Int32) (L : Nat) (x4 : Int) (KU : jv_Mem → Prop) (g : jv_Mem) : Prop :=
  (wp_X8_turn (fun (r_289 : Int) (g_289 : jv_Mem) => (wp_X9_turn (fun (r_293 : Int) (g_293 : jv_Mem) => ((jv_r r_289 ∧ jv_r r_293) ∧ (r_289 = r_293 → KU g_293) ∧ (¬ r_289 = r_293 → False))) g_289)) g)
set_option maxHeartbeats 4000000 in
set_option maxRecDepth 100000 in
theorem LC_2 {p : Program} {l : Launch} {e : Env} {m : MethodId} {below : List Frame} {meth : Method} {c : Code} {s0 : State} {b0 : Addr} {D : va_G} {ids : Nat → ClassId} {L : Nat} {xs : Nat → Int32} (hT : jv_T l s0 b0) (C : jv_C p s0 m #[Value.ref b0] c code RL s0 b0 D ids) (hml : 7 = c.maxLocals) (hX : va_X b0 L xs s0 s0.heap) (hbl : b0 < s0.heap.size) (hL : L ≤ 2560) {x4 : Int} (hx4 : 0 ≤ x4 ∧ x4 ≤ 2560) {KU : jv_Mem → Prop} (hU : ∀ g : jv_Mem, KU g → jv_V p l e room_1 s0 m #[Value.ref b0] below meth c (1000 + 4 * x4.toNat + 20) (50000 + 40 * x4.toNat + 200) (lw_Z below #[Value.ref b0] s0) s0 D ids none jv_SH g 1704 [some (.ref b0), some (.ref (s0.heap.size + (0 : Int).toNat)), some (.ref (s0.heap.size + (126 : Int).toNat)), some (.ref (s0.heap.size + (148 : Int).toNat)), some (jv_i x4), none, none] []) {g : jv_Mem} (h : wp_LC_2 xs L x4 KU g) : jv_V p l e room_1 s0 m #[Value.ref b0] below meth c (1000 + 4 * x4.toNat + 0) (50000 + 40 * x4.toNat + 0) (lw_Z below #[Value.ref b0] s0) s0 D ids none jv_SH g 288 [some (.ref b0), some (.ref (s0.heap.size + (0 : Int).toNat)), some (.ref (s0.heap.size + (126 : Int).toNat)), some (.ref (s0.heap.size + (148 : Int).toNat)), some (jv_i x4), none, none] [] := by
  unfold wp_LC_2 at h
  refine jv_aload_n C dL_law_288 rfl ?_
  refine jv_callVi C (M_X8_turn h) kw_L_106 sS_0 rfl rfl ⟨rfl, rfl⟩ (st := []) rfl rfl ⟨Nat.ble_eq_true_of_le (by show _ ≤ 601024; omega), Nat.ble_eq_true_of_le (by show _ ≤ 7293034; omega)⟩ dL_law_289 (fun r_289 g_289 h => ?_)
  refine jv_aload_n C dL_law_292 rfl ?_
  refine jv_callVi C (M_X9_turn h) kw_L_109 sS_126 rfl rfl ⟨rfl, rfl⟩ (st := [jv_i r_289]) rfl rfl ⟨Nat.ble_eq_true_of_le (by show _ ≤ 601024; omega), Nat.ble_eq_true_of_le (by show _ ≤ 7293034; omega)⟩ dL_law_293 (fun r_293 g_293 h => ?_)
  obtain ⟨hr_296, h1_296, h2_296⟩ := h
  refine jv_icmp_eq (tgt := 1704) C hr_296.1 hr_296.2 dL_law_296 rfl (fun hc_296 => ?_) (fun hc_296 => ?_)
  · replace h := h1_296 hc_296
    refine jv_wd (k := 1000 + 4 * x4.toNat + 20) (n := 50000 + 40 * x4.toNat + 200) (Nat.ble_eq_true_of_le (by omega)) (Nat.ble_eq_true_of_le (by omega)) ?_
    exact jv_less (ls' := [some (.ref b0), some (.ref (s0.heap.size + (0 : Int).toNat)), some (.ref (s0.heap.size + (126 : Int).toNat)), some (.ref (s0.heap.size + (148 : Int).toNat)), some (jv_i x4), none, none]) ⟨rfl, ⟨rfl, ⟨rfl, ⟨rfl, ⟨rfl, trivial⟩⟩⟩⟩⟩ (hU _ h)
  · replace h := h2_296 hc_296
    exact h.elim

def wp_LC_3 (xs : Nat → Int32) (L : Nat) (x4 : Int) (KU : jv_Mem → Prop) (g : jv_Mem) : Prop :=
  (wp_X8_clearSpelled (fun (r_302 : Int) (g_302 : jv_Mem) => (wp_X9_clearSpelled (fun (r_306 : Int) (g_306 : jv_Mem) => ((jv_r r_302 ∧ jv_r r_306) ∧ (r_302 = r_306 → KU g_306) ∧ (¬ r_302 = r_306 → False))) g_302)) g)
set_option maxHeartbeats 4000000 in
set_option maxRecDepth 100000 in
theorem LC_3 {p : Program} {l : Launch} {e : Env} {m : MethodId} {below : List Frame} {meth : Method} {c : Code} {s0 : State} {b0 : Addr} {D : va_G} {ids : Nat → ClassId} {L : Nat} {xs : Nat → Int32} (hT : jv_T l s0 b0) (C : jv_C p s0 m #[Value.ref b0] c code RL s0 b0 D ids) (hml : 7 = c.maxLocals) (hX : va_X b0 L xs s0 s0.heap) (hbl : b0 < s0.heap.size) (hL : L ≤ 2560) {x4 : Int} (hx4 : 0 ≤ x4 ∧ x4 ≤ 2560) {KU : jv_Mem → Prop} (hU : ∀ g : jv_Mem, KU g → jv_V p l e room_1 s0 m #[Value.ref b0] below meth c (1000 + 4 * x4.toNat + 20) (50000 + 40 * x4.toNat + 200) (lw_Z below #[Value.ref b0] s0) s0 D ids none jv_SH g 1704 [some (.ref b0), some (.ref (s0.heap.size + (0 : Int).toNat)), some (.ref (s0.heap.size + (126 : Int).toNat)), some (.ref (s0.heap.size + (148 : Int).toNat)), some (jv_i x4), none, none] []) {g : jv_Mem} (h : wp_LC_3 xs L x4 KU g) : jv_V p l e room_1 s0 m #[Value.ref b0] below meth c (1000 + 4 * x4.toNat + 0) (50000 + 40 * x4.toNat + 0) (lw_Z below #[Value.ref b0] s0) s0 D ids none jv_SH g 301 [some (.ref b0), some (.ref (s0.heap.size + (0 : Int).toNat)), some (.ref (s0.heap.size + (126 : Int).toNat)), some (.ref (s0.heap.size + (148 : Int).toNat)), some (jv_i x4), none, none] [] := by
  unfold wp_LC_3 at h
  refine jv_aload_n C dL_law_301 rfl ?_
  refine jv_callVi C (M_X8_clearSpelled h) kw_L_110 sS_0 rfl rfl ⟨rfl, rfl⟩ (st := []) rfl rfl ⟨Nat.ble_eq_true_of_le (by show _ ≤ 601024; omega), Nat.ble_eq_true_of_le (by show _ ≤ 7293034; omega)⟩ dL_law_302 (fun r_302 g_302 h => ?_)
  refine jv_aload_n C dL_law_305 rfl ?_
  refine jv_callVi C (M_X9_clearSpelled h) kw_L_113 sS_126 rfl rfl ⟨rfl, rfl⟩ (st := [jv_i r_302]) rfl rfl ⟨Nat.ble_eq_true_of_le (by show _ ≤ 601024; omega), Nat.ble_eq_true_of_le (by show _ ≤ 7293034; omega)⟩ dL_law_306 (fun r_306 g_306 h => ?_)
  obtain ⟨hr_309, h1_309, h2_309⟩ := h
  refine jv_icmp_eq (tgt := 1704) C hr_309.1 hr_309.2 dL_law_309 rfl (fun hc_309 => ?_) (fun hc_309 => ?_)
  · replace h := h1_309 hc_309
    refine jv_wd (k := 1000 + 4 * x4.toNat + 20) (n := 50000 + 40 * x4.toNat + 200) (Nat.ble_eq_true_of_le (by omega)) (Nat.ble_eq_true_of_le (by omega)) ?_
    exact jv_less (ls' := [some (.ref b0), some (.ref (s0.heap.size + (0 : Int).toNat)), some (.ref (s0.heap.size + (126 : Int).toNat)), some (.ref (s0.heap.size + (148 : Int).toNat)), some (jv_i x4), none, none]) ⟨rfl, ⟨rfl, ⟨rfl, ⟨rfl, ⟨rfl, trivial⟩⟩⟩⟩⟩ (hU _ h)
  · replace h := h2_309 hc_309
    exact h.elim

def wB_LC_4_367 (KU : jv_Mem → Prop) (gj_367 : jv_Mem) : Prop :=
  KU gj_367
def wp_LC_4 (xs : Nat → Int32) (L : Nat) (x4 : Int) (KU : jv_Mem → Prop) (g : jv_Mem) : Prop :=
  (((0 : Int) ≤ x4 + 1 ∧ x4 + 1 < ((L : Nat) : Int)) ∧ (wp_L_charAt (jv_sx xs (x4 + 1)) (fun (r_322 : Int) (g_322 : jv_Mem) => (((0 : Int) ≤ x4 + 1 ∧ x4 + 1 < ((L : Nat) : Int)) ∧ (wp_X9_charAt (jv_sx xs (x4 + 1)) (fun (r_334 : Int) (g_334 : jv_Mem) => (wp_X9_thrown (fun (r_340 : Int) (g_340 : jv_Mem) => ((jv_r r_340 ∧ jv_r r_322) ∧ (r_340 = r_322 → ((jv_r r_322) ∧ (¬ r_322 = 0 → wB_LC_4_367 KU g_340) ∧ (r_322 = 0 → (((0 : Int) ≤ 0 ∧ 0 < (1 : Int)) ∧ (jv_r r_334 ∧ ((jv_r (g_340 148 0) ∧ jv_r r_334) ∧ ((g_340 148 0) = r_334 → wB_LC_4_367 KU g_340) ∧ (¬ (g_340 148 0) = r_334 → False))))))) ∧ (¬ r_340 = r_322 → False))) g_334)) g_322))) g))
set_option maxHeartbeats 4000000 in
set_option maxRecDepth 100000 in
theorem LC_4 {p : Program} {l : Launch} {e : Env} {m : MethodId} {below : List Frame} {meth : Method} {c : Code} {s0 : State} {b0 : Addr} {D : va_G} {ids : Nat → ClassId} {L : Nat} {xs : Nat → Int32} (hT : jv_T l s0 b0) (C : jv_C p s0 m #[Value.ref b0] c code RL s0 b0 D ids) (hml : 7 = c.maxLocals) (hX : va_X b0 L xs s0 s0.heap) (hbl : b0 < s0.heap.size) (hL : L ≤ 2560) {x4 : Int} (hx4 : 0 ≤ x4 ∧ x4 ≤ 2560) {KU : jv_Mem → Prop} (hU : ∀ g : jv_Mem, KU g → jv_V p l e room_1 s0 m #[Value.ref b0] below meth c (1000 + 4 * x4.toNat + 20) (50000 + 40 * x4.toNat + 200) (lw_Z below #[Value.ref b0] s0) s0 D ids none jv_SH g 1704 [some (.ref b0), some (.ref (s0.heap.size + (0 : Int).toNat)), some (.ref (s0.heap.size + (126 : Int).toNat)), some (.ref (s0.heap.size + (148 : Int).toNat)), some (jv_i x4), none, none] []) {g : jv_Mem} (h : wp_LC_4 xs L x4 KU g) : jv_V p l e room_1 s0 m #[Value.ref b0] below meth c (1000 + 4 * x4.toNat + 0) (50000 + 40 * x4.toNat + 0) (lw_Z below #[Value.ref b0] s0) s0 D ids none jv_SH g 314 [some (.ref b0), some (.ref (s0.heap.size + (0 : Int).toNat)), some (.ref (s0.heap.size + (126 : Int).toNat)), some (.ref (s0.heap.size + (148 : Int).toNat)), some (jv_i x4), none, none] [] := by
  unfold wp_LC_4 at h
  refine jv_aload_n C dL_law_314 rfl ?_
  refine jv_aload_n C dL_law_315 rfl ?_
  refine jv_iload C dL_law_316 rfl ?_
  refine jv_const C dL_law_318 ?_
  refine jv_iadd C dL_law_319 ?_
  obtain ⟨hb_320, h⟩ := h
  refine jv_sld C hX hbl hL hb_320 dL_law_320 ?_
  refine jv_aload_n C dL_law_321 rfl ?_
  refine jv_callSWi C (M_L_charAt hT h) kw_L_114 rfl ⟨rfl, rfl⟩ (st := []) rfl rfl ⟨Nat.ble_eq_true_of_le (by show _ ≤ 601024; omega), Nat.ble_eq_true_of_le (by show _ ≤ 7293034; omega)⟩ dL_law_322 (fun r_322 g_322 h => ?_)
  refine jv_istore (ls' := [some (.ref b0), some (.ref (s0.heap.size + (0 : Int).toNat)), some (.ref (s0.heap.size + (126 : Int).toNat)), some (.ref (s0.heap.size + (148 : Int).toNat)), some (jv_i x4), some (jv_i r_322), none]) C dL_law_325 (Nat.lt_of_lt_of_eq (Nat.le_of_ble_eq_true rfl) hml) rfl ?_
  refine jv_aload_n C dL_law_327 rfl ?_
  refine jv_aload_n C dL_law_328 rfl ?_
  refine jv_iload C dL_law_329 rfl ?_
  refine jv_const C dL_law_331 ?_
  refine jv_iadd C dL_law_332 ?_
  obtain ⟨hb_333, h⟩ := h
  refine jv_sld C hX hbl hL hb_333 dL_law_333 ?_
  refine jv_callVi C (M_X9_charAt h) kw_L_116 sS_126 rfl rfl ⟨rfl, rfl⟩ (st := []) rfl rfl ⟨Nat.ble_eq_true_of_le (by show _ ≤ 601024; omega), Nat.ble_eq_true_of_le (by show _ ≤ 7293034; omega)⟩ dL_law_334 (fun r_334 g_334 h => ?_)
  refine jv_istore (ls' := [some (.ref b0), some (.ref (s0.heap.size + (0 : Int).toNat)), some (.ref (s0.heap.size + (126 : Int).toNat)), some (.ref (s0.heap.size + (148 : Int).toNat)), some (jv_i x4), some (jv_i r_322), some (jv_i r_334)]) C dL_law_337 (Nat.lt_of_lt_of_eq (Nat.le_of_ble_eq_true rfl) hml) rfl ?_
  refine jv_aload_n C dL_law_339 rfl ?_
  refine jv_callVi C (M_X9_thrown h) kw_L_100 sS_126 rfl rfl ⟨rfl, rfl⟩ (st := []) rfl rfl ⟨Nat.ble_eq_true_of_le (by show _ ≤ 601024; omega), Nat.ble_eq_true_of_le (by show _ ≤ 7293034; omega)⟩ dL_law_340 (fun r_340 g_340 h => ?_)
  refine jv_iload C dL_law_343 rfl ?_
  obtain ⟨hr_345, h1_345, h2_345⟩ := h
  refine jv_icmp_eq (tgt := 350) C hr_345.1 hr_345.2 dL_law_345 rfl (fun hc_345 => ?_) (fun hc_345 => ?_)
  · replace h := h1_345 hc_345
    refine jv_iload C dL_law_350 rfl ?_
    have hJ367 : ∀ (gj_367 : jv_Mem), wB_LC_4_367 KU gj_367 → jv_V p l e room_1 s0 m #[Value.ref b0] below meth c (1000 + 4 * x4.toNat + 1) (50000 + 40 * x4.toNat + 6) (lw_Z below #[Value.ref b0] s0) s0 D ids none jv_SH gj_367 367 [some (.ref b0), some (.ref (s0.heap.size + (0 : Int).toNat)), some (.ref (s0.heap.size + (126 : Int).toNat)), some (.ref (s0.heap.size + (148 : Int).toNat)), some (jv_i x4), none, none] [] := by
      intro gj_367 h
      unfold wB_LC_4_367 at h
      refine jv_goto (tgt := 1704) C dL_law_367 rfl ?_
      refine jv_wd (k := 1000 + 4 * x4.toNat + 20) (n := 50000 + 40 * x4.toNat + 200) (Nat.ble_eq_true_of_le (by omega)) (Nat.ble_eq_true_of_le (by omega)) ?_
      exact jv_less (ls' := [some (.ref b0), some (.ref (s0.heap.size + (0 : Int).toNat)), some (.ref (s0.heap.size + (126 : Int).toNat)), some (.ref (s0.heap.size + (148 : Int).toNat)), some (jv_i x4), none, none]) ⟨rfl, ⟨rfl, ⟨rfl, ⟨rfl, ⟨rfl, trivial⟩⟩⟩⟩⟩ (hU _ h)
    obtain ⟨hr_352, h1_352, h2_352⟩ := h
    refine jv_if_ne (tgt := 367) C hr_352 dL_law_352 rfl (fun hc_352 => ?_) (fun hc_352 => ?_)
    · replace h := h1_352 hc_352
      refine jv_wd (k := 1000 + 4 * x4.toNat + 1) (n := 50000 + 40 * x4.toNat + 6) (Nat.ble_eq_true_of_le (by omega)) (Nat.ble_eq_true_of_le (by omega)) ?_
      exact jv_less (ls' := [some (.ref b0), some (.ref (s0.heap.size + (0 : Int).toNat)), some (.ref (s0.heap.size + (126 : Int).toNat)), some (.ref (s0.heap.size + (148 : Int).toNat)), some (jv_i x4), none, none]) ⟨rfl, ⟨rfl, ⟨rfl, ⟨rfl, ⟨rfl, trivial⟩⟩⟩⟩⟩ (hJ367 _ h)
    · replace h := h2_352 hc_352
      refine jv_aload_n C dL_law_355 rfl ?_
      refine jv_const C dL_law_356 ?_
      obtain ⟨hb_357, h⟩ := h
      refine jv_lald C sS_148 rfl hb_357 dL_law_357 ?_
      refine jv_iload C dL_law_358 rfl ?_
      obtain ⟨hr_360, h⟩ := h
      refine jv_i2l C hr_360 dL_law_360 ?_
      obtain ⟨hr_361, h1_361, h2_361⟩ := h
      refine jv_leq (tgt := 367) C hr_361.1 hr_361.2 dL_law_361 dL_law_362 rfl (fun hc_361 => ?_) (fun hc_361 => ?_)
      · replace h := h1_361 hc_361
        refine jv_wd (k := 1000 + 4 * x4.toNat + 1) (n := 50000 + 40 * x4.toNat + 6) (Nat.ble_eq_true_of_le (by omega)) (Nat.ble_eq_true_of_le (by omega)) ?_
        exact jv_less (ls' := [some (.ref b0), some (.ref (s0.heap.size + (0 : Int).toNat)), some (.ref (s0.heap.size + (126 : Int).toNat)), some (.ref (s0.heap.size + (148 : Int).toNat)), some (jv_i x4), none, none]) ⟨rfl, ⟨rfl, ⟨rfl, ⟨rfl, ⟨rfl, trivial⟩⟩⟩⟩⟩ (hJ367 _ h)
      · replace h := h2_361 hc_361
        exact h.elim
  · replace h := h2_345 hc_345
    exact h.elim

def wB_LC_5_423 (KU : jv_Mem → Prop) (gj_423 : jv_Mem) : Prop :=
  KU gj_423
def wp_LC_5 (xs : Nat → Int32) (L : Nat) (x4 : Int) (KU : jv_Mem → Prop) (g : jv_Mem) : Prop :=
  (((0 : Int) ≤ x4 + 1 ∧ x4 + 1 < ((L : Nat) : Int)) ∧ (wp_L_addWord (jv_sx xs (x4 + 1)) (fun (r_378 : Int) (g_378 : jv_Mem) => (((0 : Int) ≤ x4 + 1 ∧ x4 + 1 < ((L : Nat) : Int)) ∧ (wp_X9_addWord (jv_sx xs (x4 + 1)) (fun (r_390 : Int) (g_390 : jv_Mem) => (wp_X9_thrown (fun (r_396 : Int) (g_396 : jv_Mem) => ((jv_r r_396 ∧ jv_r r_378) ∧ (r_396 = r_378 → ((jv_r r_378) ∧ (¬ r_378 = 0 → wB_LC_5_423 KU g_396) ∧ (r_378 = 0 → (((0 : Int) ≤ 0 ∧ 0 < (1 : Int)) ∧ (jv_r r_390 ∧ ((jv_r (g_396 148 0) ∧ jv_r r_390) ∧ ((g_396 148 0) = r_390 → wB_LC_5_423 KU g_396) ∧ (¬ (g_396 148 0) = r_390 → False))))))) ∧ (¬ r_396 = r_378 → False))) g_390)) g_378))) g))
set_option maxHeartbeats 4000000 in
set_option maxRecDepth 100000 in
theorem LC_5 {p : Program} {l : Launch} {e : Env} {m : MethodId} {below : List Frame} {meth : Method} {c : Code} {s0 : State} {b0 : Addr} {D : va_G} {ids : Nat → ClassId} {L : Nat} {xs : Nat → Int32} (hT : jv_T l s0 b0) (C : jv_C p s0 m #[Value.ref b0] c code RL s0 b0 D ids) (hml : 7 = c.maxLocals) (hX : va_X b0 L xs s0 s0.heap) (hbl : b0 < s0.heap.size) (hL : L ≤ 2560) {x4 : Int} (hx4 : 0 ≤ x4 ∧ x4 ≤ 2560) {KU : jv_Mem → Prop} (hU : ∀ g : jv_Mem, KU g → jv_V p l e room_1 s0 m #[Value.ref b0] below meth c (1000 + 4 * x4.toNat + 20) (50000 + 40 * x4.toNat + 200) (lw_Z below #[Value.ref b0] s0) s0 D ids none jv_SH g 1704 [some (.ref b0), some (.ref (s0.heap.size + (0 : Int).toNat)), some (.ref (s0.heap.size + (126 : Int).toNat)), some (.ref (s0.heap.size + (148 : Int).toNat)), some (jv_i x4), none, none] []) {g : jv_Mem} (h : wp_LC_5 xs L x4 KU g) : jv_V p l e room_1 s0 m #[Value.ref b0] below meth c (1000 + 4 * x4.toNat + 0) (50000 + 40 * x4.toNat + 0) (lw_Z below #[Value.ref b0] s0) s0 D ids none jv_SH g 370 [some (.ref b0), some (.ref (s0.heap.size + (0 : Int).toNat)), some (.ref (s0.heap.size + (126 : Int).toNat)), some (.ref (s0.heap.size + (148 : Int).toNat)), some (jv_i x4), none, none] [] := by
  unfold wp_LC_5 at h
  refine jv_aload_n C dL_law_370 rfl ?_
  refine jv_aload_n C dL_law_371 rfl ?_
  refine jv_iload C dL_law_372 rfl ?_
  refine jv_const C dL_law_374 ?_
  refine jv_iadd C dL_law_375 ?_
  obtain ⟨hb_376, h⟩ := h
  refine jv_sld C hX hbl hL hb_376 dL_law_376 ?_
  refine jv_aload_n C dL_law_377 rfl ?_
  refine jv_callSWi C (M_L_addWord hT h) kw_L_117 rfl ⟨rfl, rfl⟩ (st := []) rfl rfl ⟨Nat.ble_eq_true_of_le (by show _ ≤ 601024; omega), Nat.ble_eq_true_of_le (by show _ ≤ 7293034; omega)⟩ dL_law_378 (fun r_378 g_378 h => ?_)
  refine jv_istore (ls' := [some (.ref b0), some (.ref (s0.heap.size + (0 : Int).toNat)), some (.ref (s0.heap.size + (126 : Int).toNat)), some (.ref (s0.heap.size + (148 : Int).toNat)), some (jv_i x4), some (jv_i r_378), none]) C dL_law_381 (Nat.lt_of_lt_of_eq (Nat.le_of_ble_eq_true rfl) hml) rfl ?_
  refine jv_aload_n C dL_law_383 rfl ?_
  refine jv_aload_n C dL_law_384 rfl ?_
  refine jv_iload C dL_law_385 rfl ?_
  refine jv_const C dL_law_387 ?_
  refine jv_iadd C dL_law_388 ?_
  obtain ⟨hb_389, h⟩ := h
  refine jv_sld C hX hbl hL hb_389 dL_law_389 ?_
  refine jv_callVi C (M_X9_addWord h) kw_L_119 sS_126 rfl rfl ⟨rfl, rfl⟩ (st := []) rfl rfl ⟨Nat.ble_eq_true_of_le (by show _ ≤ 601024; omega), Nat.ble_eq_true_of_le (by show _ ≤ 7293034; omega)⟩ dL_law_390 (fun r_390 g_390 h => ?_)
  refine jv_istore (ls' := [some (.ref b0), some (.ref (s0.heap.size + (0 : Int).toNat)), some (.ref (s0.heap.size + (126 : Int).toNat)), some (.ref (s0.heap.size + (148 : Int).toNat)), some (jv_i x4), some (jv_i r_378), some (jv_i r_390)]) C dL_law_393 (Nat.lt_of_lt_of_eq (Nat.le_of_ble_eq_true rfl) hml) rfl ?_
  refine jv_aload_n C dL_law_395 rfl ?_
  refine jv_callVi C (M_X9_thrown h) kw_L_100 sS_126 rfl rfl ⟨rfl, rfl⟩ (st := []) rfl rfl ⟨Nat.ble_eq_true_of_le (by show _ ≤ 601024; omega), Nat.ble_eq_true_of_le (by show _ ≤ 7293034; omega)⟩ dL_law_396 (fun r_396 g_396 h => ?_)
  refine jv_iload C dL_law_399 rfl ?_
  obtain ⟨hr_401, h1_401, h2_401⟩ := h
  refine jv_icmp_eq (tgt := 406) C hr_401.1 hr_401.2 dL_law_401 rfl (fun hc_401 => ?_) (fun hc_401 => ?_)
  · replace h := h1_401 hc_401
    refine jv_iload C dL_law_406 rfl ?_
    have hJ423 : ∀ (gj_423 : jv_Mem), wB_LC_5_423 KU gj_423 → jv_V p l e room_1 s0 m #[Value.ref b0] below meth c (1000 + 4 * x4.toNat + 2) (50000 + 40 * x4.toNat + 12) (lw_Z below #[Value.ref b0] s0) s0 D ids none jv_SH gj_423 423 [some (.ref b0), some (.ref (s0.heap.size + (0 : Int).toNat)), some (.ref (s0.heap.size + (126 : Int).toNat)), some (.ref (s0.heap.size + (148 : Int).toNat)), some (jv_i x4), none, none] [] := by
      intro gj_423 h
      unfold wB_LC_5_423 at h
      refine jv_goto (tgt := 1704) C dL_law_423 rfl ?_
      refine jv_wd (k := 1000 + 4 * x4.toNat + 20) (n := 50000 + 40 * x4.toNat + 200) (Nat.ble_eq_true_of_le (by omega)) (Nat.ble_eq_true_of_le (by omega)) ?_
      exact jv_less (ls' := [some (.ref b0), some (.ref (s0.heap.size + (0 : Int).toNat)), some (.ref (s0.heap.size + (126 : Int).toNat)), some (.ref (s0.heap.size + (148 : Int).toNat)), some (jv_i x4), none, none]) ⟨rfl, ⟨rfl, ⟨rfl, ⟨rfl, ⟨rfl, trivial⟩⟩⟩⟩⟩ (hU _ h)
    obtain ⟨hr_408, h1_408, h2_408⟩ := h
    refine jv_if_ne (tgt := 423) C hr_408 dL_law_408 rfl (fun hc_408 => ?_) (fun hc_408 => ?_)
    · replace h := h1_408 hc_408
      refine jv_wd (k := 1000 + 4 * x4.toNat + 2) (n := 50000 + 40 * x4.toNat + 12) (Nat.ble_eq_true_of_le (by omega)) (Nat.ble_eq_true_of_le (by omega)) ?_
      exact jv_less (ls' := [some (.ref b0), some (.ref (s0.heap.size + (0 : Int).toNat)), some (.ref (s0.heap.size + (126 : Int).toNat)), some (.ref (s0.heap.size + (148 : Int).toNat)), some (jv_i x4), none, none]) ⟨rfl, ⟨rfl, ⟨rfl, ⟨rfl, ⟨rfl, trivial⟩⟩⟩⟩⟩ (hJ423 _ h)
    · replace h := h2_408 hc_408
      refine jv_aload_n C dL_law_411 rfl ?_
      refine jv_const C dL_law_412 ?_
      obtain ⟨hb_413, h⟩ := h
      refine jv_lald C sS_148 rfl hb_413 dL_law_413 ?_
      refine jv_iload C dL_law_414 rfl ?_
      obtain ⟨hr_416, h⟩ := h
      refine jv_i2l C hr_416 dL_law_416 ?_
      obtain ⟨hr_417, h1_417, h2_417⟩ := h
      refine jv_leq (tgt := 423) C hr_417.1 hr_417.2 dL_law_417 dL_law_418 rfl (fun hc_417 => ?_) (fun hc_417 => ?_)
      · replace h := h1_417 hc_417
        refine jv_wd (k := 1000 + 4 * x4.toNat + 2) (n := 50000 + 40 * x4.toNat + 12) (Nat.ble_eq_true_of_le (by omega)) (Nat.ble_eq_true_of_le (by omega)) ?_
        exact jv_less (ls' := [some (.ref b0), some (.ref (s0.heap.size + (0 : Int).toNat)), some (.ref (s0.heap.size + (126 : Int).toNat)), some (.ref (s0.heap.size + (148 : Int).toNat)), some (jv_i x4), none, none]) ⟨rfl, ⟨rfl, ⟨rfl, ⟨rfl, ⟨rfl, trivial⟩⟩⟩⟩⟩ (hJ423 _ h)
      · replace h := h2_417 hc_417
        exact h.elim
  · replace h := h2_401 hc_401
    exact h.elim

def wB_LC_6_491 (KU : jv_Mem → Prop) (gj_491 : jv_Mem) : Prop :=
  KU gj_491
def wp_LC_6 (xs : Nat → Int32) (L : Nat) (x4 : Int) (KU : jv_Mem → Prop) (g : jv_Mem) : Prop :=
  (((0 : Int) ≤ x4 + 1 ∧ x4 + 1 < ((L : Nat) : Int)) ∧ (((0 : Int) ≤ x4 + 2 ∧ x4 + 2 < ((L : Nat) : Int)) ∧ (wp_L_setWeight (jv_sx xs (x4 + 1)) (jv_sx xs (x4 + 2)) (fun (r_440 : Int) (g_440 : jv_Mem) => (((0 : Int) ≤ x4 + 1 ∧ x4 + 1 < ((L : Nat) : Int)) ∧ (((0 : Int) ≤ x4 + 2 ∧ x4 + 2 < ((L : Nat) : Int)) ∧ (wp_X9_setWeight (jv_sx xs (x4 + 1)) (jv_sx xs (x4 + 2)) (fun (r_458 : Int) (g_458 : jv_Mem) => (wp_X9_thrown (fun (r_464 : Int) (g_464 : jv_Mem) => ((jv_r r_464 ∧ jv_r r_440) ∧ (r_464 = r_440 → ((jv_r r_440) ∧ (¬ r_440 = 0 → wB_LC_6_491 KU g_464) ∧ (r_440 = 0 → (((0 : Int) ≤ 0 ∧ 0 < (1 : Int)) ∧ (jv_r r_458 ∧ ((jv_r (g_464 148 0) ∧ jv_r r_458) ∧ ((g_464 148 0) = r_458 → wB_LC_6_491 KU g_464) ∧ (¬ (g_464 148 0) = r_458 → False))))))) ∧ (¬ r_464 = r_440 → False))) g_458)) g_440)))) g)))
set_option maxHeartbeats 4000000 in
set_option maxRecDepth 100000 in
theorem LC_6 {p : Program} {l : Launch} {e : Env} {m : MethodId} {below : List Frame} {meth : Method} {c : Code} {s0 : State} {b0 : Addr} {D : va_G} {ids : Nat → ClassId} {L : Nat} {xs : Nat → Int32} (hT : jv_T l s0 b0) (C : jv_C p s0 m #[Value.ref b0] c code RL s0 b0 D ids) (hml : 7 = c.maxLocals) (hX : va_X b0 L xs s0 s0.heap) (hbl : b0 < s0.heap.size) (hL : L ≤ 2560) {x4 : Int} (hx4 : 0 ≤ x4 ∧ x4 ≤ 2560) {KU : jv_Mem → Prop} (hU : ∀ g : jv_Mem, KU g → jv_V p l e room_1 s0 m #[Value.ref b0] below meth c (1000 + 4 * x4.toNat + 20) (50000 + 40 * x4.toNat + 200) (lw_Z below #[Value.ref b0] s0) s0 D ids none jv_SH g 1704 [some (.ref b0), some (.ref (s0.heap.size + (0 : Int).toNat)), some (.ref (s0.heap.size + (126 : Int).toNat)), some (.ref (s0.heap.size + (148 : Int).toNat)), some (jv_i x4), none, none] []) {g : jv_Mem} (h : wp_LC_6 xs L x4 KU g) : jv_V p l e room_1 s0 m #[Value.ref b0] below meth c (1000 + 4 * x4.toNat + 0) (50000 + 40 * x4.toNat + 0) (lw_Z below #[Value.ref b0] s0) s0 D ids none jv_SH g 426 [some (.ref b0), some (.ref (s0.heap.size + (0 : Int).toNat)), some (.ref (s0.heap.size + (126 : Int).toNat)), some (.ref (s0.heap.size + (148 : Int).toNat)), some (jv_i x4), none, none] [] := by
  unfold wp_LC_6 at h
  refine jv_aload_n C dL_law_426 rfl ?_
  refine jv_aload_n C dL_law_427 rfl ?_
  refine jv_iload C dL_law_428 rfl ?_
  refine jv_const C dL_law_430 ?_
  refine jv_iadd C dL_law_431 ?_
  obtain ⟨hb_432, h⟩ := h
  refine jv_sld C hX hbl hL hb_432 dL_law_432 ?_
  refine jv_aload_n C dL_law_433 rfl ?_
  refine jv_iload C dL_law_434 rfl ?_
  refine jv_const C dL_law_436 ?_
  refine jv_iadd C dL_law_437 ?_
  obtain ⟨hb_438, h⟩ := h
  refine jv_sld C hX hbl hL hb_438 dL_law_438 ?_
  refine jv_aload_n C dL_law_439 rfl ?_
  refine jv_callSWi C (M_L_setWeight hT h) kw_L_120 rfl ⟨rfl, rfl⟩ (st := []) rfl rfl ⟨Nat.ble_eq_true_of_le (by show _ ≤ 601024; omega), Nat.ble_eq_true_of_le (by show _ ≤ 7293034; omega)⟩ dL_law_440 (fun r_440 g_440 h => ?_)
  refine jv_istore (ls' := [some (.ref b0), some (.ref (s0.heap.size + (0 : Int).toNat)), some (.ref (s0.heap.size + (126 : Int).toNat)), some (.ref (s0.heap.size + (148 : Int).toNat)), some (jv_i x4), some (jv_i r_440), none]) C dL_law_443 (Nat.lt_of_lt_of_eq (Nat.le_of_ble_eq_true rfl) hml) rfl ?_
  refine jv_aload_n C dL_law_445 rfl ?_
  refine jv_aload_n C dL_law_446 rfl ?_
  refine jv_iload C dL_law_447 rfl ?_
  refine jv_const C dL_law_449 ?_
  refine jv_iadd C dL_law_450 ?_
  obtain ⟨hb_451, h⟩ := h
  refine jv_sld C hX hbl hL hb_451 dL_law_451 ?_
  refine jv_aload_n C dL_law_452 rfl ?_
  refine jv_iload C dL_law_453 rfl ?_
  refine jv_const C dL_law_455 ?_
  refine jv_iadd C dL_law_456 ?_
  obtain ⟨hb_457, h⟩ := h
  refine jv_sld C hX hbl hL hb_457 dL_law_457 ?_
  refine jv_callVi C (M_X9_setWeight h) kw_L_123 sS_126 rfl rfl ⟨rfl, rfl⟩ (st := []) rfl rfl ⟨Nat.ble_eq_true_of_le (by show _ ≤ 601024; omega), Nat.ble_eq_true_of_le (by show _ ≤ 7293034; omega)⟩ dL_law_458 (fun r_458 g_458 h => ?_)
  refine jv_istore (ls' := [some (.ref b0), some (.ref (s0.heap.size + (0 : Int).toNat)), some (.ref (s0.heap.size + (126 : Int).toNat)), some (.ref (s0.heap.size + (148 : Int).toNat)), some (jv_i x4), some (jv_i r_440), some (jv_i r_458)]) C dL_law_461 (Nat.lt_of_lt_of_eq (Nat.le_of_ble_eq_true rfl) hml) rfl ?_
  refine jv_aload_n C dL_law_463 rfl ?_
  refine jv_callVi C (M_X9_thrown h) kw_L_100 sS_126 rfl rfl ⟨rfl, rfl⟩ (st := []) rfl rfl ⟨Nat.ble_eq_true_of_le (by show _ ≤ 601024; omega), Nat.ble_eq_true_of_le (by show _ ≤ 7293034; omega)⟩ dL_law_464 (fun r_464 g_464 h => ?_)
  refine jv_iload C dL_law_467 rfl ?_
  obtain ⟨hr_469, h1_469, h2_469⟩ := h
  refine jv_icmp_eq (tgt := 474) C hr_469.1 hr_469.2 dL_law_469 rfl (fun hc_469 => ?_) (fun hc_469 => ?_)
  · replace h := h1_469 hc_469
    refine jv_iload C dL_law_474 rfl ?_
    have hJ491 : ∀ (gj_491 : jv_Mem), wB_LC_6_491 KU gj_491 → jv_V p l e room_1 s0 m #[Value.ref b0] below meth c (1000 + 4 * x4.toNat + 2) (50000 + 40 * x4.toNat + 12) (lw_Z below #[Value.ref b0] s0) s0 D ids none jv_SH gj_491 491 [some (.ref b0), some (.ref (s0.heap.size + (0 : Int).toNat)), some (.ref (s0.heap.size + (126 : Int).toNat)), some (.ref (s0.heap.size + (148 : Int).toNat)), some (jv_i x4), none, none] [] := by
      intro gj_491 h
      unfold wB_LC_6_491 at h
      refine jv_goto (tgt := 1704) C dL_law_491 rfl ?_
      refine jv_wd (k := 1000 + 4 * x4.toNat + 20) (n := 50000 + 40 * x4.toNat + 200) (Nat.ble_eq_true_of_le (by omega)) (Nat.ble_eq_true_of_le (by omega)) ?_
      exact jv_less (ls' := [some (.ref b0), some (.ref (s0.heap.size + (0 : Int).toNat)), some (.ref (s0.heap.size + (126 : Int).toNat)), some (.ref (s0.heap.size + (148 : Int).toNat)), some (jv_i x4), none, none]) ⟨rfl, ⟨rfl, ⟨rfl, ⟨rfl, ⟨rfl, trivial⟩⟩⟩⟩⟩ (hU _ h)
    obtain ⟨hr_476, h1_476, h2_476⟩ := h
    refine jv_if_ne (tgt := 491) C hr_476 dL_law_476 rfl (fun hc_476 => ?_) (fun hc_476 => ?_)
    · replace h := h1_476 hc_476
      refine jv_wd (k := 1000 + 4 * x4.toNat + 2) (n := 50000 + 40 * x4.toNat + 12) (Nat.ble_eq_true_of_le (by omega)) (Nat.ble_eq_true_of_le (by omega)) ?_
      exact jv_less (ls' := [some (.ref b0), some (.ref (s0.heap.size + (0 : Int).toNat)), some (.ref (s0.heap.size + (126 : Int).toNat)), some (.ref (s0.heap.size + (148 : Int).toNat)), some (jv_i x4), none, none]) ⟨rfl, ⟨rfl, ⟨rfl, ⟨rfl, ⟨rfl, trivial⟩⟩⟩⟩⟩ (hJ491 _ h)
    · replace h := h2_476 hc_476
      refine jv_aload_n C dL_law_479 rfl ?_
      refine jv_const C dL_law_480 ?_
      obtain ⟨hb_481, h⟩ := h
      refine jv_lald C sS_148 rfl hb_481 dL_law_481 ?_
      refine jv_iload C dL_law_482 rfl ?_
      obtain ⟨hr_484, h⟩ := h
      refine jv_i2l C hr_484 dL_law_484 ?_
      obtain ⟨hr_485, h1_485, h2_485⟩ := h
      refine jv_leq (tgt := 491) C hr_485.1 hr_485.2 dL_law_485 dL_law_486 rfl (fun hc_485 => ?_) (fun hc_485 => ?_)
      · replace h := h1_485 hc_485
        refine jv_wd (k := 1000 + 4 * x4.toNat + 2) (n := 50000 + 40 * x4.toNat + 12) (Nat.ble_eq_true_of_le (by omega)) (Nat.ble_eq_true_of_le (by omega)) ?_
        exact jv_less (ls' := [some (.ref b0), some (.ref (s0.heap.size + (0 : Int).toNat)), some (.ref (s0.heap.size + (126 : Int).toNat)), some (.ref (s0.heap.size + (148 : Int).toNat)), some (jv_i x4), none, none]) ⟨rfl, ⟨rfl, ⟨rfl, ⟨rfl, ⟨rfl, trivial⟩⟩⟩⟩⟩ (hJ491 _ h)
      · replace h := h2_485 hc_485
        exact h.elim
  · replace h := h2_469 hc_469
    exact h.elim

def wp_LC_7 (xs : Nat → Int32) (L : Nat) (x4 : Int) (KU : jv_Mem → Prop) (g : jv_Mem) : Prop :=
  (((0 : Int) ≤ x4 + 1 ∧ x4 + 1 < ((L : Nat) : Int)) ∧ (wp_X8_wordAt (jv_sx xs (x4 + 1)) (fun (r_501 : Int) (g_501 : jv_Mem) => (((0 : Int) ≤ x4 + 1 ∧ x4 + 1 < ((L : Nat) : Int)) ∧ (wp_X9_wordAt (jv_sx xs (x4 + 1)) (fun (r_511 : Int) (g_511 : jv_Mem) => ((jv_r r_501 ∧ jv_r r_511) ∧ (r_501 = r_511 → KU g_511) ∧ (¬ r_501 = r_511 → False))) g_501))) g))
set_option maxHeartbeats 4000000 in
set_option maxRecDepth 100000 in
theorem LC_7 {p : Program} {l : Launch} {e : Env} {m : MethodId} {below : List Frame} {meth : Method} {c : Code} {s0 : State} {b0 : Addr} {D : va_G} {ids : Nat → ClassId} {L : Nat} {xs : Nat → Int32} (hT : jv_T l s0 b0) (C : jv_C p s0 m #[Value.ref b0] c code RL s0 b0 D ids) (hml : 7 = c.maxLocals) (hX : va_X b0 L xs s0 s0.heap) (hbl : b0 < s0.heap.size) (hL : L ≤ 2560) {x4 : Int} (hx4 : 0 ≤ x4 ∧ x4 ≤ 2560) {KU : jv_Mem → Prop} (hU : ∀ g : jv_Mem, KU g → jv_V p l e room_1 s0 m #[Value.ref b0] below meth c (1000 + 4 * x4.toNat + 20) (50000 + 40 * x4.toNat + 200) (lw_Z below #[Value.ref b0] s0) s0 D ids none jv_SH g 1704 [some (.ref b0), some (.ref (s0.heap.size + (0 : Int).toNat)), some (.ref (s0.heap.size + (126 : Int).toNat)), some (.ref (s0.heap.size + (148 : Int).toNat)), some (jv_i x4), none, none] []) {g : jv_Mem} (h : wp_LC_7 xs L x4 KU g) : jv_V p l e room_1 s0 m #[Value.ref b0] below meth c (1000 + 4 * x4.toNat + 0) (50000 + 40 * x4.toNat + 0) (lw_Z below #[Value.ref b0] s0) s0 D ids none jv_SH g 494 [some (.ref b0), some (.ref (s0.heap.size + (0 : Int).toNat)), some (.ref (s0.heap.size + (126 : Int).toNat)), some (.ref (s0.heap.size + (148 : Int).toNat)), some (jv_i x4), none, none] [] := by
  unfold wp_LC_7 at h
  refine jv_aload_n C dL_law_494 rfl ?_
  refine jv_aload_n C dL_law_495 rfl ?_
  refine jv_iload C dL_law_496 rfl ?_
  refine jv_const C dL_law_498 ?_
  refine jv_iadd C dL_law_499 ?_
  obtain ⟨hb_500, h⟩ := h
  refine jv_sld C hX hbl hL hb_500 dL_law_500 ?_
  refine jv_callVi C (M_X8_wordAt h) kw_L_124 sS_0 rfl rfl ⟨rfl, rfl⟩ (st := []) rfl rfl ⟨Nat.ble_eq_true_of_le (by show _ ≤ 601024; omega), Nat.ble_eq_true_of_le (by show _ ≤ 7293034; omega)⟩ dL_law_501 (fun r_501 g_501 h => ?_)
  refine jv_aload_n C dL_law_504 rfl ?_
  refine jv_aload_n C dL_law_505 rfl ?_
  refine jv_iload C dL_law_506 rfl ?_
  refine jv_const C dL_law_508 ?_
  refine jv_iadd C dL_law_509 ?_
  obtain ⟨hb_510, h⟩ := h
  refine jv_sld C hX hbl hL hb_510 dL_law_510 ?_
  refine jv_callVi C (M_X9_wordAt h) kw_L_127 sS_126 rfl rfl ⟨rfl, rfl⟩ (st := [jv_i r_501]) rfl rfl ⟨Nat.ble_eq_true_of_le (by show _ ≤ 601024; omega), Nat.ble_eq_true_of_le (by show _ ≤ 7293034; omega)⟩ dL_law_511 (fun r_511 g_511 h => ?_)
  obtain ⟨hr_514, h1_514, h2_514⟩ := h
  refine jv_icmp_eq (tgt := 1704) C hr_514.1 hr_514.2 dL_law_514 rfl (fun hc_514 => ?_) (fun hc_514 => ?_)
  · replace h := h1_514 hc_514
    refine jv_wd (k := 1000 + 4 * x4.toNat + 20) (n := 50000 + 40 * x4.toNat + 200) (Nat.ble_eq_true_of_le (by omega)) (Nat.ble_eq_true_of_le (by omega)) ?_
    exact jv_less (ls' := [some (.ref b0), some (.ref (s0.heap.size + (0 : Int).toNat)), some (.ref (s0.heap.size + (126 : Int).toNat)), some (.ref (s0.heap.size + (148 : Int).toNat)), some (jv_i x4), none, none]) ⟨rfl, ⟨rfl, ⟨rfl, ⟨rfl, ⟨rfl, trivial⟩⟩⟩⟩⟩ (hU _ h)
  · replace h := h2_514 hc_514
    exact h.elim

def wp_LC_8 (xs : Nat → Int32) (L : Nat) (x4 : Int) (KU : jv_Mem → Prop) (g : jv_Mem) : Prop :=
  (wp_X8_beginning (fun (r_520 : Int) (g_520 : jv_Mem) => (wp_X9_beginning (fun (r_524 : Int) (g_524 : jv_Mem) => ((jv_r r_520 ∧ jv_r r_524) ∧ (r_520 = r_524 → KU g_524) ∧ (¬ r_520 = r_524 → False))) g_520)) g)
set_option maxHeartbeats 4000000 in
set_option maxRecDepth 100000 in
theorem LC_8 {p : Program} {l : Launch} {e : Env} {m : MethodId} {below : List Frame} {meth : Method} {c : Code} {s0 : State} {b0 : Addr} {D : va_G} {ids : Nat → ClassId} {L : Nat} {xs : Nat → Int32} (hT : jv_T l s0 b0) (C : jv_C p s0 m #[Value.ref b0] c code RL s0 b0 D ids) (hml : 7 = c.maxLocals) (hX : va_X b0 L xs s0 s0.heap) (hbl : b0 < s0.heap.size) (hL : L ≤ 2560) {x4 : Int} (hx4 : 0 ≤ x4 ∧ x4 ≤ 2560) {KU : jv_Mem → Prop} (hU : ∀ g : jv_Mem, KU g → jv_V p l e room_1 s0 m #[Value.ref b0] below meth c (1000 + 4 * x4.toNat + 20) (50000 + 40 * x4.toNat + 200) (lw_Z below #[Value.ref b0] s0) s0 D ids none jv_SH g 1704 [some (.ref b0), some (.ref (s0.heap.size + (0 : Int).toNat)), some (.ref (s0.heap.size + (126 : Int).toNat)), some (.ref (s0.heap.size + (148 : Int).toNat)), some (jv_i x4), none, none] []) {g : jv_Mem} (h : wp_LC_8 xs L x4 KU g) : jv_V p l e room_1 s0 m #[Value.ref b0] below meth c (1000 + 4 * x4.toNat + 0) (50000 + 40 * x4.toNat + 0) (lw_Z below #[Value.ref b0] s0) s0 D ids none jv_SH g 519 [some (.ref b0), some (.ref (s0.heap.size + (0 : Int).toNat)), some (.ref (s0.heap.size + (126 : Int).toNat)), some (.ref (s0.heap.size + (148 : Int).toNat)), some (jv_i x4), none, none] [] := by
  unfold wp_LC_8 at h
  refine jv_aload_n C dL_law_519 rfl ?_
  refine jv_callVi C (M_X8_beginning h) kw_L_128 sS_0 rfl rfl ⟨rfl, rfl⟩ (st := []) rfl rfl ⟨Nat.ble_eq_true_of_le (by show _ ≤ 601024; omega), Nat.ble_eq_true_of_le (by show _ ≤ 7293034; omega)⟩ dL_law_520 (fun r_520 g_520 h => ?_)
  refine jv_aload_n C dL_law_523 rfl ?_
  refine jv_callVi C (M_X9_beginning h) kw_L_131 sS_126 rfl rfl ⟨rfl, rfl⟩ (st := [jv_i r_520]) rfl rfl ⟨Nat.ble_eq_true_of_le (by show _ ≤ 601024; omega), Nat.ble_eq_true_of_le (by show _ ≤ 7293034; omega)⟩ dL_law_524 (fun r_524 g_524 h => ?_)
  obtain ⟨hr_527, h1_527, h2_527⟩ := h
  refine jv_icmp_eq (tgt := 1704) C hr_527.1 hr_527.2 dL_law_527 rfl (fun hc_527 => ?_) (fun hc_527 => ?_)
  · replace h := h1_527 hc_527
    refine jv_wd (k := 1000 + 4 * x4.toNat + 20) (n := 50000 + 40 * x4.toNat + 200) (Nat.ble_eq_true_of_le (by omega)) (Nat.ble_eq_true_of_le (by omega)) ?_
    exact jv_less (ls' := [some (.ref b0), some (.ref (s0.heap.size + (0 : Int).toNat)), some (.ref (s0.heap.size + (126 : Int).toNat)), some (.ref (s0.heap.size + (148 : Int).toNat)), some (jv_i x4), none, none]) ⟨rfl, ⟨rfl, ⟨rfl, ⟨rfl, ⟨rfl, trivial⟩⟩⟩⟩⟩ (hU _ h)
  · replace h := h2_527 hc_527
    exact h.elim

def wB_LC_9_597 (KU : jv_Mem → Prop) (gj_597 : jv_Mem) : Prop :=
  KU gj_597
def wp_LC_9 (xs : Nat → Int32) (L : Nat) (x4 : Int) (KU : jv_Mem → Prop) (g : jv_Mem) : Prop :=
  (((0 : Int) ≤ x4 + 1 ∧ x4 + 1 < ((L : Nat) : Int)) ∧ (((0 : Int) ≤ x4 + 2 ∧ x4 + 2 < ((L : Nat) : Int)) ∧ (wp_L_fix (jv_sx xs (x4 + 1)) (jv_sx xs (x4 + 2)) (fun (r_546 : Int) (g_546 : jv_Mem) => (((0 : Int) ≤ x4 + 1 ∧ x4 + 1 < ((L : Nat) : Int)) ∧ (((0 : Int) ≤ x4 + 2 ∧ x4 + 2 < ((L : Nat) : Int)) ∧ (wp_X9_fix (jv_sx xs (x4 + 1)) (jv_sx xs (x4 + 2)) (fun (r_564 : Int) (g_564 : jv_Mem) => (wp_X9_thrown (fun (r_570 : Int) (g_570 : jv_Mem) => ((jv_r r_570 ∧ jv_r r_546) ∧ (r_570 = r_546 → ((jv_r r_546) ∧ (¬ r_546 = 0 → wB_LC_9_597 KU g_570) ∧ (r_546 = 0 → (((0 : Int) ≤ 0 ∧ 0 < (1 : Int)) ∧ (jv_r r_564 ∧ ((jv_r (g_570 148 0) ∧ jv_r r_564) ∧ ((g_570 148 0) = r_564 → wB_LC_9_597 KU g_570) ∧ (¬ (g_570 148 0) = r_564 → False))))))) ∧ (¬ r_570 = r_546 → False))) g_564)) g_546)))) g)))
set_option maxHeartbeats 4000000 in
set_option maxRecDepth 100000 in
theorem LC_9 {p : Program} {l : Launch} {e : Env} {m : MethodId} {below : List Frame} {meth : Method} {c : Code} {s0 : State} {b0 : Addr} {D : va_G} {ids : Nat → ClassId} {L : Nat} {xs : Nat → Int32} (hT : jv_T l s0 b0) (C : jv_C p s0 m #[Value.ref b0] c code RL s0 b0 D ids) (hml : 7 = c.maxLocals) (hX : va_X b0 L xs s0 s0.heap) (hbl : b0 < s0.heap.size) (hL : L ≤ 2560) {x4 : Int} (hx4 : 0 ≤ x4 ∧ x4 ≤ 2560) {KU : jv_Mem → Prop} (hU : ∀ g : jv_Mem, KU g → jv_V p l e room_1 s0 m #[Value.ref b0] below meth c (1000 + 4 * x4.toNat + 20) (50000 + 40 * x4.toNat + 200) (lw_Z below #[Value.ref b0] s0) s0 D ids none jv_SH g 1704 [some (.ref b0), some (.ref (s0.heap.size + (0 : Int).toNat)), some (.ref (s0.heap.size + (126 : Int).toNat)), some (.ref (s0.heap.size + (148 : Int).toNat)), some (jv_i x4), none, none] []) {g : jv_Mem} (h : wp_LC_9 xs L x4 KU g) : jv_V p l e room_1 s0 m #[Value.ref b0] below meth c (1000 + 4 * x4.toNat + 0) (50000 + 40 * x4.toNat + 0) (lw_Z below #[Value.ref b0] s0) s0 D ids none jv_SH g 532 [some (.ref b0), some (.ref (s0.heap.size + (0 : Int).toNat)), some (.ref (s0.heap.size + (126 : Int).toNat)), some (.ref (s0.heap.size + (148 : Int).toNat)), some (jv_i x4), none, none] [] := by
  unfold wp_LC_9 at h
  refine jv_aload_n C dL_law_532 rfl ?_
  refine jv_aload_n C dL_law_533 rfl ?_
  refine jv_iload C dL_law_534 rfl ?_
  refine jv_const C dL_law_536 ?_
  refine jv_iadd C dL_law_537 ?_
  obtain ⟨hb_538, h⟩ := h
  refine jv_sld C hX hbl hL hb_538 dL_law_538 ?_
  refine jv_aload_n C dL_law_539 rfl ?_
  refine jv_iload C dL_law_540 rfl ?_
  refine jv_const C dL_law_542 ?_
  refine jv_iadd C dL_law_543 ?_
  obtain ⟨hb_544, h⟩ := h
  refine jv_sld C hX hbl hL hb_544 dL_law_544 ?_
  refine jv_aload_n C dL_law_545 rfl ?_
  refine jv_callSWi C (M_L_fix hT h) kw_L_132 rfl ⟨rfl, rfl⟩ (st := []) rfl rfl ⟨Nat.ble_eq_true_of_le (by show _ ≤ 601024; omega), Nat.ble_eq_true_of_le (by show _ ≤ 7293034; omega)⟩ dL_law_546 (fun r_546 g_546 h => ?_)
  refine jv_istore (ls' := [some (.ref b0), some (.ref (s0.heap.size + (0 : Int).toNat)), some (.ref (s0.heap.size + (126 : Int).toNat)), some (.ref (s0.heap.size + (148 : Int).toNat)), some (jv_i x4), some (jv_i r_546), none]) C dL_law_549 (Nat.lt_of_lt_of_eq (Nat.le_of_ble_eq_true rfl) hml) rfl ?_
  refine jv_aload_n C dL_law_551 rfl ?_
  refine jv_aload_n C dL_law_552 rfl ?_
  refine jv_iload C dL_law_553 rfl ?_
  refine jv_const C dL_law_555 ?_
  refine jv_iadd C dL_law_556 ?_
  obtain ⟨hb_557, h⟩ := h
  refine jv_sld C hX hbl hL hb_557 dL_law_557 ?_
  refine jv_aload_n C dL_law_558 rfl ?_
  refine jv_iload C dL_law_559 rfl ?_
  refine jv_const C dL_law_561 ?_
  refine jv_iadd C dL_law_562 ?_
  obtain ⟨hb_563, h⟩ := h
  refine jv_sld C hX hbl hL hb_563 dL_law_563 ?_
  refine jv_callVi C (M_X9_fix h) kw_L_134 sS_126 rfl rfl ⟨rfl, rfl⟩ (st := []) rfl rfl ⟨Nat.ble_eq_true_of_le (by show _ ≤ 601024; omega), Nat.ble_eq_true_of_le (by show _ ≤ 7293034; omega)⟩ dL_law_564 (fun r_564 g_564 h => ?_)
  refine jv_istore (ls' := [some (.ref b0), some (.ref (s0.heap.size + (0 : Int).toNat)), some (.ref (s0.heap.size + (126 : Int).toNat)), some (.ref (s0.heap.size + (148 : Int).toNat)), some (jv_i x4), some (jv_i r_546), some (jv_i r_564)]) C dL_law_567 (Nat.lt_of_lt_of_eq (Nat.le_of_ble_eq_true rfl) hml) rfl ?_
  refine jv_aload_n C dL_law_569 rfl ?_
  refine jv_callVi C (M_X9_thrown h) kw_L_100 sS_126 rfl rfl ⟨rfl, rfl⟩ (st := []) rfl rfl ⟨Nat.ble_eq_true_of_le (by show _ ≤ 601024; omega), Nat.ble_eq_true_of_le (by show _ ≤ 7293034; omega)⟩ dL_law_570 (fun r_570 g_570 h => ?_)
  refine jv_iload C dL_law_573 rfl ?_
  obtain ⟨hr_575, h1_575, h2_575⟩ := h
  refine jv_icmp_eq (tgt := 580) C hr_575.1 hr_575.2 dL_law_575 rfl (fun hc_575 => ?_) (fun hc_575 => ?_)
  · replace h := h1_575 hc_575
    refine jv_iload C dL_law_580 rfl ?_
    have hJ597 : ∀ (gj_597 : jv_Mem), wB_LC_9_597 KU gj_597 → jv_V p l e room_1 s0 m #[Value.ref b0] below meth c (1000 + 4 * x4.toNat + 2) (50000 + 40 * x4.toNat + 12) (lw_Z below #[Value.ref b0] s0) s0 D ids none jv_SH gj_597 597 [some (.ref b0), some (.ref (s0.heap.size + (0 : Int).toNat)), some (.ref (s0.heap.size + (126 : Int).toNat)), some (.ref (s0.heap.size + (148 : Int).toNat)), some (jv_i x4), none, none] [] := by
      intro gj_597 h
      unfold wB_LC_9_597 at h
      refine jv_goto (tgt := 1704) C dL_law_597 rfl ?_
      refine jv_wd (k := 1000 + 4 * x4.toNat + 20) (n := 50000 + 40 * x4.toNat + 200) (Nat.ble_eq_true_of_le (by omega)) (Nat.ble_eq_true_of_le (by omega)) ?_
      exact jv_less (ls' := [some (.ref b0), some (.ref (s0.heap.size + (0 : Int).toNat)), some (.ref (s0.heap.size + (126 : Int).toNat)), some (.ref (s0.heap.size + (148 : Int).toNat)), some (jv_i x4), none, none]) ⟨rfl, ⟨rfl, ⟨rfl, ⟨rfl, ⟨rfl, trivial⟩⟩⟩⟩⟩ (hU _ h)
    obtain ⟨hr_582, h1_582, h2_582⟩ := h
    refine jv_if_ne (tgt := 597) C hr_582 dL_law_582 rfl (fun hc_582 => ?_) (fun hc_582 => ?_)
    · replace h := h1_582 hc_582
      refine jv_wd (k := 1000 + 4 * x4.toNat + 2) (n := 50000 + 40 * x4.toNat + 12) (Nat.ble_eq_true_of_le (by omega)) (Nat.ble_eq_true_of_le (by omega)) ?_
      exact jv_less (ls' := [some (.ref b0), some (.ref (s0.heap.size + (0 : Int).toNat)), some (.ref (s0.heap.size + (126 : Int).toNat)), some (.ref (s0.heap.size + (148 : Int).toNat)), some (jv_i x4), none, none]) ⟨rfl, ⟨rfl, ⟨rfl, ⟨rfl, ⟨rfl, trivial⟩⟩⟩⟩⟩ (hJ597 _ h)
    · replace h := h2_582 hc_582
      refine jv_aload_n C dL_law_585 rfl ?_
      refine jv_const C dL_law_586 ?_
      obtain ⟨hb_587, h⟩ := h
      refine jv_lald C sS_148 rfl hb_587 dL_law_587 ?_
      refine jv_iload C dL_law_588 rfl ?_
      obtain ⟨hr_590, h⟩ := h
      refine jv_i2l C hr_590 dL_law_590 ?_
      obtain ⟨hr_591, h1_591, h2_591⟩ := h
      refine jv_leq (tgt := 597) C hr_591.1 hr_591.2 dL_law_591 dL_law_592 rfl (fun hc_591 => ?_) (fun hc_591 => ?_)
      · replace h := h1_591 hc_591
        refine jv_wd (k := 1000 + 4 * x4.toNat + 2) (n := 50000 + 40 * x4.toNat + 12) (Nat.ble_eq_true_of_le (by omega)) (Nat.ble_eq_true_of_le (by omega)) ?_
        exact jv_less (ls' := [some (.ref b0), some (.ref (s0.heap.size + (0 : Int).toNat)), some (.ref (s0.heap.size + (126 : Int).toNat)), some (.ref (s0.heap.size + (148 : Int).toNat)), some (jv_i x4), none, none]) ⟨rfl, ⟨rfl, ⟨rfl, ⟨rfl, ⟨rfl, trivial⟩⟩⟩⟩⟩ (hJ597 _ h)
      · replace h := h2_591 hc_591
        exact h.elim
  · replace h := h2_575 hc_575
    exact h.elim

def wp_LC_10 (xs : Nat → Int32) (L : Nat) (x4 : Int) (KU : jv_Mem → Prop) (g : jv_Mem) : Prop :=
  (wp_X8_fillWeight (fun (r_601 : Int) (g_601 : jv_Mem) => (wp_X9_fillWeight (fun (r_605 : Int) (g_605 : jv_Mem) => ((jv_r r_601 ∧ jv_r r_605) ∧ (r_601 = r_605 → KU g_605) ∧ (¬ r_601 = r_605 → False))) g_601)) g)
set_option maxHeartbeats 4000000 in
set_option maxRecDepth 100000 in
theorem LC_10 {p : Program} {l : Launch} {e : Env} {m : MethodId} {below : List Frame} {meth : Method} {c : Code} {s0 : State} {b0 : Addr} {D : va_G} {ids : Nat → ClassId} {L : Nat} {xs : Nat → Int32} (hT : jv_T l s0 b0) (C : jv_C p s0 m #[Value.ref b0] c code RL s0 b0 D ids) (hml : 7 = c.maxLocals) (hX : va_X b0 L xs s0 s0.heap) (hbl : b0 < s0.heap.size) (hL : L ≤ 2560) {x4 : Int} (hx4 : 0 ≤ x4 ∧ x4 ≤ 2560) {KU : jv_Mem → Prop} (hU : ∀ g : jv_Mem, KU g → jv_V p l e room_1 s0 m #[Value.ref b0] below meth c (1000 + 4 * x4.toNat + 20) (50000 + 40 * x4.toNat + 200) (lw_Z below #[Value.ref b0] s0) s0 D ids none jv_SH g 1704 [some (.ref b0), some (.ref (s0.heap.size + (0 : Int).toNat)), some (.ref (s0.heap.size + (126 : Int).toNat)), some (.ref (s0.heap.size + (148 : Int).toNat)), some (jv_i x4), none, none] []) {g : jv_Mem} (h : wp_LC_10 xs L x4 KU g) : jv_V p l e room_1 s0 m #[Value.ref b0] below meth c (1000 + 4 * x4.toNat + 0) (50000 + 40 * x4.toNat + 0) (lw_Z below #[Value.ref b0] s0) s0 D ids none jv_SH g 600 [some (.ref b0), some (.ref (s0.heap.size + (0 : Int).toNat)), some (.ref (s0.heap.size + (126 : Int).toNat)), some (.ref (s0.heap.size + (148 : Int).toNat)), some (jv_i x4), none, none] [] := by
  unfold wp_LC_10 at h
  refine jv_aload_n C dL_law_600 rfl ?_
  refine jv_callVi C (M_X8_fillWeight h) kw_L_135 sS_0 rfl rfl ⟨rfl, rfl⟩ (st := []) rfl rfl ⟨Nat.ble_eq_true_of_le (by show _ ≤ 601024; omega), Nat.ble_eq_true_of_le (by show _ ≤ 7293034; omega)⟩ dL_law_601 (fun r_601 g_601 h => ?_)
  refine jv_aload_n C dL_law_604 rfl ?_
  refine jv_callVi C (M_X9_fillWeight h) kw_L_138 sS_126 rfl rfl ⟨rfl, rfl⟩ (st := [jv_i r_601]) rfl rfl ⟨Nat.ble_eq_true_of_le (by show _ ≤ 601024; omega), Nat.ble_eq_true_of_le (by show _ ≤ 7293034; omega)⟩ dL_law_605 (fun r_605 g_605 h => ?_)
  obtain ⟨hr_608, h1_608, h2_608⟩ := h
  refine jv_icmp_eq (tgt := 1704) C hr_608.1 hr_608.2 dL_law_608 rfl (fun hc_608 => ?_) (fun hc_608 => ?_)
  · replace h := h1_608 hc_608
    refine jv_wd (k := 1000 + 4 * x4.toNat + 20) (n := 50000 + 40 * x4.toNat + 200) (Nat.ble_eq_true_of_le (by omega)) (Nat.ble_eq_true_of_le (by omega)) ?_
    exact jv_less (ls' := [some (.ref b0), some (.ref (s0.heap.size + (0 : Int).toNat)), some (.ref (s0.heap.size + (126 : Int).toNat)), some (.ref (s0.heap.size + (148 : Int).toNat)), some (jv_i x4), none, none]) ⟨rfl, ⟨rfl, ⟨rfl, ⟨rfl, ⟨rfl, trivial⟩⟩⟩⟩⟩ (hU _ h)
  · replace h := h2_608 hc_608
    exact h.elim

def wp_LC_11 (xs : Nat → Int32) (L : Nat) (x4 : Int) (KU : jv_Mem → Prop) (g : jv_Mem) : Prop :=
  (wp_X8_fillWeightByAll (fun (r_614 : Int) (g_614 : jv_Mem) => (wp_X9_fillWeightByAll (fun (r_618 : Int) (g_618 : jv_Mem) => ((jv_r r_614 ∧ jv_r r_618) ∧ (r_614 = r_618 → KU g_618) ∧ (¬ r_614 = r_618 → False))) g_614)) g)
set_option maxHeartbeats 4000000 in
set_option maxRecDepth 100000 in
theorem LC_11 {p : Program} {l : Launch} {e : Env} {m : MethodId} {below : List Frame} {meth : Method} {c : Code} {s0 : State} {b0 : Addr} {D : va_G} {ids : Nat → ClassId} {L : Nat} {xs : Nat → Int32} (hT : jv_T l s0 b0) (C : jv_C p s0 m #[Value.ref b0] c code RL s0 b0 D ids) (hml : 7 = c.maxLocals) (hX : va_X b0 L xs s0 s0.heap) (hbl : b0 < s0.heap.size) (hL : L ≤ 2560) {x4 : Int} (hx4 : 0 ≤ x4 ∧ x4 ≤ 2560) {KU : jv_Mem → Prop} (hU : ∀ g : jv_Mem, KU g → jv_V p l e room_1 s0 m #[Value.ref b0] below meth c (1000 + 4 * x4.toNat + 20) (50000 + 40 * x4.toNat + 200) (lw_Z below #[Value.ref b0] s0) s0 D ids none jv_SH g 1704 [some (.ref b0), some (.ref (s0.heap.size + (0 : Int).toNat)), some (.ref (s0.heap.size + (126 : Int).toNat)), some (.ref (s0.heap.size + (148 : Int).toNat)), some (jv_i x4), none, none] []) {g : jv_Mem} (h : wp_LC_11 xs L x4 KU g) : jv_V p l e room_1 s0 m #[Value.ref b0] below meth c (1000 + 4 * x4.toNat + 0) (50000 + 40 * x4.toNat + 0) (lw_Z below #[Value.ref b0] s0) s0 D ids none jv_SH g 613 [some (.ref b0), some (.ref (s0.heap.size + (0 : Int).toNat)), some (.ref (s0.heap.size + (126 : Int).toNat)), some (.ref (s0.heap.size + (148 : Int).toNat)), some (jv_i x4), none, none] [] := by
  unfold wp_LC_11 at h
  refine jv_aload_n C dL_law_613 rfl ?_
  refine jv_callVi C (M_X8_fillWeightByAll h) kw_L_139 sS_0 rfl rfl ⟨rfl, rfl⟩ (st := []) rfl rfl ⟨Nat.ble_eq_true_of_le (by show _ ≤ 601024; omega), Nat.ble_eq_true_of_le (by show _ ≤ 7293034; omega)⟩ dL_law_614 (fun r_614 g_614 h => ?_)
  refine jv_aload_n C dL_law_617 rfl ?_
  refine jv_callVi C (M_X9_fillWeightByAll h) kw_L_142 sS_126 rfl rfl ⟨rfl, rfl⟩ (st := [jv_i r_614]) rfl rfl ⟨Nat.ble_eq_true_of_le (by show _ ≤ 601024; omega), Nat.ble_eq_true_of_le (by show _ ≤ 7293034; omega)⟩ dL_law_618 (fun r_618 g_618 h => ?_)
  obtain ⟨hr_621, h1_621, h2_621⟩ := h
  refine jv_icmp_eq (tgt := 1704) C hr_621.1 hr_621.2 dL_law_621 rfl (fun hc_621 => ?_) (fun hc_621 => ?_)
  · replace h := h1_621 hc_621
    refine jv_wd (k := 1000 + 4 * x4.toNat + 20) (n := 50000 + 40 * x4.toNat + 200) (Nat.ble_eq_true_of_le (by omega)) (Nat.ble_eq_true_of_le (by omega)) ?_
    exact jv_less (ls' := [some (.ref b0), some (.ref (s0.heap.size + (0 : Int).toNat)), some (.ref (s0.heap.size + (126 : Int).toNat)), some (.ref (s0.heap.size + (148 : Int).toNat)), some (jv_i x4), none, none]) ⟨rfl, ⟨rfl, ⟨rfl, ⟨rfl, ⟨rfl, trivial⟩⟩⟩⟩⟩ (hU _ h)
  · replace h := h2_621 hc_621
    exact h.elim

def wp_LC_12 (xs : Nat → Int32) (L : Nat) (x4 : Int) (KU : jv_Mem → Prop) (g : jv_Mem) : Prop :=
  (wp_X8_fills (fun (r_627 : Int) (g_627 : jv_Mem) => (wp_X9_fills (fun (r_631 : Int) (g_631 : jv_Mem) => ((jv_r r_627 ∧ jv_r r_631) ∧ (r_627 = r_631 → KU g_631) ∧ (¬ r_627 = r_631 → False))) g_627)) g)
set_option maxHeartbeats 4000000 in
set_option maxRecDepth 100000 in
theorem LC_12 {p : Program} {l : Launch} {e : Env} {m : MethodId} {below : List Frame} {meth : Method} {c : Code} {s0 : State} {b0 : Addr} {D : va_G} {ids : Nat → ClassId} {L : Nat} {xs : Nat → Int32} (hT : jv_T l s0 b0) (C : jv_C p s0 m #[Value.ref b0] c code RL s0 b0 D ids) (hml : 7 = c.maxLocals) (hX : va_X b0 L xs s0 s0.heap) (hbl : b0 < s0.heap.size) (hL : L ≤ 2560) {x4 : Int} (hx4 : 0 ≤ x4 ∧ x4 ≤ 2560) {KU : jv_Mem → Prop} (hU : ∀ g : jv_Mem, KU g → jv_V p l e room_1 s0 m #[Value.ref b0] below meth c (1000 + 4 * x4.toNat + 20) (50000 + 40 * x4.toNat + 200) (lw_Z below #[Value.ref b0] s0) s0 D ids none jv_SH g 1704 [some (.ref b0), some (.ref (s0.heap.size + (0 : Int).toNat)), some (.ref (s0.heap.size + (126 : Int).toNat)), some (.ref (s0.heap.size + (148 : Int).toNat)), some (jv_i x4), none, none] []) {g : jv_Mem} (h : wp_LC_12 xs L x4 KU g) : jv_V p l e room_1 s0 m #[Value.ref b0] below meth c (1000 + 4 * x4.toNat + 0) (50000 + 40 * x4.toNat + 0) (lw_Z below #[Value.ref b0] s0) s0 D ids none jv_SH g 626 [some (.ref b0), some (.ref (s0.heap.size + (0 : Int).toNat)), some (.ref (s0.heap.size + (126 : Int).toNat)), some (.ref (s0.heap.size + (148 : Int).toNat)), some (jv_i x4), none, none] [] := by
  unfold wp_LC_12 at h
  refine jv_aload_n C dL_law_626 rfl ?_
  refine jv_callVi C (M_X8_fills h) kw_L_143 sS_0 rfl rfl ⟨rfl, rfl⟩ (st := []) rfl rfl ⟨Nat.ble_eq_true_of_le (by show _ ≤ 601024; omega), Nat.ble_eq_true_of_le (by show _ ≤ 7293034; omega)⟩ dL_law_627 (fun r_627 g_627 h => ?_)
  refine jv_aload_n C dL_law_630 rfl ?_
  refine jv_callVi C (M_X9_fills h) kw_L_146 sS_126 rfl rfl ⟨rfl, rfl⟩ (st := [jv_i r_627]) rfl rfl ⟨Nat.ble_eq_true_of_le (by show _ ≤ 601024; omega), Nat.ble_eq_true_of_le (by show _ ≤ 7293034; omega)⟩ dL_law_631 (fun r_631 g_631 h => ?_)
  obtain ⟨hr_634, h1_634, h2_634⟩ := h
  refine jv_icmp_eq (tgt := 1704) C hr_634.1 hr_634.2 dL_law_634 rfl (fun hc_634 => ?_) (fun hc_634 => ?_)
  · replace h := h1_634 hc_634
    refine jv_wd (k := 1000 + 4 * x4.toNat + 20) (n := 50000 + 40 * x4.toNat + 200) (Nat.ble_eq_true_of_le (by omega)) (Nat.ble_eq_true_of_le (by omega)) ?_
    exact jv_less (ls' := [some (.ref b0), some (.ref (s0.heap.size + (0 : Int).toNat)), some (.ref (s0.heap.size + (126 : Int).toNat)), some (.ref (s0.heap.size + (148 : Int).toNat)), some (jv_i x4), none, none]) ⟨rfl, ⟨rfl, ⟨rfl, ⟨rfl, ⟨rfl, trivial⟩⟩⟩⟩⟩ (hU _ h)
  · replace h := h2_634 hc_634
    exact h.elim

def wB_LC_13_692 (KU : jv_Mem → Prop) (gj_692 : jv_Mem) : Prop :=
  KU gj_692
def wp_LC_13 (xs : Nat → Int32) (L : Nat) (x4 : Int) (KU : jv_Mem → Prop) (g : jv_Mem) : Prop :=
  (((0 : Int) ≤ x4 + 1 ∧ x4 + 1 < ((L : Nat) : Int)) ∧ (wp_L_fillAt (jv_sx xs (x4 + 1)) (fun (r_647 : Int) (g_647 : jv_Mem) => (((0 : Int) ≤ x4 + 1 ∧ x4 + 1 < ((L : Nat) : Int)) ∧ (wp_X9_fillAt (jv_sx xs (x4 + 1)) (fun (r_659 : Int) (g_659 : jv_Mem) => (wp_X9_thrown (fun (r_665 : Int) (g_665 : jv_Mem) => ((jv_r r_665 ∧ jv_r r_647) ∧ (r_665 = r_647 → ((jv_r r_647) ∧ (¬ r_647 = 0 → wB_LC_13_692 KU g_665) ∧ (r_647 = 0 → (((0 : Int) ≤ 0 ∧ 0 < (1 : Int)) ∧ (jv_r r_659 ∧ ((jv_r (g_665 148 0) ∧ jv_r r_659) ∧ ((g_665 148 0) = r_659 → wB_LC_13_692 KU g_665) ∧ (¬ (g_665 148 0) = r_659 → False))))))) ∧ (¬ r_665 = r_647 → False))) g_659)) g_647))) g))
set_option maxHeartbeats 4000000 in
set_option maxRecDepth 100000 in
theorem LC_13 {p : Program} {l : Launch} {e : Env} {m : MethodId} {below : List Frame} {meth : Method} {c : Code} {s0 : State} {b0 : Addr} {D : va_G} {ids : Nat → ClassId} {L : Nat} {xs : Nat → Int32} (hT : jv_T l s0 b0) (C : jv_C p s0 m #[Value.ref b0] c code RL s0 b0 D ids) (hml : 7 = c.maxLocals) (hX : va_X b0 L xs s0 s0.heap) (hbl : b0 < s0.heap.size) (hL : L ≤ 2560) {x4 : Int} (hx4 : 0 ≤ x4 ∧ x4 ≤ 2560) {KU : jv_Mem → Prop} (hU : ∀ g : jv_Mem, KU g → jv_V p l e room_1 s0 m #[Value.ref b0] below meth c (1000 + 4 * x4.toNat + 20) (50000 + 40 * x4.toNat + 200) (lw_Z below #[Value.ref b0] s0) s0 D ids none jv_SH g 1704 [some (.ref b0), some (.ref (s0.heap.size + (0 : Int).toNat)), some (.ref (s0.heap.size + (126 : Int).toNat)), some (.ref (s0.heap.size + (148 : Int).toNat)), some (jv_i x4), none, none] []) {g : jv_Mem} (h : wp_LC_13 xs L x4 KU g) : jv_V p l e room_1 s0 m #[Value.ref b0] below meth c (1000 + 4 * x4.toNat + 0) (50000 + 40 * x4.toNat + 0) (lw_Z below #[Value.ref b0] s0) s0 D ids none jv_SH g 639 [some (.ref b0), some (.ref (s0.heap.size + (0 : Int).toNat)), some (.ref (s0.heap.size + (126 : Int).toNat)), some (.ref (s0.heap.size + (148 : Int).toNat)), some (jv_i x4), none, none] [] := by
  unfold wp_LC_13 at h
  refine jv_aload_n C dL_law_639 rfl ?_
  refine jv_aload_n C dL_law_640 rfl ?_
  refine jv_iload C dL_law_641 rfl ?_
  refine jv_const C dL_law_643 ?_
  refine jv_iadd C dL_law_644 ?_
  obtain ⟨hb_645, h⟩ := h
  refine jv_sld C hX hbl hL hb_645 dL_law_645 ?_
  refine jv_aload_n C dL_law_646 rfl ?_
  refine jv_callSWi C (M_L_fillAt hT h) kw_L_147 rfl ⟨rfl, rfl⟩ (st := []) rfl rfl ⟨Nat.ble_eq_true_of_le (by show _ ≤ 601024; omega), Nat.ble_eq_true_of_le (by show _ ≤ 7293034; omega)⟩ dL_law_647 (fun r_647 g_647 h => ?_)
  refine jv_istore (ls' := [some (.ref b0), some (.ref (s0.heap.size + (0 : Int).toNat)), some (.ref (s0.heap.size + (126 : Int).toNat)), some (.ref (s0.heap.size + (148 : Int).toNat)), some (jv_i x4), some (jv_i r_647), none]) C dL_law_650 (Nat.lt_of_lt_of_eq (Nat.le_of_ble_eq_true rfl) hml) rfl ?_
  refine jv_aload_n C dL_law_652 rfl ?_
  refine jv_aload_n C dL_law_653 rfl ?_
  refine jv_iload C dL_law_654 rfl ?_
  refine jv_const C dL_law_656 ?_
  refine jv_iadd C dL_law_657 ?_
  obtain ⟨hb_658, h⟩ := h
  refine jv_sld C hX hbl hL hb_658 dL_law_658 ?_
  refine jv_callVi C (M_X9_fillAt h) kw_L_149 sS_126 rfl rfl ⟨rfl, rfl⟩ (st := []) rfl rfl ⟨Nat.ble_eq_true_of_le (by show _ ≤ 601024; omega), Nat.ble_eq_true_of_le (by show _ ≤ 7293034; omega)⟩ dL_law_659 (fun r_659 g_659 h => ?_)
  refine jv_istore (ls' := [some (.ref b0), some (.ref (s0.heap.size + (0 : Int).toNat)), some (.ref (s0.heap.size + (126 : Int).toNat)), some (.ref (s0.heap.size + (148 : Int).toNat)), some (jv_i x4), some (jv_i r_647), some (jv_i r_659)]) C dL_law_662 (Nat.lt_of_lt_of_eq (Nat.le_of_ble_eq_true rfl) hml) rfl ?_
  refine jv_aload_n C dL_law_664 rfl ?_
  refine jv_callVi C (M_X9_thrown h) kw_L_100 sS_126 rfl rfl ⟨rfl, rfl⟩ (st := []) rfl rfl ⟨Nat.ble_eq_true_of_le (by show _ ≤ 601024; omega), Nat.ble_eq_true_of_le (by show _ ≤ 7293034; omega)⟩ dL_law_665 (fun r_665 g_665 h => ?_)
  refine jv_iload C dL_law_668 rfl ?_
  obtain ⟨hr_670, h1_670, h2_670⟩ := h
  refine jv_icmp_eq (tgt := 675) C hr_670.1 hr_670.2 dL_law_670 rfl (fun hc_670 => ?_) (fun hc_670 => ?_)
  · replace h := h1_670 hc_670
    refine jv_iload C dL_law_675 rfl ?_
    have hJ692 : ∀ (gj_692 : jv_Mem), wB_LC_13_692 KU gj_692 → jv_V p l e room_1 s0 m #[Value.ref b0] below meth c (1000 + 4 * x4.toNat + 2) (50000 + 40 * x4.toNat + 12) (lw_Z below #[Value.ref b0] s0) s0 D ids none jv_SH gj_692 692 [some (.ref b0), some (.ref (s0.heap.size + (0 : Int).toNat)), some (.ref (s0.heap.size + (126 : Int).toNat)), some (.ref (s0.heap.size + (148 : Int).toNat)), some (jv_i x4), none, none] [] := by
      intro gj_692 h
      unfold wB_LC_13_692 at h
      refine jv_goto (tgt := 1704) C dL_law_692 rfl ?_
      refine jv_wd (k := 1000 + 4 * x4.toNat + 20) (n := 50000 + 40 * x4.toNat + 200) (Nat.ble_eq_true_of_le (by omega)) (Nat.ble_eq_true_of_le (by omega)) ?_
      exact jv_less (ls' := [some (.ref b0), some (.ref (s0.heap.size + (0 : Int).toNat)), some (.ref (s0.heap.size + (126 : Int).toNat)), some (.ref (s0.heap.size + (148 : Int).toNat)), some (jv_i x4), none, none]) ⟨rfl, ⟨rfl, ⟨rfl, ⟨rfl, ⟨rfl, trivial⟩⟩⟩⟩⟩ (hU _ h)
    obtain ⟨hr_677, h1_677, h2_677⟩ := h
    refine jv_if_ne (tgt := 692) C hr_677 dL_law_677 rfl (fun hc_677 => ?_) (fun hc_677 => ?_)
    · replace h := h1_677 hc_677
      refine jv_wd (k := 1000 + 4 * x4.toNat + 2) (n := 50000 + 40 * x4.toNat + 12) (Nat.ble_eq_true_of_le (by omega)) (Nat.ble_eq_true_of_le (by omega)) ?_
      exact jv_less (ls' := [some (.ref b0), some (.ref (s0.heap.size + (0 : Int).toNat)), some (.ref (s0.heap.size + (126 : Int).toNat)), some (.ref (s0.heap.size + (148 : Int).toNat)), some (jv_i x4), none, none]) ⟨rfl, ⟨rfl, ⟨rfl, ⟨rfl, ⟨rfl, trivial⟩⟩⟩⟩⟩ (hJ692 _ h)
    · replace h := h2_677 hc_677
      refine jv_aload_n C dL_law_680 rfl ?_
      refine jv_const C dL_law_681 ?_
      obtain ⟨hb_682, h⟩ := h
      refine jv_lald C sS_148 rfl hb_682 dL_law_682 ?_
      refine jv_iload C dL_law_683 rfl ?_
      obtain ⟨hr_685, h⟩ := h
      refine jv_i2l C hr_685 dL_law_685 ?_
      obtain ⟨hr_686, h1_686, h2_686⟩ := h
      refine jv_leq (tgt := 692) C hr_686.1 hr_686.2 dL_law_686 dL_law_687 rfl (fun hc_686 => ?_) (fun hc_686 => ?_)
      · replace h := h1_686 hc_686
        refine jv_wd (k := 1000 + 4 * x4.toNat + 2) (n := 50000 + 40 * x4.toNat + 12) (Nat.ble_eq_true_of_le (by omega)) (Nat.ble_eq_true_of_le (by omega)) ?_
        exact jv_less (ls' := [some (.ref b0), some (.ref (s0.heap.size + (0 : Int).toNat)), some (.ref (s0.heap.size + (126 : Int).toNat)), some (.ref (s0.heap.size + (148 : Int).toNat)), some (jv_i x4), none, none]) ⟨rfl, ⟨rfl, ⟨rfl, ⟨rfl, ⟨rfl, trivial⟩⟩⟩⟩⟩ (hJ692 _ h)
      · replace h := h2_686 hc_686
        exact h.elim
  · replace h := h2_670 hc_670
    exact h.elim

def wB_LC_14_748 (KU : jv_Mem → Prop) (gj_748 : jv_Mem) : Prop :=
  KU gj_748
def wp_LC_14 (xs : Nat → Int32) (L : Nat) (x4 : Int) (KU : jv_Mem → Prop) (g : jv_Mem) : Prop :=
  (((0 : Int) ≤ x4 + 1 ∧ x4 + 1 < ((L : Nat) : Int)) ∧ (wp_L_clue (jv_sx xs (x4 + 1)) (fun (r_703 : Int) (g_703 : jv_Mem) => (((0 : Int) ≤ x4 + 1 ∧ x4 + 1 < ((L : Nat) : Int)) ∧ (wp_X9_clue (jv_sx xs (x4 + 1)) (fun (r_715 : Int) (g_715 : jv_Mem) => (wp_X9_thrown (fun (r_721 : Int) (g_721 : jv_Mem) => ((jv_r r_721 ∧ jv_r r_703) ∧ (r_721 = r_703 → ((jv_r r_703) ∧ (¬ r_703 = 0 → wB_LC_14_748 KU g_721) ∧ (r_703 = 0 → (((0 : Int) ≤ 0 ∧ 0 < (1 : Int)) ∧ (jv_r r_715 ∧ ((jv_r (g_721 148 0) ∧ jv_r r_715) ∧ ((g_721 148 0) = r_715 → wB_LC_14_748 KU g_721) ∧ (¬ (g_721 148 0) = r_715 → False))))))) ∧ (¬ r_721 = r_703 → False))) g_715)) g_703))) g))
set_option maxHeartbeats 4000000 in
set_option maxRecDepth 100000 in
theorem LC_14 {p : Program} {l : Launch} {e : Env} {m : MethodId} {below : List Frame} {meth : Method} {c : Code} {s0 : State} {b0 : Addr} {D : va_G} {ids : Nat → ClassId} {L : Nat} {xs : Nat → Int32} (hT : jv_T l s0 b0) (C : jv_C p s0 m #[Value.ref b0] c code RL s0 b0 D ids) (hml : 7 = c.maxLocals) (hX : va_X b0 L xs s0 s0.heap) (hbl : b0 < s0.heap.size) (hL : L ≤ 2560) {x4 : Int} (hx4 : 0 ≤ x4 ∧ x4 ≤ 2560) {KU : jv_Mem → Prop} (hU : ∀ g : jv_Mem, KU g → jv_V p l e room_1 s0 m #[Value.ref b0] below meth c (1000 + 4 * x4.toNat + 20) (50000 + 40 * x4.toNat + 200) (lw_Z below #[Value.ref b0] s0) s0 D ids none jv_SH g 1704 [some (.ref b0), some (.ref (s0.heap.size + (0 : Int).toNat)), some (.ref (s0.heap.size + (126 : Int).toNat)), some (.ref (s0.heap.size + (148 : Int).toNat)), some (jv_i x4), none, none] []) {g : jv_Mem} (h : wp_LC_14 xs L x4 KU g) : jv_V p l e room_1 s0 m #[Value.ref b0] below meth c (1000 + 4 * x4.toNat + 0) (50000 + 40 * x4.toNat + 0) (lw_Z below #[Value.ref b0] s0) s0 D ids none jv_SH g 695 [some (.ref b0), some (.ref (s0.heap.size + (0 : Int).toNat)), some (.ref (s0.heap.size + (126 : Int).toNat)), some (.ref (s0.heap.size + (148 : Int).toNat)), some (jv_i x4), none, none] [] := by
  unfold wp_LC_14 at h
  refine jv_aload_n C dL_law_695 rfl ?_
  refine jv_aload_n C dL_law_696 rfl ?_
  refine jv_iload C dL_law_697 rfl ?_
  refine jv_const C dL_law_699 ?_
  refine jv_iadd C dL_law_700 ?_
  obtain ⟨hb_701, h⟩ := h
  refine jv_sld C hX hbl hL hb_701 dL_law_701 ?_
  refine jv_aload_n C dL_law_702 rfl ?_
  refine jv_callSWi C (M_L_clue hT h) kw_L_150 rfl ⟨rfl, rfl⟩ (st := []) rfl rfl ⟨Nat.ble_eq_true_of_le (by show _ ≤ 601024; omega), Nat.ble_eq_true_of_le (by show _ ≤ 7293034; omega)⟩ dL_law_703 (fun r_703 g_703 h => ?_)
  refine jv_istore (ls' := [some (.ref b0), some (.ref (s0.heap.size + (0 : Int).toNat)), some (.ref (s0.heap.size + (126 : Int).toNat)), some (.ref (s0.heap.size + (148 : Int).toNat)), some (jv_i x4), some (jv_i r_703), none]) C dL_law_706 (Nat.lt_of_lt_of_eq (Nat.le_of_ble_eq_true rfl) hml) rfl ?_
  refine jv_aload_n C dL_law_708 rfl ?_
  refine jv_aload_n C dL_law_709 rfl ?_
  refine jv_iload C dL_law_710 rfl ?_
  refine jv_const C dL_law_712 ?_
  refine jv_iadd C dL_law_713 ?_
  obtain ⟨hb_714, h⟩ := h
  refine jv_sld C hX hbl hL hb_714 dL_law_714 ?_
  refine jv_callVi C (M_X9_clue h) kw_L_152 sS_126 rfl rfl ⟨rfl, rfl⟩ (st := []) rfl rfl ⟨Nat.ble_eq_true_of_le (by show _ ≤ 601024; omega), Nat.ble_eq_true_of_le (by show _ ≤ 7293034; omega)⟩ dL_law_715 (fun r_715 g_715 h => ?_)
  refine jv_istore (ls' := [some (.ref b0), some (.ref (s0.heap.size + (0 : Int).toNat)), some (.ref (s0.heap.size + (126 : Int).toNat)), some (.ref (s0.heap.size + (148 : Int).toNat)), some (jv_i x4), some (jv_i r_703), some (jv_i r_715)]) C dL_law_718 (Nat.lt_of_lt_of_eq (Nat.le_of_ble_eq_true rfl) hml) rfl ?_
  refine jv_aload_n C dL_law_720 rfl ?_
  refine jv_callVi C (M_X9_thrown h) kw_L_100 sS_126 rfl rfl ⟨rfl, rfl⟩ (st := []) rfl rfl ⟨Nat.ble_eq_true_of_le (by show _ ≤ 601024; omega), Nat.ble_eq_true_of_le (by show _ ≤ 7293034; omega)⟩ dL_law_721 (fun r_721 g_721 h => ?_)
  refine jv_iload C dL_law_724 rfl ?_
  obtain ⟨hr_726, h1_726, h2_726⟩ := h
  refine jv_icmp_eq (tgt := 731) C hr_726.1 hr_726.2 dL_law_726 rfl (fun hc_726 => ?_) (fun hc_726 => ?_)
  · replace h := h1_726 hc_726
    refine jv_iload C dL_law_731 rfl ?_
    have hJ748 : ∀ (gj_748 : jv_Mem), wB_LC_14_748 KU gj_748 → jv_V p l e room_1 s0 m #[Value.ref b0] below meth c (1000 + 4 * x4.toNat + 2) (50000 + 40 * x4.toNat + 12) (lw_Z below #[Value.ref b0] s0) s0 D ids none jv_SH gj_748 748 [some (.ref b0), some (.ref (s0.heap.size + (0 : Int).toNat)), some (.ref (s0.heap.size + (126 : Int).toNat)), some (.ref (s0.heap.size + (148 : Int).toNat)), some (jv_i x4), none, none] [] := by
      intro gj_748 h
      unfold wB_LC_14_748 at h
      refine jv_goto (tgt := 1704) C dL_law_748 rfl ?_
      refine jv_wd (k := 1000 + 4 * x4.toNat + 20) (n := 50000 + 40 * x4.toNat + 200) (Nat.ble_eq_true_of_le (by omega)) (Nat.ble_eq_true_of_le (by omega)) ?_
      exact jv_less (ls' := [some (.ref b0), some (.ref (s0.heap.size + (0 : Int).toNat)), some (.ref (s0.heap.size + (126 : Int).toNat)), some (.ref (s0.heap.size + (148 : Int).toNat)), some (jv_i x4), none, none]) ⟨rfl, ⟨rfl, ⟨rfl, ⟨rfl, ⟨rfl, trivial⟩⟩⟩⟩⟩ (hU _ h)
    obtain ⟨hr_733, h1_733, h2_733⟩ := h
    refine jv_if_ne (tgt := 748) C hr_733 dL_law_733 rfl (fun hc_733 => ?_) (fun hc_733 => ?_)
    · replace h := h1_733 hc_733
      refine jv_wd (k := 1000 + 4 * x4.toNat + 2) (n := 50000 + 40 * x4.toNat + 12) (Nat.ble_eq_true_of_le (by omega)) (Nat.ble_eq_true_of_le (by omega)) ?_
      exact jv_less (ls' := [some (.ref b0), some (.ref (s0.heap.size + (0 : Int).toNat)), some (.ref (s0.heap.size + (126 : Int).toNat)), some (.ref (s0.heap.size + (148 : Int).toNat)), some (jv_i x4), none, none]) ⟨rfl, ⟨rfl, ⟨rfl, ⟨rfl, ⟨rfl, trivial⟩⟩⟩⟩⟩ (hJ748 _ h)
    · replace h := h2_733 hc_733
      refine jv_aload_n C dL_law_736 rfl ?_
      refine jv_const C dL_law_737 ?_
      obtain ⟨hb_738, h⟩ := h
      refine jv_lald C sS_148 rfl hb_738 dL_law_738 ?_
      refine jv_iload C dL_law_739 rfl ?_
      obtain ⟨hr_741, h⟩ := h
      refine jv_i2l C hr_741 dL_law_741 ?_
      obtain ⟨hr_742, h1_742, h2_742⟩ := h
      refine jv_leq (tgt := 748) C hr_742.1 hr_742.2 dL_law_742 dL_law_743 rfl (fun hc_742 => ?_) (fun hc_742 => ?_)
      · replace h := h1_742 hc_742
        refine jv_wd (k := 1000 + 4 * x4.toNat + 2) (n := 50000 + 40 * x4.toNat + 12) (Nat.ble_eq_true_of_le (by omega)) (Nat.ble_eq_true_of_le (by omega)) ?_
        exact jv_less (ls' := [some (.ref b0), some (.ref (s0.heap.size + (0 : Int).toNat)), some (.ref (s0.heap.size + (126 : Int).toNat)), some (.ref (s0.heap.size + (148 : Int).toNat)), some (jv_i x4), none, none]) ⟨rfl, ⟨rfl, ⟨rfl, ⟨rfl, ⟨rfl, trivial⟩⟩⟩⟩⟩ (hJ748 _ h)
      · replace h := h2_742 hc_742
        exact h.elim
  · replace h := h2_726 hc_726
    exact h.elim

def wB_LC_15_832 (KU : jv_Mem → Prop) (gj_832 : jv_Mem) : Prop :=
  KU gj_832
def wB_LC_15_799 (xs : Nat → Int32) (x4 : Int) (KU : jv_Mem → Prop) (r_773 : Int) (y0_799 : Int) (gj_799 : jv_Mem) : Prop :=
  (wp_X9_edit (jv_sx xs (x4 + 1)) y0_799 (fun (r_799 : Int) (g_799 : jv_Mem) => (wp_X9_thrown (fun (r_805 : Int) (g_805 : jv_Mem) => ((jv_r r_805 ∧ jv_r r_773) ∧ (r_805 = r_773 → ((jv_r r_773) ∧ (¬ r_773 = 0 → wB_LC_15_832 KU g_805) ∧ (r_773 = 0 → (((0 : Int) ≤ 0 ∧ 0 < (1 : Int)) ∧ (jv_r r_799 ∧ ((jv_r (g_805 148 0) ∧ jv_r r_799) ∧ ((g_805 148 0) = r_799 → wB_LC_15_832 KU g_805) ∧ (¬ (g_805 148 0) = r_799 → False))))))) ∧ (¬ r_805 = r_773 → False))) g_799)) gj_799)
def wB_LC_15_772 (xs : Nat → Int32) (L : Nat) (x4 : Int) (KU : jv_Mem → Prop) (y0_772 : Int) (gj_772 : jv_Mem) : Prop :=
  (wp_L_edit (jv_sx xs (x4 + 1)) y0_772 (fun (r_773 : Int) (g_773 : jv_Mem) => (((0 : Int) ≤ x4 + 1 ∧ x4 + 1 < ((L : Nat) : Int)) ∧ (((0 : Int) ≤ x4 + 2 ∧ x4 + 2 < ((L : Nat) : Int)) ∧ ((jv_r (jv_sx xs (x4 + 2))) ∧ ((jv_sx xs (x4 + 2)) = 0 → wB_LC_15_799 xs x4 KU r_773 0 g_773) ∧ (¬ (jv_sx xs (x4 + 2)) = 0 → wB_LC_15_799 xs x4 KU r_773 1 g_773))))) gj_772)
def wp_LC_15 (xs : Nat → Int32) (L : Nat) (x4 : Int) (KU : jv_Mem → Prop) (g : jv_Mem) : Prop :=
  (((0 : Int) ≤ x4 + 1 ∧ x4 + 1 < ((L : Nat) : Int)) ∧ (((0 : Int) ≤ x4 + 2 ∧ x4 + 2 < ((L : Nat) : Int)) ∧ ((jv_r (jv_sx xs (x4 + 2))) ∧ ((jv_sx xs (x4 + 2)) = 0 → wB_LC_15_772 xs L x4 KU 0 g) ∧ (¬ (jv_sx xs (x4 + 2)) = 0 → wB_LC_15_772 xs L x4 KU 1 g))))
set_option maxHeartbeats 4000000 in
set_option maxRecDepth 100000 in
theorem LC_15 {p : Program} {l : Launch} {e : Env} {m : MethodId} {below : List Frame} {meth : Method} {c : Code} {s0 : State} {b0 : Addr} {D : va_G} {ids : Nat → ClassId} {L : Nat} {xs : Nat → Int32} (hT : jv_T l s0 b0) (C : jv_C p s0 m #[Value.ref b0] c code RL s0 b0 D ids) (hml : 7 = c.maxLocals) (hX : va_X b0 L xs s0 s0.heap) (hbl : b0 < s0.heap.size) (hL : L ≤ 2560) {x4 : Int} (hx4 : 0 ≤ x4 ∧ x4 ≤ 2560) {KU : jv_Mem → Prop} (hU : ∀ g : jv_Mem, KU g → jv_V p l e room_1 s0 m #[Value.ref b0] below meth c (1000 + 4 * x4.toNat + 20) (50000 + 40 * x4.toNat + 200) (lw_Z below #[Value.ref b0] s0) s0 D ids none jv_SH g 1704 [some (.ref b0), some (.ref (s0.heap.size + (0 : Int).toNat)), some (.ref (s0.heap.size + (126 : Int).toNat)), some (.ref (s0.heap.size + (148 : Int).toNat)), some (jv_i x4), none, none] []) {g : jv_Mem} (h : wp_LC_15 xs L x4 KU g) : jv_V p l e room_1 s0 m #[Value.ref b0] below meth c (1000 + 4 * x4.toNat + 0) (50000 + 40 * x4.toNat + 0) (lw_Z below #[Value.ref b0] s0) s0 D ids none jv_SH g 751 [some (.ref b0), some (.ref (s0.heap.size + (0 : Int).toNat)), some (.ref (s0.heap.size + (126 : Int).toNat)), some (.ref (s0.heap.size + (148 : Int).toNat)), some (jv_i x4), none, none] [] := by
  unfold wp_LC_15 at h
  refine jv_aload_n C dL_law_751 rfl ?_
  refine jv_aload_n C dL_law_752 rfl ?_
  refine jv_iload C dL_law_753 rfl ?_
  refine jv_const C dL_law_755 ?_
  refine jv_iadd C dL_law_756 ?_
  obtain ⟨hb_757, h⟩ := h
  refine jv_sld C hX hbl hL hb_757 dL_law_757 ?_
  refine jv_aload_n C dL_law_758 rfl ?_
  refine jv_iload C dL_law_759 rfl ?_
  refine jv_const C dL_law_761 ?_
  refine jv_iadd C dL_law_762 ?_
  obtain ⟨hb_763, h⟩ := h
  refine jv_sld C hX hbl hL hb_763 dL_law_763 ?_
  have hJ772 : ∀ (y0_772 : Int) (gj_772 : jv_Mem), wB_LC_15_772 xs L x4 KU y0_772 gj_772 → jv_V p l e room_1 s0 m #[Value.ref b0] below meth c (1000 + 4 * x4.toNat + 0) (50000 + 40 * x4.toNat + 0) (lw_Z below #[Value.ref b0] s0) s0 D ids none jv_SH gj_772 772 [some (.ref b0), some (.ref (s0.heap.size + (0 : Int).toNat)), some (.ref (s0.heap.size + (126 : Int).toNat)), some (.ref (s0.heap.size + (148 : Int).toNat)), some (jv_i x4), none, none] [jv_i y0_772, jv_i (jv_sx xs (x4 + 1)), .ref (s0.heap.size + (0 : Int).toNat)] := by
    intro y0_772 gj_772 h
    unfold wB_LC_15_772 at h
    refine jv_aload_n C dL_law_772 rfl ?_
    refine jv_callSWi C (M_L_edit hT h) kw_L_153 rfl ⟨rfl, rfl⟩ (st := []) rfl rfl ⟨Nat.ble_eq_true_of_le (by show _ ≤ 601024; omega), Nat.ble_eq_true_of_le (by show _ ≤ 7293034; omega)⟩ dL_law_773 (fun r_773 g_773 h => ?_)
    refine jv_istore (ls' := [some (.ref b0), some (.ref (s0.heap.size + (0 : Int).toNat)), some (.ref (s0.heap.size + (126 : Int).toNat)), some (.ref (s0.heap.size + (148 : Int).toNat)), some (jv_i x4), some (jv_i r_773), none]) C dL_law_776 (Nat.lt_of_lt_of_eq (Nat.le_of_ble_eq_true rfl) hml) rfl ?_
    refine jv_aload_n C dL_law_778 rfl ?_
    refine jv_aload_n C dL_law_779 rfl ?_
    refine jv_iload C dL_law_780 rfl ?_
    refine jv_const C dL_law_782 ?_
    refine jv_iadd C dL_law_783 ?_
    obtain ⟨hb_784, h⟩ := h
    refine jv_sld C hX hbl hL hb_784 dL_law_784 ?_
    refine jv_aload_n C dL_law_785 rfl ?_
    refine jv_iload C dL_law_786 rfl ?_
    refine jv_const C dL_law_788 ?_
    refine jv_iadd C dL_law_789 ?_
    obtain ⟨hb_790, h⟩ := h
    refine jv_sld C hX hbl hL hb_790 dL_law_790 ?_
    have hJ799 : ∀ (y0_799 : Int) (gj_799 : jv_Mem), wB_LC_15_799 xs x4 KU r_773 y0_799 gj_799 → jv_V p l e room_1 s0 m #[Value.ref b0] below meth c (1000 + 4 * x4.toNat + 2) (50000 + 40 * x4.toNat + 12) (lw_Z below #[Value.ref b0] s0) s0 D ids none jv_SH gj_799 799 [some (.ref b0), some (.ref (s0.heap.size + (0 : Int).toNat)), some (.ref (s0.heap.size + (126 : Int).toNat)), some (.ref (s0.heap.size + (148 : Int).toNat)), some (jv_i x4), some (jv_i r_773), none] [jv_i y0_799, jv_i (jv_sx xs (x4 + 1)), .ref (s0.heap.size + (126 : Int).toNat)] := by
      intro y0_799 gj_799 h
      unfold wB_LC_15_799 at h
      refine jv_callVi C (M_X9_edit h) kw_L_156 sS_126 rfl rfl ⟨rfl, rfl⟩ (st := []) rfl rfl ⟨Nat.ble_eq_true_of_le (by show _ ≤ 601024; omega), Nat.ble_eq_true_of_le (by show _ ≤ 7293034; omega)⟩ dL_law_799 (fun r_799 g_799 h => ?_)
      refine jv_istore (ls' := [some (.ref b0), some (.ref (s0.heap.size + (0 : Int).toNat)), some (.ref (s0.heap.size + (126 : Int).toNat)), some (.ref (s0.heap.size + (148 : Int).toNat)), some (jv_i x4), some (jv_i r_773), some (jv_i r_799)]) C dL_law_802 (Nat.lt_of_lt_of_eq (Nat.le_of_ble_eq_true rfl) hml) rfl ?_
      refine jv_aload_n C dL_law_804 rfl ?_
      refine jv_callVi C (M_X9_thrown h) kw_L_100 sS_126 rfl rfl ⟨rfl, rfl⟩ (st := []) rfl rfl ⟨Nat.ble_eq_true_of_le (by show _ ≤ 601024; omega), Nat.ble_eq_true_of_le (by show _ ≤ 7293034; omega)⟩ dL_law_805 (fun r_805 g_805 h => ?_)
      refine jv_iload C dL_law_808 rfl ?_
      obtain ⟨hr_810, h1_810, h2_810⟩ := h
      refine jv_icmp_eq (tgt := 815) C hr_810.1 hr_810.2 dL_law_810 rfl (fun hc_810 => ?_) (fun hc_810 => ?_)
      · replace h := h1_810 hc_810
        refine jv_iload C dL_law_815 rfl ?_
        have hJ832 : ∀ (gj_832 : jv_Mem), wB_LC_15_832 KU gj_832 → jv_V p l e room_1 s0 m #[Value.ref b0] below meth c (1000 + 4 * x4.toNat + 2) (50000 + 40 * x4.toNat + 12) (lw_Z below #[Value.ref b0] s0) s0 D ids none jv_SH gj_832 832 [some (.ref b0), some (.ref (s0.heap.size + (0 : Int).toNat)), some (.ref (s0.heap.size + (126 : Int).toNat)), some (.ref (s0.heap.size + (148 : Int).toNat)), some (jv_i x4), none, none] [] := by
          intro gj_832 h
          unfold wB_LC_15_832 at h
          refine jv_goto (tgt := 1704) C dL_law_832 rfl ?_
          refine jv_wd (k := 1000 + 4 * x4.toNat + 20) (n := 50000 + 40 * x4.toNat + 200) (Nat.ble_eq_true_of_le (by omega)) (Nat.ble_eq_true_of_le (by omega)) ?_
          exact jv_less (ls' := [some (.ref b0), some (.ref (s0.heap.size + (0 : Int).toNat)), some (.ref (s0.heap.size + (126 : Int).toNat)), some (.ref (s0.heap.size + (148 : Int).toNat)), some (jv_i x4), none, none]) ⟨rfl, ⟨rfl, ⟨rfl, ⟨rfl, ⟨rfl, trivial⟩⟩⟩⟩⟩ (hU _ h)
        obtain ⟨hr_817, h1_817, h2_817⟩ := h
        refine jv_if_ne (tgt := 832) C hr_817 dL_law_817 rfl (fun hc_817 => ?_) (fun hc_817 => ?_)
        · replace h := h1_817 hc_817
          refine jv_wd (k := 1000 + 4 * x4.toNat + 2) (n := 50000 + 40 * x4.toNat + 12) (Nat.ble_eq_true_of_le (by omega)) (Nat.ble_eq_true_of_le (by omega)) ?_
          exact jv_less (ls' := [some (.ref b0), some (.ref (s0.heap.size + (0 : Int).toNat)), some (.ref (s0.heap.size + (126 : Int).toNat)), some (.ref (s0.heap.size + (148 : Int).toNat)), some (jv_i x4), none, none]) ⟨rfl, ⟨rfl, ⟨rfl, ⟨rfl, ⟨rfl, trivial⟩⟩⟩⟩⟩ (hJ832 _ h)
        · replace h := h2_817 hc_817
          refine jv_aload_n C dL_law_820 rfl ?_
          refine jv_const C dL_law_821 ?_
          obtain ⟨hb_822, h⟩ := h
          refine jv_lald C sS_148 rfl hb_822 dL_law_822 ?_
          refine jv_iload C dL_law_823 rfl ?_
          obtain ⟨hr_825, h⟩ := h
          refine jv_i2l C hr_825 dL_law_825 ?_
          obtain ⟨hr_826, h1_826, h2_826⟩ := h
          refine jv_leq (tgt := 832) C hr_826.1 hr_826.2 dL_law_826 dL_law_827 rfl (fun hc_826 => ?_) (fun hc_826 => ?_)
          · replace h := h1_826 hc_826
            refine jv_wd (k := 1000 + 4 * x4.toNat + 2) (n := 50000 + 40 * x4.toNat + 12) (Nat.ble_eq_true_of_le (by omega)) (Nat.ble_eq_true_of_le (by omega)) ?_
            exact jv_less (ls' := [some (.ref b0), some (.ref (s0.heap.size + (0 : Int).toNat)), some (.ref (s0.heap.size + (126 : Int).toNat)), some (.ref (s0.heap.size + (148 : Int).toNat)), some (jv_i x4), none, none]) ⟨rfl, ⟨rfl, ⟨rfl, ⟨rfl, ⟨rfl, trivial⟩⟩⟩⟩⟩ (hJ832 _ h)
          · replace h := h2_826 hc_826
            exact h.elim
      · replace h := h2_810 hc_810
        exact h.elim
    obtain ⟨hr_791, h1_791, h2_791⟩ := h
    refine jv_if_eq (tgt := 798) C hr_791 dL_law_791 rfl (fun hc_791 => ?_) (fun hc_791 => ?_)
    · replace h := h1_791 hc_791
      refine jv_const C dL_law_798 ?_
      refine jv_wd (k := 1000 + 4 * x4.toNat + 2) (n := 50000 + 40 * x4.toNat + 12) (Nat.ble_eq_true_of_le (by omega)) (Nat.ble_eq_true_of_le (by omega)) ?_
      exact jv_less (ls' := [some (.ref b0), some (.ref (s0.heap.size + (0 : Int).toNat)), some (.ref (s0.heap.size + (126 : Int).toNat)), some (.ref (s0.heap.size + (148 : Int).toNat)), some (jv_i x4), some (jv_i r_773), none]) ⟨rfl, ⟨rfl, ⟨rfl, ⟨rfl, ⟨rfl, ⟨rfl, trivial⟩⟩⟩⟩⟩⟩ (hJ799 _ _ h)
    · replace h := h2_791 hc_791
      refine jv_const C dL_law_794 ?_
      refine jv_goto (tgt := 799) C dL_law_795 rfl ?_
      refine jv_wd (k := 1000 + 4 * x4.toNat + 2) (n := 50000 + 40 * x4.toNat + 12) (Nat.ble_eq_true_of_le (by omega)) (Nat.ble_eq_true_of_le (by omega)) ?_
      exact jv_less (ls' := [some (.ref b0), some (.ref (s0.heap.size + (0 : Int).toNat)), some (.ref (s0.heap.size + (126 : Int).toNat)), some (.ref (s0.heap.size + (148 : Int).toNat)), some (jv_i x4), some (jv_i r_773), none]) ⟨rfl, ⟨rfl, ⟨rfl, ⟨rfl, ⟨rfl, ⟨rfl, trivial⟩⟩⟩⟩⟩⟩ (hJ799 _ _ h)
  obtain ⟨hr_764, h1_764, h2_764⟩ := h
  refine jv_if_eq (tgt := 771) C hr_764 dL_law_764 rfl (fun hc_764 => ?_) (fun hc_764 => ?_)
  · replace h := h1_764 hc_764
    refine jv_const C dL_law_771 ?_
    refine jv_wd (k := 1000 + 4 * x4.toNat + 0) (n := 50000 + 40 * x4.toNat + 0) (Nat.ble_eq_true_of_le (by omega)) (Nat.ble_eq_true_of_le (by omega)) ?_
    exact jv_less (ls' := [some (.ref b0), some (.ref (s0.heap.size + (0 : Int).toNat)), some (.ref (s0.heap.size + (126 : Int).toNat)), some (.ref (s0.heap.size + (148 : Int).toNat)), some (jv_i x4), none, none]) ⟨rfl, ⟨rfl, ⟨rfl, ⟨rfl, ⟨rfl, trivial⟩⟩⟩⟩⟩ (hJ772 _ _ h)
  · replace h := h2_764 hc_764
    refine jv_const C dL_law_767 ?_
    refine jv_goto (tgt := 772) C dL_law_768 rfl ?_
    refine jv_wd (k := 1000 + 4 * x4.toNat + 0) (n := 50000 + 40 * x4.toNat + 0) (Nat.ble_eq_true_of_le (by omega)) (Nat.ble_eq_true_of_le (by omega)) ?_
    exact jv_less (ls' := [some (.ref b0), some (.ref (s0.heap.size + (0 : Int).toNat)), some (.ref (s0.heap.size + (126 : Int).toNat)), some (.ref (s0.heap.size + (148 : Int).toNat)), some (jv_i x4), none, none]) ⟨rfl, ⟨rfl, ⟨rfl, ⟨rfl, ⟨rfl, trivial⟩⟩⟩⟩⟩ (hJ772 _ _ h)

def wB_LC_16_888 (KU : jv_Mem → Prop) (gj_888 : jv_Mem) : Prop :=
  KU gj_888
def wp_LC_16 (xs : Nat → Int32) (L : Nat) (x4 : Int) (KU : jv_Mem → Prop) (g : jv_Mem) : Prop :=
  (((0 : Int) ≤ x4 + 1 ∧ x4 + 1 < ((L : Nat) : Int)) ∧ (wp_L_lastUsed (jv_sx xs (x4 + 1)) (fun (r_843 : Int) (g_843 : jv_Mem) => (((0 : Int) ≤ x4 + 1 ∧ x4 + 1 < ((L : Nat) : Int)) ∧ (wp_X9_lastUsed (jv_sx xs (x4 + 1)) (fun (r_855 : Int) (g_855 : jv_Mem) => (wp_X9_thrown (fun (r_861 : Int) (g_861 : jv_Mem) => ((jv_r r_861 ∧ jv_r r_843) ∧ (r_861 = r_843 → ((jv_r r_843) ∧ (¬ r_843 = 0 → wB_LC_16_888 KU g_861) ∧ (r_843 = 0 → (((0 : Int) ≤ 0 ∧ 0 < (1 : Int)) ∧ (jv_r r_855 ∧ ((jv_r (g_861 148 0) ∧ jv_r r_855) ∧ ((g_861 148 0) = r_855 → wB_LC_16_888 KU g_861) ∧ (¬ (g_861 148 0) = r_855 → False))))))) ∧ (¬ r_861 = r_843 → False))) g_855)) g_843))) g))
set_option maxHeartbeats 4000000 in
set_option maxRecDepth 100000 in
theorem LC_16 {p : Program} {l : Launch} {e : Env} {m : MethodId} {below : List Frame} {meth : Method} {c : Code} {s0 : State} {b0 : Addr} {D : va_G} {ids : Nat → ClassId} {L : Nat} {xs : Nat → Int32} (hT : jv_T l s0 b0) (C : jv_C p s0 m #[Value.ref b0] c code RL s0 b0 D ids) (hml : 7 = c.maxLocals) (hX : va_X b0 L xs s0 s0.heap) (hbl : b0 < s0.heap.size) (hL : L ≤ 2560) {x4 : Int} (hx4 : 0 ≤ x4 ∧ x4 ≤ 2560) {KU : jv_Mem → Prop} (hU : ∀ g : jv_Mem, KU g → jv_V p l e room_1 s0 m #[Value.ref b0] below meth c (1000 + 4 * x4.toNat + 20) (50000 + 40 * x4.toNat + 200) (lw_Z below #[Value.ref b0] s0) s0 D ids none jv_SH g 1704 [some (.ref b0), some (.ref (s0.heap.size + (0 : Int).toNat)), some (.ref (s0.heap.size + (126 : Int).toNat)), some (.ref (s0.heap.size + (148 : Int).toNat)), some (jv_i x4), none, none] []) {g : jv_Mem} (h : wp_LC_16 xs L x4 KU g) : jv_V p l e room_1 s0 m #[Value.ref b0] below meth c (1000 + 4 * x4.toNat + 0) (50000 + 40 * x4.toNat + 0) (lw_Z below #[Value.ref b0] s0) s0 D ids none jv_SH g 835 [some (.ref b0), some (.ref (s0.heap.size + (0 : Int).toNat)), some (.ref (s0.heap.size + (126 : Int).toNat)), some (.ref (s0.heap.size + (148 : Int).toNat)), some (jv_i x4), none, none] [] := by
  unfold wp_LC_16 at h
  refine jv_aload_n C dL_law_835 rfl ?_
  refine jv_aload_n C dL_law_836 rfl ?_
  refine jv_iload C dL_law_837 rfl ?_
  refine jv_const C dL_law_839 ?_
  refine jv_iadd C dL_law_840 ?_
  obtain ⟨hb_841, h⟩ := h
  refine jv_sld C hX hbl hL hb_841 dL_law_841 ?_
  refine jv_aload_n C dL_law_842 rfl ?_
  refine jv_callSWi C (M_L_lastUsed hT h) kw_L_157 rfl ⟨rfl, rfl⟩ (st := []) rfl rfl ⟨Nat.ble_eq_true_of_le (by show _ ≤ 601024; omega), Nat.ble_eq_true_of_le (by show _ ≤ 7293034; omega)⟩ dL_law_843 (fun r_843 g_843 h => ?_)
  refine jv_istore (ls' := [some (.ref b0), some (.ref (s0.heap.size + (0 : Int).toNat)), some (.ref (s0.heap.size + (126 : Int).toNat)), some (.ref (s0.heap.size + (148 : Int).toNat)), some (jv_i x4), some (jv_i r_843), none]) C dL_law_846 (Nat.lt_of_lt_of_eq (Nat.le_of_ble_eq_true rfl) hml) rfl ?_
  refine jv_aload_n C dL_law_848 rfl ?_
  refine jv_aload_n C dL_law_849 rfl ?_
  refine jv_iload C dL_law_850 rfl ?_
  refine jv_const C dL_law_852 ?_
  refine jv_iadd C dL_law_853 ?_
  obtain ⟨hb_854, h⟩ := h
  refine jv_sld C hX hbl hL hb_854 dL_law_854 ?_
  refine jv_callVi C (M_X9_lastUsed h) kw_L_159 sS_126 rfl rfl ⟨rfl, rfl⟩ (st := []) rfl rfl ⟨Nat.ble_eq_true_of_le (by show _ ≤ 601024; omega), Nat.ble_eq_true_of_le (by show _ ≤ 7293034; omega)⟩ dL_law_855 (fun r_855 g_855 h => ?_)
  refine jv_istore (ls' := [some (.ref b0), some (.ref (s0.heap.size + (0 : Int).toNat)), some (.ref (s0.heap.size + (126 : Int).toNat)), some (.ref (s0.heap.size + (148 : Int).toNat)), some (jv_i x4), some (jv_i r_843), some (jv_i r_855)]) C dL_law_858 (Nat.lt_of_lt_of_eq (Nat.le_of_ble_eq_true rfl) hml) rfl ?_
  refine jv_aload_n C dL_law_860 rfl ?_
  refine jv_callVi C (M_X9_thrown h) kw_L_100 sS_126 rfl rfl ⟨rfl, rfl⟩ (st := []) rfl rfl ⟨Nat.ble_eq_true_of_le (by show _ ≤ 601024; omega), Nat.ble_eq_true_of_le (by show _ ≤ 7293034; omega)⟩ dL_law_861 (fun r_861 g_861 h => ?_)
  refine jv_iload C dL_law_864 rfl ?_
  obtain ⟨hr_866, h1_866, h2_866⟩ := h
  refine jv_icmp_eq (tgt := 871) C hr_866.1 hr_866.2 dL_law_866 rfl (fun hc_866 => ?_) (fun hc_866 => ?_)
  · replace h := h1_866 hc_866
    refine jv_iload C dL_law_871 rfl ?_
    have hJ888 : ∀ (gj_888 : jv_Mem), wB_LC_16_888 KU gj_888 → jv_V p l e room_1 s0 m #[Value.ref b0] below meth c (1000 + 4 * x4.toNat + 1) (50000 + 40 * x4.toNat + 6) (lw_Z below #[Value.ref b0] s0) s0 D ids none jv_SH gj_888 888 [some (.ref b0), some (.ref (s0.heap.size + (0 : Int).toNat)), some (.ref (s0.heap.size + (126 : Int).toNat)), some (.ref (s0.heap.size + (148 : Int).toNat)), some (jv_i x4), none, none] [] := by
      intro gj_888 h
      unfold wB_LC_16_888 at h
      refine jv_goto (tgt := 1704) C dL_law_888 rfl ?_
      refine jv_wd (k := 1000 + 4 * x4.toNat + 20) (n := 50000 + 40 * x4.toNat + 200) (Nat.ble_eq_true_of_le (by omega)) (Nat.ble_eq_true_of_le (by omega)) ?_
      exact jv_less (ls' := [some (.ref b0), some (.ref (s0.heap.size + (0 : Int).toNat)), some (.ref (s0.heap.size + (126 : Int).toNat)), some (.ref (s0.heap.size + (148 : Int).toNat)), some (jv_i x4), none, none]) ⟨rfl, ⟨rfl, ⟨rfl, ⟨rfl, ⟨rfl, trivial⟩⟩⟩⟩⟩ (hU _ h)
    obtain ⟨hr_873, h1_873, h2_873⟩ := h
    refine jv_if_ne (tgt := 888) C hr_873 dL_law_873 rfl (fun hc_873 => ?_) (fun hc_873 => ?_)
    · replace h := h1_873 hc_873
      refine jv_wd (k := 1000 + 4 * x4.toNat + 1) (n := 50000 + 40 * x4.toNat + 6) (Nat.ble_eq_true_of_le (by omega)) (Nat.ble_eq_true_of_le (by omega)) ?_
      exact jv_less (ls' := [some (.ref b0), some (.ref (s0.heap.size + (0 : Int).toNat)), some (.ref (s0.heap.size + (126 : Int).toNat)), some (.ref (s0.heap.size + (148 : Int).toNat)), some (jv_i x4), none, none]) ⟨rfl, ⟨rfl, ⟨rfl, ⟨rfl, ⟨rfl, trivial⟩⟩⟩⟩⟩ (hJ888 _ h)
    · replace h := h2_873 hc_873
      refine jv_aload_n C dL_law_876 rfl ?_
      refine jv_const C dL_law_877 ?_
      obtain ⟨hb_878, h⟩ := h
      refine jv_lald C sS_148 rfl hb_878 dL_law_878 ?_
      refine jv_iload C dL_law_879 rfl ?_
      obtain ⟨hr_881, h⟩ := h
      refine jv_i2l C hr_881 dL_law_881 ?_
      obtain ⟨hr_882, h1_882, h2_882⟩ := h
      refine jv_leq (tgt := 888) C hr_882.1 hr_882.2 dL_law_882 dL_law_883 rfl (fun hc_882 => ?_) (fun hc_882 => ?_)
      · replace h := h1_882 hc_882
        refine jv_wd (k := 1000 + 4 * x4.toNat + 1) (n := 50000 + 40 * x4.toNat + 6) (Nat.ble_eq_true_of_le (by omega)) (Nat.ble_eq_true_of_le (by omega)) ?_
        exact jv_less (ls' := [some (.ref b0), some (.ref (s0.heap.size + (0 : Int).toNat)), some (.ref (s0.heap.size + (126 : Int).toNat)), some (.ref (s0.heap.size + (148 : Int).toNat)), some (jv_i x4), none, none]) ⟨rfl, ⟨rfl, ⟨rfl, ⟨rfl, ⟨rfl, trivial⟩⟩⟩⟩⟩ (hJ888 _ h)
      · replace h := h2_882 hc_882
        exact h.elim
  · replace h := h2_866 hc_866
    exact h.elim

def wB_LC_17_944 (KU : jv_Mem → Prop) (gj_944 : jv_Mem) : Prop :=
  KU gj_944
def wp_LC_17 (xs : Nat → Int32) (L : Nat) (x4 : Int) (KU : jv_Mem → Prop) (g : jv_Mem) : Prop :=
  (((0 : Int) ≤ x4 + 1 ∧ x4 + 1 < ((L : Nat) : Int)) ∧ (wp_L_pass (jv_sx xs (x4 + 1)) (fun (r_899 : Int) (g_899 : jv_Mem) => (((0 : Int) ≤ x4 + 1 ∧ x4 + 1 < ((L : Nat) : Int)) ∧ (wp_X9_pass (jv_sx xs (x4 + 1)) (fun (r_911 : Int) (g_911 : jv_Mem) => (wp_X9_thrown (fun (r_917 : Int) (g_917 : jv_Mem) => ((jv_r r_917 ∧ jv_r r_899) ∧ (r_917 = r_899 → ((jv_r r_899) ∧ (¬ r_899 = 0 → wB_LC_17_944 KU g_917) ∧ (r_899 = 0 → (((0 : Int) ≤ 0 ∧ 0 < (1 : Int)) ∧ (jv_r r_911 ∧ ((jv_r (g_917 148 0) ∧ jv_r r_911) ∧ ((g_917 148 0) = r_911 → wB_LC_17_944 KU g_917) ∧ (¬ (g_917 148 0) = r_911 → False))))))) ∧ (¬ r_917 = r_899 → False))) g_911)) g_899))) g))
set_option maxHeartbeats 4000000 in
set_option maxRecDepth 100000 in
theorem LC_17 {p : Program} {l : Launch} {e : Env} {m : MethodId} {below : List Frame} {meth : Method} {c : Code} {s0 : State} {b0 : Addr} {D : va_G} {ids : Nat → ClassId} {L : Nat} {xs : Nat → Int32} (hT : jv_T l s0 b0) (C : jv_C p s0 m #[Value.ref b0] c code RL s0 b0 D ids) (hml : 7 = c.maxLocals) (hX : va_X b0 L xs s0 s0.heap) (hbl : b0 < s0.heap.size) (hL : L ≤ 2560) {x4 : Int} (hx4 : 0 ≤ x4 ∧ x4 ≤ 2560) {KU : jv_Mem → Prop} (hU : ∀ g : jv_Mem, KU g → jv_V p l e room_1 s0 m #[Value.ref b0] below meth c (1000 + 4 * x4.toNat + 20) (50000 + 40 * x4.toNat + 200) (lw_Z below #[Value.ref b0] s0) s0 D ids none jv_SH g 1704 [some (.ref b0), some (.ref (s0.heap.size + (0 : Int).toNat)), some (.ref (s0.heap.size + (126 : Int).toNat)), some (.ref (s0.heap.size + (148 : Int).toNat)), some (jv_i x4), none, none] []) {g : jv_Mem} (h : wp_LC_17 xs L x4 KU g) : jv_V p l e room_1 s0 m #[Value.ref b0] below meth c (1000 + 4 * x4.toNat + 0) (50000 + 40 * x4.toNat + 0) (lw_Z below #[Value.ref b0] s0) s0 D ids none jv_SH g 891 [some (.ref b0), some (.ref (s0.heap.size + (0 : Int).toNat)), some (.ref (s0.heap.size + (126 : Int).toNat)), some (.ref (s0.heap.size + (148 : Int).toNat)), some (jv_i x4), none, none] [] := by
  unfold wp_LC_17 at h
  refine jv_aload_n C dL_law_891 rfl ?_
  refine jv_aload_n C dL_law_892 rfl ?_
  refine jv_iload C dL_law_893 rfl ?_
  refine jv_const C dL_law_895 ?_
  refine jv_iadd C dL_law_896 ?_
  obtain ⟨hb_897, h⟩ := h
  refine jv_sld C hX hbl hL hb_897 dL_law_897 ?_
  refine jv_aload_n C dL_law_898 rfl ?_
  refine jv_callSWi C (M_L_pass hT h) kw_L_160 rfl ⟨rfl, rfl⟩ (st := []) rfl rfl ⟨Nat.ble_eq_true_of_le (by show _ ≤ 601024; omega), Nat.ble_eq_true_of_le (by show _ ≤ 7293034; omega)⟩ dL_law_899 (fun r_899 g_899 h => ?_)
  refine jv_istore (ls' := [some (.ref b0), some (.ref (s0.heap.size + (0 : Int).toNat)), some (.ref (s0.heap.size + (126 : Int).toNat)), some (.ref (s0.heap.size + (148 : Int).toNat)), some (jv_i x4), some (jv_i r_899), none]) C dL_law_902 (Nat.lt_of_lt_of_eq (Nat.le_of_ble_eq_true rfl) hml) rfl ?_
  refine jv_aload_n C dL_law_904 rfl ?_
  refine jv_aload_n C dL_law_905 rfl ?_
  refine jv_iload C dL_law_906 rfl ?_
  refine jv_const C dL_law_908 ?_
  refine jv_iadd C dL_law_909 ?_
  obtain ⟨hb_910, h⟩ := h
  refine jv_sld C hX hbl hL hb_910 dL_law_910 ?_
  refine jv_callVi C (M_X9_pass h) kw_L_162 sS_126 rfl rfl ⟨rfl, rfl⟩ (st := []) rfl rfl ⟨Nat.ble_eq_true_of_le (by show _ ≤ 601024; omega), Nat.ble_eq_true_of_le (by show _ ≤ 7293034; omega)⟩ dL_law_911 (fun r_911 g_911 h => ?_)
  refine jv_istore (ls' := [some (.ref b0), some (.ref (s0.heap.size + (0 : Int).toNat)), some (.ref (s0.heap.size + (126 : Int).toNat)), some (.ref (s0.heap.size + (148 : Int).toNat)), some (jv_i x4), some (jv_i r_899), some (jv_i r_911)]) C dL_law_914 (Nat.lt_of_lt_of_eq (Nat.le_of_ble_eq_true rfl) hml) rfl ?_
  refine jv_aload_n C dL_law_916 rfl ?_
  refine jv_callVi C (M_X9_thrown h) kw_L_100 sS_126 rfl rfl ⟨rfl, rfl⟩ (st := []) rfl rfl ⟨Nat.ble_eq_true_of_le (by show _ ≤ 601024; omega), Nat.ble_eq_true_of_le (by show _ ≤ 7293034; omega)⟩ dL_law_917 (fun r_917 g_917 h => ?_)
  refine jv_iload C dL_law_920 rfl ?_
  obtain ⟨hr_922, h1_922, h2_922⟩ := h
  refine jv_icmp_eq (tgt := 927) C hr_922.1 hr_922.2 dL_law_922 rfl (fun hc_922 => ?_) (fun hc_922 => ?_)
  · replace h := h1_922 hc_922
    refine jv_iload C dL_law_927 rfl ?_
    have hJ944 : ∀ (gj_944 : jv_Mem), wB_LC_17_944 KU gj_944 → jv_V p l e room_1 s0 m #[Value.ref b0] below meth c (1000 + 4 * x4.toNat + 2) (50000 + 40 * x4.toNat + 12) (lw_Z below #[Value.ref b0] s0) s0 D ids none jv_SH gj_944 944 [some (.ref b0), some (.ref (s0.heap.size + (0 : Int).toNat)), some (.ref (s0.heap.size + (126 : Int).toNat)), some (.ref (s0.heap.size + (148 : Int).toNat)), some (jv_i x4), none, none] [] := by
      intro gj_944 h
      unfold wB_LC_17_944 at h
      refine jv_goto (tgt := 1704) C dL_law_944 rfl ?_
      refine jv_wd (k := 1000 + 4 * x4.toNat + 20) (n := 50000 + 40 * x4.toNat + 200) (Nat.ble_eq_true_of_le (by omega)) (Nat.ble_eq_true_of_le (by omega)) ?_
      exact jv_less (ls' := [some (.ref b0), some (.ref (s0.heap.size + (0 : Int).toNat)), some (.ref (s0.heap.size + (126 : Int).toNat)), some (.ref (s0.heap.size + (148 : Int).toNat)), some (jv_i x4), none, none]) ⟨rfl, ⟨rfl, ⟨rfl, ⟨rfl, ⟨rfl, trivial⟩⟩⟩⟩⟩ (hU _ h)
    obtain ⟨hr_929, h1_929, h2_929⟩ := h
    refine jv_if_ne (tgt := 944) C hr_929 dL_law_929 rfl (fun hc_929 => ?_) (fun hc_929 => ?_)
    · replace h := h1_929 hc_929
      refine jv_wd (k := 1000 + 4 * x4.toNat + 2) (n := 50000 + 40 * x4.toNat + 12) (Nat.ble_eq_true_of_le (by omega)) (Nat.ble_eq_true_of_le (by omega)) ?_
      exact jv_less (ls' := [some (.ref b0), some (.ref (s0.heap.size + (0 : Int).toNat)), some (.ref (s0.heap.size + (126 : Int).toNat)), some (.ref (s0.heap.size + (148 : Int).toNat)), some (jv_i x4), none, none]) ⟨rfl, ⟨rfl, ⟨rfl, ⟨rfl, ⟨rfl, trivial⟩⟩⟩⟩⟩ (hJ944 _ h)
    · replace h := h2_929 hc_929
      refine jv_aload_n C dL_law_932 rfl ?_
      refine jv_const C dL_law_933 ?_
      obtain ⟨hb_934, h⟩ := h
      refine jv_lald C sS_148 rfl hb_934 dL_law_934 ?_
      refine jv_iload C dL_law_935 rfl ?_
      obtain ⟨hr_937, h⟩ := h
      refine jv_i2l C hr_937 dL_law_937 ?_
      obtain ⟨hr_938, h1_938, h2_938⟩ := h
      refine jv_leq (tgt := 944) C hr_938.1 hr_938.2 dL_law_938 dL_law_939 rfl (fun hc_938 => ?_) (fun hc_938 => ?_)
      · replace h := h1_938 hc_938
        refine jv_wd (k := 1000 + 4 * x4.toNat + 2) (n := 50000 + 40 * x4.toNat + 12) (Nat.ble_eq_true_of_le (by omega)) (Nat.ble_eq_true_of_le (by omega)) ?_
        exact jv_less (ls' := [some (.ref b0), some (.ref (s0.heap.size + (0 : Int).toNat)), some (.ref (s0.heap.size + (126 : Int).toNat)), some (.ref (s0.heap.size + (148 : Int).toNat)), some (jv_i x4), none, none]) ⟨rfl, ⟨rfl, ⟨rfl, ⟨rfl, ⟨rfl, trivial⟩⟩⟩⟩⟩ (hJ944 _ h)
      · replace h := h2_938 hc_938
        exact h.elim
  · replace h := h2_922 hc_922
    exact h.elim

def wp_LC_18 (xs : Nat → Int32) (L : Nat) (x4 : Int) (KU : jv_Mem → Prop) (g : jv_Mem) : Prop :=
  (wp_X8_now (fun (r_948 : Int) (g_948 : jv_Mem) => (wp_X9_now (fun (r_952 : Int) (g_952 : jv_Mem) => ((jv_r r_948 ∧ jv_r r_952) ∧ (r_948 = r_952 → KU g_952) ∧ (¬ r_948 = r_952 → False))) g_948)) g)
set_option maxHeartbeats 4000000 in
set_option maxRecDepth 100000 in
theorem LC_18 {p : Program} {l : Launch} {e : Env} {m : MethodId} {below : List Frame} {meth : Method} {c : Code} {s0 : State} {b0 : Addr} {D : va_G} {ids : Nat → ClassId} {L : Nat} {xs : Nat → Int32} (hT : jv_T l s0 b0) (C : jv_C p s0 m #[Value.ref b0] c code RL s0 b0 D ids) (hml : 7 = c.maxLocals) (hX : va_X b0 L xs s0 s0.heap) (hbl : b0 < s0.heap.size) (hL : L ≤ 2560) {x4 : Int} (hx4 : 0 ≤ x4 ∧ x4 ≤ 2560) {KU : jv_Mem → Prop} (hU : ∀ g : jv_Mem, KU g → jv_V p l e room_1 s0 m #[Value.ref b0] below meth c (1000 + 4 * x4.toNat + 20) (50000 + 40 * x4.toNat + 200) (lw_Z below #[Value.ref b0] s0) s0 D ids none jv_SH g 1704 [some (.ref b0), some (.ref (s0.heap.size + (0 : Int).toNat)), some (.ref (s0.heap.size + (126 : Int).toNat)), some (.ref (s0.heap.size + (148 : Int).toNat)), some (jv_i x4), none, none] []) {g : jv_Mem} (h : wp_LC_18 xs L x4 KU g) : jv_V p l e room_1 s0 m #[Value.ref b0] below meth c (1000 + 4 * x4.toNat + 0) (50000 + 40 * x4.toNat + 0) (lw_Z below #[Value.ref b0] s0) s0 D ids none jv_SH g 947 [some (.ref b0), some (.ref (s0.heap.size + (0 : Int).toNat)), some (.ref (s0.heap.size + (126 : Int).toNat)), some (.ref (s0.heap.size + (148 : Int).toNat)), some (jv_i x4), none, none] [] := by
  unfold wp_LC_18 at h
  refine jv_aload_n C dL_law_947 rfl ?_
  refine jv_callVi C (M_X8_now h) kw_L_163 sS_0 rfl rfl ⟨rfl, rfl⟩ (st := []) rfl rfl ⟨Nat.ble_eq_true_of_le (by show _ ≤ 601024; omega), Nat.ble_eq_true_of_le (by show _ ≤ 7293034; omega)⟩ dL_law_948 (fun r_948 g_948 h => ?_)
  refine jv_aload_n C dL_law_951 rfl ?_
  refine jv_callVi C (M_X9_now h) kw_L_166 sS_126 rfl rfl ⟨rfl, rfl⟩ (st := [jv_i r_948]) rfl rfl ⟨Nat.ble_eq_true_of_le (by show _ ≤ 601024; omega), Nat.ble_eq_true_of_le (by show _ ≤ 7293034; omega)⟩ dL_law_952 (fun r_952 g_952 h => ?_)
  obtain ⟨hr_955, h1_955, h2_955⟩ := h
  refine jv_icmp_eq (tgt := 1704) C hr_955.1 hr_955.2 dL_law_955 rfl (fun hc_955 => ?_) (fun hc_955 => ?_)
  · replace h := h1_955 hc_955
    refine jv_wd (k := 1000 + 4 * x4.toNat + 20) (n := 50000 + 40 * x4.toNat + 200) (Nat.ble_eq_true_of_le (by omega)) (Nat.ble_eq_true_of_le (by omega)) ?_
    exact jv_less (ls' := [some (.ref b0), some (.ref (s0.heap.size + (0 : Int).toNat)), some (.ref (s0.heap.size + (126 : Int).toNat)), some (.ref (s0.heap.size + (148 : Int).toNat)), some (jv_i x4), none, none]) ⟨rfl, ⟨rfl, ⟨rfl, ⟨rfl, ⟨rfl, trivial⟩⟩⟩⟩⟩ (hU _ h)
  · replace h := h2_955 hc_955
    exact h.elim

def wB_LC_19_1001 (KU : jv_Mem → Prop) (gj_1001 : jv_Mem) : Prop :=
  KU gj_1001
def wp_LC_19 (xs : Nat → Int32) (L : Nat) (x4 : Int) (KU : jv_Mem → Prop) (g : jv_Mem) : Prop :=
  (wp_L_publish (fun (r_962 : Int) (g_962 : jv_Mem) => (wp_X9_publish (fun (r_968 : Int) (g_968 : jv_Mem) => (wp_X9_thrown (fun (r_974 : Int) (g_974 : jv_Mem) => ((jv_r r_974 ∧ jv_r r_962) ∧ (r_974 = r_962 → ((jv_r r_962) ∧ (¬ r_962 = 0 → wB_LC_19_1001 KU g_974) ∧ (r_962 = 0 → (((0 : Int) ≤ 0 ∧ 0 < (1 : Int)) ∧ (jv_r r_968 ∧ ((jv_r (g_974 148 0) ∧ jv_r r_968) ∧ ((g_974 148 0) = r_968 → wB_LC_19_1001 KU g_974) ∧ (¬ (g_974 148 0) = r_968 → False))))))) ∧ (¬ r_974 = r_962 → False))) g_968)) g_962)) g)
set_option maxHeartbeats 4000000 in
set_option maxRecDepth 100000 in
theorem LC_19 {p : Program} {l : Launch} {e : Env} {m : MethodId} {below : List Frame} {meth : Method} {c : Code} {s0 : State} {b0 : Addr} {D : va_G} {ids : Nat → ClassId} {L : Nat} {xs : Nat → Int32} (hT : jv_T l s0 b0) (C : jv_C p s0 m #[Value.ref b0] c code RL s0 b0 D ids) (hml : 7 = c.maxLocals) (hX : va_X b0 L xs s0 s0.heap) (hbl : b0 < s0.heap.size) (hL : L ≤ 2560) {x4 : Int} (hx4 : 0 ≤ x4 ∧ x4 ≤ 2560) {KU : jv_Mem → Prop} (hU : ∀ g : jv_Mem, KU g → jv_V p l e room_1 s0 m #[Value.ref b0] below meth c (1000 + 4 * x4.toNat + 20) (50000 + 40 * x4.toNat + 200) (lw_Z below #[Value.ref b0] s0) s0 D ids none jv_SH g 1704 [some (.ref b0), some (.ref (s0.heap.size + (0 : Int).toNat)), some (.ref (s0.heap.size + (126 : Int).toNat)), some (.ref (s0.heap.size + (148 : Int).toNat)), some (jv_i x4), none, none] []) {g : jv_Mem} (h : wp_LC_19 xs L x4 KU g) : jv_V p l e room_1 s0 m #[Value.ref b0] below meth c (1000 + 4 * x4.toNat + 0) (50000 + 40 * x4.toNat + 0) (lw_Z below #[Value.ref b0] s0) s0 D ids none jv_SH g 960 [some (.ref b0), some (.ref (s0.heap.size + (0 : Int).toNat)), some (.ref (s0.heap.size + (126 : Int).toNat)), some (.ref (s0.heap.size + (148 : Int).toNat)), some (jv_i x4), none, none] [] := by
  unfold wp_LC_19 at h
  refine jv_aload_n C dL_law_960 rfl ?_
  refine jv_aload_n C dL_law_961 rfl ?_
  refine jv_callSWi C (M_L_publish hT h) kw_L_167 rfl ⟨rfl, rfl⟩ (st := []) rfl rfl ⟨Nat.ble_eq_true_of_le (by show _ ≤ 601024; omega), Nat.ble_eq_true_of_le (by show _ ≤ 7293034; omega)⟩ dL_law_962 (fun r_962 g_962 h => ?_)
  refine jv_istore (ls' := [some (.ref b0), some (.ref (s0.heap.size + (0 : Int).toNat)), some (.ref (s0.heap.size + (126 : Int).toNat)), some (.ref (s0.heap.size + (148 : Int).toNat)), some (jv_i x4), some (jv_i r_962), none]) C dL_law_965 (Nat.lt_of_lt_of_eq (Nat.le_of_ble_eq_true rfl) hml) rfl ?_
  refine jv_aload_n C dL_law_967 rfl ?_
  refine jv_callVi C (M_X9_publish h) kw_L_170 sS_126 rfl rfl ⟨rfl, rfl⟩ (st := []) rfl rfl ⟨Nat.ble_eq_true_of_le (by show _ ≤ 601024; omega), Nat.ble_eq_true_of_le (by show _ ≤ 7293034; omega)⟩ dL_law_968 (fun r_968 g_968 h => ?_)
  refine jv_istore (ls' := [some (.ref b0), some (.ref (s0.heap.size + (0 : Int).toNat)), some (.ref (s0.heap.size + (126 : Int).toNat)), some (.ref (s0.heap.size + (148 : Int).toNat)), some (jv_i x4), some (jv_i r_962), some (jv_i r_968)]) C dL_law_971 (Nat.lt_of_lt_of_eq (Nat.le_of_ble_eq_true rfl) hml) rfl ?_
  refine jv_aload_n C dL_law_973 rfl ?_
  refine jv_callVi C (M_X9_thrown h) kw_L_100 sS_126 rfl rfl ⟨rfl, rfl⟩ (st := []) rfl rfl ⟨Nat.ble_eq_true_of_le (by show _ ≤ 601024; omega), Nat.ble_eq_true_of_le (by show _ ≤ 7293034; omega)⟩ dL_law_974 (fun r_974 g_974 h => ?_)
  refine jv_iload C dL_law_977 rfl ?_
  obtain ⟨hr_979, h1_979, h2_979⟩ := h
  refine jv_icmp_eq (tgt := 984) C hr_979.1 hr_979.2 dL_law_979 rfl (fun hc_979 => ?_) (fun hc_979 => ?_)
  · replace h := h1_979 hc_979
    refine jv_iload C dL_law_984 rfl ?_
    have hJ1001 : ∀ (gj_1001 : jv_Mem), wB_LC_19_1001 KU gj_1001 → jv_V p l e room_1 s0 m #[Value.ref b0] below meth c (1000 + 4 * x4.toNat + 1) (50000 + 40 * x4.toNat + 6) (lw_Z below #[Value.ref b0] s0) s0 D ids none jv_SH gj_1001 1001 [some (.ref b0), some (.ref (s0.heap.size + (0 : Int).toNat)), some (.ref (s0.heap.size + (126 : Int).toNat)), some (.ref (s0.heap.size + (148 : Int).toNat)), some (jv_i x4), none, none] [] := by
      intro gj_1001 h
      unfold wB_LC_19_1001 at h
      refine jv_goto (tgt := 1704) C dL_law_1001 rfl ?_
      refine jv_wd (k := 1000 + 4 * x4.toNat + 20) (n := 50000 + 40 * x4.toNat + 200) (Nat.ble_eq_true_of_le (by omega)) (Nat.ble_eq_true_of_le (by omega)) ?_
      exact jv_less (ls' := [some (.ref b0), some (.ref (s0.heap.size + (0 : Int).toNat)), some (.ref (s0.heap.size + (126 : Int).toNat)), some (.ref (s0.heap.size + (148 : Int).toNat)), some (jv_i x4), none, none]) ⟨rfl, ⟨rfl, ⟨rfl, ⟨rfl, ⟨rfl, trivial⟩⟩⟩⟩⟩ (hU _ h)
    obtain ⟨hr_986, h1_986, h2_986⟩ := h
    refine jv_if_ne (tgt := 1001) C hr_986 dL_law_986 rfl (fun hc_986 => ?_) (fun hc_986 => ?_)
    · replace h := h1_986 hc_986
      refine jv_wd (k := 1000 + 4 * x4.toNat + 1) (n := 50000 + 40 * x4.toNat + 6) (Nat.ble_eq_true_of_le (by omega)) (Nat.ble_eq_true_of_le (by omega)) ?_
      exact jv_less (ls' := [some (.ref b0), some (.ref (s0.heap.size + (0 : Int).toNat)), some (.ref (s0.heap.size + (126 : Int).toNat)), some (.ref (s0.heap.size + (148 : Int).toNat)), some (jv_i x4), none, none]) ⟨rfl, ⟨rfl, ⟨rfl, ⟨rfl, ⟨rfl, trivial⟩⟩⟩⟩⟩ (hJ1001 _ h)
    · replace h := h2_986 hc_986
      refine jv_aload_n C dL_law_989 rfl ?_
      refine jv_const C dL_law_990 ?_
      obtain ⟨hb_991, h⟩ := h
      refine jv_lald C sS_148 rfl hb_991 dL_law_991 ?_
      refine jv_iload C dL_law_992 rfl ?_
      obtain ⟨hr_994, h⟩ := h
      refine jv_i2l C hr_994 dL_law_994 ?_
      obtain ⟨hr_995, h1_995, h2_995⟩ := h
      refine jv_leq (tgt := 1001) C hr_995.1 hr_995.2 dL_law_995 dL_law_996 rfl (fun hc_995 => ?_) (fun hc_995 => ?_)
      · replace h := h1_995 hc_995
        refine jv_wd (k := 1000 + 4 * x4.toNat + 1) (n := 50000 + 40 * x4.toNat + 6) (Nat.ble_eq_true_of_le (by omega)) (Nat.ble_eq_true_of_le (by omega)) ?_
        exact jv_less (ls' := [some (.ref b0), some (.ref (s0.heap.size + (0 : Int).toNat)), some (.ref (s0.heap.size + (126 : Int).toNat)), some (.ref (s0.heap.size + (148 : Int).toNat)), some (jv_i x4), none, none]) ⟨rfl, ⟨rfl, ⟨rfl, ⟨rfl, ⟨rfl, trivial⟩⟩⟩⟩⟩ (hJ1001 _ h)
      · replace h := h2_995 hc_995
        exact h.elim
  · replace h := h2_979 hc_979
    exact h.elim

def wB_LC_20_1069 (KU : jv_Mem → Prop) (gj_1069 : jv_Mem) : Prop :=
  KU gj_1069
def wp_LC_20 (xs : Nat → Int32) (L : Nat) (x4 : Int) (KU : jv_Mem → Prop) (g : jv_Mem) : Prop :=
  (((0 : Int) ≤ x4 + 1 ∧ x4 + 1 < ((L : Nat) : Int)) ∧ (((0 : Int) ≤ x4 + 2 ∧ x4 + 2 < ((L : Nat) : Int)) ∧ (wp_L_clueOf (jv_sx xs (x4 + 1)) (jv_sx xs (x4 + 2)) (fun (r_1018 : Int) (g_1018 : jv_Mem) => (((0 : Int) ≤ x4 + 1 ∧ x4 + 1 < ((L : Nat) : Int)) ∧ (((0 : Int) ≤ x4 + 2 ∧ x4 + 2 < ((L : Nat) : Int)) ∧ (wp_X9_clueOf (jv_sx xs (x4 + 1)) (jv_sx xs (x4 + 2)) (fun (r_1036 : Int) (g_1036 : jv_Mem) => (wp_X9_thrown (fun (r_1042 : Int) (g_1042 : jv_Mem) => ((jv_r r_1042 ∧ jv_r r_1018) ∧ (r_1042 = r_1018 → ((jv_r r_1018) ∧ (¬ r_1018 = 0 → wB_LC_20_1069 KU g_1042) ∧ (r_1018 = 0 → (((0 : Int) ≤ 0 ∧ 0 < (1 : Int)) ∧ (jv_r r_1036 ∧ ((jv_r (g_1042 148 0) ∧ jv_r r_1036) ∧ ((g_1042 148 0) = r_1036 → wB_LC_20_1069 KU g_1042) ∧ (¬ (g_1042 148 0) = r_1036 → False))))))) ∧ (¬ r_1042 = r_1018 → False))) g_1036)) g_1018)))) g)))
set_option maxHeartbeats 4000000 in
set_option maxRecDepth 100000 in
theorem LC_20 {p : Program} {l : Launch} {e : Env} {m : MethodId} {below : List Frame} {meth : Method} {c : Code} {s0 : State} {b0 : Addr} {D : va_G} {ids : Nat → ClassId} {L : Nat} {xs : Nat → Int32} (hT : jv_T l s0 b0) (C : jv_C p s0 m #[Value.ref b0] c code RL s0 b0 D ids) (hml : 7 = c.maxLocals) (hX : va_X b0 L xs s0 s0.heap) (hbl : b0 < s0.heap.size) (hL : L ≤ 2560) {x4 : Int} (hx4 : 0 ≤ x4 ∧ x4 ≤ 2560) {KU : jv_Mem → Prop} (hU : ∀ g : jv_Mem, KU g → jv_V p l e room_1 s0 m #[Value.ref b0] below meth c (1000 + 4 * x4.toNat + 20) (50000 + 40 * x4.toNat + 200) (lw_Z below #[Value.ref b0] s0) s0 D ids none jv_SH g 1704 [some (.ref b0), some (.ref (s0.heap.size + (0 : Int).toNat)), some (.ref (s0.heap.size + (126 : Int).toNat)), some (.ref (s0.heap.size + (148 : Int).toNat)), some (jv_i x4), none, none] []) {g : jv_Mem} (h : wp_LC_20 xs L x4 KU g) : jv_V p l e room_1 s0 m #[Value.ref b0] below meth c (1000 + 4 * x4.toNat + 0) (50000 + 40 * x4.toNat + 0) (lw_Z below #[Value.ref b0] s0) s0 D ids none jv_SH g 1004 [some (.ref b0), some (.ref (s0.heap.size + (0 : Int).toNat)), some (.ref (s0.heap.size + (126 : Int).toNat)), some (.ref (s0.heap.size + (148 : Int).toNat)), some (jv_i x4), none, none] [] := by
  unfold wp_LC_20 at h
  refine jv_aload_n C dL_law_1004 rfl ?_
  refine jv_aload_n C dL_law_1005 rfl ?_
  refine jv_iload C dL_law_1006 rfl ?_
  refine jv_const C dL_law_1008 ?_
  refine jv_iadd C dL_law_1009 ?_
  obtain ⟨hb_1010, h⟩ := h
  refine jv_sld C hX hbl hL hb_1010 dL_law_1010 ?_
  refine jv_aload_n C dL_law_1011 rfl ?_
  refine jv_iload C dL_law_1012 rfl ?_
  refine jv_const C dL_law_1014 ?_
  refine jv_iadd C dL_law_1015 ?_
  obtain ⟨hb_1016, h⟩ := h
  refine jv_sld C hX hbl hL hb_1016 dL_law_1016 ?_
  refine jv_aload_n C dL_law_1017 rfl ?_
  refine jv_callSWi C (M_L_clueOf hT h) kw_L_171 rfl ⟨rfl, rfl⟩ (st := []) rfl rfl ⟨Nat.ble_eq_true_of_le (by show _ ≤ 601024; omega), Nat.ble_eq_true_of_le (by show _ ≤ 7293034; omega)⟩ dL_law_1018 (fun r_1018 g_1018 h => ?_)
  refine jv_istore (ls' := [some (.ref b0), some (.ref (s0.heap.size + (0 : Int).toNat)), some (.ref (s0.heap.size + (126 : Int).toNat)), some (.ref (s0.heap.size + (148 : Int).toNat)), some (jv_i x4), some (jv_i r_1018), none]) C dL_law_1021 (Nat.lt_of_lt_of_eq (Nat.le_of_ble_eq_true rfl) hml) rfl ?_
  refine jv_aload_n C dL_law_1023 rfl ?_
  refine jv_aload_n C dL_law_1024 rfl ?_
  refine jv_iload C dL_law_1025 rfl ?_
  refine jv_const C dL_law_1027 ?_
  refine jv_iadd C dL_law_1028 ?_
  obtain ⟨hb_1029, h⟩ := h
  refine jv_sld C hX hbl hL hb_1029 dL_law_1029 ?_
  refine jv_aload_n C dL_law_1030 rfl ?_
  refine jv_iload C dL_law_1031 rfl ?_
  refine jv_const C dL_law_1033 ?_
  refine jv_iadd C dL_law_1034 ?_
  obtain ⟨hb_1035, h⟩ := h
  refine jv_sld C hX hbl hL hb_1035 dL_law_1035 ?_
  refine jv_callVi C (M_X9_clueOf h) kw_L_173 sS_126 rfl rfl ⟨rfl, rfl⟩ (st := []) rfl rfl ⟨Nat.ble_eq_true_of_le (by show _ ≤ 601024; omega), Nat.ble_eq_true_of_le (by show _ ≤ 7293034; omega)⟩ dL_law_1036 (fun r_1036 g_1036 h => ?_)
  refine jv_istore (ls' := [some (.ref b0), some (.ref (s0.heap.size + (0 : Int).toNat)), some (.ref (s0.heap.size + (126 : Int).toNat)), some (.ref (s0.heap.size + (148 : Int).toNat)), some (jv_i x4), some (jv_i r_1018), some (jv_i r_1036)]) C dL_law_1039 (Nat.lt_of_lt_of_eq (Nat.le_of_ble_eq_true rfl) hml) rfl ?_
  refine jv_aload_n C dL_law_1041 rfl ?_
  refine jv_callVi C (M_X9_thrown h) kw_L_100 sS_126 rfl rfl ⟨rfl, rfl⟩ (st := []) rfl rfl ⟨Nat.ble_eq_true_of_le (by show _ ≤ 601024; omega), Nat.ble_eq_true_of_le (by show _ ≤ 7293034; omega)⟩ dL_law_1042 (fun r_1042 g_1042 h => ?_)
  refine jv_iload C dL_law_1045 rfl ?_
  obtain ⟨hr_1047, h1_1047, h2_1047⟩ := h
  refine jv_icmp_eq (tgt := 1052) C hr_1047.1 hr_1047.2 dL_law_1047 rfl (fun hc_1047 => ?_) (fun hc_1047 => ?_)
  · replace h := h1_1047 hc_1047
    refine jv_iload C dL_law_1052 rfl ?_
    have hJ1069 : ∀ (gj_1069 : jv_Mem), wB_LC_20_1069 KU gj_1069 → jv_V p l e room_1 s0 m #[Value.ref b0] below meth c (1000 + 4 * x4.toNat + 2) (50000 + 40 * x4.toNat + 12) (lw_Z below #[Value.ref b0] s0) s0 D ids none jv_SH gj_1069 1069 [some (.ref b0), some (.ref (s0.heap.size + (0 : Int).toNat)), some (.ref (s0.heap.size + (126 : Int).toNat)), some (.ref (s0.heap.size + (148 : Int).toNat)), some (jv_i x4), none, none] [] := by
      intro gj_1069 h
      unfold wB_LC_20_1069 at h
      refine jv_goto (tgt := 1704) C dL_law_1069 rfl ?_
      refine jv_wd (k := 1000 + 4 * x4.toNat + 20) (n := 50000 + 40 * x4.toNat + 200) (Nat.ble_eq_true_of_le (by omega)) (Nat.ble_eq_true_of_le (by omega)) ?_
      exact jv_less (ls' := [some (.ref b0), some (.ref (s0.heap.size + (0 : Int).toNat)), some (.ref (s0.heap.size + (126 : Int).toNat)), some (.ref (s0.heap.size + (148 : Int).toNat)), some (jv_i x4), none, none]) ⟨rfl, ⟨rfl, ⟨rfl, ⟨rfl, ⟨rfl, trivial⟩⟩⟩⟩⟩ (hU _ h)
    obtain ⟨hr_1054, h1_1054, h2_1054⟩ := h
    refine jv_if_ne (tgt := 1069) C hr_1054 dL_law_1054 rfl (fun hc_1054 => ?_) (fun hc_1054 => ?_)
    · replace h := h1_1054 hc_1054
      refine jv_wd (k := 1000 + 4 * x4.toNat + 2) (n := 50000 + 40 * x4.toNat + 12) (Nat.ble_eq_true_of_le (by omega)) (Nat.ble_eq_true_of_le (by omega)) ?_
      exact jv_less (ls' := [some (.ref b0), some (.ref (s0.heap.size + (0 : Int).toNat)), some (.ref (s0.heap.size + (126 : Int).toNat)), some (.ref (s0.heap.size + (148 : Int).toNat)), some (jv_i x4), none, none]) ⟨rfl, ⟨rfl, ⟨rfl, ⟨rfl, ⟨rfl, trivial⟩⟩⟩⟩⟩ (hJ1069 _ h)
    · replace h := h2_1054 hc_1054
      refine jv_aload_n C dL_law_1057 rfl ?_
      refine jv_const C dL_law_1058 ?_
      obtain ⟨hb_1059, h⟩ := h
      refine jv_lald C sS_148 rfl hb_1059 dL_law_1059 ?_
      refine jv_iload C dL_law_1060 rfl ?_
      obtain ⟨hr_1062, h⟩ := h
      refine jv_i2l C hr_1062 dL_law_1062 ?_
      obtain ⟨hr_1063, h1_1063, h2_1063⟩ := h
      refine jv_leq (tgt := 1069) C hr_1063.1 hr_1063.2 dL_law_1063 dL_law_1064 rfl (fun hc_1063 => ?_) (fun hc_1063 => ?_)
      · replace h := h1_1063 hc_1063
        refine jv_wd (k := 1000 + 4 * x4.toNat + 2) (n := 50000 + 40 * x4.toNat + 12) (Nat.ble_eq_true_of_le (by omega)) (Nat.ble_eq_true_of_le (by omega)) ?_
        exact jv_less (ls' := [some (.ref b0), some (.ref (s0.heap.size + (0 : Int).toNat)), some (.ref (s0.heap.size + (126 : Int).toNat)), some (.ref (s0.heap.size + (148 : Int).toNat)), some (jv_i x4), none, none]) ⟨rfl, ⟨rfl, ⟨rfl, ⟨rfl, ⟨rfl, trivial⟩⟩⟩⟩⟩ (hJ1069 _ h)
      · replace h := h2_1063 hc_1063
        exact h.elim
  · replace h := h2_1047 hc_1047
    exact h.elim

def wB_LC_21_1137 (KU : jv_Mem → Prop) (gj_1137 : jv_Mem) : Prop :=
  KU gj_1137
def wp_LC_21 (xs : Nat → Int32) (L : Nat) (x4 : Int) (KU : jv_Mem → Prop) (g : jv_Mem) : Prop :=
  (((0 : Int) ≤ x4 + 1 ∧ x4 + 1 < ((L : Nat) : Int)) ∧ (((0 : Int) ≤ x4 + 2 ∧ x4 + 2 < ((L : Nat) : Int)) ∧ (wp_L_addSolver (jv_sx xs (x4 + 1)) (jv_sx xs (x4 + 2)) (fun (r_1086 : Int) (g_1086 : jv_Mem) => (((0 : Int) ≤ x4 + 1 ∧ x4 + 1 < ((L : Nat) : Int)) ∧ (((0 : Int) ≤ x4 + 2 ∧ x4 + 2 < ((L : Nat) : Int)) ∧ (wp_X9_addSolver (jv_sx xs (x4 + 1)) (jv_sx xs (x4 + 2)) (fun (r_1104 : Int) (g_1104 : jv_Mem) => (wp_X9_thrown (fun (r_1110 : Int) (g_1110 : jv_Mem) => ((jv_r r_1110 ∧ jv_r r_1086) ∧ (r_1110 = r_1086 → ((jv_r r_1086) ∧ (¬ r_1086 = 0 → wB_LC_21_1137 KU g_1110) ∧ (r_1086 = 0 → (((0 : Int) ≤ 0 ∧ 0 < (1 : Int)) ∧ (jv_r r_1104 ∧ ((jv_r (g_1110 148 0) ∧ jv_r r_1104) ∧ ((g_1110 148 0) = r_1104 → wB_LC_21_1137 KU g_1110) ∧ (¬ (g_1110 148 0) = r_1104 → False))))))) ∧ (¬ r_1110 = r_1086 → False))) g_1104)) g_1086)))) g)))
set_option maxHeartbeats 4000000 in
set_option maxRecDepth 100000 in
theorem LC_21 {p : Program} {l : Launch} {e : Env} {m : MethodId} {below : List Frame} {meth : Method} {c : Code} {s0 : State} {b0 : Addr} {D : va_G} {ids : Nat → ClassId} {L : Nat} {xs : Nat → Int32} (hT : jv_T l s0 b0) (C : jv_C p s0 m #[Value.ref b0] c code RL s0 b0 D ids) (hml : 7 = c.maxLocals) (hX : va_X b0 L xs s0 s0.heap) (hbl : b0 < s0.heap.size) (hL : L ≤ 2560) {x4 : Int} (hx4 : 0 ≤ x4 ∧ x4 ≤ 2560) {KU : jv_Mem → Prop} (hU : ∀ g : jv_Mem, KU g → jv_V p l e room_1 s0 m #[Value.ref b0] below meth c (1000 + 4 * x4.toNat + 20) (50000 + 40 * x4.toNat + 200) (lw_Z below #[Value.ref b0] s0) s0 D ids none jv_SH g 1704 [some (.ref b0), some (.ref (s0.heap.size + (0 : Int).toNat)), some (.ref (s0.heap.size + (126 : Int).toNat)), some (.ref (s0.heap.size + (148 : Int).toNat)), some (jv_i x4), none, none] []) {g : jv_Mem} (h : wp_LC_21 xs L x4 KU g) : jv_V p l e room_1 s0 m #[Value.ref b0] below meth c (1000 + 4 * x4.toNat + 0) (50000 + 40 * x4.toNat + 0) (lw_Z below #[Value.ref b0] s0) s0 D ids none jv_SH g 1072 [some (.ref b0), some (.ref (s0.heap.size + (0 : Int).toNat)), some (.ref (s0.heap.size + (126 : Int).toNat)), some (.ref (s0.heap.size + (148 : Int).toNat)), some (jv_i x4), none, none] [] := by
  unfold wp_LC_21 at h
  refine jv_aload_n C dL_law_1072 rfl ?_
  refine jv_aload_n C dL_law_1073 rfl ?_
  refine jv_iload C dL_law_1074 rfl ?_
  refine jv_const C dL_law_1076 ?_
  refine jv_iadd C dL_law_1077 ?_
  obtain ⟨hb_1078, h⟩ := h
  refine jv_sld C hX hbl hL hb_1078 dL_law_1078 ?_
  refine jv_aload_n C dL_law_1079 rfl ?_
  refine jv_iload C dL_law_1080 rfl ?_
  refine jv_const C dL_law_1082 ?_
  refine jv_iadd C dL_law_1083 ?_
  obtain ⟨hb_1084, h⟩ := h
  refine jv_sld C hX hbl hL hb_1084 dL_law_1084 ?_
  refine jv_aload_n C dL_law_1085 rfl ?_
  refine jv_callSWi C (M_L_addSolver hT h) kw_L_174 rfl ⟨rfl, rfl⟩ (st := []) rfl rfl ⟨Nat.ble_eq_true_of_le (by show _ ≤ 601024; omega), Nat.ble_eq_true_of_le (by show _ ≤ 7293034; omega)⟩ dL_law_1086 (fun r_1086 g_1086 h => ?_)
  refine jv_istore (ls' := [some (.ref b0), some (.ref (s0.heap.size + (0 : Int).toNat)), some (.ref (s0.heap.size + (126 : Int).toNat)), some (.ref (s0.heap.size + (148 : Int).toNat)), some (jv_i x4), some (jv_i r_1086), none]) C dL_law_1089 (Nat.lt_of_lt_of_eq (Nat.le_of_ble_eq_true rfl) hml) rfl ?_
  refine jv_aload_n C dL_law_1091 rfl ?_
  refine jv_aload_n C dL_law_1092 rfl ?_
  refine jv_iload C dL_law_1093 rfl ?_
  refine jv_const C dL_law_1095 ?_
  refine jv_iadd C dL_law_1096 ?_
  obtain ⟨hb_1097, h⟩ := h
  refine jv_sld C hX hbl hL hb_1097 dL_law_1097 ?_
  refine jv_aload_n C dL_law_1098 rfl ?_
  refine jv_iload C dL_law_1099 rfl ?_
  refine jv_const C dL_law_1101 ?_
  refine jv_iadd C dL_law_1102 ?_
  obtain ⟨hb_1103, h⟩ := h
  refine jv_sld C hX hbl hL hb_1103 dL_law_1103 ?_
  refine jv_callVi C (M_X9_addSolver h) kw_L_176 sS_126 rfl rfl ⟨rfl, rfl⟩ (st := []) rfl rfl ⟨Nat.ble_eq_true_of_le (by show _ ≤ 601024; omega), Nat.ble_eq_true_of_le (by show _ ≤ 7293034; omega)⟩ dL_law_1104 (fun r_1104 g_1104 h => ?_)
  refine jv_istore (ls' := [some (.ref b0), some (.ref (s0.heap.size + (0 : Int).toNat)), some (.ref (s0.heap.size + (126 : Int).toNat)), some (.ref (s0.heap.size + (148 : Int).toNat)), some (jv_i x4), some (jv_i r_1086), some (jv_i r_1104)]) C dL_law_1107 (Nat.lt_of_lt_of_eq (Nat.le_of_ble_eq_true rfl) hml) rfl ?_
  refine jv_aload_n C dL_law_1109 rfl ?_
  refine jv_callVi C (M_X9_thrown h) kw_L_100 sS_126 rfl rfl ⟨rfl, rfl⟩ (st := []) rfl rfl ⟨Nat.ble_eq_true_of_le (by show _ ≤ 601024; omega), Nat.ble_eq_true_of_le (by show _ ≤ 7293034; omega)⟩ dL_law_1110 (fun r_1110 g_1110 h => ?_)
  refine jv_iload C dL_law_1113 rfl ?_
  obtain ⟨hr_1115, h1_1115, h2_1115⟩ := h
  refine jv_icmp_eq (tgt := 1120) C hr_1115.1 hr_1115.2 dL_law_1115 rfl (fun hc_1115 => ?_) (fun hc_1115 => ?_)
  · replace h := h1_1115 hc_1115
    refine jv_iload C dL_law_1120 rfl ?_
    have hJ1137 : ∀ (gj_1137 : jv_Mem), wB_LC_21_1137 KU gj_1137 → jv_V p l e room_1 s0 m #[Value.ref b0] below meth c (1000 + 4 * x4.toNat + 3) (50000 + 40 * x4.toNat + 18) (lw_Z below #[Value.ref b0] s0) s0 D ids none jv_SH gj_1137 1137 [some (.ref b0), some (.ref (s0.heap.size + (0 : Int).toNat)), some (.ref (s0.heap.size + (126 : Int).toNat)), some (.ref (s0.heap.size + (148 : Int).toNat)), some (jv_i x4), none, none] [] := by
      intro gj_1137 h
      unfold wB_LC_21_1137 at h
      refine jv_goto (tgt := 1704) C dL_law_1137 rfl ?_
      refine jv_wd (k := 1000 + 4 * x4.toNat + 20) (n := 50000 + 40 * x4.toNat + 200) (Nat.ble_eq_true_of_le (by omega)) (Nat.ble_eq_true_of_le (by omega)) ?_
      exact jv_less (ls' := [some (.ref b0), some (.ref (s0.heap.size + (0 : Int).toNat)), some (.ref (s0.heap.size + (126 : Int).toNat)), some (.ref (s0.heap.size + (148 : Int).toNat)), some (jv_i x4), none, none]) ⟨rfl, ⟨rfl, ⟨rfl, ⟨rfl, ⟨rfl, trivial⟩⟩⟩⟩⟩ (hU _ h)
    obtain ⟨hr_1122, h1_1122, h2_1122⟩ := h
    refine jv_if_ne (tgt := 1137) C hr_1122 dL_law_1122 rfl (fun hc_1122 => ?_) (fun hc_1122 => ?_)
    · replace h := h1_1122 hc_1122
      refine jv_wd (k := 1000 + 4 * x4.toNat + 3) (n := 50000 + 40 * x4.toNat + 18) (Nat.ble_eq_true_of_le (by omega)) (Nat.ble_eq_true_of_le (by omega)) ?_
      exact jv_less (ls' := [some (.ref b0), some (.ref (s0.heap.size + (0 : Int).toNat)), some (.ref (s0.heap.size + (126 : Int).toNat)), some (.ref (s0.heap.size + (148 : Int).toNat)), some (jv_i x4), none, none]) ⟨rfl, ⟨rfl, ⟨rfl, ⟨rfl, ⟨rfl, trivial⟩⟩⟩⟩⟩ (hJ1137 _ h)
    · replace h := h2_1122 hc_1122
      refine jv_aload_n C dL_law_1125 rfl ?_
      refine jv_const C dL_law_1126 ?_
      obtain ⟨hb_1127, h⟩ := h
      refine jv_lald C sS_148 rfl hb_1127 dL_law_1127 ?_
      refine jv_iload C dL_law_1128 rfl ?_
      obtain ⟨hr_1130, h⟩ := h
      refine jv_i2l C hr_1130 dL_law_1130 ?_
      obtain ⟨hr_1131, h1_1131, h2_1131⟩ := h
      refine jv_leq (tgt := 1137) C hr_1131.1 hr_1131.2 dL_law_1131 dL_law_1132 rfl (fun hc_1131 => ?_) (fun hc_1131 => ?_)
      · replace h := h1_1131 hc_1131
        refine jv_wd (k := 1000 + 4 * x4.toNat + 3) (n := 50000 + 40 * x4.toNat + 18) (Nat.ble_eq_true_of_le (by omega)) (Nat.ble_eq_true_of_le (by omega)) ?_
        exact jv_less (ls' := [some (.ref b0), some (.ref (s0.heap.size + (0 : Int).toNat)), some (.ref (s0.heap.size + (126 : Int).toNat)), some (.ref (s0.heap.size + (148 : Int).toNat)), some (jv_i x4), none, none]) ⟨rfl, ⟨rfl, ⟨rfl, ⟨rfl, ⟨rfl, trivial⟩⟩⟩⟩⟩ (hJ1137 _ h)
      · replace h := h2_1131 hc_1131
        exact h.elim
  · replace h := h2_1115 hc_1115
    exact h.elim

def wB_LC_22_1236 (KU : jv_Mem → Prop) (gj_1236 : jv_Mem) : Prop :=
  KU gj_1236
def wp_LC_22 (xs : Nat → Int32) (L : Nat) (x4 : Int) (KU : jv_Mem → Prop) (g : jv_Mem) : Prop :=
  (((0 : Int) ≤ x4 + 1 ∧ x4 + 1 < ((L : Nat) : Int)) ∧ (((0 : Int) ≤ x4 + 2 ∧ x4 + 2 < ((L : Nat) : Int)) ∧ (((0 : Int) ≤ x4 + 3 ∧ x4 + 3 < ((L : Nat) : Int)) ∧ (((0 : Int) ≤ x4 + 4 ∧ x4 + 4 < ((L : Nat) : Int)) ∧ (wp_L_enter (jv_sx xs (x4 + 1)) (jv_sx xs (x4 + 2)) (jv_sx xs (x4 + 3)) (jv_sx xs (x4 + 4)) (fun (r_1166 : Int) (g_1166 : jv_Mem) => (((0 : Int) ≤ x4 + 1 ∧ x4 + 1 < ((L : Nat) : Int)) ∧ (((0 : Int) ≤ x4 + 2 ∧ x4 + 2 < ((L : Nat) : Int)) ∧ (((0 : Int) ≤ x4 + 3 ∧ x4 + 3 < ((L : Nat) : Int)) ∧ (((0 : Int) ≤ x4 + 4 ∧ x4 + 4 < ((L : Nat) : Int)) ∧ (wp_X9_enter (jv_sx xs (x4 + 1)) (jv_sx xs (x4 + 2)) (jv_sx xs (x4 + 3)) (jv_sx xs (x4 + 4)) (fun (r_1196 : Int) (g_1196 : jv_Mem) => (wp_X9_thrown (fun (r_1202 : Int) (g_1202 : jv_Mem) => ((jv_r r_1202 ∧ jv_r r_1166) ∧ (r_1202 = r_1166 → ((jv_r r_1166) ∧ (¬ r_1166 = 0 → wB_LC_22_1236 KU g_1202) ∧ (r_1166 = 0 → (((0 : Int) ≤ 0 ∧ 0 < (1 : Int)) ∧ ((jv_r r_1196) ∧ (r_1196 = 0 → ((jv_r (g_1202 148 0)) ∧ ((g_1202 148 0) = 0 → wB_LC_22_1236 KU g_1202) ∧ (¬ (g_1202 148 0) = 0 → False))) ∧ (¬ r_1196 = 0 → ((jv_r (g_1202 148 0)) ∧ ((g_1202 148 0) = 1 → wB_LC_22_1236 KU g_1202) ∧ (¬ (g_1202 148 0) = 1 → False)))))))) ∧ (¬ r_1202 = r_1166 → False))) g_1196)) g_1166)))))) g)))))
set_option maxHeartbeats 4000000 in
set_option maxRecDepth 100000 in
theorem LC_22 {p : Program} {l : Launch} {e : Env} {m : MethodId} {below : List Frame} {meth : Method} {c : Code} {s0 : State} {b0 : Addr} {D : va_G} {ids : Nat → ClassId} {L : Nat} {xs : Nat → Int32} (hT : jv_T l s0 b0) (C : jv_C p s0 m #[Value.ref b0] c code RL s0 b0 D ids) (hml : 7 = c.maxLocals) (hX : va_X b0 L xs s0 s0.heap) (hbl : b0 < s0.heap.size) (hL : L ≤ 2560) {x4 : Int} (hx4 : 0 ≤ x4 ∧ x4 ≤ 2560) {KU : jv_Mem → Prop} (hU : ∀ g : jv_Mem, KU g → jv_V p l e room_1 s0 m #[Value.ref b0] below meth c (1000 + 4 * x4.toNat + 20) (50000 + 40 * x4.toNat + 200) (lw_Z below #[Value.ref b0] s0) s0 D ids none jv_SH g 1704 [some (.ref b0), some (.ref (s0.heap.size + (0 : Int).toNat)), some (.ref (s0.heap.size + (126 : Int).toNat)), some (.ref (s0.heap.size + (148 : Int).toNat)), some (jv_i x4), none, none] []) {g : jv_Mem} (h : wp_LC_22 xs L x4 KU g) : jv_V p l e room_1 s0 m #[Value.ref b0] below meth c (1000 + 4 * x4.toNat + 0) (50000 + 40 * x4.toNat + 0) (lw_Z below #[Value.ref b0] s0) s0 D ids none jv_SH g 1140 [some (.ref b0), some (.ref (s0.heap.size + (0 : Int).toNat)), some (.ref (s0.heap.size + (126 : Int).toNat)), some (.ref (s0.heap.size + (148 : Int).toNat)), some (jv_i x4), none, none] [] := by
  unfold wp_LC_22 at h
  refine jv_aload_n C dL_law_1140 rfl ?_
  refine jv_aload_n C dL_law_1141 rfl ?_
  refine jv_iload C dL_law_1142 rfl ?_
  refine jv_const C dL_law_1144 ?_
  refine jv_iadd C dL_law_1145 ?_
  obtain ⟨hb_1146, h⟩ := h
  refine jv_sld C hX hbl hL hb_1146 dL_law_1146 ?_
  refine jv_aload_n C dL_law_1147 rfl ?_
  refine jv_iload C dL_law_1148 rfl ?_
  refine jv_const C dL_law_1150 ?_
  refine jv_iadd C dL_law_1151 ?_
  obtain ⟨hb_1152, h⟩ := h
  refine jv_sld C hX hbl hL hb_1152 dL_law_1152 ?_
  refine jv_aload_n C dL_law_1153 rfl ?_
  refine jv_iload C dL_law_1154 rfl ?_
  refine jv_const C dL_law_1156 ?_
  refine jv_iadd C dL_law_1157 ?_
  obtain ⟨hb_1158, h⟩ := h
  refine jv_sld C hX hbl hL hb_1158 dL_law_1158 ?_
  refine jv_aload_n C dL_law_1159 rfl ?_
  refine jv_iload C dL_law_1160 rfl ?_
  refine jv_const C dL_law_1162 ?_
  refine jv_iadd C dL_law_1163 ?_
  obtain ⟨hb_1164, h⟩ := h
  refine jv_sld C hX hbl hL hb_1164 dL_law_1164 ?_
  refine jv_aload_n C dL_law_1165 rfl ?_
  refine jv_callSWi C (M_L_enter hT h) kw_L_177 rfl ⟨rfl, rfl⟩ (st := []) rfl rfl ⟨Nat.ble_eq_true_of_le (by show _ ≤ 601024; omega), Nat.ble_eq_true_of_le (by show _ ≤ 7293034; omega)⟩ dL_law_1166 (fun r_1166 g_1166 h => ?_)
  refine jv_istore (ls' := [some (.ref b0), some (.ref (s0.heap.size + (0 : Int).toNat)), some (.ref (s0.heap.size + (126 : Int).toNat)), some (.ref (s0.heap.size + (148 : Int).toNat)), some (jv_i x4), some (jv_i r_1166), none]) C dL_law_1169 (Nat.lt_of_lt_of_eq (Nat.le_of_ble_eq_true rfl) hml) rfl ?_
  refine jv_aload_n C dL_law_1171 rfl ?_
  refine jv_aload_n C dL_law_1172 rfl ?_
  refine jv_iload C dL_law_1173 rfl ?_
  refine jv_const C dL_law_1175 ?_
  refine jv_iadd C dL_law_1176 ?_
  obtain ⟨hb_1177, h⟩ := h
  refine jv_sld C hX hbl hL hb_1177 dL_law_1177 ?_
  refine jv_aload_n C dL_law_1178 rfl ?_
  refine jv_iload C dL_law_1179 rfl ?_
  refine jv_const C dL_law_1181 ?_
  refine jv_iadd C dL_law_1182 ?_
  obtain ⟨hb_1183, h⟩ := h
  refine jv_sld C hX hbl hL hb_1183 dL_law_1183 ?_
  refine jv_aload_n C dL_law_1184 rfl ?_
  refine jv_iload C dL_law_1185 rfl ?_
  refine jv_const C dL_law_1187 ?_
  refine jv_iadd C dL_law_1188 ?_
  obtain ⟨hb_1189, h⟩ := h
  refine jv_sld C hX hbl hL hb_1189 dL_law_1189 ?_
  refine jv_aload_n C dL_law_1190 rfl ?_
  refine jv_iload C dL_law_1191 rfl ?_
  refine jv_const C dL_law_1193 ?_
  refine jv_iadd C dL_law_1194 ?_
  obtain ⟨hb_1195, h⟩ := h
  refine jv_sld C hX hbl hL hb_1195 dL_law_1195 ?_
  refine jv_callVi C (M_X9_enter h) kw_L_180 sS_126 rfl rfl ⟨rfl, rfl⟩ (st := []) rfl rfl ⟨Nat.ble_eq_true_of_le (by show _ ≤ 601024; omega), Nat.ble_eq_true_of_le (by show _ ≤ 7293034; omega)⟩ dL_law_1196 (fun r_1196 g_1196 h => ?_)
  refine jv_istore (ls' := [some (.ref b0), some (.ref (s0.heap.size + (0 : Int).toNat)), some (.ref (s0.heap.size + (126 : Int).toNat)), some (.ref (s0.heap.size + (148 : Int).toNat)), some (jv_i x4), some (jv_i r_1166), some (jv_i r_1196)]) C dL_law_1199 (Nat.lt_of_lt_of_eq (Nat.le_of_ble_eq_true rfl) hml) rfl ?_
  refine jv_aload_n C dL_law_1201 rfl ?_
  refine jv_callVi C (M_X9_thrown h) kw_L_100 sS_126 rfl rfl ⟨rfl, rfl⟩ (st := []) rfl rfl ⟨Nat.ble_eq_true_of_le (by show _ ≤ 601024; omega), Nat.ble_eq_true_of_le (by show _ ≤ 7293034; omega)⟩ dL_law_1202 (fun r_1202 g_1202 h => ?_)
  refine jv_iload C dL_law_1205 rfl ?_
  obtain ⟨hr_1207, h1_1207, h2_1207⟩ := h
  refine jv_icmp_eq (tgt := 1212) C hr_1207.1 hr_1207.2 dL_law_1207 rfl (fun hc_1207 => ?_) (fun hc_1207 => ?_)
  · replace h := h1_1207 hc_1207
    refine jv_iload C dL_law_1212 rfl ?_
    have hJ1236 : ∀ (gj_1236 : jv_Mem), wB_LC_22_1236 KU gj_1236 → jv_V p l e room_1 s0 m #[Value.ref b0] below meth c (1000 + 4 * x4.toNat + 5) (50000 + 40 * x4.toNat + 30) (lw_Z below #[Value.ref b0] s0) s0 D ids none jv_SH gj_1236 1236 [some (.ref b0), some (.ref (s0.heap.size + (0 : Int).toNat)), some (.ref (s0.heap.size + (126 : Int).toNat)), some (.ref (s0.heap.size + (148 : Int).toNat)), some (jv_i x4), none, none] [] := by
      intro gj_1236 h
      unfold wB_LC_22_1236 at h
      refine jv_goto (tgt := 1704) C dL_law_1236 rfl ?_
      refine jv_wd (k := 1000 + 4 * x4.toNat + 20) (n := 50000 + 40 * x4.toNat + 200) (Nat.ble_eq_true_of_le (by omega)) (Nat.ble_eq_true_of_le (by omega)) ?_
      exact jv_less (ls' := [some (.ref b0), some (.ref (s0.heap.size + (0 : Int).toNat)), some (.ref (s0.heap.size + (126 : Int).toNat)), some (.ref (s0.heap.size + (148 : Int).toNat)), some (jv_i x4), none, none]) ⟨rfl, ⟨rfl, ⟨rfl, ⟨rfl, ⟨rfl, trivial⟩⟩⟩⟩⟩ (hU _ h)
    obtain ⟨hr_1214, h1_1214, h2_1214⟩ := h
    refine jv_if_ne (tgt := 1236) C hr_1214 dL_law_1214 rfl (fun hc_1214 => ?_) (fun hc_1214 => ?_)
    · replace h := h1_1214 hc_1214
      refine jv_wd (k := 1000 + 4 * x4.toNat + 5) (n := 50000 + 40 * x4.toNat + 30) (Nat.ble_eq_true_of_le (by omega)) (Nat.ble_eq_true_of_le (by omega)) ?_
      exact jv_less (ls' := [some (.ref b0), some (.ref (s0.heap.size + (0 : Int).toNat)), some (.ref (s0.heap.size + (126 : Int).toNat)), some (.ref (s0.heap.size + (148 : Int).toNat)), some (jv_i x4), none, none]) ⟨rfl, ⟨rfl, ⟨rfl, ⟨rfl, ⟨rfl, trivial⟩⟩⟩⟩⟩ (hJ1236 _ h)
    · replace h := h2_1214 hc_1214
      refine jv_aload_n C dL_law_1217 rfl ?_
      refine jv_const C dL_law_1218 ?_
      obtain ⟨hb_1219, h⟩ := h
      refine jv_lald C sS_148 rfl hb_1219 dL_law_1219 ?_
      refine jv_iload C dL_law_1220 rfl ?_
      obtain ⟨hr_1222, h1_1222, h2_1222⟩ := h
      refine jv_if_eq (tgt := 1229) C hr_1222 dL_law_1222 rfl (fun hc_1222 => ?_) (fun hc_1222 => ?_)
      · replace h := h1_1222 hc_1222
        refine jv_lconstK (k := 0) C dL_law_1229 rfl ?_
        obtain ⟨hr_1230, h1_1230, h2_1230⟩ := h
        refine jv_leq (tgt := 1236) C hr_1230 ⟨by decide, by decide⟩ dL_law_1230 dL_law_1231 rfl (fun hc_1230 => ?_) (fun hc_1230 => ?_)
        · replace h := h1_1230 hc_1230
          refine jv_wd (k := 1000 + 4 * x4.toNat + 5) (n := 50000 + 40 * x4.toNat + 30) (Nat.ble_eq_true_of_le (by omega)) (Nat.ble_eq_true_of_le (by omega)) ?_
          exact jv_less (ls' := [some (.ref b0), some (.ref (s0.heap.size + (0 : Int).toNat)), some (.ref (s0.heap.size + (126 : Int).toNat)), some (.ref (s0.heap.size + (148 : Int).toNat)), some (jv_i x4), none, none]) ⟨rfl, ⟨rfl, ⟨rfl, ⟨rfl, ⟨rfl, trivial⟩⟩⟩⟩⟩ (hJ1236 _ h)
        · replace h := h2_1230 hc_1230
          exact h.elim
      · replace h := h2_1222 hc_1222
        refine jv_lconstK (k := 1) C dL_law_1225 rfl ?_
        refine jv_goto (tgt := 1230) C dL_law_1226 rfl ?_
        obtain ⟨hr_1230, h1_1230, h2_1230⟩ := h
        refine jv_leq (tgt := 1236) C hr_1230 ⟨by decide, by decide⟩ dL_law_1230 dL_law_1231 rfl (fun hc_1230 => ?_) (fun hc_1230 => ?_)
        · replace h := h1_1230 hc_1230
          refine jv_wd (k := 1000 + 4 * x4.toNat + 5) (n := 50000 + 40 * x4.toNat + 30) (Nat.ble_eq_true_of_le (by omega)) (Nat.ble_eq_true_of_le (by omega)) ?_
          exact jv_less (ls' := [some (.ref b0), some (.ref (s0.heap.size + (0 : Int).toNat)), some (.ref (s0.heap.size + (126 : Int).toNat)), some (.ref (s0.heap.size + (148 : Int).toNat)), some (jv_i x4), none, none]) ⟨rfl, ⟨rfl, ⟨rfl, ⟨rfl, ⟨rfl, trivial⟩⟩⟩⟩⟩ (hJ1236 _ h)
        · replace h := h2_1230 hc_1230
          exact h.elim
  · replace h := h2_1207 hc_1207
    exact h.elim

def wB_LC_23_1316 (KU : jv_Mem → Prop) (gj_1316 : jv_Mem) : Prop :=
  KU gj_1316
def wp_LC_23 (xs : Nat → Int32) (L : Nat) (x4 : Int) (KU : jv_Mem → Prop) (g : jv_Mem) : Prop :=
  (((0 : Int) ≤ x4 + 1 ∧ x4 + 1 < ((L : Nat) : Int)) ∧ (((0 : Int) ≤ x4 + 2 ∧ x4 + 2 < ((L : Nat) : Int)) ∧ (((0 : Int) ≤ x4 + 3 ∧ x4 + 3 < ((L : Nat) : Int)) ∧ (wp_L_help (jv_sx xs (x4 + 1)) (jv_sx xs (x4 + 2)) (jv_sx xs (x4 + 3)) (fun (r_1259 : Int) (g_1259 : jv_Mem) => (((0 : Int) ≤ x4 + 1 ∧ x4 + 1 < ((L : Nat) : Int)) ∧ (((0 : Int) ≤ x4 + 2 ∧ x4 + 2 < ((L : Nat) : Int)) ∧ (((0 : Int) ≤ x4 + 3 ∧ x4 + 3 < ((L : Nat) : Int)) ∧ (wp_X9_help (jv_sx xs (x4 + 1)) (jv_sx xs (x4 + 2)) (jv_sx xs (x4 + 3)) (fun (r_1283 : Int) (g_1283 : jv_Mem) => (wp_X9_thrown (fun (r_1289 : Int) (g_1289 : jv_Mem) => ((jv_r r_1289 ∧ jv_r r_1259) ∧ (r_1289 = r_1259 → ((jv_r r_1259) ∧ (¬ r_1259 = 0 → wB_LC_23_1316 KU g_1289) ∧ (r_1259 = 0 → (((0 : Int) ≤ 0 ∧ 0 < (1 : Int)) ∧ (jv_r r_1283 ∧ ((jv_r (g_1289 148 0) ∧ jv_r r_1283) ∧ ((g_1289 148 0) = r_1283 → wB_LC_23_1316 KU g_1289) ∧ (¬ (g_1289 148 0) = r_1283 → False))))))) ∧ (¬ r_1289 = r_1259 → False))) g_1283)) g_1259))))) g))))
set_option maxHeartbeats 4000000 in
set_option maxRecDepth 100000 in
theorem LC_23 {p : Program} {l : Launch} {e : Env} {m : MethodId} {below : List Frame} {meth : Method} {c : Code} {s0 : State} {b0 : Addr} {D : va_G} {ids : Nat → ClassId} {L : Nat} {xs : Nat → Int32} (hT : jv_T l s0 b0) (C : jv_C p s0 m #[Value.ref b0] c code RL s0 b0 D ids) (hml : 7 = c.maxLocals) (hX : va_X b0 L xs s0 s0.heap) (hbl : b0 < s0.heap.size) (hL : L ≤ 2560) {x4 : Int} (hx4 : 0 ≤ x4 ∧ x4 ≤ 2560) {KU : jv_Mem → Prop} (hU : ∀ g : jv_Mem, KU g → jv_V p l e room_1 s0 m #[Value.ref b0] below meth c (1000 + 4 * x4.toNat + 20) (50000 + 40 * x4.toNat + 200) (lw_Z below #[Value.ref b0] s0) s0 D ids none jv_SH g 1704 [some (.ref b0), some (.ref (s0.heap.size + (0 : Int).toNat)), some (.ref (s0.heap.size + (126 : Int).toNat)), some (.ref (s0.heap.size + (148 : Int).toNat)), some (jv_i x4), none, none] []) {g : jv_Mem} (h : wp_LC_23 xs L x4 KU g) : jv_V p l e room_1 s0 m #[Value.ref b0] below meth c (1000 + 4 * x4.toNat + 0) (50000 + 40 * x4.toNat + 0) (lw_Z below #[Value.ref b0] s0) s0 D ids none jv_SH g 1239 [some (.ref b0), some (.ref (s0.heap.size + (0 : Int).toNat)), some (.ref (s0.heap.size + (126 : Int).toNat)), some (.ref (s0.heap.size + (148 : Int).toNat)), some (jv_i x4), none, none] [] := by
  unfold wp_LC_23 at h
  refine jv_aload_n C dL_law_1239 rfl ?_
  refine jv_aload_n C dL_law_1240 rfl ?_
  refine jv_iload C dL_law_1241 rfl ?_
  refine jv_const C dL_law_1243 ?_
  refine jv_iadd C dL_law_1244 ?_
  obtain ⟨hb_1245, h⟩ := h
  refine jv_sld C hX hbl hL hb_1245 dL_law_1245 ?_
  refine jv_aload_n C dL_law_1246 rfl ?_
  refine jv_iload C dL_law_1247 rfl ?_
  refine jv_const C dL_law_1249 ?_
  refine jv_iadd C dL_law_1250 ?_
  obtain ⟨hb_1251, h⟩ := h
  refine jv_sld C hX hbl hL hb_1251 dL_law_1251 ?_
  refine jv_aload_n C dL_law_1252 rfl ?_
  refine jv_iload C dL_law_1253 rfl ?_
  refine jv_const C dL_law_1255 ?_
  refine jv_iadd C dL_law_1256 ?_
  obtain ⟨hb_1257, h⟩ := h
  refine jv_sld C hX hbl hL hb_1257 dL_law_1257 ?_
  refine jv_aload_n C dL_law_1258 rfl ?_
  refine jv_callSWi C (M_L_help hT h) kw_L_181 rfl ⟨rfl, rfl⟩ (st := []) rfl rfl ⟨Nat.ble_eq_true_of_le (by show _ ≤ 601024; omega), Nat.ble_eq_true_of_le (by show _ ≤ 7293034; omega)⟩ dL_law_1259 (fun r_1259 g_1259 h => ?_)
  refine jv_istore (ls' := [some (.ref b0), some (.ref (s0.heap.size + (0 : Int).toNat)), some (.ref (s0.heap.size + (126 : Int).toNat)), some (.ref (s0.heap.size + (148 : Int).toNat)), some (jv_i x4), some (jv_i r_1259), none]) C dL_law_1262 (Nat.lt_of_lt_of_eq (Nat.le_of_ble_eq_true rfl) hml) rfl ?_
  refine jv_aload_n C dL_law_1264 rfl ?_
  refine jv_aload_n C dL_law_1265 rfl ?_
  refine jv_iload C dL_law_1266 rfl ?_
  refine jv_const C dL_law_1268 ?_
  refine jv_iadd C dL_law_1269 ?_
  obtain ⟨hb_1270, h⟩ := h
  refine jv_sld C hX hbl hL hb_1270 dL_law_1270 ?_
  refine jv_aload_n C dL_law_1271 rfl ?_
  refine jv_iload C dL_law_1272 rfl ?_
  refine jv_const C dL_law_1274 ?_
  refine jv_iadd C dL_law_1275 ?_
  obtain ⟨hb_1276, h⟩ := h
  refine jv_sld C hX hbl hL hb_1276 dL_law_1276 ?_
  refine jv_aload_n C dL_law_1277 rfl ?_
  refine jv_iload C dL_law_1278 rfl ?_
  refine jv_const C dL_law_1280 ?_
  refine jv_iadd C dL_law_1281 ?_
  obtain ⟨hb_1282, h⟩ := h
  refine jv_sld C hX hbl hL hb_1282 dL_law_1282 ?_
  refine jv_callVi C (M_X9_help h) kw_L_184 sS_126 rfl rfl ⟨rfl, rfl⟩ (st := []) rfl rfl ⟨Nat.ble_eq_true_of_le (by show _ ≤ 601024; omega), Nat.ble_eq_true_of_le (by show _ ≤ 7293034; omega)⟩ dL_law_1283 (fun r_1283 g_1283 h => ?_)
  refine jv_istore (ls' := [some (.ref b0), some (.ref (s0.heap.size + (0 : Int).toNat)), some (.ref (s0.heap.size + (126 : Int).toNat)), some (.ref (s0.heap.size + (148 : Int).toNat)), some (jv_i x4), some (jv_i r_1259), some (jv_i r_1283)]) C dL_law_1286 (Nat.lt_of_lt_of_eq (Nat.le_of_ble_eq_true rfl) hml) rfl ?_
  refine jv_aload_n C dL_law_1288 rfl ?_
  refine jv_callVi C (M_X9_thrown h) kw_L_100 sS_126 rfl rfl ⟨rfl, rfl⟩ (st := []) rfl rfl ⟨Nat.ble_eq_true_of_le (by show _ ≤ 601024; omega), Nat.ble_eq_true_of_le (by show _ ≤ 7293034; omega)⟩ dL_law_1289 (fun r_1289 g_1289 h => ?_)
  refine jv_iload C dL_law_1292 rfl ?_
  obtain ⟨hr_1294, h1_1294, h2_1294⟩ := h
  refine jv_icmp_eq (tgt := 1299) C hr_1294.1 hr_1294.2 dL_law_1294 rfl (fun hc_1294 => ?_) (fun hc_1294 => ?_)
  · replace h := h1_1294 hc_1294
    refine jv_iload C dL_law_1299 rfl ?_
    have hJ1316 : ∀ (gj_1316 : jv_Mem), wB_LC_23_1316 KU gj_1316 → jv_V p l e room_1 s0 m #[Value.ref b0] below meth c (1000 + 4 * x4.toNat + 5) (50000 + 40 * x4.toNat + 30) (lw_Z below #[Value.ref b0] s0) s0 D ids none jv_SH gj_1316 1316 [some (.ref b0), some (.ref (s0.heap.size + (0 : Int).toNat)), some (.ref (s0.heap.size + (126 : Int).toNat)), some (.ref (s0.heap.size + (148 : Int).toNat)), some (jv_i x4), none, none] [] := by
      intro gj_1316 h
      unfold wB_LC_23_1316 at h
      refine jv_goto (tgt := 1704) C dL_law_1316 rfl ?_
      refine jv_wd (k := 1000 + 4 * x4.toNat + 20) (n := 50000 + 40 * x4.toNat + 200) (Nat.ble_eq_true_of_le (by omega)) (Nat.ble_eq_true_of_le (by omega)) ?_
      exact jv_less (ls' := [some (.ref b0), some (.ref (s0.heap.size + (0 : Int).toNat)), some (.ref (s0.heap.size + (126 : Int).toNat)), some (.ref (s0.heap.size + (148 : Int).toNat)), some (jv_i x4), none, none]) ⟨rfl, ⟨rfl, ⟨rfl, ⟨rfl, ⟨rfl, trivial⟩⟩⟩⟩⟩ (hU _ h)
    obtain ⟨hr_1301, h1_1301, h2_1301⟩ := h
    refine jv_if_ne (tgt := 1316) C hr_1301 dL_law_1301 rfl (fun hc_1301 => ?_) (fun hc_1301 => ?_)
    · replace h := h1_1301 hc_1301
      refine jv_wd (k := 1000 + 4 * x4.toNat + 5) (n := 50000 + 40 * x4.toNat + 30) (Nat.ble_eq_true_of_le (by omega)) (Nat.ble_eq_true_of_le (by omega)) ?_
      exact jv_less (ls' := [some (.ref b0), some (.ref (s0.heap.size + (0 : Int).toNat)), some (.ref (s0.heap.size + (126 : Int).toNat)), some (.ref (s0.heap.size + (148 : Int).toNat)), some (jv_i x4), none, none]) ⟨rfl, ⟨rfl, ⟨rfl, ⟨rfl, ⟨rfl, trivial⟩⟩⟩⟩⟩ (hJ1316 _ h)
    · replace h := h2_1301 hc_1301
      refine jv_aload_n C dL_law_1304 rfl ?_
      refine jv_const C dL_law_1305 ?_
      obtain ⟨hb_1306, h⟩ := h
      refine jv_lald C sS_148 rfl hb_1306 dL_law_1306 ?_
      refine jv_iload C dL_law_1307 rfl ?_
      obtain ⟨hr_1309, h⟩ := h
      refine jv_i2l C hr_1309 dL_law_1309 ?_
      obtain ⟨hr_1310, h1_1310, h2_1310⟩ := h
      refine jv_leq (tgt := 1316) C hr_1310.1 hr_1310.2 dL_law_1310 dL_law_1311 rfl (fun hc_1310 => ?_) (fun hc_1310 => ?_)
      · replace h := h1_1310 hc_1310
        refine jv_wd (k := 1000 + 4 * x4.toNat + 5) (n := 50000 + 40 * x4.toNat + 30) (Nat.ble_eq_true_of_le (by omega)) (Nat.ble_eq_true_of_le (by omega)) ?_
        exact jv_less (ls' := [some (.ref b0), some (.ref (s0.heap.size + (0 : Int).toNat)), some (.ref (s0.heap.size + (126 : Int).toNat)), some (.ref (s0.heap.size + (148 : Int).toNat)), some (jv_i x4), none, none]) ⟨rfl, ⟨rfl, ⟨rfl, ⟨rfl, ⟨rfl, trivial⟩⟩⟩⟩⟩ (hJ1316 _ h)
      · replace h := h2_1310 hc_1310
        exact h.elim
  · replace h := h2_1294 hc_1294
    exact h.elim

def wB_LC_24_1384 (KU : jv_Mem → Prop) (gj_1384 : jv_Mem) : Prop :=
  KU gj_1384
def wp_LC_24 (xs : Nat → Int32) (L : Nat) (x4 : Int) (KU : jv_Mem → Prop) (g : jv_Mem) : Prop :=
  (((0 : Int) ≤ x4 + 1 ∧ x4 + 1 < ((L : Nat) : Int)) ∧ (((0 : Int) ≤ x4 + 2 ∧ x4 + 2 < ((L : Nat) : Int)) ∧ (wp_L_judge (jv_sx xs (x4 + 1)) (jv_sx xs (x4 + 2)) (fun (r_1333 : Int) (g_1333 : jv_Mem) => (((0 : Int) ≤ x4 + 1 ∧ x4 + 1 < ((L : Nat) : Int)) ∧ (((0 : Int) ≤ x4 + 2 ∧ x4 + 2 < ((L : Nat) : Int)) ∧ (wp_X9_judge (jv_sx xs (x4 + 1)) (jv_sx xs (x4 + 2)) (fun (r_1351 : Int) (g_1351 : jv_Mem) => (wp_X9_thrown (fun (r_1357 : Int) (g_1357 : jv_Mem) => ((jv_r r_1357 ∧ jv_r r_1333) ∧ (r_1357 = r_1333 → ((jv_r r_1333) ∧ (¬ r_1333 = 0 → wB_LC_24_1384 KU g_1357) ∧ (r_1333 = 0 → (((0 : Int) ≤ 0 ∧ 0 < (1 : Int)) ∧ (jv_r r_1351 ∧ ((jv_r (g_1357 148 0) ∧ jv_r r_1351) ∧ ((g_1357 148 0) = r_1351 → wB_LC_24_1384 KU g_1357) ∧ (¬ (g_1357 148 0) = r_1351 → False))))))) ∧ (¬ r_1357 = r_1333 → False))) g_1351)) g_1333)))) g)))
set_option maxHeartbeats 4000000 in
set_option maxRecDepth 100000 in
theorem LC_24 {p : Program} {l : Launch} {e : Env} {m : MethodId} {below : List Frame} {meth : Method} {c : Code} {s0 : State} {b0 : Addr} {D : va_G} {ids : Nat → ClassId} {L : Nat} {xs : Nat → Int32} (hT : jv_T l s0 b0) (C : jv_C p s0 m #[Value.ref b0] c code RL s0 b0 D ids) (hml : 7 = c.maxLocals) (hX : va_X b0 L xs s0 s0.heap) (hbl : b0 < s0.heap.size) (hL : L ≤ 2560) {x4 : Int} (hx4 : 0 ≤ x4 ∧ x4 ≤ 2560) {KU : jv_Mem → Prop} (hU : ∀ g : jv_Mem, KU g → jv_V p l e room_1 s0 m #[Value.ref b0] below meth c (1000 + 4 * x4.toNat + 20) (50000 + 40 * x4.toNat + 200) (lw_Z below #[Value.ref b0] s0) s0 D ids none jv_SH g 1704 [some (.ref b0), some (.ref (s0.heap.size + (0 : Int).toNat)), some (.ref (s0.heap.size + (126 : Int).toNat)), some (.ref (s0.heap.size + (148 : Int).toNat)), some (jv_i x4), none, none] []) {g : jv_Mem} (h : wp_LC_24 xs L x4 KU g) : jv_V p l e room_1 s0 m #[Value.ref b0] below meth c (1000 + 4 * x4.toNat + 0) (50000 + 40 * x4.toNat + 0) (lw_Z below #[Value.ref b0] s0) s0 D ids none jv_SH g 1319 [some (.ref b0), some (.ref (s0.heap.size + (0 : Int).toNat)), some (.ref (s0.heap.size + (126 : Int).toNat)), some (.ref (s0.heap.size + (148 : Int).toNat)), some (jv_i x4), none, none] [] := by
  unfold wp_LC_24 at h
  refine jv_aload_n C dL_law_1319 rfl ?_
  refine jv_aload_n C dL_law_1320 rfl ?_
  refine jv_iload C dL_law_1321 rfl ?_
  refine jv_const C dL_law_1323 ?_
  refine jv_iadd C dL_law_1324 ?_
  obtain ⟨hb_1325, h⟩ := h
  refine jv_sld C hX hbl hL hb_1325 dL_law_1325 ?_
  refine jv_aload_n C dL_law_1326 rfl ?_
  refine jv_iload C dL_law_1327 rfl ?_
  refine jv_const C dL_law_1329 ?_
  refine jv_iadd C dL_law_1330 ?_
  obtain ⟨hb_1331, h⟩ := h
  refine jv_sld C hX hbl hL hb_1331 dL_law_1331 ?_
  refine jv_aload_n C dL_law_1332 rfl ?_
  refine jv_callSWi C (M_L_judge hT h) kw_L_185 rfl ⟨rfl, rfl⟩ (st := []) rfl rfl ⟨Nat.ble_eq_true_of_le (by show _ ≤ 601024; omega), Nat.ble_eq_true_of_le (by show _ ≤ 7293034; omega)⟩ dL_law_1333 (fun r_1333 g_1333 h => ?_)
  refine jv_istore (ls' := [some (.ref b0), some (.ref (s0.heap.size + (0 : Int).toNat)), some (.ref (s0.heap.size + (126 : Int).toNat)), some (.ref (s0.heap.size + (148 : Int).toNat)), some (jv_i x4), some (jv_i r_1333), none]) C dL_law_1336 (Nat.lt_of_lt_of_eq (Nat.le_of_ble_eq_true rfl) hml) rfl ?_
  refine jv_aload_n C dL_law_1338 rfl ?_
  refine jv_aload_n C dL_law_1339 rfl ?_
  refine jv_iload C dL_law_1340 rfl ?_
  refine jv_const C dL_law_1342 ?_
  refine jv_iadd C dL_law_1343 ?_
  obtain ⟨hb_1344, h⟩ := h
  refine jv_sld C hX hbl hL hb_1344 dL_law_1344 ?_
  refine jv_aload_n C dL_law_1345 rfl ?_
  refine jv_iload C dL_law_1346 rfl ?_
  refine jv_const C dL_law_1348 ?_
  refine jv_iadd C dL_law_1349 ?_
  obtain ⟨hb_1350, h⟩ := h
  refine jv_sld C hX hbl hL hb_1350 dL_law_1350 ?_
  refine jv_callVi C (M_X9_judge h) kw_L_187 sS_126 rfl rfl ⟨rfl, rfl⟩ (st := []) rfl rfl ⟨Nat.ble_eq_true_of_le (by show _ ≤ 601024; omega), Nat.ble_eq_true_of_le (by show _ ≤ 7293034; omega)⟩ dL_law_1351 (fun r_1351 g_1351 h => ?_)
  refine jv_istore (ls' := [some (.ref b0), some (.ref (s0.heap.size + (0 : Int).toNat)), some (.ref (s0.heap.size + (126 : Int).toNat)), some (.ref (s0.heap.size + (148 : Int).toNat)), some (jv_i x4), some (jv_i r_1333), some (jv_i r_1351)]) C dL_law_1354 (Nat.lt_of_lt_of_eq (Nat.le_of_ble_eq_true rfl) hml) rfl ?_
  refine jv_aload_n C dL_law_1356 rfl ?_
  refine jv_callVi C (M_X9_thrown h) kw_L_100 sS_126 rfl rfl ⟨rfl, rfl⟩ (st := []) rfl rfl ⟨Nat.ble_eq_true_of_le (by show _ ≤ 601024; omega), Nat.ble_eq_true_of_le (by show _ ≤ 7293034; omega)⟩ dL_law_1357 (fun r_1357 g_1357 h => ?_)
  refine jv_iload C dL_law_1360 rfl ?_
  obtain ⟨hr_1362, h1_1362, h2_1362⟩ := h
  refine jv_icmp_eq (tgt := 1367) C hr_1362.1 hr_1362.2 dL_law_1362 rfl (fun hc_1362 => ?_) (fun hc_1362 => ?_)
  · replace h := h1_1362 hc_1362
    refine jv_iload C dL_law_1367 rfl ?_
    have hJ1384 : ∀ (gj_1384 : jv_Mem), wB_LC_24_1384 KU gj_1384 → jv_V p l e room_1 s0 m #[Value.ref b0] below meth c (1000 + 4 * x4.toNat + 3) (50000 + 40 * x4.toNat + 18) (lw_Z below #[Value.ref b0] s0) s0 D ids none jv_SH gj_1384 1384 [some (.ref b0), some (.ref (s0.heap.size + (0 : Int).toNat)), some (.ref (s0.heap.size + (126 : Int).toNat)), some (.ref (s0.heap.size + (148 : Int).toNat)), some (jv_i x4), none, none] [] := by
      intro gj_1384 h
      unfold wB_LC_24_1384 at h
      refine jv_goto (tgt := 1704) C dL_law_1384 rfl ?_
      refine jv_wd (k := 1000 + 4 * x4.toNat + 20) (n := 50000 + 40 * x4.toNat + 200) (Nat.ble_eq_true_of_le (by omega)) (Nat.ble_eq_true_of_le (by omega)) ?_
      exact jv_less (ls' := [some (.ref b0), some (.ref (s0.heap.size + (0 : Int).toNat)), some (.ref (s0.heap.size + (126 : Int).toNat)), some (.ref (s0.heap.size + (148 : Int).toNat)), some (jv_i x4), none, none]) ⟨rfl, ⟨rfl, ⟨rfl, ⟨rfl, ⟨rfl, trivial⟩⟩⟩⟩⟩ (hU _ h)
    obtain ⟨hr_1369, h1_1369, h2_1369⟩ := h
    refine jv_if_ne (tgt := 1384) C hr_1369 dL_law_1369 rfl (fun hc_1369 => ?_) (fun hc_1369 => ?_)
    · replace h := h1_1369 hc_1369
      refine jv_wd (k := 1000 + 4 * x4.toNat + 3) (n := 50000 + 40 * x4.toNat + 18) (Nat.ble_eq_true_of_le (by omega)) (Nat.ble_eq_true_of_le (by omega)) ?_
      exact jv_less (ls' := [some (.ref b0), some (.ref (s0.heap.size + (0 : Int).toNat)), some (.ref (s0.heap.size + (126 : Int).toNat)), some (.ref (s0.heap.size + (148 : Int).toNat)), some (jv_i x4), none, none]) ⟨rfl, ⟨rfl, ⟨rfl, ⟨rfl, ⟨rfl, trivial⟩⟩⟩⟩⟩ (hJ1384 _ h)
    · replace h := h2_1369 hc_1369
      refine jv_aload_n C dL_law_1372 rfl ?_
      refine jv_const C dL_law_1373 ?_
      obtain ⟨hb_1374, h⟩ := h
      refine jv_lald C sS_148 rfl hb_1374 dL_law_1374 ?_
      refine jv_iload C dL_law_1375 rfl ?_
      obtain ⟨hr_1377, h⟩ := h
      refine jv_i2l C hr_1377 dL_law_1377 ?_
      obtain ⟨hr_1378, h1_1378, h2_1378⟩ := h
      refine jv_leq (tgt := 1384) C hr_1378.1 hr_1378.2 dL_law_1378 dL_law_1379 rfl (fun hc_1378 => ?_) (fun hc_1378 => ?_)
      · replace h := h1_1378 hc_1378
        refine jv_wd (k := 1000 + 4 * x4.toNat + 3) (n := 50000 + 40 * x4.toNat + 18) (Nat.ble_eq_true_of_le (by omega)) (Nat.ble_eq_true_of_le (by omega)) ?_
        exact jv_less (ls' := [some (.ref b0), some (.ref (s0.heap.size + (0 : Int).toNat)), some (.ref (s0.heap.size + (126 : Int).toNat)), some (.ref (s0.heap.size + (148 : Int).toNat)), some (jv_i x4), none, none]) ⟨rfl, ⟨rfl, ⟨rfl, ⟨rfl, ⟨rfl, trivial⟩⟩⟩⟩⟩ (hJ1384 _ h)
      · replace h := h2_1378 hc_1378
        exact h.elim
  · replace h := h2_1362 hc_1362
    exact h.elim

def wB_LC_25_1452 (KU : jv_Mem → Prop) (gj_1452 : jv_Mem) : Prop :=
  KU gj_1452
def wp_LC_25 (xs : Nat → Int32) (L : Nat) (x4 : Int) (KU : jv_Mem → Prop) (g : jv_Mem) : Prop :=
  (((0 : Int) ≤ x4 + 1 ∧ x4 + 1 < ((L : Nat) : Int)) ∧ (((0 : Int) ≤ x4 + 2 ∧ x4 + 2 < ((L : Nat) : Int)) ∧ (wp_L_solvedAt (jv_sx xs (x4 + 1)) (jv_sx xs (x4 + 2)) (fun (r_1401 : Int) (g_1401 : jv_Mem) => (((0 : Int) ≤ x4 + 1 ∧ x4 + 1 < ((L : Nat) : Int)) ∧ (((0 : Int) ≤ x4 + 2 ∧ x4 + 2 < ((L : Nat) : Int)) ∧ (wp_X9_solvedAt (jv_sx xs (x4 + 1)) (jv_sx xs (x4 + 2)) (fun (r_1419 : Int) (g_1419 : jv_Mem) => (wp_X9_thrown (fun (r_1425 : Int) (g_1425 : jv_Mem) => ((jv_r r_1425 ∧ jv_r r_1401) ∧ (r_1425 = r_1401 → ((jv_r r_1401) ∧ (¬ r_1401 = 0 → wB_LC_25_1452 KU g_1425) ∧ (r_1401 = 0 → (((0 : Int) ≤ 0 ∧ 0 < (1 : Int)) ∧ (jv_r r_1419 ∧ ((jv_r (g_1425 148 0) ∧ jv_r r_1419) ∧ ((g_1425 148 0) = r_1419 → wB_LC_25_1452 KU g_1425) ∧ (¬ (g_1425 148 0) = r_1419 → False))))))) ∧ (¬ r_1425 = r_1401 → False))) g_1419)) g_1401)))) g)))
set_option maxHeartbeats 4000000 in
set_option maxRecDepth 100000 in
theorem LC_25 {p : Program} {l : Launch} {e : Env} {m : MethodId} {below : List Frame} {meth : Method} {c : Code} {s0 : State} {b0 : Addr} {D : va_G} {ids : Nat → ClassId} {L : Nat} {xs : Nat → Int32} (hT : jv_T l s0 b0) (C : jv_C p s0 m #[Value.ref b0] c code RL s0 b0 D ids) (hml : 7 = c.maxLocals) (hX : va_X b0 L xs s0 s0.heap) (hbl : b0 < s0.heap.size) (hL : L ≤ 2560) {x4 : Int} (hx4 : 0 ≤ x4 ∧ x4 ≤ 2560) {KU : jv_Mem → Prop} (hU : ∀ g : jv_Mem, KU g → jv_V p l e room_1 s0 m #[Value.ref b0] below meth c (1000 + 4 * x4.toNat + 20) (50000 + 40 * x4.toNat + 200) (lw_Z below #[Value.ref b0] s0) s0 D ids none jv_SH g 1704 [some (.ref b0), some (.ref (s0.heap.size + (0 : Int).toNat)), some (.ref (s0.heap.size + (126 : Int).toNat)), some (.ref (s0.heap.size + (148 : Int).toNat)), some (jv_i x4), none, none] []) {g : jv_Mem} (h : wp_LC_25 xs L x4 KU g) : jv_V p l e room_1 s0 m #[Value.ref b0] below meth c (1000 + 4 * x4.toNat + 0) (50000 + 40 * x4.toNat + 0) (lw_Z below #[Value.ref b0] s0) s0 D ids none jv_SH g 1387 [some (.ref b0), some (.ref (s0.heap.size + (0 : Int).toNat)), some (.ref (s0.heap.size + (126 : Int).toNat)), some (.ref (s0.heap.size + (148 : Int).toNat)), some (jv_i x4), none, none] [] := by
  unfold wp_LC_25 at h
  refine jv_aload_n C dL_law_1387 rfl ?_
  refine jv_aload_n C dL_law_1388 rfl ?_
  refine jv_iload C dL_law_1389 rfl ?_
  refine jv_const C dL_law_1391 ?_
  refine jv_iadd C dL_law_1392 ?_
  obtain ⟨hb_1393, h⟩ := h
  refine jv_sld C hX hbl hL hb_1393 dL_law_1393 ?_
  refine jv_aload_n C dL_law_1394 rfl ?_
  refine jv_iload C dL_law_1395 rfl ?_
  refine jv_const C dL_law_1397 ?_
  refine jv_iadd C dL_law_1398 ?_
  obtain ⟨hb_1399, h⟩ := h
  refine jv_sld C hX hbl hL hb_1399 dL_law_1399 ?_
  refine jv_aload_n C dL_law_1400 rfl ?_
  refine jv_callSWi C (M_L_solvedAt hT h) kw_L_188 rfl ⟨rfl, rfl⟩ (st := []) rfl rfl ⟨Nat.ble_eq_true_of_le (by show _ ≤ 601024; omega), Nat.ble_eq_true_of_le (by show _ ≤ 7293034; omega)⟩ dL_law_1401 (fun r_1401 g_1401 h => ?_)
  refine jv_istore (ls' := [some (.ref b0), some (.ref (s0.heap.size + (0 : Int).toNat)), some (.ref (s0.heap.size + (126 : Int).toNat)), some (.ref (s0.heap.size + (148 : Int).toNat)), some (jv_i x4), some (jv_i r_1401), none]) C dL_law_1404 (Nat.lt_of_lt_of_eq (Nat.le_of_ble_eq_true rfl) hml) rfl ?_
  refine jv_aload_n C dL_law_1406 rfl ?_
  refine jv_aload_n C dL_law_1407 rfl ?_
  refine jv_iload C dL_law_1408 rfl ?_
  refine jv_const C dL_law_1410 ?_
  refine jv_iadd C dL_law_1411 ?_
  obtain ⟨hb_1412, h⟩ := h
  refine jv_sld C hX hbl hL hb_1412 dL_law_1412 ?_
  refine jv_aload_n C dL_law_1413 rfl ?_
  refine jv_iload C dL_law_1414 rfl ?_
  refine jv_const C dL_law_1416 ?_
  refine jv_iadd C dL_law_1417 ?_
  obtain ⟨hb_1418, h⟩ := h
  refine jv_sld C hX hbl hL hb_1418 dL_law_1418 ?_
  refine jv_callVi C (M_X9_solvedAt h) kw_L_190 sS_126 rfl rfl ⟨rfl, rfl⟩ (st := []) rfl rfl ⟨Nat.ble_eq_true_of_le (by show _ ≤ 601024; omega), Nat.ble_eq_true_of_le (by show _ ≤ 7293034; omega)⟩ dL_law_1419 (fun r_1419 g_1419 h => ?_)
  refine jv_istore (ls' := [some (.ref b0), some (.ref (s0.heap.size + (0 : Int).toNat)), some (.ref (s0.heap.size + (126 : Int).toNat)), some (.ref (s0.heap.size + (148 : Int).toNat)), some (jv_i x4), some (jv_i r_1401), some (jv_i r_1419)]) C dL_law_1422 (Nat.lt_of_lt_of_eq (Nat.le_of_ble_eq_true rfl) hml) rfl ?_
  refine jv_aload_n C dL_law_1424 rfl ?_
  refine jv_callVi C (M_X9_thrown h) kw_L_100 sS_126 rfl rfl ⟨rfl, rfl⟩ (st := []) rfl rfl ⟨Nat.ble_eq_true_of_le (by show _ ≤ 601024; omega), Nat.ble_eq_true_of_le (by show _ ≤ 7293034; omega)⟩ dL_law_1425 (fun r_1425 g_1425 h => ?_)
  refine jv_iload C dL_law_1428 rfl ?_
  obtain ⟨hr_1430, h1_1430, h2_1430⟩ := h
  refine jv_icmp_eq (tgt := 1435) C hr_1430.1 hr_1430.2 dL_law_1430 rfl (fun hc_1430 => ?_) (fun hc_1430 => ?_)
  · replace h := h1_1430 hc_1430
    refine jv_iload C dL_law_1435 rfl ?_
    have hJ1452 : ∀ (gj_1452 : jv_Mem), wB_LC_25_1452 KU gj_1452 → jv_V p l e room_1 s0 m #[Value.ref b0] below meth c (1000 + 4 * x4.toNat + 2) (50000 + 40 * x4.toNat + 12) (lw_Z below #[Value.ref b0] s0) s0 D ids none jv_SH gj_1452 1452 [some (.ref b0), some (.ref (s0.heap.size + (0 : Int).toNat)), some (.ref (s0.heap.size + (126 : Int).toNat)), some (.ref (s0.heap.size + (148 : Int).toNat)), some (jv_i x4), none, none] [] := by
      intro gj_1452 h
      unfold wB_LC_25_1452 at h
      refine jv_goto (tgt := 1704) C dL_law_1452 rfl ?_
      refine jv_wd (k := 1000 + 4 * x4.toNat + 20) (n := 50000 + 40 * x4.toNat + 200) (Nat.ble_eq_true_of_le (by omega)) (Nat.ble_eq_true_of_le (by omega)) ?_
      exact jv_less (ls' := [some (.ref b0), some (.ref (s0.heap.size + (0 : Int).toNat)), some (.ref (s0.heap.size + (126 : Int).toNat)), some (.ref (s0.heap.size + (148 : Int).toNat)), some (jv_i x4), none, none]) ⟨rfl, ⟨rfl, ⟨rfl, ⟨rfl, ⟨rfl, trivial⟩⟩⟩⟩⟩ (hU _ h)
    obtain ⟨hr_1437, h1_1437, h2_1437⟩ := h
    refine jv_if_ne (tgt := 1452) C hr_1437 dL_law_1437 rfl (fun hc_1437 => ?_) (fun hc_1437 => ?_)
    · replace h := h1_1437 hc_1437
      refine jv_wd (k := 1000 + 4 * x4.toNat + 2) (n := 50000 + 40 * x4.toNat + 12) (Nat.ble_eq_true_of_le (by omega)) (Nat.ble_eq_true_of_le (by omega)) ?_
      exact jv_less (ls' := [some (.ref b0), some (.ref (s0.heap.size + (0 : Int).toNat)), some (.ref (s0.heap.size + (126 : Int).toNat)), some (.ref (s0.heap.size + (148 : Int).toNat)), some (jv_i x4), none, none]) ⟨rfl, ⟨rfl, ⟨rfl, ⟨rfl, ⟨rfl, trivial⟩⟩⟩⟩⟩ (hJ1452 _ h)
    · replace h := h2_1437 hc_1437
      refine jv_aload_n C dL_law_1440 rfl ?_
      refine jv_const C dL_law_1441 ?_
      obtain ⟨hb_1442, h⟩ := h
      refine jv_lald C sS_148 rfl hb_1442 dL_law_1442 ?_
      refine jv_iload C dL_law_1443 rfl ?_
      obtain ⟨hr_1445, h⟩ := h
      refine jv_i2l C hr_1445 dL_law_1445 ?_
      obtain ⟨hr_1446, h1_1446, h2_1446⟩ := h
      refine jv_leq (tgt := 1452) C hr_1446.1 hr_1446.2 dL_law_1446 dL_law_1447 rfl (fun hc_1446 => ?_) (fun hc_1446 => ?_)
      · replace h := h1_1446 hc_1446
        refine jv_wd (k := 1000 + 4 * x4.toNat + 2) (n := 50000 + 40 * x4.toNat + 12) (Nat.ble_eq_true_of_le (by omega)) (Nat.ble_eq_true_of_le (by omega)) ?_
        exact jv_less (ls' := [some (.ref b0), some (.ref (s0.heap.size + (0 : Int).toNat)), some (.ref (s0.heap.size + (126 : Int).toNat)), some (.ref (s0.heap.size + (148 : Int).toNat)), some (jv_i x4), none, none]) ⟨rfl, ⟨rfl, ⟨rfl, ⟨rfl, ⟨rfl, trivial⟩⟩⟩⟩⟩ (hJ1452 _ h)
      · replace h := h2_1446 hc_1446
        exact h.elim
  · replace h := h2_1430 hc_1430
    exact h.elim

def wB_LC_26_1508 (KU : jv_Mem → Prop) (gj_1508 : jv_Mem) : Prop :=
  KU gj_1508
def wp_LC_26 (xs : Nat → Int32) (L : Nat) (x4 : Int) (KU : jv_Mem → Prop) (g : jv_Mem) : Prop :=
  (((0 : Int) ≤ x4 + 1 ∧ x4 + 1 < ((L : Nat) : Int)) ∧ (wp_L_open (jv_sx xs (x4 + 1)) (fun (r_1463 : Int) (g_1463 : jv_Mem) => (((0 : Int) ≤ x4 + 1 ∧ x4 + 1 < ((L : Nat) : Int)) ∧ (wp_X9_open (jv_sx xs (x4 + 1)) (fun (r_1475 : Int) (g_1475 : jv_Mem) => (wp_X9_thrown (fun (r_1481 : Int) (g_1481 : jv_Mem) => ((jv_r r_1481 ∧ jv_r r_1463) ∧ (r_1481 = r_1463 → ((jv_r r_1463) ∧ (¬ r_1463 = 0 → wB_LC_26_1508 KU g_1481) ∧ (r_1463 = 0 → (((0 : Int) ≤ 0 ∧ 0 < (1 : Int)) ∧ (jv_r r_1475 ∧ ((jv_r (g_1481 148 0) ∧ jv_r r_1475) ∧ ((g_1481 148 0) = r_1475 → wB_LC_26_1508 KU g_1481) ∧ (¬ (g_1481 148 0) = r_1475 → False))))))) ∧ (¬ r_1481 = r_1463 → False))) g_1475)) g_1463))) g))
set_option maxHeartbeats 4000000 in
set_option maxRecDepth 100000 in
theorem LC_26 {p : Program} {l : Launch} {e : Env} {m : MethodId} {below : List Frame} {meth : Method} {c : Code} {s0 : State} {b0 : Addr} {D : va_G} {ids : Nat → ClassId} {L : Nat} {xs : Nat → Int32} (hT : jv_T l s0 b0) (C : jv_C p s0 m #[Value.ref b0] c code RL s0 b0 D ids) (hml : 7 = c.maxLocals) (hX : va_X b0 L xs s0 s0.heap) (hbl : b0 < s0.heap.size) (hL : L ≤ 2560) {x4 : Int} (hx4 : 0 ≤ x4 ∧ x4 ≤ 2560) {KU : jv_Mem → Prop} (hU : ∀ g : jv_Mem, KU g → jv_V p l e room_1 s0 m #[Value.ref b0] below meth c (1000 + 4 * x4.toNat + 20) (50000 + 40 * x4.toNat + 200) (lw_Z below #[Value.ref b0] s0) s0 D ids none jv_SH g 1704 [some (.ref b0), some (.ref (s0.heap.size + (0 : Int).toNat)), some (.ref (s0.heap.size + (126 : Int).toNat)), some (.ref (s0.heap.size + (148 : Int).toNat)), some (jv_i x4), none, none] []) {g : jv_Mem} (h : wp_LC_26 xs L x4 KU g) : jv_V p l e room_1 s0 m #[Value.ref b0] below meth c (1000 + 4 * x4.toNat + 0) (50000 + 40 * x4.toNat + 0) (lw_Z below #[Value.ref b0] s0) s0 D ids none jv_SH g 1455 [some (.ref b0), some (.ref (s0.heap.size + (0 : Int).toNat)), some (.ref (s0.heap.size + (126 : Int).toNat)), some (.ref (s0.heap.size + (148 : Int).toNat)), some (jv_i x4), none, none] [] := by
  unfold wp_LC_26 at h
  refine jv_aload_n C dL_law_1455 rfl ?_
  refine jv_aload_n C dL_law_1456 rfl ?_
  refine jv_iload C dL_law_1457 rfl ?_
  refine jv_const C dL_law_1459 ?_
  refine jv_iadd C dL_law_1460 ?_
  obtain ⟨hb_1461, h⟩ := h
  refine jv_sld C hX hbl hL hb_1461 dL_law_1461 ?_
  refine jv_aload_n C dL_law_1462 rfl ?_
  refine jv_callSWi C (M_L_open hT h) kw_L_191 rfl ⟨rfl, rfl⟩ (st := []) rfl rfl ⟨Nat.ble_eq_true_of_le (by show _ ≤ 601024; omega), Nat.ble_eq_true_of_le (by show _ ≤ 7293034; omega)⟩ dL_law_1463 (fun r_1463 g_1463 h => ?_)
  refine jv_istore (ls' := [some (.ref b0), some (.ref (s0.heap.size + (0 : Int).toNat)), some (.ref (s0.heap.size + (126 : Int).toNat)), some (.ref (s0.heap.size + (148 : Int).toNat)), some (jv_i x4), some (jv_i r_1463), none]) C dL_law_1466 (Nat.lt_of_lt_of_eq (Nat.le_of_ble_eq_true rfl) hml) rfl ?_
  refine jv_aload_n C dL_law_1468 rfl ?_
  refine jv_aload_n C dL_law_1469 rfl ?_
  refine jv_iload C dL_law_1470 rfl ?_
  refine jv_const C dL_law_1472 ?_
  refine jv_iadd C dL_law_1473 ?_
  obtain ⟨hb_1474, h⟩ := h
  refine jv_sld C hX hbl hL hb_1474 dL_law_1474 ?_
  refine jv_callVi C (M_X9_open h) kw_L_193 sS_126 rfl rfl ⟨rfl, rfl⟩ (st := []) rfl rfl ⟨Nat.ble_eq_true_of_le (by show _ ≤ 601024; omega), Nat.ble_eq_true_of_le (by show _ ≤ 7293034; omega)⟩ dL_law_1475 (fun r_1475 g_1475 h => ?_)
  refine jv_istore (ls' := [some (.ref b0), some (.ref (s0.heap.size + (0 : Int).toNat)), some (.ref (s0.heap.size + (126 : Int).toNat)), some (.ref (s0.heap.size + (148 : Int).toNat)), some (jv_i x4), some (jv_i r_1463), some (jv_i r_1475)]) C dL_law_1478 (Nat.lt_of_lt_of_eq (Nat.le_of_ble_eq_true rfl) hml) rfl ?_
  refine jv_aload_n C dL_law_1480 rfl ?_
  refine jv_callVi C (M_X9_thrown h) kw_L_100 sS_126 rfl rfl ⟨rfl, rfl⟩ (st := []) rfl rfl ⟨Nat.ble_eq_true_of_le (by show _ ≤ 601024; omega), Nat.ble_eq_true_of_le (by show _ ≤ 7293034; omega)⟩ dL_law_1481 (fun r_1481 g_1481 h => ?_)
  refine jv_iload C dL_law_1484 rfl ?_
  obtain ⟨hr_1486, h1_1486, h2_1486⟩ := h
  refine jv_icmp_eq (tgt := 1491) C hr_1486.1 hr_1486.2 dL_law_1486 rfl (fun hc_1486 => ?_) (fun hc_1486 => ?_)
  · replace h := h1_1486 hc_1486
    refine jv_iload C dL_law_1491 rfl ?_
    have hJ1508 : ∀ (gj_1508 : jv_Mem), wB_LC_26_1508 KU gj_1508 → jv_V p l e room_1 s0 m #[Value.ref b0] below meth c (1000 + 4 * x4.toNat + 1) (50000 + 40 * x4.toNat + 6) (lw_Z below #[Value.ref b0] s0) s0 D ids none jv_SH gj_1508 1508 [some (.ref b0), some (.ref (s0.heap.size + (0 : Int).toNat)), some (.ref (s0.heap.size + (126 : Int).toNat)), some (.ref (s0.heap.size + (148 : Int).toNat)), some (jv_i x4), none, none] [] := by
      intro gj_1508 h
      unfold wB_LC_26_1508 at h
      refine jv_goto (tgt := 1704) C dL_law_1508 rfl ?_
      refine jv_wd (k := 1000 + 4 * x4.toNat + 20) (n := 50000 + 40 * x4.toNat + 200) (Nat.ble_eq_true_of_le (by omega)) (Nat.ble_eq_true_of_le (by omega)) ?_
      exact jv_less (ls' := [some (.ref b0), some (.ref (s0.heap.size + (0 : Int).toNat)), some (.ref (s0.heap.size + (126 : Int).toNat)), some (.ref (s0.heap.size + (148 : Int).toNat)), some (jv_i x4), none, none]) ⟨rfl, ⟨rfl, ⟨rfl, ⟨rfl, ⟨rfl, trivial⟩⟩⟩⟩⟩ (hU _ h)
    obtain ⟨hr_1493, h1_1493, h2_1493⟩ := h
    refine jv_if_ne (tgt := 1508) C hr_1493 dL_law_1493 rfl (fun hc_1493 => ?_) (fun hc_1493 => ?_)
    · replace h := h1_1493 hc_1493
      refine jv_wd (k := 1000 + 4 * x4.toNat + 1) (n := 50000 + 40 * x4.toNat + 6) (Nat.ble_eq_true_of_le (by omega)) (Nat.ble_eq_true_of_le (by omega)) ?_
      exact jv_less (ls' := [some (.ref b0), some (.ref (s0.heap.size + (0 : Int).toNat)), some (.ref (s0.heap.size + (126 : Int).toNat)), some (.ref (s0.heap.size + (148 : Int).toNat)), some (jv_i x4), none, none]) ⟨rfl, ⟨rfl, ⟨rfl, ⟨rfl, ⟨rfl, trivial⟩⟩⟩⟩⟩ (hJ1508 _ h)
    · replace h := h2_1493 hc_1493
      refine jv_aload_n C dL_law_1496 rfl ?_
      refine jv_const C dL_law_1497 ?_
      obtain ⟨hb_1498, h⟩ := h
      refine jv_lald C sS_148 rfl hb_1498 dL_law_1498 ?_
      refine jv_iload C dL_law_1499 rfl ?_
      obtain ⟨hr_1501, h⟩ := h
      refine jv_i2l C hr_1501 dL_law_1501 ?_
      obtain ⟨hr_1502, h1_1502, h2_1502⟩ := h
      refine jv_leq (tgt := 1508) C hr_1502.1 hr_1502.2 dL_law_1502 dL_law_1503 rfl (fun hc_1502 => ?_) (fun hc_1502 => ?_)
      · replace h := h1_1502 hc_1502
        refine jv_wd (k := 1000 + 4 * x4.toNat + 1) (n := 50000 + 40 * x4.toNat + 6) (Nat.ble_eq_true_of_le (by omega)) (Nat.ble_eq_true_of_le (by omega)) ?_
        exact jv_less (ls' := [some (.ref b0), some (.ref (s0.heap.size + (0 : Int).toNat)), some (.ref (s0.heap.size + (126 : Int).toNat)), some (.ref (s0.heap.size + (148 : Int).toNat)), some (jv_i x4), none, none]) ⟨rfl, ⟨rfl, ⟨rfl, ⟨rfl, ⟨rfl, trivial⟩⟩⟩⟩⟩ (hJ1508 _ h)
      · replace h := h2_1502 hc_1502
        exact h.elim
  · replace h := h2_1486 hc_1486
    exact h.elim

def wB_LC_27_1564 (KU : jv_Mem → Prop) (gj_1564 : jv_Mem) : Prop :=
  KU gj_1564
def wp_LC_27 (xs : Nat → Int32) (L : Nat) (x4 : Int) (KU : jv_Mem → Prop) (g : jv_Mem) : Prop :=
  (((0 : Int) ≤ x4 + 1 ∧ x4 + 1 < ((L : Nat) : Int)) ∧ (wp_L_coins (jv_sx xs (x4 + 1)) (fun (r_1519 : Int) (g_1519 : jv_Mem) => (((0 : Int) ≤ x4 + 1 ∧ x4 + 1 < ((L : Nat) : Int)) ∧ (wp_X9_coins (jv_sx xs (x4 + 1)) (fun (r_1531 : Int) (g_1531 : jv_Mem) => (wp_X9_thrown (fun (r_1537 : Int) (g_1537 : jv_Mem) => ((jv_r r_1537 ∧ jv_r r_1519) ∧ (r_1537 = r_1519 → ((jv_r r_1519) ∧ (¬ r_1519 = 0 → wB_LC_27_1564 KU g_1537) ∧ (r_1519 = 0 → (((0 : Int) ≤ 0 ∧ 0 < (1 : Int)) ∧ (jv_r r_1531 ∧ ((jv_r (g_1537 148 0) ∧ jv_r r_1531) ∧ ((g_1537 148 0) = r_1531 → wB_LC_27_1564 KU g_1537) ∧ (¬ (g_1537 148 0) = r_1531 → False))))))) ∧ (¬ r_1537 = r_1519 → False))) g_1531)) g_1519))) g))
set_option maxHeartbeats 4000000 in
set_option maxRecDepth 100000 in
theorem LC_27 {p : Program} {l : Launch} {e : Env} {m : MethodId} {below : List Frame} {meth : Method} {c : Code} {s0 : State} {b0 : Addr} {D : va_G} {ids : Nat → ClassId} {L : Nat} {xs : Nat → Int32} (hT : jv_T l s0 b0) (C : jv_C p s0 m #[Value.ref b0] c code RL s0 b0 D ids) (hml : 7 = c.maxLocals) (hX : va_X b0 L xs s0 s0.heap) (hbl : b0 < s0.heap.size) (hL : L ≤ 2560) {x4 : Int} (hx4 : 0 ≤ x4 ∧ x4 ≤ 2560) {KU : jv_Mem → Prop} (hU : ∀ g : jv_Mem, KU g → jv_V p l e room_1 s0 m #[Value.ref b0] below meth c (1000 + 4 * x4.toNat + 20) (50000 + 40 * x4.toNat + 200) (lw_Z below #[Value.ref b0] s0) s0 D ids none jv_SH g 1704 [some (.ref b0), some (.ref (s0.heap.size + (0 : Int).toNat)), some (.ref (s0.heap.size + (126 : Int).toNat)), some (.ref (s0.heap.size + (148 : Int).toNat)), some (jv_i x4), none, none] []) {g : jv_Mem} (h : wp_LC_27 xs L x4 KU g) : jv_V p l e room_1 s0 m #[Value.ref b0] below meth c (1000 + 4 * x4.toNat + 0) (50000 + 40 * x4.toNat + 0) (lw_Z below #[Value.ref b0] s0) s0 D ids none jv_SH g 1511 [some (.ref b0), some (.ref (s0.heap.size + (0 : Int).toNat)), some (.ref (s0.heap.size + (126 : Int).toNat)), some (.ref (s0.heap.size + (148 : Int).toNat)), some (jv_i x4), none, none] [] := by
  unfold wp_LC_27 at h
  refine jv_aload_n C dL_law_1511 rfl ?_
  refine jv_aload_n C dL_law_1512 rfl ?_
  refine jv_iload C dL_law_1513 rfl ?_
  refine jv_const C dL_law_1515 ?_
  refine jv_iadd C dL_law_1516 ?_
  obtain ⟨hb_1517, h⟩ := h
  refine jv_sld C hX hbl hL hb_1517 dL_law_1517 ?_
  refine jv_aload_n C dL_law_1518 rfl ?_
  refine jv_callSWi C (M_L_coins hT h) kw_L_194 rfl ⟨rfl, rfl⟩ (st := []) rfl rfl ⟨Nat.ble_eq_true_of_le (by show _ ≤ 601024; omega), Nat.ble_eq_true_of_le (by show _ ≤ 7293034; omega)⟩ dL_law_1519 (fun r_1519 g_1519 h => ?_)
  refine jv_istore (ls' := [some (.ref b0), some (.ref (s0.heap.size + (0 : Int).toNat)), some (.ref (s0.heap.size + (126 : Int).toNat)), some (.ref (s0.heap.size + (148 : Int).toNat)), some (jv_i x4), some (jv_i r_1519), none]) C dL_law_1522 (Nat.lt_of_lt_of_eq (Nat.le_of_ble_eq_true rfl) hml) rfl ?_
  refine jv_aload_n C dL_law_1524 rfl ?_
  refine jv_aload_n C dL_law_1525 rfl ?_
  refine jv_iload C dL_law_1526 rfl ?_
  refine jv_const C dL_law_1528 ?_
  refine jv_iadd C dL_law_1529 ?_
  obtain ⟨hb_1530, h⟩ := h
  refine jv_sld C hX hbl hL hb_1530 dL_law_1530 ?_
  refine jv_callVi C (M_X9_coins h) kw_L_196 sS_126 rfl rfl ⟨rfl, rfl⟩ (st := []) rfl rfl ⟨Nat.ble_eq_true_of_le (by show _ ≤ 601024; omega), Nat.ble_eq_true_of_le (by show _ ≤ 7293034; omega)⟩ dL_law_1531 (fun r_1531 g_1531 h => ?_)
  refine jv_istore (ls' := [some (.ref b0), some (.ref (s0.heap.size + (0 : Int).toNat)), some (.ref (s0.heap.size + (126 : Int).toNat)), some (.ref (s0.heap.size + (148 : Int).toNat)), some (jv_i x4), some (jv_i r_1519), some (jv_i r_1531)]) C dL_law_1534 (Nat.lt_of_lt_of_eq (Nat.le_of_ble_eq_true rfl) hml) rfl ?_
  refine jv_aload_n C dL_law_1536 rfl ?_
  refine jv_callVi C (M_X9_thrown h) kw_L_100 sS_126 rfl rfl ⟨rfl, rfl⟩ (st := []) rfl rfl ⟨Nat.ble_eq_true_of_le (by show _ ≤ 601024; omega), Nat.ble_eq_true_of_le (by show _ ≤ 7293034; omega)⟩ dL_law_1537 (fun r_1537 g_1537 h => ?_)
  refine jv_iload C dL_law_1540 rfl ?_
  obtain ⟨hr_1542, h1_1542, h2_1542⟩ := h
  refine jv_icmp_eq (tgt := 1547) C hr_1542.1 hr_1542.2 dL_law_1542 rfl (fun hc_1542 => ?_) (fun hc_1542 => ?_)
  · replace h := h1_1542 hc_1542
    refine jv_iload C dL_law_1547 rfl ?_
    have hJ1564 : ∀ (gj_1564 : jv_Mem), wB_LC_27_1564 KU gj_1564 → jv_V p l e room_1 s0 m #[Value.ref b0] below meth c (1000 + 4 * x4.toNat + 1) (50000 + 40 * x4.toNat + 6) (lw_Z below #[Value.ref b0] s0) s0 D ids none jv_SH gj_1564 1564 [some (.ref b0), some (.ref (s0.heap.size + (0 : Int).toNat)), some (.ref (s0.heap.size + (126 : Int).toNat)), some (.ref (s0.heap.size + (148 : Int).toNat)), some (jv_i x4), none, none] [] := by
      intro gj_1564 h
      unfold wB_LC_27_1564 at h
      refine jv_goto (tgt := 1704) C dL_law_1564 rfl ?_
      refine jv_wd (k := 1000 + 4 * x4.toNat + 20) (n := 50000 + 40 * x4.toNat + 200) (Nat.ble_eq_true_of_le (by omega)) (Nat.ble_eq_true_of_le (by omega)) ?_
      exact jv_less (ls' := [some (.ref b0), some (.ref (s0.heap.size + (0 : Int).toNat)), some (.ref (s0.heap.size + (126 : Int).toNat)), some (.ref (s0.heap.size + (148 : Int).toNat)), some (jv_i x4), none, none]) ⟨rfl, ⟨rfl, ⟨rfl, ⟨rfl, ⟨rfl, trivial⟩⟩⟩⟩⟩ (hU _ h)
    obtain ⟨hr_1549, h1_1549, h2_1549⟩ := h
    refine jv_if_ne (tgt := 1564) C hr_1549 dL_law_1549 rfl (fun hc_1549 => ?_) (fun hc_1549 => ?_)
    · replace h := h1_1549 hc_1549
      refine jv_wd (k := 1000 + 4 * x4.toNat + 1) (n := 50000 + 40 * x4.toNat + 6) (Nat.ble_eq_true_of_le (by omega)) (Nat.ble_eq_true_of_le (by omega)) ?_
      exact jv_less (ls' := [some (.ref b0), some (.ref (s0.heap.size + (0 : Int).toNat)), some (.ref (s0.heap.size + (126 : Int).toNat)), some (.ref (s0.heap.size + (148 : Int).toNat)), some (jv_i x4), none, none]) ⟨rfl, ⟨rfl, ⟨rfl, ⟨rfl, ⟨rfl, trivial⟩⟩⟩⟩⟩ (hJ1564 _ h)
    · replace h := h2_1549 hc_1549
      refine jv_aload_n C dL_law_1552 rfl ?_
      refine jv_const C dL_law_1553 ?_
      obtain ⟨hb_1554, h⟩ := h
      refine jv_lald C sS_148 rfl hb_1554 dL_law_1554 ?_
      refine jv_iload C dL_law_1555 rfl ?_
      obtain ⟨hr_1557, h⟩ := h
      refine jv_i2l C hr_1557 dL_law_1557 ?_
      obtain ⟨hr_1558, h1_1558, h2_1558⟩ := h
      refine jv_leq (tgt := 1564) C hr_1558.1 hr_1558.2 dL_law_1558 dL_law_1559 rfl (fun hc_1558 => ?_) (fun hc_1558 => ?_)
      · replace h := h1_1558 hc_1558
        refine jv_wd (k := 1000 + 4 * x4.toNat + 1) (n := 50000 + 40 * x4.toNat + 6) (Nat.ble_eq_true_of_le (by omega)) (Nat.ble_eq_true_of_le (by omega)) ?_
        exact jv_less (ls' := [some (.ref b0), some (.ref (s0.heap.size + (0 : Int).toNat)), some (.ref (s0.heap.size + (126 : Int).toNat)), some (.ref (s0.heap.size + (148 : Int).toNat)), some (jv_i x4), none, none]) ⟨rfl, ⟨rfl, ⟨rfl, ⟨rfl, ⟨rfl, trivial⟩⟩⟩⟩⟩ (hJ1564 _ h)
      · replace h := h2_1558 hc_1558
        exact h.elim
  · replace h := h2_1542 hc_1542
    exact h.elim

def wB_LC_28_1620 (KU : jv_Mem → Prop) (gj_1620 : jv_Mem) : Prop :=
  KU gj_1620
def wp_LC_28 (xs : Nat → Int32) (L : Nat) (x4 : Int) (KU : jv_Mem → Prop) (g : jv_Mem) : Prop :=
  (((0 : Int) ≤ x4 + 1 ∧ x4 + 1 < ((L : Nat) : Int)) ∧ (wp_L_streak (jv_sx xs (x4 + 1)) (fun (r_1575 : Int) (g_1575 : jv_Mem) => (((0 : Int) ≤ x4 + 1 ∧ x4 + 1 < ((L : Nat) : Int)) ∧ (wp_X9_streak (jv_sx xs (x4 + 1)) (fun (r_1587 : Int) (g_1587 : jv_Mem) => (wp_X9_thrown (fun (r_1593 : Int) (g_1593 : jv_Mem) => ((jv_r r_1593 ∧ jv_r r_1575) ∧ (r_1593 = r_1575 → ((jv_r r_1575) ∧ (¬ r_1575 = 0 → wB_LC_28_1620 KU g_1593) ∧ (r_1575 = 0 → (((0 : Int) ≤ 0 ∧ 0 < (1 : Int)) ∧ (jv_r r_1587 ∧ ((jv_r (g_1593 148 0) ∧ jv_r r_1587) ∧ ((g_1593 148 0) = r_1587 → wB_LC_28_1620 KU g_1593) ∧ (¬ (g_1593 148 0) = r_1587 → False))))))) ∧ (¬ r_1593 = r_1575 → False))) g_1587)) g_1575))) g))
set_option maxHeartbeats 4000000 in
set_option maxRecDepth 100000 in
theorem LC_28 {p : Program} {l : Launch} {e : Env} {m : MethodId} {below : List Frame} {meth : Method} {c : Code} {s0 : State} {b0 : Addr} {D : va_G} {ids : Nat → ClassId} {L : Nat} {xs : Nat → Int32} (hT : jv_T l s0 b0) (C : jv_C p s0 m #[Value.ref b0] c code RL s0 b0 D ids) (hml : 7 = c.maxLocals) (hX : va_X b0 L xs s0 s0.heap) (hbl : b0 < s0.heap.size) (hL : L ≤ 2560) {x4 : Int} (hx4 : 0 ≤ x4 ∧ x4 ≤ 2560) {KU : jv_Mem → Prop} (hU : ∀ g : jv_Mem, KU g → jv_V p l e room_1 s0 m #[Value.ref b0] below meth c (1000 + 4 * x4.toNat + 20) (50000 + 40 * x4.toNat + 200) (lw_Z below #[Value.ref b0] s0) s0 D ids none jv_SH g 1704 [some (.ref b0), some (.ref (s0.heap.size + (0 : Int).toNat)), some (.ref (s0.heap.size + (126 : Int).toNat)), some (.ref (s0.heap.size + (148 : Int).toNat)), some (jv_i x4), none, none] []) {g : jv_Mem} (h : wp_LC_28 xs L x4 KU g) : jv_V p l e room_1 s0 m #[Value.ref b0] below meth c (1000 + 4 * x4.toNat + 0) (50000 + 40 * x4.toNat + 0) (lw_Z below #[Value.ref b0] s0) s0 D ids none jv_SH g 1567 [some (.ref b0), some (.ref (s0.heap.size + (0 : Int).toNat)), some (.ref (s0.heap.size + (126 : Int).toNat)), some (.ref (s0.heap.size + (148 : Int).toNat)), some (jv_i x4), none, none] [] := by
  unfold wp_LC_28 at h
  refine jv_aload_n C dL_law_1567 rfl ?_
  refine jv_aload_n C dL_law_1568 rfl ?_
  refine jv_iload C dL_law_1569 rfl ?_
  refine jv_const C dL_law_1571 ?_
  refine jv_iadd C dL_law_1572 ?_
  obtain ⟨hb_1573, h⟩ := h
  refine jv_sld C hX hbl hL hb_1573 dL_law_1573 ?_
  refine jv_aload_n C dL_law_1574 rfl ?_
  refine jv_callSWi C (M_L_streak hT h) kw_L_197 rfl ⟨rfl, rfl⟩ (st := []) rfl rfl ⟨Nat.ble_eq_true_of_le (by show _ ≤ 601024; omega), Nat.ble_eq_true_of_le (by show _ ≤ 7293034; omega)⟩ dL_law_1575 (fun r_1575 g_1575 h => ?_)
  refine jv_istore (ls' := [some (.ref b0), some (.ref (s0.heap.size + (0 : Int).toNat)), some (.ref (s0.heap.size + (126 : Int).toNat)), some (.ref (s0.heap.size + (148 : Int).toNat)), some (jv_i x4), some (jv_i r_1575), none]) C dL_law_1578 (Nat.lt_of_lt_of_eq (Nat.le_of_ble_eq_true rfl) hml) rfl ?_
  refine jv_aload_n C dL_law_1580 rfl ?_
  refine jv_aload_n C dL_law_1581 rfl ?_
  refine jv_iload C dL_law_1582 rfl ?_
  refine jv_const C dL_law_1584 ?_
  refine jv_iadd C dL_law_1585 ?_
  obtain ⟨hb_1586, h⟩ := h
  refine jv_sld C hX hbl hL hb_1586 dL_law_1586 ?_
  refine jv_callVi C (M_X9_streak h) kw_L_199 sS_126 rfl rfl ⟨rfl, rfl⟩ (st := []) rfl rfl ⟨Nat.ble_eq_true_of_le (by show _ ≤ 601024; omega), Nat.ble_eq_true_of_le (by show _ ≤ 7293034; omega)⟩ dL_law_1587 (fun r_1587 g_1587 h => ?_)
  refine jv_istore (ls' := [some (.ref b0), some (.ref (s0.heap.size + (0 : Int).toNat)), some (.ref (s0.heap.size + (126 : Int).toNat)), some (.ref (s0.heap.size + (148 : Int).toNat)), some (jv_i x4), some (jv_i r_1575), some (jv_i r_1587)]) C dL_law_1590 (Nat.lt_of_lt_of_eq (Nat.le_of_ble_eq_true rfl) hml) rfl ?_
  refine jv_aload_n C dL_law_1592 rfl ?_
  refine jv_callVi C (M_X9_thrown h) kw_L_100 sS_126 rfl rfl ⟨rfl, rfl⟩ (st := []) rfl rfl ⟨Nat.ble_eq_true_of_le (by show _ ≤ 601024; omega), Nat.ble_eq_true_of_le (by show _ ≤ 7293034; omega)⟩ dL_law_1593 (fun r_1593 g_1593 h => ?_)
  refine jv_iload C dL_law_1596 rfl ?_
  obtain ⟨hr_1598, h1_1598, h2_1598⟩ := h
  refine jv_icmp_eq (tgt := 1603) C hr_1598.1 hr_1598.2 dL_law_1598 rfl (fun hc_1598 => ?_) (fun hc_1598 => ?_)
  · replace h := h1_1598 hc_1598
    refine jv_iload C dL_law_1603 rfl ?_
    have hJ1620 : ∀ (gj_1620 : jv_Mem), wB_LC_28_1620 KU gj_1620 → jv_V p l e room_1 s0 m #[Value.ref b0] below meth c (1000 + 4 * x4.toNat + 1) (50000 + 40 * x4.toNat + 6) (lw_Z below #[Value.ref b0] s0) s0 D ids none jv_SH gj_1620 1620 [some (.ref b0), some (.ref (s0.heap.size + (0 : Int).toNat)), some (.ref (s0.heap.size + (126 : Int).toNat)), some (.ref (s0.heap.size + (148 : Int).toNat)), some (jv_i x4), none, none] [] := by
      intro gj_1620 h
      unfold wB_LC_28_1620 at h
      refine jv_goto (tgt := 1704) C dL_law_1620 rfl ?_
      refine jv_wd (k := 1000 + 4 * x4.toNat + 20) (n := 50000 + 40 * x4.toNat + 200) (Nat.ble_eq_true_of_le (by omega)) (Nat.ble_eq_true_of_le (by omega)) ?_
      exact jv_less (ls' := [some (.ref b0), some (.ref (s0.heap.size + (0 : Int).toNat)), some (.ref (s0.heap.size + (126 : Int).toNat)), some (.ref (s0.heap.size + (148 : Int).toNat)), some (jv_i x4), none, none]) ⟨rfl, ⟨rfl, ⟨rfl, ⟨rfl, ⟨rfl, trivial⟩⟩⟩⟩⟩ (hU _ h)
    obtain ⟨hr_1605, h1_1605, h2_1605⟩ := h
    refine jv_if_ne (tgt := 1620) C hr_1605 dL_law_1605 rfl (fun hc_1605 => ?_) (fun hc_1605 => ?_)
    · replace h := h1_1605 hc_1605
      refine jv_wd (k := 1000 + 4 * x4.toNat + 1) (n := 50000 + 40 * x4.toNat + 6) (Nat.ble_eq_true_of_le (by omega)) (Nat.ble_eq_true_of_le (by omega)) ?_
      exact jv_less (ls' := [some (.ref b0), some (.ref (s0.heap.size + (0 : Int).toNat)), some (.ref (s0.heap.size + (126 : Int).toNat)), some (.ref (s0.heap.size + (148 : Int).toNat)), some (jv_i x4), none, none]) ⟨rfl, ⟨rfl, ⟨rfl, ⟨rfl, ⟨rfl, trivial⟩⟩⟩⟩⟩ (hJ1620 _ h)
    · replace h := h2_1605 hc_1605
      refine jv_aload_n C dL_law_1608 rfl ?_
      refine jv_const C dL_law_1609 ?_
      obtain ⟨hb_1610, h⟩ := h
      refine jv_lald C sS_148 rfl hb_1610 dL_law_1610 ?_
      refine jv_iload C dL_law_1611 rfl ?_
      obtain ⟨hr_1613, h⟩ := h
      refine jv_i2l C hr_1613 dL_law_1613 ?_
      obtain ⟨hr_1614, h1_1614, h2_1614⟩ := h
      refine jv_leq (tgt := 1620) C hr_1614.1 hr_1614.2 dL_law_1614 dL_law_1615 rfl (fun hc_1614 => ?_) (fun hc_1614 => ?_)
      · replace h := h1_1614 hc_1614
        refine jv_wd (k := 1000 + 4 * x4.toNat + 1) (n := 50000 + 40 * x4.toNat + 6) (Nat.ble_eq_true_of_le (by omega)) (Nat.ble_eq_true_of_le (by omega)) ?_
        exact jv_less (ls' := [some (.ref b0), some (.ref (s0.heap.size + (0 : Int).toNat)), some (.ref (s0.heap.size + (126 : Int).toNat)), some (.ref (s0.heap.size + (148 : Int).toNat)), some (jv_i x4), none, none]) ⟨rfl, ⟨rfl, ⟨rfl, ⟨rfl, ⟨rfl, trivial⟩⟩⟩⟩⟩ (hJ1620 _ h)
      · replace h := h2_1614 hc_1614
        exact h.elim
  · replace h := h2_1598 hc_1598
    exact h.elim

def wB_LC_29_1676 (KU : jv_Mem → Prop) (gj_1676 : jv_Mem) : Prop :=
  KU gj_1676
def wp_LC_29 (xs : Nat → Int32) (L : Nat) (x4 : Int) (KU : jv_Mem → Prop) (g : jv_Mem) : Prop :=
  (((0 : Int) ≤ x4 + 1 ∧ x4 + 1 < ((L : Nat) : Int)) ∧ (wp_L_streakAnew (jv_sx xs (x4 + 1)) (fun (r_1631 : Int) (g_1631 : jv_Mem) => (((0 : Int) ≤ x4 + 1 ∧ x4 + 1 < ((L : Nat) : Int)) ∧ (wp_X9_streakAnew (jv_sx xs (x4 + 1)) (fun (r_1643 : Int) (g_1643 : jv_Mem) => (wp_X9_thrown (fun (r_1649 : Int) (g_1649 : jv_Mem) => ((jv_r r_1649 ∧ jv_r r_1631) ∧ (r_1649 = r_1631 → ((jv_r r_1631) ∧ (¬ r_1631 = 0 → wB_LC_29_1676 KU g_1649) ∧ (r_1631 = 0 → (((0 : Int) ≤ 0 ∧ 0 < (1 : Int)) ∧ (jv_r r_1643 ∧ ((jv_r (g_1649 148 0) ∧ jv_r r_1643) ∧ ((g_1649 148 0) = r_1643 → wB_LC_29_1676 KU g_1649) ∧ (¬ (g_1649 148 0) = r_1643 → False))))))) ∧ (¬ r_1649 = r_1631 → False))) g_1643)) g_1631))) g))
set_option maxHeartbeats 4000000 in
set_option maxRecDepth 100000 in
theorem LC_29 {p : Program} {l : Launch} {e : Env} {m : MethodId} {below : List Frame} {meth : Method} {c : Code} {s0 : State} {b0 : Addr} {D : va_G} {ids : Nat → ClassId} {L : Nat} {xs : Nat → Int32} (hT : jv_T l s0 b0) (C : jv_C p s0 m #[Value.ref b0] c code RL s0 b0 D ids) (hml : 7 = c.maxLocals) (hX : va_X b0 L xs s0 s0.heap) (hbl : b0 < s0.heap.size) (hL : L ≤ 2560) {x4 : Int} (hx4 : 0 ≤ x4 ∧ x4 ≤ 2560) {KU : jv_Mem → Prop} (hU : ∀ g : jv_Mem, KU g → jv_V p l e room_1 s0 m #[Value.ref b0] below meth c (1000 + 4 * x4.toNat + 20) (50000 + 40 * x4.toNat + 200) (lw_Z below #[Value.ref b0] s0) s0 D ids none jv_SH g 1704 [some (.ref b0), some (.ref (s0.heap.size + (0 : Int).toNat)), some (.ref (s0.heap.size + (126 : Int).toNat)), some (.ref (s0.heap.size + (148 : Int).toNat)), some (jv_i x4), none, none] []) {g : jv_Mem} (h : wp_LC_29 xs L x4 KU g) : jv_V p l e room_1 s0 m #[Value.ref b0] below meth c (1000 + 4 * x4.toNat + 0) (50000 + 40 * x4.toNat + 0) (lw_Z below #[Value.ref b0] s0) s0 D ids none jv_SH g 1623 [some (.ref b0), some (.ref (s0.heap.size + (0 : Int).toNat)), some (.ref (s0.heap.size + (126 : Int).toNat)), some (.ref (s0.heap.size + (148 : Int).toNat)), some (jv_i x4), none, none] [] := by
  unfold wp_LC_29 at h
  refine jv_aload_n C dL_law_1623 rfl ?_
  refine jv_aload_n C dL_law_1624 rfl ?_
  refine jv_iload C dL_law_1625 rfl ?_
  refine jv_const C dL_law_1627 ?_
  refine jv_iadd C dL_law_1628 ?_
  obtain ⟨hb_1629, h⟩ := h
  refine jv_sld C hX hbl hL hb_1629 dL_law_1629 ?_
  refine jv_aload_n C dL_law_1630 rfl ?_
  refine jv_callSWi C (M_L_streakAnew hT h) kw_L_200 rfl ⟨rfl, rfl⟩ (st := []) rfl rfl ⟨Nat.ble_eq_true_of_le (by show _ ≤ 601024; omega), Nat.ble_eq_true_of_le (by show _ ≤ 7293034; omega)⟩ dL_law_1631 (fun r_1631 g_1631 h => ?_)
  refine jv_istore (ls' := [some (.ref b0), some (.ref (s0.heap.size + (0 : Int).toNat)), some (.ref (s0.heap.size + (126 : Int).toNat)), some (.ref (s0.heap.size + (148 : Int).toNat)), some (jv_i x4), some (jv_i r_1631), none]) C dL_law_1634 (Nat.lt_of_lt_of_eq (Nat.le_of_ble_eq_true rfl) hml) rfl ?_
  refine jv_aload_n C dL_law_1636 rfl ?_
  refine jv_aload_n C dL_law_1637 rfl ?_
  refine jv_iload C dL_law_1638 rfl ?_
  refine jv_const C dL_law_1640 ?_
  refine jv_iadd C dL_law_1641 ?_
  obtain ⟨hb_1642, h⟩ := h
  refine jv_sld C hX hbl hL hb_1642 dL_law_1642 ?_
  refine jv_callVi C (M_X9_streakAnew h) kw_L_202 sS_126 rfl rfl ⟨rfl, rfl⟩ (st := []) rfl rfl ⟨Nat.ble_eq_true_of_le (by show _ ≤ 601024; omega), Nat.ble_eq_true_of_le (by show _ ≤ 7293034; omega)⟩ dL_law_1643 (fun r_1643 g_1643 h => ?_)
  refine jv_istore (ls' := [some (.ref b0), some (.ref (s0.heap.size + (0 : Int).toNat)), some (.ref (s0.heap.size + (126 : Int).toNat)), some (.ref (s0.heap.size + (148 : Int).toNat)), some (jv_i x4), some (jv_i r_1631), some (jv_i r_1643)]) C dL_law_1646 (Nat.lt_of_lt_of_eq (Nat.le_of_ble_eq_true rfl) hml) rfl ?_
  refine jv_aload_n C dL_law_1648 rfl ?_
  refine jv_callVi C (M_X9_thrown h) kw_L_100 sS_126 rfl rfl ⟨rfl, rfl⟩ (st := []) rfl rfl ⟨Nat.ble_eq_true_of_le (by show _ ≤ 601024; omega), Nat.ble_eq_true_of_le (by show _ ≤ 7293034; omega)⟩ dL_law_1649 (fun r_1649 g_1649 h => ?_)
  refine jv_iload C dL_law_1652 rfl ?_
  obtain ⟨hr_1654, h1_1654, h2_1654⟩ := h
  refine jv_icmp_eq (tgt := 1659) C hr_1654.1 hr_1654.2 dL_law_1654 rfl (fun hc_1654 => ?_) (fun hc_1654 => ?_)
  · replace h := h1_1654 hc_1654
    refine jv_iload C dL_law_1659 rfl ?_
    have hJ1676 : ∀ (gj_1676 : jv_Mem), wB_LC_29_1676 KU gj_1676 → jv_V p l e room_1 s0 m #[Value.ref b0] below meth c (1000 + 4 * x4.toNat + 1) (50000 + 40 * x4.toNat + 6) (lw_Z below #[Value.ref b0] s0) s0 D ids none jv_SH gj_1676 1676 [some (.ref b0), some (.ref (s0.heap.size + (0 : Int).toNat)), some (.ref (s0.heap.size + (126 : Int).toNat)), some (.ref (s0.heap.size + (148 : Int).toNat)), some (jv_i x4), none, none] [] := by
      intro gj_1676 h
      unfold wB_LC_29_1676 at h
      refine jv_goto (tgt := 1704) C dL_law_1676 rfl ?_
      refine jv_wd (k := 1000 + 4 * x4.toNat + 20) (n := 50000 + 40 * x4.toNat + 200) (Nat.ble_eq_true_of_le (by omega)) (Nat.ble_eq_true_of_le (by omega)) ?_
      exact jv_less (ls' := [some (.ref b0), some (.ref (s0.heap.size + (0 : Int).toNat)), some (.ref (s0.heap.size + (126 : Int).toNat)), some (.ref (s0.heap.size + (148 : Int).toNat)), some (jv_i x4), none, none]) ⟨rfl, ⟨rfl, ⟨rfl, ⟨rfl, ⟨rfl, trivial⟩⟩⟩⟩⟩ (hU _ h)
    obtain ⟨hr_1661, h1_1661, h2_1661⟩ := h
    refine jv_if_ne (tgt := 1676) C hr_1661 dL_law_1661 rfl (fun hc_1661 => ?_) (fun hc_1661 => ?_)
    · replace h := h1_1661 hc_1661
      refine jv_wd (k := 1000 + 4 * x4.toNat + 1) (n := 50000 + 40 * x4.toNat + 6) (Nat.ble_eq_true_of_le (by omega)) (Nat.ble_eq_true_of_le (by omega)) ?_
      exact jv_less (ls' := [some (.ref b0), some (.ref (s0.heap.size + (0 : Int).toNat)), some (.ref (s0.heap.size + (126 : Int).toNat)), some (.ref (s0.heap.size + (148 : Int).toNat)), some (jv_i x4), none, none]) ⟨rfl, ⟨rfl, ⟨rfl, ⟨rfl, ⟨rfl, trivial⟩⟩⟩⟩⟩ (hJ1676 _ h)
    · replace h := h2_1661 hc_1661
      refine jv_aload_n C dL_law_1664 rfl ?_
      refine jv_const C dL_law_1665 ?_
      obtain ⟨hb_1666, h⟩ := h
      refine jv_lald C sS_148 rfl hb_1666 dL_law_1666 ?_
      refine jv_iload C dL_law_1667 rfl ?_
      obtain ⟨hr_1669, h⟩ := h
      refine jv_i2l C hr_1669 dL_law_1669 ?_
      obtain ⟨hr_1670, h1_1670, h2_1670⟩ := h
      refine jv_leq (tgt := 1676) C hr_1670.1 hr_1670.2 dL_law_1670 dL_law_1671 rfl (fun hc_1670 => ?_) (fun hc_1670 => ?_)
      · replace h := h1_1670 hc_1670
        refine jv_wd (k := 1000 + 4 * x4.toNat + 1) (n := 50000 + 40 * x4.toNat + 6) (Nat.ble_eq_true_of_le (by omega)) (Nat.ble_eq_true_of_le (by omega)) ?_
        exact jv_less (ls' := [some (.ref b0), some (.ref (s0.heap.size + (0 : Int).toNat)), some (.ref (s0.heap.size + (126 : Int).toNat)), some (.ref (s0.heap.size + (148 : Int).toNat)), some (jv_i x4), none, none]) ⟨rfl, ⟨rfl, ⟨rfl, ⟨rfl, ⟨rfl, trivial⟩⟩⟩⟩⟩ (hJ1676 _ h)
      · replace h := h2_1670 hc_1670
        exact h.elim
  · replace h := h2_1654 hc_1654
    exact h.elim

def wp_LC_30 (xs : Nat → Int32) (L : Nat) (x4 : Int) (KU : jv_Mem → Prop) (g : jv_Mem) : Prop :=
  (((0 : Int) ≤ x4 + 1 ∧ x4 + 1 < ((L : Nat) : Int)) ∧ (wp_X8_solverAt (jv_sx xs (x4 + 1)) (fun (r_1686 : Int) (g_1686 : jv_Mem) => (((0 : Int) ≤ x4 + 1 ∧ x4 + 1 < ((L : Nat) : Int)) ∧ (wp_X9_solverAt (jv_sx xs (x4 + 1)) (fun (r_1696 : Int) (g_1696 : jv_Mem) => ((jv_r r_1686 ∧ jv_r r_1696) ∧ (r_1686 = r_1696 → KU g_1696) ∧ (¬ r_1686 = r_1696 → False))) g_1686))) g))
set_option maxHeartbeats 4000000 in
set_option maxRecDepth 100000 in
theorem LC_30 {p : Program} {l : Launch} {e : Env} {m : MethodId} {below : List Frame} {meth : Method} {c : Code} {s0 : State} {b0 : Addr} {D : va_G} {ids : Nat → ClassId} {L : Nat} {xs : Nat → Int32} (hT : jv_T l s0 b0) (C : jv_C p s0 m #[Value.ref b0] c code RL s0 b0 D ids) (hml : 7 = c.maxLocals) (hX : va_X b0 L xs s0 s0.heap) (hbl : b0 < s0.heap.size) (hL : L ≤ 2560) {x4 : Int} (hx4 : 0 ≤ x4 ∧ x4 ≤ 2560) {KU : jv_Mem → Prop} (hU : ∀ g : jv_Mem, KU g → jv_V p l e room_1 s0 m #[Value.ref b0] below meth c (1000 + 4 * x4.toNat + 20) (50000 + 40 * x4.toNat + 200) (lw_Z below #[Value.ref b0] s0) s0 D ids none jv_SH g 1704 [some (.ref b0), some (.ref (s0.heap.size + (0 : Int).toNat)), some (.ref (s0.heap.size + (126 : Int).toNat)), some (.ref (s0.heap.size + (148 : Int).toNat)), some (jv_i x4), none, none] []) {g : jv_Mem} (h : wp_LC_30 xs L x4 KU g) : jv_V p l e room_1 s0 m #[Value.ref b0] below meth c (1000 + 4 * x4.toNat + 0) (50000 + 40 * x4.toNat + 0) (lw_Z below #[Value.ref b0] s0) s0 D ids none jv_SH g 1679 [some (.ref b0), some (.ref (s0.heap.size + (0 : Int).toNat)), some (.ref (s0.heap.size + (126 : Int).toNat)), some (.ref (s0.heap.size + (148 : Int).toNat)), some (jv_i x4), none, none] [] := by
  unfold wp_LC_30 at h
  refine jv_aload_n C dL_law_1679 rfl ?_
  refine jv_aload_n C dL_law_1680 rfl ?_
  refine jv_iload C dL_law_1681 rfl ?_
  refine jv_const C dL_law_1683 ?_
  refine jv_iadd C dL_law_1684 ?_
  obtain ⟨hb_1685, h⟩ := h
  refine jv_sld C hX hbl hL hb_1685 dL_law_1685 ?_
  refine jv_callVi C (M_X8_solverAt h) kw_L_203 sS_0 rfl rfl ⟨rfl, rfl⟩ (st := []) rfl rfl ⟨Nat.ble_eq_true_of_le (by show _ ≤ 601024; omega), Nat.ble_eq_true_of_le (by show _ ≤ 7293034; omega)⟩ dL_law_1686 (fun r_1686 g_1686 h => ?_)
  refine jv_aload_n C dL_law_1689 rfl ?_
  refine jv_aload_n C dL_law_1690 rfl ?_
  refine jv_iload C dL_law_1691 rfl ?_
  refine jv_const C dL_law_1693 ?_
  refine jv_iadd C dL_law_1694 ?_
  obtain ⟨hb_1695, h⟩ := h
  refine jv_sld C hX hbl hL hb_1695 dL_law_1695 ?_
  refine jv_callVi C (M_X9_solverAt h) kw_L_206 sS_126 rfl rfl ⟨rfl, rfl⟩ (st := [jv_i r_1686]) rfl rfl ⟨Nat.ble_eq_true_of_le (by show _ ≤ 601024; omega), Nat.ble_eq_true_of_le (by show _ ≤ 7293034; omega)⟩ dL_law_1696 (fun r_1696 g_1696 h => ?_)
  obtain ⟨hr_1699, h1_1699, h2_1699⟩ := h
  refine jv_icmp_eq (tgt := 1704) C hr_1699.1 hr_1699.2 dL_law_1699 rfl (fun hc_1699 => ?_) (fun hc_1699 => ?_)
  · replace h := h1_1699 hc_1699
    refine jv_wd (k := 1000 + 4 * x4.toNat + 20) (n := 50000 + 40 * x4.toNat + 200) (Nat.ble_eq_true_of_le (by omega)) (Nat.ble_eq_true_of_le (by omega)) ?_
    exact jv_less (ls' := [some (.ref b0), some (.ref (s0.heap.size + (0 : Int).toNat)), some (.ref (s0.heap.size + (126 : Int).toNat)), some (.ref (s0.heap.size + (148 : Int).toNat)), some (jv_i x4), none, none]) ⟨rfl, ⟨rfl, ⟨rfl, ⟨rfl, ⟨rfl, trivial⟩⟩⟩⟩⟩ (hU _ h)
  · replace h := h2_1699 hc_1699
    exact h.elim
