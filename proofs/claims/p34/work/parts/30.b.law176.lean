def wB_LT_176_356 (nw : Int) (nc : Int) (np : Int) (ns : Int) (tu : Int) (nn : Int) (sv : Int) (pz : Int) (KU1105 : Int → Int → Int → Int → Int → Int → Int → Int → Int → jv_Mem → Prop) (y0_341 : Int) (y0_356 : Int) (gj_356 : jv_Mem) : Prop :=
  (∀ v2_357 : Int, v2_357 = nw + y0_356 → KU1105 v2_357 nc np ns y0_341 tu nn sv pz gj_356)
def wB_LT_176_341 (nw : Int) (nc : Int) (np : Int) (ns : Int) (tu : Int) (nn : Int) (sv : Int) (pz : Int) (KU1105 : Int → Int → Int → Int → Int → Int → Int → Int → Int → jv_Mem → Prop) (r_262 : Int) (y0_341 : Int) (gj_341 : jv_Mem) : Prop :=
  ((jv_r r_262) ∧ (¬ r_262 = ((-3)) → wB_LT_176_356 nw nc np ns tu nn sv pz KU1105 y0_341 1 gj_341) ∧ (r_262 = ((-3)) → wB_LT_176_356 nw nc np ns tu nn sv pz KU1105 y0_341 0 gj_341))
def wB_LT_176_340 (nw : Int) (nc : Int) (np : Int) (ns : Int) (tu : Int) (nn : Int) (sv : Int) (pz : Int) (KU1105 : Int → Int → Int → Int → Int → Int → Int → Int → Int → jv_Mem → Prop) (r_262 : Int) (gj_340 : jv_Mem) : Prop :=
  wB_LT_176_341 nw nc np ns tu nn sv pz KU1105 r_262 0 gj_340
def wB_LT_176_336 (nw : Int) (nc : Int) (np : Int) (ns : Int) (tu : Int) (nn : Int) (sv : Int) (pz : Int) (KU1105 : Int → Int → Int → Int → Int → Int → Int → Int → Int → jv_Mem → Prop) (r_262 : Int) (gj_336 : jv_Mem) : Prop :=
  wB_LT_176_341 nw nc np ns tu nn sv pz KU1105 r_262 1 gj_336
def wB_LT_176_295 (nw : Int) (nc : Int) (np : Int) (ns : Int) (tu : Int) (nn : Int) (sv : Int) (pz : Int) (KU1105 : Int → Int → Int → Int → Int → Int → Int → Int → Int → jv_Mem → Prop) (r_262 : Int) (r_269 : Int) (y0_295 : Int) (gj_295 : jv_Mem) : Prop :=
  ((jv_r r_269 ∧ jv_r y0_295) ∧ (¬ r_269 = y0_295 → wB_LT_176_340 nw nc np ns tu nn sv pz KU1105 r_262 gj_295) ∧ (r_269 = y0_295 → ((jv_r r_262) ∧ (¬ r_262 = ((-3)) → ((jv_r r_262 ∧ jv_r nw) ∧ (¬ r_262 = nw → wB_LT_176_340 nw nc np ns tu nn sv pz KU1105 r_262 gj_295) ∧ (r_262 = nw → (wp_X8_beginning (fun (r_329 : Int) (g_329 : jv_Mem) => ((jv_r r_329) ∧ (¬ r_329 = 1 → wB_LT_176_340 nw nc np ns tu nn sv pz KU1105 r_262 g_329) ∧ (r_329 = 1 → wB_LT_176_336 nw nc np ns tu nn sv pz KU1105 r_262 g_329))) gj_295)))) ∧ (r_262 = ((-3)) → (wp_X8_beginning (fun (r_306 : Int) (g_306 : jv_Mem) => ((jv_r r_306) ∧ (r_306 = 1 → wB_LT_176_336 nw nc np ns tu nn sv pz KU1105 r_262 g_306) ∧ (¬ r_306 = 1 → ((jv_r nw) ∧ (¬ nw = 30 → wB_LT_176_340 nw nc np ns tu nn sv pz KU1105 r_262 g_306) ∧ (nw = 30 → wB_LT_176_336 nw nc np ns tu nn sv pz KU1105 r_262 g_306))))) gj_295)))))
def wB_LT_176_242 (nw : Int) (nc : Int) (np : Int) (ns : Int) (tu : Int) (nn : Int) (vv : Int) (sv : Int) (pz : Int) (KU1105 : Int → Int → Int → Int → Int → Int → Int → Int → Int → jv_Mem → Prop) (r_198 : Int) (y0_221 : Int) (y0_242 : Int) (gj_242 : jv_Mem) : Prop :=
  (wp_L_low (jv_shr vv 9) 3 (fun (r_248 : Int) (g_248 : jv_Mem) => (wp_L_spells r_198 y0_221 y0_242 r_248 (fun (g_251 : jv_Mem) => (wp_L_low vv 100 (fun (r_259 : Int) (g_259 : jv_Mem) => (wp_L_addWord r_259 (fun (r_262 : Int) (g_262 : jv_Mem) => (wp_X8_charAt 0 (fun (r_269 : Int) (g_269 : jv_Mem) => (wp_L_letter vv (fun (r_274 : Int) (g_274 : jv_Mem) => ((jv_r r_274) ∧ (¬ r_274 = 8 → (wp_L_letter vv (fun (r_291 : Int) (g_291 : jv_Mem) => wB_LT_176_295 nw nc np ns tu nn sv pz KU1105 r_262 r_269 (97 + r_291) g_291) g_274)) ∧ (r_274 = 8 → wB_LT_176_295 nw nc np ns tu nn sv pz KU1105 r_262 r_269 55348 g_274))) g_269)) g_262)) g_259)) g_251)) g_248)) gj_242)
def wB_LT_176_221 (nw : Int) (nc : Int) (np : Int) (ns : Int) (tu : Int) (nn : Int) (vv : Int) (sv : Int) (pz : Int) (KU1105 : Int → Int → Int → Int → Int → Int → Int → Int → Int → jv_Mem → Prop) (r_198 : Int) (y0_193 : Int) (y0_221 : Int) (gj_221 : jv_Mem) : Prop :=
  ((jv_r y0_193) ∧ (y0_193 = 0 → (wp_L_letter (jv_shr vv 6) (fun (r_239 : Int) (g_239 : jv_Mem) => wB_LT_176_242 nw nc np ns tu nn vv sv pz KU1105 r_198 y0_221 r_239 g_239) gj_221)) ∧ (¬ y0_193 = 0 → (wp_L_letter vv (fun (r_228 : Int) (g_228 : jv_Mem) => wB_LT_176_242 nw nc np ns tu nn vv sv pz KU1105 r_198 y0_221 r_228 g_228) gj_221)))
def wB_LT_176_193 (nw : Int) (nc : Int) (np : Int) (ns : Int) (tu : Int) (nn : Int) (vv : Int) (sv : Int) (pz : Int) (KU1105 : Int → Int → Int → Int → Int → Int → Int → Int → Int → jv_Mem → Prop) (y0_193 : Int) (gj_193 : jv_Mem) : Prop :=
  (wp_L_letter vv (fun (r_198 : Int) (g_198 : jv_Mem) => ((jv_r y0_193) ∧ (y0_193 = 0 → (wp_L_letter (jv_shr vv 3) (fun (r_218 : Int) (g_218 : jv_Mem) => wB_LT_176_221 nw nc np ns tu nn vv sv pz KU1105 r_198 y0_193 r_218 g_218) g_198)) ∧ (¬ y0_193 = 0 → (wp_L_letter vv (fun (r_208 : Int) (g_208 : jv_Mem) => wB_LT_176_221 nw nc np ns tu nn vv sv pz KU1105 r_198 y0_193 r_208 g_208) g_198)))) gj_193)
def wp_LT_176 (KU1105 : Int → Int → Int → Int → Int → Int → Int → Int → Int → jv_Mem → Prop) (nw nc np ns tu nn vv sv pz : Int) (g : jv_Mem) : Prop :=
  (wp_L_low (jv_shr vv 12) 2 (fun (r_182 : Int) (g_182 : jv_Mem) => ((jv_r r_182) ∧ (¬ r_182 = 0 → wB_LT_176_193 nw nc np ns tu nn vv sv pz KU1105 0 g_182) ∧ (r_182 = 0 → wB_LT_176_193 nw nc np ns tu nn vv sv pz KU1105 1 g_182))) g)
set_option maxHeartbeats 4000000 in
set_option maxRecDepth 100000 in
theorem LT_176 {p : Program} {l : Launch} {e : Env} {m : MethodId} {below : List Frame} {meth : Method} {c : Code} {s0 : State} {b0 : Addr} {D : va_G} {ids : Nat → ClassId} {L : Nat} {xs : Nat → Int32} (hT : jv_T l s0 b0) (C : jv_C p s0 m #[Value.ref b0] c code RL s0 b0 D ids) (hml : 17 = c.maxLocals) (hr : meth.sig.returnType = ret) (hlk : meth.locks = false) (hX : va_X b0 L xs s0 s0.heap) (hbl : b0 < s0.heap.size) (hL : L ≤ 260) {cb sb : Nat} (hcb : cb ≤ 590000) (hsb : sb ≤ 7200000) {KU1105 : Int → Int → Int → Int → Int → Int → Int → Int → Int → jv_Mem → Prop} (hU1105 : ∀ (nw nc np ns ii tu nn sv pz : Int) (g : jv_Mem), KU1105 nw nc np ns ii tu nn sv pz g → jv_V p l e room_1 s0 m #[Value.ref b0] below meth c (cb + 4) (sb + 24) (lw_Z below #[Value.ref b0] s0) s0 D ids none jv_SH g 1105 [some (.ref b0), some (.ref (s0.heap.size + (0 : Int).toNat)), some (jv_i nw), some (jv_i nc), some (jv_i np), some (jv_i ns), some (jv_i ii), some (jv_i tu), some (jv_i nn), none, none, some (jv_i sv), some (jv_i pz), none, none, none, none] []) {nw nc np ns tu nn vv sv pz : Int} {g : jv_Mem} (h : wp_LT_176 KU1105 nw nc np ns tu nn vv sv pz g) : jv_V p l e room_1 s0 m #[Value.ref b0] below meth c (cb + 0) (sb + 0) (lw_Z below #[Value.ref b0] s0) s0 D ids none jv_SH g 176 [some (.ref b0), some (.ref (s0.heap.size + (0 : Int).toNat)), some (jv_i nw), some (jv_i nc), some (jv_i np), some (jv_i ns), none, some (jv_i tu), some (jv_i nn), some (jv_i vv), none, some (jv_i sv), some (jv_i pz), none, none, none, none] [] := by
  unfold wp_LT_176 at h
  refine jv_iload C dL_law_176 rfl ?_
  refine jv_bipush C dL_law_178 (by decide +kernel) ?_
  refine jv_ishr C dL_law_180 ?_
  refine jv_const C dL_law_181 ?_
  refine jv_callSi C (M_L_low h) kw_L_52 rfl ⟨rfl, rfl⟩ (st := []) rfl rfl ⟨Nat.ble_eq_true_of_le (by show _ ≤ 600104; omega), Nat.ble_eq_true_of_le (by show _ ≤ 7301314; omega)⟩ dL_law_182 (fun r_182 g_182 h => ?_)
  have hJ193 : ∀ (y0_193 : Int) (gj_193 : jv_Mem), wB_LT_176_193 nw nc np ns tu nn vv sv pz KU1105 y0_193 gj_193 → jv_V p l e room_1 s0 m #[Value.ref b0] below meth c (cb + 0) (sb + 0) (lw_Z below #[Value.ref b0] s0) s0 D ids none jv_SH gj_193 193 [some (.ref b0), some (.ref (s0.heap.size + (0 : Int).toNat)), some (jv_i nw), some (jv_i nc), some (jv_i np), some (jv_i ns), none, some (jv_i tu), some (jv_i nn), some (jv_i vv), none, some (jv_i sv), some (jv_i pz), none, none, none, none] [jv_i y0_193] := by
    intro y0_193 gj_193 h
    unfold wB_LT_176_193 at h
    refine jv_istore (ls' := [some (.ref b0), some (.ref (s0.heap.size + (0 : Int).toNat)), some (jv_i nw), some (jv_i nc), some (jv_i np), some (jv_i ns), none, some (jv_i tu), some (jv_i nn), some (jv_i vv), none, some (jv_i sv), some (jv_i pz), none, some (jv_i y0_193), none, none]) C dL_law_193 (Nat.lt_of_lt_of_eq (Nat.le_of_ble_eq_true rfl) hml) rfl ?_
    refine jv_aload_n C dL_law_195 rfl ?_
    refine jv_iload C dL_law_196 rfl ?_
    refine jv_callSi C (M_L_letter h) kw_L_98 rfl ⟨rfl, rfl⟩ (st := [.ref (s0.heap.size + (0 : Int).toNat)]) rfl rfl ⟨Nat.ble_eq_true_of_le (by show _ ≤ 600104; omega), Nat.ble_eq_true_of_le (by show _ ≤ 7301314; omega)⟩ dL_law_198 (fun r_198 g_198 h => ?_)
    refine jv_iload C dL_law_201 rfl ?_
    have hJ221 : ∀ (y0_221 : Int) (gj_221 : jv_Mem), wB_LT_176_221 nw nc np ns tu nn vv sv pz KU1105 r_198 y0_193 y0_221 gj_221 → jv_V p l e room_1 s0 m #[Value.ref b0] below meth c (cb + 0) (sb + 0) (lw_Z below #[Value.ref b0] s0) s0 D ids none jv_SH gj_221 221 [some (.ref b0), some (.ref (s0.heap.size + (0 : Int).toNat)), some (jv_i nw), some (jv_i nc), some (jv_i np), some (jv_i ns), none, some (jv_i tu), some (jv_i nn), some (jv_i vv), none, some (jv_i sv), some (jv_i pz), none, some (jv_i y0_193), none, none] [jv_i y0_221, jv_i r_198, .ref (s0.heap.size + (0 : Int).toNat)] := by
      intro y0_221 gj_221 h
      unfold wB_LT_176_221 at h
      refine jv_iload C dL_law_221 rfl ?_
      have hJ242 : ∀ (y0_242 : Int) (gj_242 : jv_Mem), wB_LT_176_242 nw nc np ns tu nn vv sv pz KU1105 r_198 y0_221 y0_242 gj_242 → jv_V p l e room_1 s0 m #[Value.ref b0] below meth c (cb + 0) (sb + 0) (lw_Z below #[Value.ref b0] s0) s0 D ids none jv_SH gj_242 242 [some (.ref b0), some (.ref (s0.heap.size + (0 : Int).toNat)), some (jv_i nw), some (jv_i nc), some (jv_i np), some (jv_i ns), none, some (jv_i tu), some (jv_i nn), some (jv_i vv), none, some (jv_i sv), some (jv_i pz), none, none, none, none] [jv_i y0_242, jv_i y0_221, jv_i r_198, .ref (s0.heap.size + (0 : Int).toNat)] := by
        intro y0_242 gj_242 h
        unfold wB_LT_176_242 at h
        refine jv_iload C dL_law_242 rfl ?_
        refine jv_bipush C dL_law_244 (by decide +kernel) ?_
        refine jv_ishr C dL_law_246 ?_
        refine jv_const C dL_law_247 ?_
        refine jv_callSi C (M_L_low h) kw_L_52 rfl ⟨rfl, rfl⟩ (st := [jv_i y0_242, jv_i y0_221, jv_i r_198, .ref (s0.heap.size + (0 : Int).toNat)]) rfl rfl ⟨Nat.ble_eq_true_of_le (by show _ ≤ 600104; omega), Nat.ble_eq_true_of_le (by show _ ≤ 7301314; omega)⟩ dL_law_248 (fun r_248 g_248 h => ?_)
        refine jv_callSv C (M_L_spells h) kw_L_75 rfl ⟨rfl, rfl⟩ (st := []) rfl rfl ⟨Nat.ble_eq_true_of_le (by show _ ≤ 600104; omega), Nat.ble_eq_true_of_le (by show _ ≤ 7301314; omega)⟩ dL_law_251 (fun g_251 h => ?_)
        refine jv_aload_n C dL_law_254 rfl ?_
        refine jv_iload C dL_law_255 rfl ?_
        refine jv_bipush C dL_law_257 (by decide +kernel) ?_
        refine jv_callSi C (M_L_low h) kw_L_52 rfl ⟨rfl, rfl⟩ (st := [.ref (s0.heap.size + (0 : Int).toNat)]) rfl rfl ⟨Nat.ble_eq_true_of_le (by show _ ≤ 600104; omega), Nat.ble_eq_true_of_le (by show _ ≤ 7301314; omega)⟩ dL_law_259 (fun r_259 g_259 h => ?_)
        refine jv_callSWi C (M_L_addWord hT h) kw_L_101 rfl ⟨rfl, rfl⟩ (st := []) rfl rfl ⟨Nat.ble_eq_true_of_le (by show _ ≤ 600104; omega), Nat.ble_eq_true_of_le (by show _ ≤ 7301314; omega)⟩ dL_law_262 (fun r_262 g_262 h => ?_)
        refine jv_istore (ls' := [some (.ref b0), some (.ref (s0.heap.size + (0 : Int).toNat)), some (jv_i nw), some (jv_i nc), some (jv_i np), some (jv_i ns), none, some (jv_i tu), some (jv_i nn), some (jv_i vv), none, some (jv_i sv), some (jv_i pz), none, none, some (jv_i r_262), none]) C dL_law_265 (Nat.lt_of_lt_of_eq (Nat.le_of_ble_eq_true rfl) hml) rfl ?_
        refine jv_aload_n C dL_law_267 rfl ?_
        refine jv_const C dL_law_268 ?_
        refine jv_callVi C (M_X8_charAt h) kw_L_104 sS_0 rfl rfl ⟨rfl, rfl⟩ (st := []) rfl rfl ⟨Nat.ble_eq_true_of_le (by show _ ≤ 600104; omega), Nat.ble_eq_true_of_le (by show _ ≤ 7301314; omega)⟩ dL_law_269 (fun r_269 g_269 h => ?_)
        refine jv_iload C dL_law_272 rfl ?_
        refine jv_callSi C (M_L_letter h) kw_L_98 rfl ⟨rfl, rfl⟩ (st := [jv_i r_269]) rfl rfl ⟨Nat.ble_eq_true_of_le (by show _ ≤ 600104; omega), Nat.ble_eq_true_of_le (by show _ ≤ 7301314; omega)⟩ dL_law_274 (fun r_274 g_274 h => ?_)
        refine jv_bipush C dL_law_277 (by decide +kernel) ?_
        have hJ295 : ∀ (y0_295 : Int) (gj_295 : jv_Mem), wB_LT_176_295 nw nc np ns tu nn sv pz KU1105 r_262 r_269 y0_295 gj_295 → jv_V p l e room_1 s0 m #[Value.ref b0] below meth c (cb + 1) (sb + 6) (lw_Z below #[Value.ref b0] s0) s0 D ids none jv_SH gj_295 295 [some (.ref b0), some (.ref (s0.heap.size + (0 : Int).toNat)), some (jv_i nw), some (jv_i nc), some (jv_i np), some (jv_i ns), none, some (jv_i tu), some (jv_i nn), none, none, some (jv_i sv), some (jv_i pz), none, none, some (jv_i r_262), none] [jv_i y0_295, jv_i r_269] := by
          intro y0_295 gj_295 h
          unfold wB_LT_176_295 at h
          have hJ341 : ∀ (y0_341 : Int) (gj_341 : jv_Mem), wB_LT_176_341 nw nc np ns tu nn sv pz KU1105 r_262 y0_341 gj_341 → jv_V p l e room_1 s0 m #[Value.ref b0] below meth c (cb + 1) (sb + 6) (lw_Z below #[Value.ref b0] s0) s0 D ids none jv_SH gj_341 341 [some (.ref b0), some (.ref (s0.heap.size + (0 : Int).toNat)), some (jv_i nw), some (jv_i nc), some (jv_i np), some (jv_i ns), none, some (jv_i tu), some (jv_i nn), none, none, some (jv_i sv), some (jv_i pz), none, none, some (jv_i r_262), none] [jv_i y0_341] := by
            intro y0_341 gj_341 h
            unfold wB_LT_176_341 at h
            refine jv_istore (ls' := [some (.ref b0), some (.ref (s0.heap.size + (0 : Int).toNat)), some (jv_i nw), some (jv_i nc), some (jv_i np), some (jv_i ns), some (jv_i y0_341), some (jv_i tu), some (jv_i nn), none, none, some (jv_i sv), some (jv_i pz), none, none, some (jv_i r_262), none]) C dL_law_341 (Nat.lt_of_lt_of_eq (Nat.le_of_ble_eq_true rfl) hml) rfl ?_
            refine jv_iload_n C dL_law_343 rfl ?_
            refine jv_iload C dL_law_344 rfl ?_
            refine jv_bipush C dL_law_346 (by decide +kernel) ?_
            have hJ356 : ∀ (y0_356 : Int) (gj_356 : jv_Mem), wB_LT_176_356 nw nc np ns tu nn sv pz KU1105 y0_341 y0_356 gj_356 → jv_V p l e room_1 s0 m #[Value.ref b0] below meth c (cb + 1) (sb + 6) (lw_Z below #[Value.ref b0] s0) s0 D ids none jv_SH gj_356 356 [some (.ref b0), some (.ref (s0.heap.size + (0 : Int).toNat)), none, some (jv_i nc), some (jv_i np), some (jv_i ns), some (jv_i y0_341), some (jv_i tu), some (jv_i nn), none, none, some (jv_i sv), some (jv_i pz), none, none, none, none] [jv_i y0_356, jv_i nw] := by
              intro y0_356 gj_356 h
              unfold wB_LT_176_356 at h
              refine jv_iadd C dL_law_356 ?_
              refine jv_top (fun v2_357 ev2_357 => ?_)
              replace h := h v2_357 ev2_357
              refine jv_istore_n (ls' := [some (.ref b0), some (.ref (s0.heap.size + (0 : Int).toNat)), some (jv_i v2_357), some (jv_i nc), some (jv_i np), some (jv_i ns), some (jv_i y0_341), some (jv_i tu), some (jv_i nn), none, none, some (jv_i sv), some (jv_i pz), none, none, none, none]) C dL_law_357 (Nat.lt_of_lt_of_eq (Nat.le_of_ble_eq_true rfl) hml) rfl ?_
              refine jv_goto (tgt := 1105) C dL_law_358 rfl ?_
              refine jv_wd (k := cb + 4) (n := sb + 24) (Nat.ble_eq_true_of_le (by omega)) (Nat.ble_eq_true_of_le (by omega)) ?_
              exact jv_less (ls' := [some (.ref b0), some (.ref (s0.heap.size + (0 : Int).toNat)), some (jv_i v2_357), some (jv_i nc), some (jv_i np), some (jv_i ns), some (jv_i y0_341), some (jv_i tu), some (jv_i nn), none, none, some (jv_i sv), some (jv_i pz), none, none, none, none]) ⟨rfl, ⟨rfl, ⟨rfl, ⟨rfl, ⟨rfl, ⟨rfl, ⟨rfl, ⟨rfl, ⟨rfl, ⟨rfl, ⟨rfl, trivial⟩⟩⟩⟩⟩⟩⟩⟩⟩⟩⟩ (hU1105 _ _ _ _ _ _ _ _ _ _ h)
            obtain ⟨hr_348, h1_348, h2_348⟩ := h
            refine jv_icmp_ne (tgt := 355) C hr_348 ⟨by decide, by decide⟩ dL_law_348 rfl (fun hc_348 => ?_) (fun hc_348 => ?_)
            · replace h := h1_348 hc_348
              refine jv_const C dL_law_355 ?_
              refine jv_wd (k := cb + 1) (n := sb + 6) (Nat.ble_eq_true_of_le (by omega)) (Nat.ble_eq_true_of_le (by omega)) ?_
              exact jv_less (ls' := [some (.ref b0), some (.ref (s0.heap.size + (0 : Int).toNat)), none, some (jv_i nc), some (jv_i np), some (jv_i ns), some (jv_i y0_341), some (jv_i tu), some (jv_i nn), none, none, some (jv_i sv), some (jv_i pz), none, none, none, none]) ⟨rfl, ⟨rfl, ⟨rfl, ⟨rfl, ⟨rfl, ⟨rfl, ⟨rfl, ⟨rfl, ⟨rfl, ⟨rfl, trivial⟩⟩⟩⟩⟩⟩⟩⟩⟩⟩ (hJ356 _ _ h)
            · replace h := h2_348 hc_348
              refine jv_const C dL_law_351 ?_
              refine jv_goto (tgt := 356) C dL_law_352 rfl ?_
              refine jv_wd (k := cb + 1) (n := sb + 6) (Nat.ble_eq_true_of_le (by omega)) (Nat.ble_eq_true_of_le (by omega)) ?_
              exact jv_less (ls' := [some (.ref b0), some (.ref (s0.heap.size + (0 : Int).toNat)), none, some (jv_i nc), some (jv_i np), some (jv_i ns), some (jv_i y0_341), some (jv_i tu), some (jv_i nn), none, none, some (jv_i sv), some (jv_i pz), none, none, none, none]) ⟨rfl, ⟨rfl, ⟨rfl, ⟨rfl, ⟨rfl, ⟨rfl, ⟨rfl, ⟨rfl, ⟨rfl, ⟨rfl, trivial⟩⟩⟩⟩⟩⟩⟩⟩⟩⟩ (hJ356 _ _ h)
          have hJ340 : ∀ (gj_340 : jv_Mem), wB_LT_176_340 nw nc np ns tu nn sv pz KU1105 r_262 gj_340 → jv_V p l e room_1 s0 m #[Value.ref b0] below meth c (cb + 1) (sb + 6) (lw_Z below #[Value.ref b0] s0) s0 D ids none jv_SH gj_340 340 [some (.ref b0), some (.ref (s0.heap.size + (0 : Int).toNat)), some (jv_i nw), some (jv_i nc), some (jv_i np), some (jv_i ns), none, some (jv_i tu), some (jv_i nn), none, none, some (jv_i sv), some (jv_i pz), none, none, some (jv_i r_262), none] [] := by
            intro gj_340 h
            unfold wB_LT_176_340 at h
            refine jv_const C dL_law_340 ?_
            refine jv_wd (k := cb + 1) (n := sb + 6) (Nat.ble_eq_true_of_le (by omega)) (Nat.ble_eq_true_of_le (by omega)) ?_
            exact jv_less (ls' := [some (.ref b0), some (.ref (s0.heap.size + (0 : Int).toNat)), some (jv_i nw), some (jv_i nc), some (jv_i np), some (jv_i ns), none, some (jv_i tu), some (jv_i nn), none, none, some (jv_i sv), some (jv_i pz), none, none, some (jv_i r_262), none]) ⟨rfl, ⟨rfl, ⟨rfl, ⟨rfl, ⟨rfl, ⟨rfl, ⟨rfl, ⟨rfl, ⟨rfl, ⟨rfl, ⟨rfl, trivial⟩⟩⟩⟩⟩⟩⟩⟩⟩⟩⟩ (hJ341 _ _ h)
          obtain ⟨hr_295, h1_295, h2_295⟩ := h
          refine jv_icmp_ne (tgt := 340) C hr_295.1 hr_295.2 dL_law_295 rfl (fun hc_295 => ?_) (fun hc_295 => ?_)
          · replace h := h1_295 hc_295
            refine jv_wd (k := cb + 1) (n := sb + 6) (Nat.ble_eq_true_of_le (by omega)) (Nat.ble_eq_true_of_le (by omega)) ?_
            exact jv_less (ls' := [some (.ref b0), some (.ref (s0.heap.size + (0 : Int).toNat)), some (jv_i nw), some (jv_i nc), some (jv_i np), some (jv_i ns), none, some (jv_i tu), some (jv_i nn), none, none, some (jv_i sv), some (jv_i pz), none, none, some (jv_i r_262), none]) ⟨rfl, ⟨rfl, ⟨rfl, ⟨rfl, ⟨rfl, ⟨rfl, ⟨rfl, ⟨rfl, ⟨rfl, ⟨rfl, ⟨rfl, trivial⟩⟩⟩⟩⟩⟩⟩⟩⟩⟩⟩ (hJ340 _ h)
          · replace h := h2_295 hc_295
            refine jv_iload C dL_law_298 rfl ?_
            refine jv_bipush C dL_law_300 (by decide +kernel) ?_
            have hJ336 : ∀ (gj_336 : jv_Mem), wB_LT_176_336 nw nc np ns tu nn sv pz KU1105 r_262 gj_336 → jv_V p l e room_1 s0 m #[Value.ref b0] below meth c (cb + 1) (sb + 6) (lw_Z below #[Value.ref b0] s0) s0 D ids none jv_SH gj_336 336 [some (.ref b0), some (.ref (s0.heap.size + (0 : Int).toNat)), some (jv_i nw), some (jv_i nc), some (jv_i np), some (jv_i ns), none, some (jv_i tu), some (jv_i nn), none, none, some (jv_i sv), some (jv_i pz), none, none, some (jv_i r_262), none] [] := by
              intro gj_336 h
              unfold wB_LT_176_336 at h
              refine jv_const C dL_law_336 ?_
              refine jv_goto (tgt := 341) C dL_law_337 rfl ?_
              refine jv_wd (k := cb + 1) (n := sb + 6) (Nat.ble_eq_true_of_le (by omega)) (Nat.ble_eq_true_of_le (by omega)) ?_
              exact jv_less (ls' := [some (.ref b0), some (.ref (s0.heap.size + (0 : Int).toNat)), some (jv_i nw), some (jv_i nc), some (jv_i np), some (jv_i ns), none, some (jv_i tu), some (jv_i nn), none, none, some (jv_i sv), some (jv_i pz), none, none, some (jv_i r_262), none]) ⟨rfl, ⟨rfl, ⟨rfl, ⟨rfl, ⟨rfl, ⟨rfl, ⟨rfl, ⟨rfl, ⟨rfl, ⟨rfl, ⟨rfl, trivial⟩⟩⟩⟩⟩⟩⟩⟩⟩⟩⟩ (hJ341 _ _ h)
            obtain ⟨hr_302, h1_302, h2_302⟩ := h
            refine jv_icmp_ne (tgt := 322) C hr_302 ⟨by decide, by decide⟩ dL_law_302 rfl (fun hc_302 => ?_) (fun hc_302 => ?_)
            · replace h := h1_302 hc_302
              refine jv_iload C dL_law_322 rfl ?_
              refine jv_iload_n C dL_law_324 rfl ?_
              obtain ⟨hr_325, h1_325, h2_325⟩ := h
              refine jv_icmp_ne (tgt := 340) C hr_325.1 hr_325.2 dL_law_325 rfl (fun hc_325 => ?_) (fun hc_325 => ?_)
              · replace h := h1_325 hc_325
                refine jv_wd (k := cb + 1) (n := sb + 6) (Nat.ble_eq_true_of_le (by omega)) (Nat.ble_eq_true_of_le (by omega)) ?_
                exact jv_less (ls' := [some (.ref b0), some (.ref (s0.heap.size + (0 : Int).toNat)), some (jv_i nw), some (jv_i nc), some (jv_i np), some (jv_i ns), none, some (jv_i tu), some (jv_i nn), none, none, some (jv_i sv), some (jv_i pz), none, none, some (jv_i r_262), none]) ⟨rfl, ⟨rfl, ⟨rfl, ⟨rfl, ⟨rfl, ⟨rfl, ⟨rfl, ⟨rfl, ⟨rfl, ⟨rfl, ⟨rfl, trivial⟩⟩⟩⟩⟩⟩⟩⟩⟩⟩⟩ (hJ340 _ h)
              · replace h := h2_325 hc_325
                refine jv_aload_n C dL_law_328 rfl ?_
                refine jv_callVi C (M_X8_beginning h) kw_L_79 sS_0 rfl rfl ⟨rfl, rfl⟩ (st := []) rfl rfl ⟨Nat.ble_eq_true_of_le (by show _ ≤ 600104; omega), Nat.ble_eq_true_of_le (by show _ ≤ 7301314; omega)⟩ dL_law_329 (fun r_329 g_329 h => ?_)
                refine jv_const C dL_law_332 ?_
                obtain ⟨hr_333, h1_333, h2_333⟩ := h
                refine jv_icmp_ne (tgt := 340) C hr_333 ⟨by decide, by decide⟩ dL_law_333 rfl (fun hc_333 => ?_) (fun hc_333 => ?_)
                · replace h := h1_333 hc_333
                  refine jv_wd (k := cb + 1) (n := sb + 6) (Nat.ble_eq_true_of_le (by omega)) (Nat.ble_eq_true_of_le (by omega)) ?_
                  exact jv_less (ls' := [some (.ref b0), some (.ref (s0.heap.size + (0 : Int).toNat)), some (jv_i nw), some (jv_i nc), some (jv_i np), some (jv_i ns), none, some (jv_i tu), some (jv_i nn), none, none, some (jv_i sv), some (jv_i pz), none, none, some (jv_i r_262), none]) ⟨rfl, ⟨rfl, ⟨rfl, ⟨rfl, ⟨rfl, ⟨rfl, ⟨rfl, ⟨rfl, ⟨rfl, ⟨rfl, ⟨rfl, trivial⟩⟩⟩⟩⟩⟩⟩⟩⟩⟩⟩ (hJ340 _ h)
                · replace h := h2_333 hc_333
                  refine jv_wd (k := cb + 1) (n := sb + 6) (Nat.ble_eq_true_of_le (by omega)) (Nat.ble_eq_true_of_le (by omega)) ?_
                  exact jv_less (ls' := [some (.ref b0), some (.ref (s0.heap.size + (0 : Int).toNat)), some (jv_i nw), some (jv_i nc), some (jv_i np), some (jv_i ns), none, some (jv_i tu), some (jv_i nn), none, none, some (jv_i sv), some (jv_i pz), none, none, some (jv_i r_262), none]) ⟨rfl, ⟨rfl, ⟨rfl, ⟨rfl, ⟨rfl, ⟨rfl, ⟨rfl, ⟨rfl, ⟨rfl, ⟨rfl, ⟨rfl, trivial⟩⟩⟩⟩⟩⟩⟩⟩⟩⟩⟩ (hJ336 _ h)
            · replace h := h2_302 hc_302
              refine jv_aload_n C dL_law_305 rfl ?_
              refine jv_callVi C (M_X8_beginning h) kw_L_79 sS_0 rfl rfl ⟨rfl, rfl⟩ (st := []) rfl rfl ⟨Nat.ble_eq_true_of_le (by show _ ≤ 600104; omega), Nat.ble_eq_true_of_le (by show _ ≤ 7301314; omega)⟩ dL_law_306 (fun r_306 g_306 h => ?_)
              refine jv_const C dL_law_309 ?_
              obtain ⟨hr_310, h1_310, h2_310⟩ := h
              refine jv_icmp_eq (tgt := 336) C hr_310 ⟨by decide, by decide⟩ dL_law_310 rfl (fun hc_310 => ?_) (fun hc_310 => ?_)
              · replace h := h1_310 hc_310
                refine jv_wd (k := cb + 1) (n := sb + 6) (Nat.ble_eq_true_of_le (by omega)) (Nat.ble_eq_true_of_le (by omega)) ?_
                exact jv_less (ls' := [some (.ref b0), some (.ref (s0.heap.size + (0 : Int).toNat)), some (jv_i nw), some (jv_i nc), some (jv_i np), some (jv_i ns), none, some (jv_i tu), some (jv_i nn), none, none, some (jv_i sv), some (jv_i pz), none, none, some (jv_i r_262), none]) ⟨rfl, ⟨rfl, ⟨rfl, ⟨rfl, ⟨rfl, ⟨rfl, ⟨rfl, ⟨rfl, ⟨rfl, ⟨rfl, ⟨rfl, trivial⟩⟩⟩⟩⟩⟩⟩⟩⟩⟩⟩ (hJ336 _ h)
              · replace h := h2_310 hc_310
                refine jv_iload_n C dL_law_313 rfl ?_
                refine jv_bipush C dL_law_314 (by decide +kernel) ?_
                obtain ⟨hr_316, h1_316, h2_316⟩ := h
                refine jv_icmp_ne (tgt := 340) C hr_316 ⟨by decide, by decide⟩ dL_law_316 rfl (fun hc_316 => ?_) (fun hc_316 => ?_)
                · replace h := h1_316 hc_316
                  refine jv_wd (k := cb + 1) (n := sb + 6) (Nat.ble_eq_true_of_le (by omega)) (Nat.ble_eq_true_of_le (by omega)) ?_
                  exact jv_less (ls' := [some (.ref b0), some (.ref (s0.heap.size + (0 : Int).toNat)), some (jv_i nw), some (jv_i nc), some (jv_i np), some (jv_i ns), none, some (jv_i tu), some (jv_i nn), none, none, some (jv_i sv), some (jv_i pz), none, none, some (jv_i r_262), none]) ⟨rfl, ⟨rfl, ⟨rfl, ⟨rfl, ⟨rfl, ⟨rfl, ⟨rfl, ⟨rfl, ⟨rfl, ⟨rfl, ⟨rfl, trivial⟩⟩⟩⟩⟩⟩⟩⟩⟩⟩⟩ (hJ340 _ h)
                · replace h := h2_316 hc_316
                  refine jv_goto (tgt := 336) C dL_law_319 rfl ?_
                  refine jv_wd (k := cb + 1) (n := sb + 6) (Nat.ble_eq_true_of_le (by omega)) (Nat.ble_eq_true_of_le (by omega)) ?_
                  exact jv_less (ls' := [some (.ref b0), some (.ref (s0.heap.size + (0 : Int).toNat)), some (jv_i nw), some (jv_i nc), some (jv_i np), some (jv_i ns), none, some (jv_i tu), some (jv_i nn), none, none, some (jv_i sv), some (jv_i pz), none, none, some (jv_i r_262), none]) ⟨rfl, ⟨rfl, ⟨rfl, ⟨rfl, ⟨rfl, ⟨rfl, ⟨rfl, ⟨rfl, ⟨rfl, ⟨rfl, ⟨rfl, trivial⟩⟩⟩⟩⟩⟩⟩⟩⟩⟩⟩ (hJ336 _ h)
        obtain ⟨hr_279, h1_279, h2_279⟩ := h
        refine jv_icmp_ne (tgt := 287) C hr_279 ⟨by decide, by decide⟩ dL_law_279 rfl (fun hc_279 => ?_) (fun hc_279 => ?_)
        · replace h := h1_279 hc_279
          refine jv_bipush C dL_law_287 (by decide +kernel) ?_
          refine jv_iload C dL_law_289 rfl ?_
          refine jv_callSi C (M_L_letter h) kw_L_98 rfl ⟨rfl, rfl⟩ (st := [jv_i 97, jv_i r_269]) rfl rfl ⟨Nat.ble_eq_true_of_le (by show _ ≤ 600104; omega), Nat.ble_eq_true_of_le (by show _ ≤ 7301314; omega)⟩ dL_law_291 (fun r_291 g_291 h => ?_)
          refine jv_iadd C dL_law_294 ?_
          refine jv_wd (k := cb + 1) (n := sb + 6) (Nat.ble_eq_true_of_le (by omega)) (Nat.ble_eq_true_of_le (by omega)) ?_
          exact jv_less (ls' := [some (.ref b0), some (.ref (s0.heap.size + (0 : Int).toNat)), some (jv_i nw), some (jv_i nc), some (jv_i np), some (jv_i ns), none, some (jv_i tu), some (jv_i nn), none, none, some (jv_i sv), some (jv_i pz), none, none, some (jv_i r_262), none]) ⟨rfl, ⟨rfl, ⟨rfl, ⟨rfl, ⟨rfl, ⟨rfl, ⟨rfl, ⟨rfl, ⟨rfl, ⟨rfl, ⟨rfl, trivial⟩⟩⟩⟩⟩⟩⟩⟩⟩⟩⟩ (hJ295 _ _ h)
        · replace h := h2_279 hc_279
          refine jv_ldc (n := 55348) C dL_law_282 kc_L_108 ?_
          refine jv_goto (tgt := 295) C dL_law_284 rfl ?_
          refine jv_wd (k := cb + 1) (n := sb + 6) (Nat.ble_eq_true_of_le (by omega)) (Nat.ble_eq_true_of_le (by omega)) ?_
          exact jv_less (ls' := [some (.ref b0), some (.ref (s0.heap.size + (0 : Int).toNat)), some (jv_i nw), some (jv_i nc), some (jv_i np), some (jv_i ns), none, some (jv_i tu), some (jv_i nn), none, none, some (jv_i sv), some (jv_i pz), none, none, some (jv_i r_262), none]) ⟨rfl, ⟨rfl, ⟨rfl, ⟨rfl, ⟨rfl, ⟨rfl, ⟨rfl, ⟨rfl, ⟨rfl, ⟨rfl, ⟨rfl, trivial⟩⟩⟩⟩⟩⟩⟩⟩⟩⟩⟩ (hJ295 _ _ h)
      obtain ⟨hr_223, h1_223, h2_223⟩ := h
      refine jv_if_eq (tgt := 234) C hr_223 dL_law_223 rfl (fun hc_223 => ?_) (fun hc_223 => ?_)
      · replace h := h1_223 hc_223
        refine jv_iload C dL_law_234 rfl ?_
        refine jv_bipush C dL_law_236 (by decide +kernel) ?_
        refine jv_ishr C dL_law_238 ?_
        refine jv_callSi C (M_L_letter h) kw_L_98 rfl ⟨rfl, rfl⟩ (st := [jv_i y0_221, jv_i r_198, .ref (s0.heap.size + (0 : Int).toNat)]) rfl rfl ⟨Nat.ble_eq_true_of_le (by show _ ≤ 600104; omega), Nat.ble_eq_true_of_le (by show _ ≤ 7301314; omega)⟩ dL_law_239 (fun r_239 g_239 h => ?_)
        refine jv_wd (k := cb + 0) (n := sb + 0) (Nat.ble_eq_true_of_le (by omega)) (Nat.ble_eq_true_of_le (by omega)) ?_
        exact jv_less (ls' := [some (.ref b0), some (.ref (s0.heap.size + (0 : Int).toNat)), some (jv_i nw), some (jv_i nc), some (jv_i np), some (jv_i ns), none, some (jv_i tu), some (jv_i nn), some (jv_i vv), none, some (jv_i sv), some (jv_i pz), none, none, none, none]) ⟨rfl, ⟨rfl, ⟨rfl, ⟨rfl, ⟨rfl, ⟨rfl, ⟨rfl, ⟨rfl, ⟨rfl, ⟨rfl, ⟨rfl, trivial⟩⟩⟩⟩⟩⟩⟩⟩⟩⟩⟩ (hJ242 _ _ h)
      · replace h := h2_223 hc_223
        refine jv_iload C dL_law_226 rfl ?_
        refine jv_callSi C (M_L_letter h) kw_L_98 rfl ⟨rfl, rfl⟩ (st := [jv_i y0_221, jv_i r_198, .ref (s0.heap.size + (0 : Int).toNat)]) rfl rfl ⟨Nat.ble_eq_true_of_le (by show _ ≤ 600104; omega), Nat.ble_eq_true_of_le (by show _ ≤ 7301314; omega)⟩ dL_law_228 (fun r_228 g_228 h => ?_)
        refine jv_goto (tgt := 242) C dL_law_231 rfl ?_
        refine jv_wd (k := cb + 0) (n := sb + 0) (Nat.ble_eq_true_of_le (by omega)) (Nat.ble_eq_true_of_le (by omega)) ?_
        exact jv_less (ls' := [some (.ref b0), some (.ref (s0.heap.size + (0 : Int).toNat)), some (jv_i nw), some (jv_i nc), some (jv_i np), some (jv_i ns), none, some (jv_i tu), some (jv_i nn), some (jv_i vv), none, some (jv_i sv), some (jv_i pz), none, none, none, none]) ⟨rfl, ⟨rfl, ⟨rfl, ⟨rfl, ⟨rfl, ⟨rfl, ⟨rfl, ⟨rfl, ⟨rfl, ⟨rfl, ⟨rfl, trivial⟩⟩⟩⟩⟩⟩⟩⟩⟩⟩⟩ (hJ242 _ _ h)
    obtain ⟨hr_203, h1_203, h2_203⟩ := h
    refine jv_if_eq (tgt := 214) C hr_203 dL_law_203 rfl (fun hc_203 => ?_) (fun hc_203 => ?_)
    · replace h := h1_203 hc_203
      refine jv_iload C dL_law_214 rfl ?_
      refine jv_const C dL_law_216 ?_
      refine jv_ishr C dL_law_217 ?_
      refine jv_callSi C (M_L_letter h) kw_L_98 rfl ⟨rfl, rfl⟩ (st := [jv_i r_198, .ref (s0.heap.size + (0 : Int).toNat)]) rfl rfl ⟨Nat.ble_eq_true_of_le (by show _ ≤ 600104; omega), Nat.ble_eq_true_of_le (by show _ ≤ 7301314; omega)⟩ dL_law_218 (fun r_218 g_218 h => ?_)
      refine jv_wd (k := cb + 0) (n := sb + 0) (Nat.ble_eq_true_of_le (by omega)) (Nat.ble_eq_true_of_le (by omega)) ?_
      exact jv_less (ls' := [some (.ref b0), some (.ref (s0.heap.size + (0 : Int).toNat)), some (jv_i nw), some (jv_i nc), some (jv_i np), some (jv_i ns), none, some (jv_i tu), some (jv_i nn), some (jv_i vv), none, some (jv_i sv), some (jv_i pz), none, some (jv_i y0_193), none, none]) ⟨rfl, ⟨rfl, ⟨rfl, ⟨rfl, ⟨rfl, ⟨rfl, ⟨rfl, ⟨rfl, ⟨rfl, ⟨rfl, ⟨rfl, ⟨rfl, trivial⟩⟩⟩⟩⟩⟩⟩⟩⟩⟩⟩⟩ (hJ221 _ _ h)
    · replace h := h2_203 hc_203
      refine jv_iload C dL_law_206 rfl ?_
      refine jv_callSi C (M_L_letter h) kw_L_98 rfl ⟨rfl, rfl⟩ (st := [jv_i r_198, .ref (s0.heap.size + (0 : Int).toNat)]) rfl rfl ⟨Nat.ble_eq_true_of_le (by show _ ≤ 600104; omega), Nat.ble_eq_true_of_le (by show _ ≤ 7301314; omega)⟩ dL_law_208 (fun r_208 g_208 h => ?_)
      refine jv_goto (tgt := 221) C dL_law_211 rfl ?_
      refine jv_wd (k := cb + 0) (n := sb + 0) (Nat.ble_eq_true_of_le (by omega)) (Nat.ble_eq_true_of_le (by omega)) ?_
      exact jv_less (ls' := [some (.ref b0), some (.ref (s0.heap.size + (0 : Int).toNat)), some (jv_i nw), some (jv_i nc), some (jv_i np), some (jv_i ns), none, some (jv_i tu), some (jv_i nn), some (jv_i vv), none, some (jv_i sv), some (jv_i pz), none, some (jv_i y0_193), none, none]) ⟨rfl, ⟨rfl, ⟨rfl, ⟨rfl, ⟨rfl, ⟨rfl, ⟨rfl, ⟨rfl, ⟨rfl, ⟨rfl, ⟨rfl, ⟨rfl, trivial⟩⟩⟩⟩⟩⟩⟩⟩⟩⟩⟩⟩ (hJ221 _ _ h)
  obtain ⟨hr_185, h1_185, h2_185⟩ := h
  refine jv_if_ne (tgt := 192) C hr_185 dL_law_185 rfl (fun hc_185 => ?_) (fun hc_185 => ?_)
  · replace h := h1_185 hc_185
    refine jv_const C dL_law_192 ?_
    refine jv_wd (k := cb + 0) (n := sb + 0) (Nat.ble_eq_true_of_le (by omega)) (Nat.ble_eq_true_of_le (by omega)) ?_
    exact jv_less (ls' := [some (.ref b0), some (.ref (s0.heap.size + (0 : Int).toNat)), some (jv_i nw), some (jv_i nc), some (jv_i np), some (jv_i ns), none, some (jv_i tu), some (jv_i nn), some (jv_i vv), none, some (jv_i sv), some (jv_i pz), none, none, none, none]) ⟨rfl, ⟨rfl, ⟨rfl, ⟨rfl, ⟨rfl, ⟨rfl, ⟨rfl, ⟨rfl, ⟨rfl, ⟨rfl, ⟨rfl, trivial⟩⟩⟩⟩⟩⟩⟩⟩⟩⟩⟩ (hJ193 _ _ h)
  · replace h := h2_185 hc_185
    refine jv_const C dL_law_188 ?_
    refine jv_goto (tgt := 193) C dL_law_189 rfl ?_
    refine jv_wd (k := cb + 0) (n := sb + 0) (Nat.ble_eq_true_of_le (by omega)) (Nat.ble_eq_true_of_le (by omega)) ?_
    exact jv_less (ls' := [some (.ref b0), some (.ref (s0.heap.size + (0 : Int).toNat)), some (jv_i nw), some (jv_i nc), some (jv_i np), some (jv_i ns), none, some (jv_i tu), some (jv_i nn), some (jv_i vv), none, some (jv_i sv), some (jv_i pz), none, none, none, none]) ⟨rfl, ⟨rfl, ⟨rfl, ⟨rfl, ⟨rfl, ⟨rfl, ⟨rfl, ⟨rfl, ⟨rfl, ⟨rfl, ⟨rfl, trivial⟩⟩⟩⟩⟩⟩⟩⟩⟩⟩⟩ (hJ193 _ _ h)
