def wB_LT_1157_1184 (gj_1184 : jv_Mem) : Prop :=
  False
def wp_LT_1157  (ii : Int) (g : jv_Mem) : Prop :=
  ((jv_r ii) ∧ (ii = 0 → wB_LT_1157_1184 g) ∧ (¬ ii = 0 → (wp_X8_fillWeight (fun (r_1163 : Int) (g_1163 : jv_Mem) => (wp_X8_fillWeightByAll (fun (r_1167 : Int) (g_1167 : jv_Mem) => ((jv_r r_1163 ∧ jv_r r_1167) ∧ (¬ r_1163 = r_1167 → wB_LT_1157_1184 g_1167) ∧ (r_1163 = r_1167 → (wp_L_fill (fun (r_1174 : Int) (g_1174 : jv_Mem) => ((jv_r r_1174) ∧ (r_1174 = 0 → wB_LT_1157_1184 g_1174) ∧ (¬ r_1174 = 0 → True))) g_1167)))) g_1163)) g)))
set_option maxHeartbeats 4000000 in
set_option maxRecDepth 100000 in
theorem LT_1157 {p : Program} {l : Launch} {e : Env} {m : MethodId} {below : List Frame} {meth : Method} {c : Code} {s0 : State} {b0 : Addr} {D : va_G} {ids : Nat → ClassId} {L : Nat} {xs : Nat → Int32} (hT : jv_T l s0 b0) (C : jv_C p s0 m #[Value.ref b0] c code RL s0 b0 D ids) (hml : 17 = c.maxLocals) (hr : meth.sig.returnType = ret) (hlk : meth.locks = false) (hX : va_X b0 L xs s0 s0.heap) (hbl : b0 < s0.heap.size) (hL : L ≤ 260) {cb sb : Nat} (hcb : cb ≤ 590000) (hsb : sb ≤ 7200000)   {ii : Int} {g : jv_Mem} (h : wp_LT_1157  ii g) : jv_V p l e room_1 s0 m #[Value.ref b0] below meth c (cb + 0) (sb + 0) (lw_Z below #[Value.ref b0] s0) s0 D ids none jv_SH g 1157 [none, some (.ref (s0.heap.size + (0 : Int).toNat)), none, none, none, none, some (jv_i ii), none, none, none, none, none, none, none, none, none, none] [] := by
  unfold wp_LT_1157 at h
  refine jv_iload C dL_law_1157 rfl ?_
  have hJ1184 : ∀ (gj_1184 : jv_Mem), wB_LT_1157_1184 gj_1184 → jv_V p l e room_1 s0 m #[Value.ref b0] below meth c (cb + 0) (sb + 0) (lw_Z below #[Value.ref b0] s0) s0 D ids none jv_SH gj_1184 1184 [none, none, none, none, none, none, none, none, none, none, none, none, none, none, none, none, none] [] := by
    intro gj_1184 h
    unfold wB_LT_1157_1184 at h
    refine jv_const C dL_law_1184 ?_
    exact h.elim
  obtain ⟨hr_1159, h1_1159, h2_1159⟩ := h
  refine jv_if_eq (tgt := 1184) C hr_1159 dL_law_1159 rfl (fun hc_1159 => ?_) (fun hc_1159 => ?_)
  · replace h := h1_1159 hc_1159
    refine jv_wd (k := cb + 0) (n := sb + 0) (Nat.ble_eq_true_of_le (by omega)) (Nat.ble_eq_true_of_le (by omega)) ?_
    exact jv_less (ls' := [none, none, none, none, none, none, none, none, none, none, none, none, none, none, none, none, none]) trivial (hJ1184 _ h)
  · replace h := h2_1159 hc_1159
    refine jv_aload_n C dL_law_1162 rfl ?_
    refine jv_callVi C (M_X8_fillWeight h) kw_L_66 sS_0 rfl rfl ⟨rfl, rfl⟩ (st := []) rfl rfl ⟨Nat.ble_eq_true_of_le (by show _ ≤ 600104; omega), Nat.ble_eq_true_of_le (by show _ ≤ 7301314; omega)⟩ dL_law_1163 (fun r_1163 g_1163 h => ?_)
    refine jv_aload_n C dL_law_1166 rfl ?_
    refine jv_callVi C (M_X8_fillWeightByAll h) kw_L_156 sS_0 rfl rfl ⟨rfl, rfl⟩ (st := [jv_i r_1163]) rfl rfl ⟨Nat.ble_eq_true_of_le (by show _ ≤ 600104; omega), Nat.ble_eq_true_of_le (by show _ ≤ 7301314; omega)⟩ dL_law_1167 (fun r_1167 g_1167 h => ?_)
    obtain ⟨hr_1170, h1_1170, h2_1170⟩ := h
    refine jv_icmp_ne (tgt := 1184) C hr_1170.1 hr_1170.2 dL_law_1170 rfl (fun hc_1170 => ?_) (fun hc_1170 => ?_)
    · replace h := h1_1170 hc_1170
      refine jv_wd (k := cb + 0) (n := sb + 0) (Nat.ble_eq_true_of_le (by omega)) (Nat.ble_eq_true_of_le (by omega)) ?_
      exact jv_less (ls' := [none, none, none, none, none, none, none, none, none, none, none, none, none, none, none, none, none]) trivial (hJ1184 _ h)
    · replace h := h2_1170 hc_1170
      refine jv_aload_n C dL_law_1173 rfl ?_
      refine jv_callSi C (M_L_fill h) kw_L_87 rfl ⟨rfl, rfl⟩ (st := []) rfl rfl ⟨Nat.ble_eq_true_of_le (by show _ ≤ 600104; omega), Nat.ble_eq_true_of_le (by show _ ≤ 7301314; omega)⟩ dL_law_1174 (fun r_1174 g_1174 h => ?_)
      obtain ⟨hr_1177, h1_1177, h2_1177⟩ := h
      refine jv_if_eq (tgt := 1184) C hr_1177 dL_law_1177 rfl (fun hc_1177 => ?_) (fun hc_1177 => ?_)
      · replace h := h1_1177 hc_1177
        refine jv_wd (k := cb + 0) (n := sb + 0) (Nat.ble_eq_true_of_le (by omega)) (Nat.ble_eq_true_of_le (by omega)) ?_
        exact jv_less (ls' := [none, none, none, none, none, none, none, none, none, none, none, none, none, none, none, none, none]) trivial (hJ1184 _ h)
      · replace h := h2_1177 hc_1177
        refine jv_const C dL_law_1180 ?_
        refine jv_goto (tgt := 1185) C dL_law_1181 rfl ?_
        exact jv_lret C hr hlk (by omega) (by omega) dL_law_1185
