def wB_LT_1105_1149 (nw : Int) (nc : Int) (np : Int) (ns : Int) (tu : Int) (nn : Int) (KU74 : Int → Int → Int → Int → Int → Int → Int → jv_Mem → Prop) (y0_1149 : Int) (gj_1149 : jv_Mem) : Prop :=
  (∀ v8_1151 : Int, v8_1151 = nn + 1 → KU74 nw nc np ns y0_1149 tu v8_1151 gj_1149)
def wB_LT_1105_1148 (nw : Int) (nc : Int) (np : Int) (ns : Int) (tu : Int) (nn : Int) (KU74 : Int → Int → Int → Int → Int → Int → Int → jv_Mem → Prop) (gj_1148 : jv_Mem) : Prop :=
  wB_LT_1105_1149 nw nc np ns tu nn KU74 0 gj_1148
def wB_LT_1105_1144 (nw : Int) (nc : Int) (np : Int) (ns : Int) (tu : Int) (nn : Int) (KU74 : Int → Int → Int → Int → Int → Int → Int → jv_Mem → Prop) (gj_1144 : jv_Mem) : Prop :=
  wB_LT_1105_1149 nw nc np ns tu nn KU74 1 gj_1144
def wp_LT_1105 (KU74 : Int → Int → Int → Int → Int → Int → Int → jv_Mem → Prop) (nw nc np ns ii tu nn sv pz : Int) (g : jv_Mem) : Prop :=
  ((jv_r ii) ∧ (ii = 0 → wB_LT_1105_1148 nw nc np ns tu nn KU74 g) ∧ (¬ ii = 0 → (wp_L_solvers ns (fun (r_1113 : Int) (g_1113 : jv_Mem) => ((jv_r r_1113) ∧ (r_1113 = 0 → wB_LT_1105_1148 nw nc np ns tu nn KU74 g_1113) ∧ (¬ r_1113 = 0 → ((jv_r np) ∧ (np = 0 → wB_LT_1105_1144 nw nc np ns tu nn KU74 g_1113) ∧ (¬ np = 0 → ((jv_r ns) ∧ (ns = 0 → wB_LT_1105_1144 nw nc np ns tu nn KU74 g_1113) ∧ (¬ ns = 0 → (wp_X8_solvedAt sv pz (fun (r_1134 : Int) (g_1134 : jv_Mem) => (wp_X8_now (fun (r_1138 : Int) (g_1138 : jv_Mem) => ((jv_r r_1134 ∧ jv_r r_1138) ∧ (r_1138 < r_1134 → wB_LT_1105_1148 nw nc np ns tu nn KU74 g_1138) ∧ (r_1134 ≤ r_1138 → wB_LT_1105_1144 nw nc np ns tu nn KU74 g_1138))) g_1134)) g_1113)))))))) g)))
set_option maxHeartbeats 4000000 in
set_option maxRecDepth 100000 in
theorem LT_1105 {p : Program} {l : Launch} {e : Env} {m : MethodId} {below : List Frame} {meth : Method} {c : Code} {s0 : State} {b0 : Addr} {D : va_G} {ids : Nat → ClassId} {L : Nat} {xs : Nat → Int32} (hT : jv_T l s0 b0) (C : jv_C p s0 m #[Value.ref b0] c code RL s0 b0 D ids) (hml : 17 = c.maxLocals) (hr : meth.sig.returnType = ret) (hlk : meth.locks = false) (hX : va_X b0 L xs s0 s0.heap) (hbl : b0 < s0.heap.size) (hL : L ≤ 260) {cb sb : Nat} (hcb : cb ≤ 590000) (hsb : sb ≤ 7200000) {KU74 : Int → Int → Int → Int → Int → Int → Int → jv_Mem → Prop} (hU74 : ∀ (nw nc np ns ii tu nn : Int) (g : jv_Mem), KU74 nw nc np ns ii tu nn g → jv_V p l e room_1 s0 m #[Value.ref b0] below meth c (cb + 0) (sb + 0) (lw_Z below #[Value.ref b0] s0) s0 D ids none jv_SH g 74 [some (.ref b0), some (.ref (s0.heap.size + (0 : Int).toNat)), some (jv_i nw), some (jv_i nc), some (jv_i np), some (jv_i ns), some (jv_i ii), some (jv_i tu), some (jv_i nn), none, none, none, none, none, none, none, none] []) {nw nc np ns ii tu nn sv pz : Int} {g : jv_Mem} (h : wp_LT_1105 KU74 nw nc np ns ii tu nn sv pz g) : jv_V p l e room_1 s0 m #[Value.ref b0] below meth c (cb + 0) (sb + 0) (lw_Z below #[Value.ref b0] s0) s0 D ids none jv_SH g 1105 [some (.ref b0), some (.ref (s0.heap.size + (0 : Int).toNat)), some (jv_i nw), some (jv_i nc), some (jv_i np), some (jv_i ns), some (jv_i ii), some (jv_i tu), some (jv_i nn), none, none, some (jv_i sv), some (jv_i pz), none, none, none, none] [] := by
  unfold wp_LT_1105 at h
  refine jv_iload C dL_law_1105 rfl ?_
  have hJ1149 : ∀ (y0_1149 : Int) (gj_1149 : jv_Mem), wB_LT_1105_1149 nw nc np ns tu nn KU74 y0_1149 gj_1149 → jv_V p l e room_1 s0 m #[Value.ref b0] below meth c (cb + 0) (sb + 0) (lw_Z below #[Value.ref b0] s0) s0 D ids none jv_SH gj_1149 1149 [some (.ref b0), some (.ref (s0.heap.size + (0 : Int).toNat)), some (jv_i nw), some (jv_i nc), some (jv_i np), some (jv_i ns), none, some (jv_i tu), some (jv_i nn), none, none, none, none, none, none, none, none] [jv_i y0_1149] := by
    intro y0_1149 gj_1149 h
    unfold wB_LT_1105_1149 at h
    refine jv_istore (ls' := [some (.ref b0), some (.ref (s0.heap.size + (0 : Int).toNat)), some (jv_i nw), some (jv_i nc), some (jv_i np), some (jv_i ns), some (jv_i y0_1149), some (jv_i tu), some (jv_i nn), none, none, none, none, none, none, none, none]) C dL_law_1149 (Nat.lt_of_lt_of_eq (Nat.le_of_ble_eq_true rfl) hml) rfl ?_
    refine jv_iincn C dL_law_1151 (Nat.lt_of_lt_of_eq (Nat.le_of_ble_eq_true rfl) hml) rfl (fun v8_1151 ev8_1151 => ?_)
    replace h := h v8_1151 ev8_1151
    refine jv_lset (ls' := [some (.ref b0), some (.ref (s0.heap.size + (0 : Int).toNat)), some (jv_i nw), some (jv_i nc), some (jv_i np), some (jv_i ns), some (jv_i y0_1149), some (jv_i tu), some (jv_i v8_1151), none, none, none, none, none, none, none, none]) rfl ?_
    refine jv_goto (tgt := 74) C dL_law_1154 rfl ?_
    refine jv_wd (k := cb + 0) (n := sb + 0) (Nat.ble_eq_true_of_le (by omega)) (Nat.ble_eq_true_of_le (by omega)) ?_
    exact jv_less (ls' := [some (.ref b0), some (.ref (s0.heap.size + (0 : Int).toNat)), some (jv_i nw), some (jv_i nc), some (jv_i np), some (jv_i ns), some (jv_i y0_1149), some (jv_i tu), some (jv_i v8_1151), none, none, none, none, none, none, none, none]) ⟨rfl, ⟨rfl, ⟨rfl, ⟨rfl, ⟨rfl, ⟨rfl, ⟨rfl, ⟨rfl, ⟨rfl, trivial⟩⟩⟩⟩⟩⟩⟩⟩⟩ (hU74 _ _ _ _ _ _ _ _ h)
  have hJ1148 : ∀ (gj_1148 : jv_Mem), wB_LT_1105_1148 nw nc np ns tu nn KU74 gj_1148 → jv_V p l e room_1 s0 m #[Value.ref b0] below meth c (cb + 0) (sb + 0) (lw_Z below #[Value.ref b0] s0) s0 D ids none jv_SH gj_1148 1148 [some (.ref b0), some (.ref (s0.heap.size + (0 : Int).toNat)), some (jv_i nw), some (jv_i nc), some (jv_i np), some (jv_i ns), none, some (jv_i tu), some (jv_i nn), none, none, none, none, none, none, none, none] [] := by
    intro gj_1148 h
    unfold wB_LT_1105_1148 at h
    refine jv_const C dL_law_1148 ?_
    refine jv_wd (k := cb + 0) (n := sb + 0) (Nat.ble_eq_true_of_le (by omega)) (Nat.ble_eq_true_of_le (by omega)) ?_
    exact jv_less (ls' := [some (.ref b0), some (.ref (s0.heap.size + (0 : Int).toNat)), some (jv_i nw), some (jv_i nc), some (jv_i np), some (jv_i ns), none, some (jv_i tu), some (jv_i nn), none, none, none, none, none, none, none, none]) ⟨rfl, ⟨rfl, ⟨rfl, ⟨rfl, ⟨rfl, ⟨rfl, ⟨rfl, ⟨rfl, trivial⟩⟩⟩⟩⟩⟩⟩⟩ (hJ1149 _ _ h)
  obtain ⟨hr_1107, h1_1107, h2_1107⟩ := h
  refine jv_if_eq (tgt := 1148) C hr_1107 dL_law_1107 rfl (fun hc_1107 => ?_) (fun hc_1107 => ?_)
  · replace h := h1_1107 hc_1107
    refine jv_wd (k := cb + 0) (n := sb + 0) (Nat.ble_eq_true_of_le (by omega)) (Nat.ble_eq_true_of_le (by omega)) ?_
    exact jv_less (ls' := [some (.ref b0), some (.ref (s0.heap.size + (0 : Int).toNat)), some (jv_i nw), some (jv_i nc), some (jv_i np), some (jv_i ns), none, some (jv_i tu), some (jv_i nn), none, none, none, none, none, none, none, none]) ⟨rfl, ⟨rfl, ⟨rfl, ⟨rfl, ⟨rfl, ⟨rfl, ⟨rfl, ⟨rfl, trivial⟩⟩⟩⟩⟩⟩⟩⟩ (hJ1148 _ h)
  · replace h := h2_1107 hc_1107
    refine jv_aload_n C dL_law_1110 rfl ?_
    refine jv_iload C dL_law_1111 rfl ?_
    refine jv_callSi C (M_L_solvers h) kw_L_83 rfl ⟨rfl, rfl⟩ (st := []) rfl rfl ⟨Nat.ble_eq_true_of_le (by show _ ≤ 600104; omega), Nat.ble_eq_true_of_le (by show _ ≤ 7301314; omega)⟩ dL_law_1113 (fun r_1113 g_1113 h => ?_)
    obtain ⟨hr_1116, h1_1116, h2_1116⟩ := h
    refine jv_if_eq (tgt := 1148) C hr_1116 dL_law_1116 rfl (fun hc_1116 => ?_) (fun hc_1116 => ?_)
    · replace h := h1_1116 hc_1116
      refine jv_wd (k := cb + 0) (n := sb + 0) (Nat.ble_eq_true_of_le (by omega)) (Nat.ble_eq_true_of_le (by omega)) ?_
      exact jv_less (ls' := [some (.ref b0), some (.ref (s0.heap.size + (0 : Int).toNat)), some (jv_i nw), some (jv_i nc), some (jv_i np), some (jv_i ns), none, some (jv_i tu), some (jv_i nn), none, none, none, none, none, none, none, none]) ⟨rfl, ⟨rfl, ⟨rfl, ⟨rfl, ⟨rfl, ⟨rfl, ⟨rfl, ⟨rfl, trivial⟩⟩⟩⟩⟩⟩⟩⟩ (hJ1148 _ h)
    · replace h := h2_1116 hc_1116
      refine jv_iload C dL_law_1119 rfl ?_
      have hJ1144 : ∀ (gj_1144 : jv_Mem), wB_LT_1105_1144 nw nc np ns tu nn KU74 gj_1144 → jv_V p l e room_1 s0 m #[Value.ref b0] below meth c (cb + 0) (sb + 0) (lw_Z below #[Value.ref b0] s0) s0 D ids none jv_SH gj_1144 1144 [some (.ref b0), some (.ref (s0.heap.size + (0 : Int).toNat)), some (jv_i nw), some (jv_i nc), some (jv_i np), some (jv_i ns), none, some (jv_i tu), some (jv_i nn), none, none, none, none, none, none, none, none] [] := by
        intro gj_1144 h
        unfold wB_LT_1105_1144 at h
        refine jv_const C dL_law_1144 ?_
        refine jv_goto (tgt := 1149) C dL_law_1145 rfl ?_
        refine jv_wd (k := cb + 0) (n := sb + 0) (Nat.ble_eq_true_of_le (by omega)) (Nat.ble_eq_true_of_le (by omega)) ?_
        exact jv_less (ls' := [some (.ref b0), some (.ref (s0.heap.size + (0 : Int).toNat)), some (jv_i nw), some (jv_i nc), some (jv_i np), some (jv_i ns), none, some (jv_i tu), some (jv_i nn), none, none, none, none, none, none, none, none]) ⟨rfl, ⟨rfl, ⟨rfl, ⟨rfl, ⟨rfl, ⟨rfl, ⟨rfl, ⟨rfl, trivial⟩⟩⟩⟩⟩⟩⟩⟩ (hJ1149 _ _ h)
      obtain ⟨hr_1121, h1_1121, h2_1121⟩ := h
      refine jv_if_eq (tgt := 1144) C hr_1121 dL_law_1121 rfl (fun hc_1121 => ?_) (fun hc_1121 => ?_)
      · replace h := h1_1121 hc_1121
        refine jv_wd (k := cb + 0) (n := sb + 0) (Nat.ble_eq_true_of_le (by omega)) (Nat.ble_eq_true_of_le (by omega)) ?_
        exact jv_less (ls' := [some (.ref b0), some (.ref (s0.heap.size + (0 : Int).toNat)), some (jv_i nw), some (jv_i nc), some (jv_i np), some (jv_i ns), none, some (jv_i tu), some (jv_i nn), none, none, none, none, none, none, none, none]) ⟨rfl, ⟨rfl, ⟨rfl, ⟨rfl, ⟨rfl, ⟨rfl, ⟨rfl, ⟨rfl, trivial⟩⟩⟩⟩⟩⟩⟩⟩ (hJ1144 _ h)
      · replace h := h2_1121 hc_1121
        refine jv_iload C dL_law_1124 rfl ?_
        obtain ⟨hr_1126, h1_1126, h2_1126⟩ := h
        refine jv_if_eq (tgt := 1144) C hr_1126 dL_law_1126 rfl (fun hc_1126 => ?_) (fun hc_1126 => ?_)
        · replace h := h1_1126 hc_1126
          refine jv_wd (k := cb + 0) (n := sb + 0) (Nat.ble_eq_true_of_le (by omega)) (Nat.ble_eq_true_of_le (by omega)) ?_
          exact jv_less (ls' := [some (.ref b0), some (.ref (s0.heap.size + (0 : Int).toNat)), some (jv_i nw), some (jv_i nc), some (jv_i np), some (jv_i ns), none, some (jv_i tu), some (jv_i nn), none, none, none, none, none, none, none, none]) ⟨rfl, ⟨rfl, ⟨rfl, ⟨rfl, ⟨rfl, ⟨rfl, ⟨rfl, ⟨rfl, trivial⟩⟩⟩⟩⟩⟩⟩⟩ (hJ1144 _ h)
        · replace h := h2_1126 hc_1126
          refine jv_aload_n C dL_law_1129 rfl ?_
          refine jv_iload C dL_law_1130 rfl ?_
          refine jv_iload C dL_law_1132 rfl ?_
          refine jv_callVi C (M_X8_solvedAt h) kw_L_153 sS_0 rfl rfl ⟨rfl, rfl⟩ (st := []) rfl rfl ⟨Nat.ble_eq_true_of_le (by show _ ≤ 600104; omega), Nat.ble_eq_true_of_le (by show _ ≤ 7301314; omega)⟩ dL_law_1134 (fun r_1134 g_1134 h => ?_)
          refine jv_aload_n C dL_law_1137 rfl ?_
          refine jv_callVi C (M_X8_now h) kw_L_132 sS_0 rfl rfl ⟨rfl, rfl⟩ (st := [jv_i r_1134]) rfl rfl ⟨Nat.ble_eq_true_of_le (by show _ ≤ 600104; omega), Nat.ble_eq_true_of_le (by show _ ≤ 7301314; omega)⟩ dL_law_1138 (fun r_1138 g_1138 h => ?_)
          obtain ⟨hr_1141, h1_1141, h2_1141⟩ := h
          refine jv_icmp_gt (tgt := 1148) C hr_1141.1 hr_1141.2 dL_law_1141 rfl (fun hc_1141 => ?_) (fun hc_1141 => ?_)
          · replace h := h1_1141 hc_1141
            refine jv_wd (k := cb + 0) (n := sb + 0) (Nat.ble_eq_true_of_le (by omega)) (Nat.ble_eq_true_of_le (by omega)) ?_
            exact jv_less (ls' := [some (.ref b0), some (.ref (s0.heap.size + (0 : Int).toNat)), some (jv_i nw), some (jv_i nc), some (jv_i np), some (jv_i ns), none, some (jv_i tu), some (jv_i nn), none, none, none, none, none, none, none, none]) ⟨rfl, ⟨rfl, ⟨rfl, ⟨rfl, ⟨rfl, ⟨rfl, ⟨rfl, ⟨rfl, trivial⟩⟩⟩⟩⟩⟩⟩⟩ (hJ1148 _ h)
          · replace h := h2_1141 hc_1141
            refine jv_wd (k := cb + 0) (n := sb + 0) (Nat.ble_eq_true_of_le (by omega)) (Nat.ble_eq_true_of_le (by omega)) ?_
            exact jv_less (ls' := [some (.ref b0), some (.ref (s0.heap.size + (0 : Int).toNat)), some (jv_i nw), some (jv_i nc), some (jv_i np), some (jv_i ns), none, some (jv_i tu), some (jv_i nn), none, none, none, none, none, none, none, none]) ⟨rfl, ⟨rfl, ⟨rfl, ⟨rfl, ⟨rfl, ⟨rfl, ⟨rfl, ⟨rfl, trivial⟩⟩⟩⟩⟩⟩⟩⟩ (hJ1144 _ h)
