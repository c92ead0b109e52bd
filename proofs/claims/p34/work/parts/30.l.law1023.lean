def wB_LT_1023_1103 (nw : Int) (nc : Int) (np : Int) (ns : Int) (tu : Int) (nn : Int) (sv : Int) (pz : Int) (KU1105 : Int → Int → Int → Int → Int → Int → Int → Int → Int → jv_Mem → Prop) (y0_1103 : Int) (gj_1103 : jv_Mem) : Prop :=
  KU1105 nw nc np ns y0_1103 tu nn sv pz gj_1103
def wB_LT_1023_1102 (nw : Int) (nc : Int) (np : Int) (ns : Int) (tu : Int) (nn : Int) (sv : Int) (pz : Int) (KU1105 : Int → Int → Int → Int → Int → Int → Int → Int → Int → jv_Mem → Prop) (gj_1102 : jv_Mem) : Prop :=
  wB_LT_1023_1103 nw nc np ns tu nn sv pz KU1105 0 gj_1102
def wp_LT_1023 (KU1105 : Int → Int → Int → Int → Int → Int → Int → Int → Int → jv_Mem → Prop) (nw nc np ns tu nn vv sv pz : Int) (g : jv_Mem) : Prop :=
  (wp_X8_coins sv (fun (r_1026 : Int) (g_1026 : jv_Mem) => (wp_L_low vv 6 (fun (r_1038 : Int) (g_1038 : jv_Mem) => (wp_L_judge pz r_1038 (fun (r_1041 : Int) (g_1041 : jv_Mem) => ((jv_r r_1041) ∧ (r_1041 < ((-3)) → wB_LT_1023_1102 nw nc np ns tu nn sv pz KU1105 g_1041) ∧ (((-3)) ≤ r_1041 → ((jv_r r_1041 ∧ jv_r ns) ∧ (ns < r_1041 → wB_LT_1023_1102 nw nc np ns tu nn sv pz KU1105 g_1041) ∧ (r_1041 ≤ ns → (wp_X8_coins sv (fun (r_1063 : Int) (g_1063 : jv_Mem) => ((jv_r r_1063 ∧ jv_r r_1026) ∧ (r_1063 < r_1026 → wB_LT_1023_1102 nw nc np ns tu nn sv pz KU1105 g_1063) ∧ (r_1026 ≤ r_1063 → (wp_L_low vv 6 (fun (r_1078 : Int) (g_1078 : jv_Mem) => (wp_L_judge pz r_1078 (fun (r_1081 : Int) (g_1081 : jv_Mem) => ((jv_r r_1081) ∧ (¬ r_1081 = ((-3)) → wB_LT_1023_1102 nw nc np ns tu nn sv pz KU1105 g_1081) ∧ (r_1081 = ((-3)) → (wp_X8_open pz (fun (r_1092 : Int) (g_1092 : jv_Mem) => ((jv_r r_1092) ∧ (r_1092 ≤ 0 → wB_LT_1023_1102 nw nc np ns tu nn sv pz KU1105 g_1092) ∧ (0 < r_1092 → wB_LT_1023_1103 nw nc np ns tu nn sv pz KU1105 1 g_1092))) g_1081)))) g_1078)) g_1063)))) g_1041)))))) g_1038)) g_1026)) g)
set_option maxHeartbeats 4000000 in
set_option maxRecDepth 100000 in
theorem LT_1023 {p : Program} {l : Launch} {e : Env} {m : MethodId} {below : List Frame} {meth : Method} {c : Code} {s0 : State} {b0 : Addr} {D : va_G} {ids : Nat → ClassId} {L : Nat} {xs : Nat → Int32} (hT : jv_T l s0 b0) (C : jv_C p s0 m #[Value.ref b0] c code RL s0 b0 D ids) (hml : 17 = c.maxLocals) (hr : meth.sig.returnType = ret) (hlk : meth.locks = false) (hX : va_X b0 L xs s0 s0.heap) (hbl : b0 < s0.heap.size) (hL : L ≤ 260) {cb sb : Nat} (hcb : cb ≤ 590000) (hsb : sb ≤ 7200000) {KU1105 : Int → Int → Int → Int → Int → Int → Int → Int → Int → jv_Mem → Prop} (hU1105 : ∀ (nw nc np ns ii tu nn sv pz : Int) (g : jv_Mem), KU1105 nw nc np ns ii tu nn sv pz g → jv_V p l e room_1 s0 m #[Value.ref b0] below meth c (cb + 4) (sb + 24) (lw_Z below #[Value.ref b0] s0) s0 D ids none jv_SH g 1105 [some (.ref b0), some (.ref (s0.heap.size + (0 : Int).toNat)), some (jv_i nw), some (jv_i nc), some (jv_i np), some (jv_i ns), some (jv_i ii), some (jv_i tu), some (jv_i nn), none, none, some (jv_i sv), some (jv_i pz), none, none, none, none] []) {nw nc np ns tu nn vv sv pz : Int} {g : jv_Mem} (h : wp_LT_1023 KU1105 nw nc np ns tu nn vv sv pz g) : jv_V p l e room_1 s0 m #[Value.ref b0] below meth c (cb + 0) (sb + 0) (lw_Z below #[Value.ref b0] s0) s0 D ids none jv_SH g 1023 [some (.ref b0), some (.ref (s0.heap.size + (0 : Int).toNat)), some (jv_i nw), some (jv_i nc), some (jv_i np), some (jv_i ns), none, some (jv_i tu), some (jv_i nn), some (jv_i vv), none, some (jv_i sv), some (jv_i pz), none, none, none, none] [] := by
  unfold wp_LT_1023 at h
  refine jv_aload_n C dL_law_1023 rfl ?_
  refine jv_iload C dL_law_1024 rfl ?_
  refine jv_callVi C (M_X8_coins h) kw_L_63 sS_0 rfl rfl ⟨rfl, rfl⟩ (st := []) rfl rfl ⟨Nat.ble_eq_true_of_le (by show _ ≤ 600104; omega), Nat.ble_eq_true_of_le (by show _ ≤ 7301314; omega)⟩ dL_law_1026 (fun r_1026 g_1026 h => ?_)
  refine jv_istore (ls' := [some (.ref b0), some (.ref (s0.heap.size + (0 : Int).toNat)), some (jv_i nw), some (jv_i nc), some (jv_i np), some (jv_i ns), none, some (jv_i tu), some (jv_i nn), some (jv_i vv), none, some (jv_i sv), some (jv_i pz), none, some (jv_i r_1026), none, none]) C dL_law_1029 (Nat.lt_of_lt_of_eq (Nat.le_of_ble_eq_true rfl) hml) rfl ?_
  refine jv_aload_n C dL_law_1031 rfl ?_
  refine jv_iload C dL_law_1032 rfl ?_
  refine jv_iload C dL_law_1034 rfl ?_
  refine jv_bipush C dL_law_1036 (by decide +kernel) ?_
  refine jv_callSi C (M_L_low h) kw_L_52 rfl ⟨rfl, rfl⟩ (st := [jv_i pz, .ref (s0.heap.size + (0 : Int).toNat)]) rfl rfl ⟨Nat.ble_eq_true_of_le (by show _ ≤ 600104; omega), Nat.ble_eq_true_of_le (by show _ ≤ 7301314; omega)⟩ dL_law_1038 (fun r_1038 g_1038 h => ?_)
  refine jv_callSWi C (M_L_judge hT h) kw_L_150 rfl ⟨rfl, rfl⟩ (st := []) rfl rfl ⟨Nat.ble_eq_true_of_le (by show _ ≤ 600104; omega), Nat.ble_eq_true_of_le (by show _ ≤ 7301314; omega)⟩ dL_law_1041 (fun r_1041 g_1041 h => ?_)
  refine jv_istore (ls' := [some (.ref b0), some (.ref (s0.heap.size + (0 : Int).toNat)), some (jv_i nw), some (jv_i nc), some (jv_i np), some (jv_i ns), none, some (jv_i tu), some (jv_i nn), some (jv_i vv), none, some (jv_i sv), some (jv_i pz), none, some (jv_i r_1026), some (jv_i r_1041), none]) C dL_law_1044 (Nat.lt_of_lt_of_eq (Nat.le_of_ble_eq_true rfl) hml) rfl ?_
  refine jv_iload C dL_law_1046 rfl ?_
  refine jv_bipush C dL_law_1048 (by decide +kernel) ?_
  have hJ1103 : ∀ (y0_1103 : Int) (gj_1103 : jv_Mem), wB_LT_1023_1103 nw nc np ns tu nn sv pz KU1105 y0_1103 gj_1103 → jv_V p l e room_1 s0 m #[Value.ref b0] below meth c (cb + 2) (sb + 12) (lw_Z below #[Value.ref b0] s0) s0 D ids none jv_SH gj_1103 1103 [some (.ref b0), some (.ref (s0.heap.size + (0 : Int).toNat)), some (jv_i nw), some (jv_i nc), some (jv_i np), some (jv_i ns), none, some (jv_i tu), some (jv_i nn), none, none, some (jv_i sv), some (jv_i pz), none, none, none, none] [jv_i y0_1103] := by
    intro y0_1103 gj_1103 h
    unfold wB_LT_1023_1103 at h
    refine jv_istore (ls' := [some (.ref b0), some (.ref (s0.heap.size + (0 : Int).toNat)), some (jv_i nw), some (jv_i nc), some (jv_i np), some (jv_i ns), some (jv_i y0_1103), some (jv_i tu), some (jv_i nn), none, none, some (jv_i sv), some (jv_i pz), none, none, none, none]) C dL_law_1103 (Nat.lt_of_lt_of_eq (Nat.le_of_ble_eq_true rfl) hml) rfl ?_
    refine jv_wd (k := cb + 4) (n := sb + 24) (Nat.ble_eq_true_of_le (by omega)) (Nat.ble_eq_true_of_le (by omega)) ?_
    exact jv_less (ls' := [some (.ref b0), some (.ref (s0.heap.size + (0 : Int).toNat)), some (jv_i nw), some (jv_i nc), some (jv_i np), some (jv_i ns), some (jv_i y0_1103), some (jv_i tu), some (jv_i nn), none, none, some (jv_i sv), some (jv_i pz), none, none, none, none]) ⟨rfl, ⟨rfl, ⟨rfl, ⟨rfl, ⟨rfl, ⟨rfl, ⟨rfl, ⟨rfl, ⟨rfl, ⟨rfl, ⟨rfl, trivial⟩⟩⟩⟩⟩⟩⟩⟩⟩⟩⟩ (hU1105 _ _ _ _ _ _ _ _ _ _ h)
  have hJ1102 : ∀ (gj_1102 : jv_Mem), wB_LT_1023_1102 nw nc np ns tu nn sv pz KU1105 gj_1102 → jv_V p l e room_1 s0 m #[Value.ref b0] below meth c (cb + 2) (sb + 12) (lw_Z below #[Value.ref b0] s0) s0 D ids none jv_SH gj_1102 1102 [some (.ref b0), some (.ref (s0.heap.size + (0 : Int).toNat)), some (jv_i nw), some (jv_i nc), some (jv_i np), some (jv_i ns), none, some (jv_i tu), some (jv_i nn), none, none, some (jv_i sv), some (jv_i pz), none, none, none, none] [] := by
    intro gj_1102 h
    unfold wB_LT_1023_1102 at h
    refine jv_const C dL_law_1102 ?_
    refine jv_wd (k := cb + 2) (n := sb + 12) (Nat.ble_eq_true_of_le (by omega)) (Nat.ble_eq_true_of_le (by omega)) ?_
    exact jv_less (ls' := [some (.ref b0), some (.ref (s0.heap.size + (0 : Int).toNat)), some (jv_i nw), some (jv_i nc), some (jv_i np), some (jv_i ns), none, some (jv_i tu), some (jv_i nn), none, none, some (jv_i sv), some (jv_i pz), none, none, none, none]) ⟨rfl, ⟨rfl, ⟨rfl, ⟨rfl, ⟨rfl, ⟨rfl, ⟨rfl, ⟨rfl, ⟨rfl, ⟨rfl, trivial⟩⟩⟩⟩⟩⟩⟩⟩⟩⟩ (hJ1103 _ _ h)
  obtain ⟨hr_1050, h1_1050, h2_1050⟩ := h
  refine jv_icmp_lt (tgt := 1102) C hr_1050 ⟨by decide, by decide⟩ dL_law_1050 rfl (fun hc_1050 => ?_) (fun hc_1050 => ?_)
  · replace h := h1_1050 hc_1050
    refine jv_wd (k := cb + 2) (n := sb + 12) (Nat.ble_eq_true_of_le (by omega)) (Nat.ble_eq_true_of_le (by omega)) ?_
    exact jv_less (ls' := [some (.ref b0), some (.ref (s0.heap.size + (0 : Int).toNat)), some (jv_i nw), some (jv_i nc), some (jv_i np), some (jv_i ns), none, some (jv_i tu), some (jv_i nn), none, none, some (jv_i sv), some (jv_i pz), none, none, none, none]) ⟨rfl, ⟨rfl, ⟨rfl, ⟨rfl, ⟨rfl, ⟨rfl, ⟨rfl, ⟨rfl, ⟨rfl, ⟨rfl, trivial⟩⟩⟩⟩⟩⟩⟩⟩⟩⟩ (hJ1102 _ h)
  · replace h := h2_1050 hc_1050
    refine jv_iload C dL_law_1053 rfl ?_
    refine jv_iload C dL_law_1055 rfl ?_
    obtain ⟨hr_1057, h1_1057, h2_1057⟩ := h
    refine jv_icmp_gt (tgt := 1102) C hr_1057.1 hr_1057.2 dL_law_1057 rfl (fun hc_1057 => ?_) (fun hc_1057 => ?_)
    · replace h := h1_1057 hc_1057
      refine jv_wd (k := cb + 2) (n := sb + 12) (Nat.ble_eq_true_of_le (by omega)) (Nat.ble_eq_true_of_le (by omega)) ?_
      exact jv_less (ls' := [some (.ref b0), some (.ref (s0.heap.size + (0 : Int).toNat)), some (jv_i nw), some (jv_i nc), some (jv_i np), some (jv_i ns), none, some (jv_i tu), some (jv_i nn), none, none, some (jv_i sv), some (jv_i pz), none, none, none, none]) ⟨rfl, ⟨rfl, ⟨rfl, ⟨rfl, ⟨rfl, ⟨rfl, ⟨rfl, ⟨rfl, ⟨rfl, ⟨rfl, trivial⟩⟩⟩⟩⟩⟩⟩⟩⟩⟩ (hJ1102 _ h)
    · replace h := h2_1057 hc_1057
      refine jv_aload_n C dL_law_1060 rfl ?_
      refine jv_iload C dL_law_1061 rfl ?_
      refine jv_callVi C (M_X8_coins h) kw_L_63 sS_0 rfl rfl ⟨rfl, rfl⟩ (st := []) rfl rfl ⟨Nat.ble_eq_true_of_le (by show _ ≤ 600104; omega), Nat.ble_eq_true_of_le (by show _ ≤ 7301314; omega)⟩ dL_law_1063 (fun r_1063 g_1063 h => ?_)
      refine jv_iload C dL_law_1066 rfl ?_
      obtain ⟨hr_1068, h1_1068, h2_1068⟩ := h
      refine jv_icmp_lt (tgt := 1102) C hr_1068.1 hr_1068.2 dL_law_1068 rfl (fun hc_1068 => ?_) (fun hc_1068 => ?_)
      · replace h := h1_1068 hc_1068
        refine jv_wd (k := cb + 2) (n := sb + 12) (Nat.ble_eq_true_of_le (by omega)) (Nat.ble_eq_true_of_le (by omega)) ?_
        exact jv_less (ls' := [some (.ref b0), some (.ref (s0.heap.size + (0 : Int).toNat)), some (jv_i nw), some (jv_i nc), some (jv_i np), some (jv_i ns), none, some (jv_i tu), some (jv_i nn), none, none, some (jv_i sv), some (jv_i pz), none, none, none, none]) ⟨rfl, ⟨rfl, ⟨rfl, ⟨rfl, ⟨rfl, ⟨rfl, ⟨rfl, ⟨rfl, ⟨rfl, ⟨rfl, trivial⟩⟩⟩⟩⟩⟩⟩⟩⟩⟩ (hJ1102 _ h)
      · replace h := h2_1068 hc_1068
        refine jv_aload_n C dL_law_1071 rfl ?_
        refine jv_iload C dL_law_1072 rfl ?_
        refine jv_iload C dL_law_1074 rfl ?_
        refine jv_bipush C dL_law_1076 (by decide +kernel) ?_
        refine jv_callSi C (M_L_low h) kw_L_52 rfl ⟨rfl, rfl⟩ (st := [jv_i pz, .ref (s0.heap.size + (0 : Int).toNat)]) rfl rfl ⟨Nat.ble_eq_true_of_le (by show _ ≤ 600104; omega), Nat.ble_eq_true_of_le (by show _ ≤ 7301314; omega)⟩ dL_law_1078 (fun r_1078 g_1078 h => ?_)
        refine jv_callSWi C (M_L_judge hT h) kw_L_150 rfl ⟨rfl, rfl⟩ (st := []) rfl rfl ⟨Nat.ble_eq_true_of_le (by show _ ≤ 600104; omega), Nat.ble_eq_true_of_le (by show _ ≤ 7301314; omega)⟩ dL_law_1081 (fun r_1081 g_1081 h => ?_)
        refine jv_bipush C dL_law_1084 (by decide +kernel) ?_
        obtain ⟨hr_1086, h1_1086, h2_1086⟩ := h
        refine jv_icmp_ne (tgt := 1102) C hr_1086 ⟨by decide, by decide⟩ dL_law_1086 rfl (fun hc_1086 => ?_) (fun hc_1086 => ?_)
        · replace h := h1_1086 hc_1086
          refine jv_wd (k := cb + 2) (n := sb + 12) (Nat.ble_eq_true_of_le (by omega)) (Nat.ble_eq_true_of_le (by omega)) ?_
          exact jv_less (ls' := [some (.ref b0), some (.ref (s0.heap.size + (0 : Int).toNat)), some (jv_i nw), some (jv_i nc), some (jv_i np), some (jv_i ns), none, some (jv_i tu), some (jv_i nn), none, none, some (jv_i sv), some (jv_i pz), none, none, none, none]) ⟨rfl, ⟨rfl, ⟨rfl, ⟨rfl, ⟨rfl, ⟨rfl, ⟨rfl, ⟨rfl, ⟨rfl, ⟨rfl, trivial⟩⟩⟩⟩⟩⟩⟩⟩⟩⟩ (hJ1102 _ h)
        · replace h := h2_1086 hc_1086
          refine jv_aload_n C dL_law_1089 rfl ?_
          refine jv_iload C dL_law_1090 rfl ?_
          refine jv_callVi C (M_X8_open h) kw_L_126 sS_0 rfl rfl ⟨rfl, rfl⟩ (st := []) rfl rfl ⟨Nat.ble_eq_true_of_le (by show _ ≤ 600104; omega), Nat.ble_eq_true_of_le (by show _ ≤ 7301314; omega)⟩ dL_law_1092 (fun r_1092 g_1092 h => ?_)
          obtain ⟨hr_1095, h1_1095, h2_1095⟩ := h
          refine jv_if_le (tgt := 1102) C hr_1095 dL_law_1095 rfl (fun hc_1095 => ?_) (fun hc_1095 => ?_)
          · replace h := h1_1095 hc_1095
            refine jv_wd (k := cb + 2) (n := sb + 12) (Nat.ble_eq_true_of_le (by omega)) (Nat.ble_eq_true_of_le (by omega)) ?_
            exact jv_less (ls' := [some (.ref b0), some (.ref (s0.heap.size + (0 : Int).toNat)), some (jv_i nw), some (jv_i nc), some (jv_i np), some (jv_i ns), none, some (jv_i tu), some (jv_i nn), none, none, some (jv_i sv), some (jv_i pz), none, none, none, none]) ⟨rfl, ⟨rfl, ⟨rfl, ⟨rfl, ⟨rfl, ⟨rfl, ⟨rfl, ⟨rfl, ⟨rfl, ⟨rfl, trivial⟩⟩⟩⟩⟩⟩⟩⟩⟩⟩ (hJ1102 _ h)
          · replace h := h2_1095 hc_1095
            refine jv_const C dL_law_1098 ?_
            refine jv_goto (tgt := 1103) C dL_law_1099 rfl ?_
            refine jv_wd (k := cb + 2) (n := sb + 12) (Nat.ble_eq_true_of_le (by omega)) (Nat.ble_eq_true_of_le (by omega)) ?_
            exact jv_less (ls' := [some (.ref b0), some (.ref (s0.heap.size + (0 : Int).toNat)), some (jv_i nw), some (jv_i nc), some (jv_i np), some (jv_i ns), none, some (jv_i tu), some (jv_i nn), none, none, some (jv_i sv), some (jv_i pz), none, none, none, none]) ⟨rfl, ⟨rfl, ⟨rfl, ⟨rfl, ⟨rfl, ⟨rfl, ⟨rfl, ⟨rfl, ⟨rfl, ⟨rfl, trivial⟩⟩⟩⟩⟩⟩⟩⟩⟩⟩ (hJ1103 _ _ h)
