def wB_LT_8_54 (KU74 : Int → Int → Int → Int → Int → Int → Int → jv_Mem → Prop) (y0_54 : Int) (gj_54 : jv_Mem) : Prop :=
  (wp_L_cell 0 (fun (r_60 : Int) (g_60 : jv_Mem) => (wp_L_low r_60 55 (fun (r_65 : Int) (g_65 : jv_Mem) => (∀ v7_69 : Int, v7_69 = 6 + r_65 → KU74 0 0 0 0 y0_54 v7_69 0 g_65)) g_60)) gj_54)
def wB_LT_8_53 (KU74 : Int → Int → Int → Int → Int → Int → Int → jv_Mem → Prop) (gj_53 : jv_Mem) : Prop :=
  wB_LT_8_54 KU74 0 gj_53
def wp_LT_8 (KU74 : Int → Int → Int → Int → Int → Int → Int → jv_Mem → Prop) (g : jv_Mem) : Prop :=
  (wp_L_solvers 0 (fun (r_20 : Int) (g_20 : jv_Mem) => ((jv_r r_20) ∧ (r_20 = 0 → wB_LT_8_53 KU74 g_20) ∧ (¬ r_20 = 0 → (wp_L_fill (fun (r_27 : Int) (g_27 : jv_Mem) => ((jv_r r_27) ∧ (r_27 = 0 → wB_LT_8_53 KU74 g_27) ∧ (¬ r_27 = 0 → (wp_X8_wordAt 0 (fun (r_35 : Int) (g_35 : jv_Mem) => ((jv_r r_35) ∧ (¬ r_35 = ((-1)) → wB_LT_8_53 KU74 g_35) ∧ (r_35 = ((-1)) → (wp_X8_beginning (fun (r_43 : Int) (g_43 : jv_Mem) => ((jv_r r_43) ∧ (¬ r_43 = 0 → wB_LT_8_53 KU74 g_43) ∧ (r_43 = 0 → wB_LT_8_54 KU74 1 g_43))) g_35)))) g_27)))) g_20)))) g)
set_option maxHeartbeats 4000000 in
set_option maxRecDepth 100000 in
theorem LT_8 {p : Program} {l : Launch} {e : Env} {m : MethodId} {below : List Frame} {meth : Method} {c : Code} {s0 : State} {b0 : Addr} {D : va_G} {ids : Nat → ClassId} {L : Nat} {xs : Nat → Int32} (hT : jv_T l s0 b0) (C : jv_C p s0 m #[Value.ref b0] c code RL s0 b0 D ids) (hml : 17 = c.maxLocals) (hr : meth.sig.returnType = ret) (hlk : meth.locks = false) (hX : va_X b0 L xs s0 s0.heap) (hbl : b0 < s0.heap.size) (hL : L ≤ 260) {cb sb : Nat} (hcb : cb ≤ 590000) (hsb : sb ≤ 7200000) {KU74 : Int → Int → Int → Int → Int → Int → Int → jv_Mem → Prop} (hU74 : ∀ (nw nc np ns ii tu nn : Int) (g : jv_Mem), KU74 nw nc np ns ii tu nn g → jv_V p l e room_1 s0 m #[Value.ref b0] below meth c (cb + 0) (sb + 0) (lw_Z below #[Value.ref b0] s0) s0 D ids none jv_SH g 74 [some (.ref b0), some (.ref (s0.heap.size + (0 : Int).toNat)), some (jv_i nw), some (jv_i nc), some (jv_i np), some (jv_i ns), some (jv_i ii), some (jv_i tu), some (jv_i nn), none, none, none, none, none, none, none, none] []) {g : jv_Mem} (h : wp_LT_8 KU74 g) : jv_V p l e room_1 s0 m #[Value.ref b0] below meth c (cb + 0) (sb + 0) (lw_Z below #[Value.ref b0] s0) s0 D ids none jv_SH g 8 [some (.ref b0), some (.ref (s0.heap.size + (0 : Int).toNat)), none, none, none, none, none, none, none, none, none, none, none, none, none, none, none] [] := by
  unfold wp_LT_8 at h
  refine jv_const C dL_law_8 ?_
  refine jv_istore_n (ls' := [some (.ref b0), some (.ref (s0.heap.size + (0 : Int).toNat)), some (jv_i 0), none, none, none, none, none, none, none, none, none, none, none, none, none, none]) C dL_law_9 (Nat.lt_of_lt_of_eq (Nat.le_of_ble_eq_true rfl) hml) rfl ?_
  refine jv_const C dL_law_10 ?_
  refine jv_istore_n (ls' := [some (.ref b0), some (.ref (s0.heap.size + (0 : Int).toNat)), some (jv_i 0), some (jv_i 0), none, none, none, none, none, none, none, none, none, none, none, none, none]) C dL_law_11 (Nat.lt_of_lt_of_eq (Nat.le_of_ble_eq_true rfl) hml) rfl ?_
  refine jv_const C dL_law_12 ?_
  refine jv_istore (ls' := [some (.ref b0), some (.ref (s0.heap.size + (0 : Int).toNat)), some (jv_i 0), some (jv_i 0), some (jv_i 0), none, none, none, none, none, none, none, none, none, none, none, none]) C dL_law_13 (Nat.lt_of_lt_of_eq (Nat.le_of_ble_eq_true rfl) hml) rfl ?_
  refine jv_const C dL_law_15 ?_
  refine jv_istore (ls' := [some (.ref b0), some (.ref (s0.heap.size + (0 : Int).toNat)), some (jv_i 0), some (jv_i 0), some (jv_i 0), some (jv_i 0), none, none, none, none, none, none, none, none, none, none, none]) C dL_law_16 (Nat.lt_of_lt_of_eq (Nat.le_of_ble_eq_true rfl) hml) rfl ?_
  refine jv_aload_n C dL_law_18 rfl ?_
  refine jv_const C dL_law_19 ?_
  refine jv_callSi C (M_L_solvers h) kw_L_83 rfl ⟨rfl, rfl⟩ (st := []) rfl rfl ⟨Nat.ble_eq_true_of_le (by show _ ≤ 600104; omega), Nat.ble_eq_true_of_le (by show _ ≤ 7301314; omega)⟩ dL_law_20 (fun r_20 g_20 h => ?_)
  have hJ54 : ∀ (y0_54 : Int) (gj_54 : jv_Mem), wB_LT_8_54 KU74 y0_54 gj_54 → jv_V p l e room_1 s0 m #[Value.ref b0] below meth c (cb + 0) (sb + 0) (lw_Z below #[Value.ref b0] s0) s0 D ids none jv_SH gj_54 54 [some (.ref b0), some (.ref (s0.heap.size + (0 : Int).toNat)), some (jv_i 0), some (jv_i 0), some (jv_i 0), some (jv_i 0), none, none, none, none, none, none, none, none, none, none, none] [jv_i y0_54] := by
    intro y0_54 gj_54 h
    unfold wB_LT_8_54 at h
    refine jv_istore (ls' := [some (.ref b0), some (.ref (s0.heap.size + (0 : Int).toNat)), some (jv_i 0), some (jv_i 0), some (jv_i 0), some (jv_i 0), some (jv_i y0_54), none, none, none, none, none, none, none, none, none, none]) C dL_law_54 (Nat.lt_of_lt_of_eq (Nat.le_of_ble_eq_true rfl) hml) rfl ?_
    refine jv_bipush C dL_law_56 (by decide +kernel) ?_
    refine jv_aload_n C dL_law_58 rfl ?_
    refine jv_const C dL_law_59 ?_
    refine jv_callSi C (M_L_cell hX hbl hL h) kw_L_94 rfl ⟨rfl, rfl⟩ (st := [jv_i 6]) rfl rfl ⟨Nat.ble_eq_true_of_le (by show _ ≤ 600104; omega), Nat.ble_eq_true_of_le (by show _ ≤ 7301314; omega)⟩ dL_law_60 (fun r_60 g_60 h => ?_)
    refine jv_bipush C dL_law_63 (by decide +kernel) ?_
    refine jv_callSi C (M_L_low h) kw_L_52 rfl ⟨rfl, rfl⟩ (st := [jv_i 6]) rfl rfl ⟨Nat.ble_eq_true_of_le (by show _ ≤ 600104; omega), Nat.ble_eq_true_of_le (by show _ ≤ 7301314; omega)⟩ dL_law_65 (fun r_65 g_65 h => ?_)
    refine jv_iadd C dL_law_68 ?_
    refine jv_top (fun v7_69 ev7_69 => ?_)
    replace h := h v7_69 ev7_69
    refine jv_istore (ls' := [some (.ref b0), some (.ref (s0.heap.size + (0 : Int).toNat)), some (jv_i 0), some (jv_i 0), some (jv_i 0), some (jv_i 0), some (jv_i y0_54), some (jv_i v7_69), none, none, none, none, none, none, none, none, none]) C dL_law_69 (Nat.lt_of_lt_of_eq (Nat.le_of_ble_eq_true rfl) hml) rfl ?_
    refine jv_const C dL_law_71 ?_
    refine jv_istore (ls' := [some (.ref b0), some (.ref (s0.heap.size + (0 : Int).toNat)), some (jv_i 0), some (jv_i 0), some (jv_i 0), some (jv_i 0), some (jv_i y0_54), some (jv_i v7_69), some (jv_i 0), none, none, none, none, none, none, none, none]) C dL_law_72 (Nat.lt_of_lt_of_eq (Nat.le_of_ble_eq_true rfl) hml) rfl ?_
    refine jv_wd (k := cb + 0) (n := sb + 0) (Nat.ble_eq_true_of_le (by omega)) (Nat.ble_eq_true_of_le (by omega)) ?_
    exact jv_less (ls' := [some (.ref b0), some (.ref (s0.heap.size + (0 : Int).toNat)), some (jv_i 0), some (jv_i 0), some (jv_i 0), some (jv_i 0), some (jv_i y0_54), some (jv_i v7_69), some (jv_i 0), none, none, none, none, none, none, none, none]) ⟨rfl, ⟨rfl, ⟨rfl, ⟨rfl, ⟨rfl, ⟨rfl, ⟨rfl, ⟨rfl, ⟨rfl, trivial⟩⟩⟩⟩⟩⟩⟩⟩⟩ (hU74 _ _ _ _ _ _ _ _ h)
  have hJ53 : ∀ (gj_53 : jv_Mem), wB_LT_8_53 KU74 gj_53 → jv_V p l e room_1 s0 m #[Value.ref b0] below meth c (cb + 0) (sb + 0) (lw_Z below #[Value.ref b0] s0) s0 D ids none jv_SH gj_53 53 [some (.ref b0), some (.ref (s0.heap.size + (0 : Int).toNat)), some (jv_i 0), some (jv_i 0), some (jv_i 0), some (jv_i 0), none, none, none, none, none, none, none, none, none, none, none] [] := by
    intro gj_53 h
    unfold wB_LT_8_53 at h
    refine jv_const C dL_law_53 ?_
    refine jv_wd (k := cb + 0) (n := sb + 0) (Nat.ble_eq_true_of_le (by omega)) (Nat.ble_eq_true_of_le (by omega)) ?_
    exact jv_less (ls' := [some (.ref b0), some (.ref (s0.heap.size + (0 : Int).toNat)), some (jv_i 0), some (jv_i 0), some (jv_i 0), some (jv_i 0), none, none, none, none, none, none, none, none, none, none, none]) ⟨rfl, ⟨rfl, ⟨rfl, ⟨rfl, ⟨rfl, ⟨rfl, trivial⟩⟩⟩⟩⟩⟩ (hJ54 _ _ h)
  obtain ⟨hr_23, h1_23, h2_23⟩ := h
  refine jv_if_eq (tgt := 53) C hr_23 dL_law_23 rfl (fun hc_23 => ?_) (fun hc_23 => ?_)
  · replace h := h1_23 hc_23
    refine jv_wd (k := cb + 0) (n := sb + 0) (Nat.ble_eq_true_of_le (by omega)) (Nat.ble_eq_true_of_le (by omega)) ?_
    exact jv_less (ls' := [some (.ref b0), some (.ref (s0.heap.size + (0 : Int).toNat)), some (jv_i 0), some (jv_i 0), some (jv_i 0), some (jv_i 0), none, none, none, none, none, none, none, none, none, none, none]) ⟨rfl, ⟨rfl, ⟨rfl, ⟨rfl, ⟨rfl, ⟨rfl, trivial⟩⟩⟩⟩⟩⟩ (hJ53 _ h)
  · replace h := h2_23 hc_23
    refine jv_aload_n C dL_law_26 rfl ?_
    refine jv_callSi C (M_L_fill h) kw_L_87 rfl ⟨rfl, rfl⟩ (st := []) rfl rfl ⟨Nat.ble_eq_true_of_le (by show _ ≤ 600104; omega), Nat.ble_eq_true_of_le (by show _ ≤ 7301314; omega)⟩ dL_law_27 (fun r_27 g_27 h => ?_)
    obtain ⟨hr_30, h1_30, h2_30⟩ := h
    refine jv_if_eq (tgt := 53) C hr_30 dL_law_30 rfl (fun hc_30 => ?_) (fun hc_30 => ?_)
    · replace h := h1_30 hc_30
      refine jv_wd (k := cb + 0) (n := sb + 0) (Nat.ble_eq_true_of_le (by omega)) (Nat.ble_eq_true_of_le (by omega)) ?_
      exact jv_less (ls' := [some (.ref b0), some (.ref (s0.heap.size + (0 : Int).toNat)), some (jv_i 0), some (jv_i 0), some (jv_i 0), some (jv_i 0), none, none, none, none, none, none, none, none, none, none, none]) ⟨rfl, ⟨rfl, ⟨rfl, ⟨rfl, ⟨rfl, ⟨rfl, trivial⟩⟩⟩⟩⟩⟩ (hJ53 _ h)
    · replace h := h2_30 hc_30
      refine jv_aload_n C dL_law_33 rfl ?_
      refine jv_const C dL_law_34 ?_
      refine jv_callVi C (M_X8_wordAt h) kw_L_91 sS_0 rfl rfl ⟨rfl, rfl⟩ (st := []) rfl rfl ⟨Nat.ble_eq_true_of_le (by show _ ≤ 600104; omega), Nat.ble_eq_true_of_le (by show _ ≤ 7301314; omega)⟩ dL_law_35 (fun r_35 g_35 h => ?_)
      refine jv_const C dL_law_38 ?_
      obtain ⟨hr_39, h1_39, h2_39⟩ := h
      refine jv_icmp_ne (tgt := 53) C hr_39 ⟨by decide, by decide⟩ dL_law_39 rfl (fun hc_39 => ?_) (fun hc_39 => ?_)
      · replace h := h1_39 hc_39
        refine jv_wd (k := cb + 0) (n := sb + 0) (Nat.ble_eq_true_of_le (by omega)) (Nat.ble_eq_true_of_le (by omega)) ?_
        exact jv_less (ls' := [some (.ref b0), some (.ref (s0.heap.size + (0 : Int).toNat)), some (jv_i 0), some (jv_i 0), some (jv_i 0), some (jv_i 0), none, none, none, none, none, none, none, none, none, none, none]) ⟨rfl, ⟨rfl, ⟨rfl, ⟨rfl, ⟨rfl, ⟨rfl, trivial⟩⟩⟩⟩⟩⟩ (hJ53 _ h)
      · replace h := h2_39 hc_39
        refine jv_aload_n C dL_law_42 rfl ?_
        refine jv_callVi C (M_X8_beginning h) kw_L_79 sS_0 rfl rfl ⟨rfl, rfl⟩ (st := []) rfl rfl ⟨Nat.ble_eq_true_of_le (by show _ ≤ 600104; omega), Nat.ble_eq_true_of_le (by show _ ≤ 7301314; omega)⟩ dL_law_43 (fun r_43 g_43 h => ?_)
        obtain ⟨hr_46, h1_46, h2_46⟩ := h
        refine jv_if_ne (tgt := 53) C hr_46 dL_law_46 rfl (fun hc_46 => ?_) (fun hc_46 => ?_)
        · replace h := h1_46 hc_46
          refine jv_wd (k := cb + 0) (n := sb + 0) (Nat.ble_eq_true_of_le (by omega)) (Nat.ble_eq_true_of_le (by omega)) ?_
          exact jv_less (ls' := [some (.ref b0), some (.ref (s0.heap.size + (0 : Int).toNat)), some (jv_i 0), some (jv_i 0), some (jv_i 0), some (jv_i 0), none, none, none, none, none, none, none, none, none, none, none]) ⟨rfl, ⟨rfl, ⟨rfl, ⟨rfl, ⟨rfl, ⟨rfl, trivial⟩⟩⟩⟩⟩⟩ (hJ53 _ h)
        · replace h := h2_46 hc_46
          refine jv_const C dL_law_49 ?_
          refine jv_goto (tgt := 54) C dL_law_50 rfl ?_
          refine jv_wd (k := cb + 0) (n := sb + 0) (Nat.ble_eq_true_of_le (by omega)) (Nat.ble_eq_true_of_le (by omega)) ?_
          exact jv_less (ls' := [some (.ref b0), some (.ref (s0.heap.size + (0 : Int).toNat)), some (jv_i 0), some (jv_i 0), some (jv_i 0), some (jv_i 0), none, none, none, none, none, none, none, none, none, none, none]) ⟨rfl, ⟨rfl, ⟨rfl, ⟨rfl, ⟨rfl, ⟨rfl, trivial⟩⟩⟩⟩⟩⟩ (hJ54 _ _ h)
