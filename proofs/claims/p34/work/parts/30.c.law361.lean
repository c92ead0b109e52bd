def wB_LT_361_426 (nw : Int) (nc : Int) (np : Int) (ns : Int) (tu : Int) (nn : Int) (sv : Int) (pz : Int) (KU1105 : Int → Int → Int → Int → Int → Int → Int → Int → Int → jv_Mem → Prop) (y0_426 : Int) (gj_426 : jv_Mem) : Prop :=
  KU1105 nw nc np ns y0_426 tu nn sv pz gj_426
def wB_LT_361_425 (nw : Int) (nc : Int) (np : Int) (ns : Int) (tu : Int) (nn : Int) (sv : Int) (pz : Int) (KU1105 : Int → Int → Int → Int → Int → Int → Int → Int → Int → jv_Mem → Prop) (gj_425 : jv_Mem) : Prop :=
  wB_LT_361_426 nw nc np ns tu nn sv pz KU1105 0 gj_425
def wp_LT_361 (KU431 : Int → Int → Int → Int → Int → Int → Int → Int → Int → Int → Int → jv_Mem → Prop) (KU1105 : Int → Int → Int → Int → Int → Int → Int → Int → Int → jv_Mem → Prop) (nw nc np ns tu nn vv wd sv pz so : Int) (g : jv_Mem) : Prop :=
  ((jv_r so) ∧ (6 ≤ so → KU431 nw nc np ns tu nn vv wd sv pz so g) ∧ (so < 6 → (wp_L_low (jv_shr vv 9) 100 (fun (r_375 : Int) (g_375 : jv_Mem) => (wp_X8_setWeight wd r_375 (fun (r_385 : Int) (g_385 : jv_Mem) => (∃ gG_385 : jv_Mem, jv_sm g_385 gG_385 ∧ (wp_X8_setWeight wd r_375 (fun (r_394 : Int) (g_394 : jv_Mem) => (∃ gG_394 : jv_Mem, jv_sm g_394 gG_394 ∧ ((jv_r r_394 ∧ jv_r r_375) ∧ (¬ r_394 = r_375 → wB_LT_361_425 nw nc np ns tu nn sv pz KU1105 gG_394) ∧ (r_394 = r_375 → (wp_X8_wordAt nw (fun (r_404 : Int) (g_404 : jv_Mem) => ((jv_r r_404) ∧ (¬ r_404 = ((-1)) → wB_LT_361_425 nw nc np ns tu nn sv pz KU1105 g_404) ∧ (r_404 = ((-1)) → (wp_X8_wordAt (nw - 1) (fun (r_415 : Int) (g_415 : jv_Mem) => ((jv_r r_415) ∧ (r_415 < 0 → wB_LT_361_425 nw nc np ns tu nn sv pz KU1105 g_415) ∧ (0 ≤ r_415 → wB_LT_361_426 nw nc np ns tu nn sv pz KU1105 1 g_415))) g_404)))) gG_394))))) gG_385))) g_375)) g)))
set_option maxHeartbeats 4000000 in
set_option maxRecDepth 100000 in
theorem LT_361 {p : Program} {l : Launch} {e : Env} {m : MethodId} {below : List Frame} {meth : Method} {c : Code} {s0 : State} {b0 : Addr} {D : va_G} {ids : Nat → ClassId} {L : Nat} {xs : Nat → Int32} (hT : jv_T l s0 b0) (C : jv_C p s0 m #[Value.ref b0] c code RL s0 b0 D ids) (hml : 17 = c.maxLocals) (hr : meth.sig.returnType = ret) (hlk : meth.locks = false) (hX : va_X b0 L xs s0 s0.heap) (hbl : b0 < s0.heap.size) (hL : L ≤ 260) {cb sb : Nat} (hcb : cb ≤ 590000) (hsb : sb ≤ 7200000) {KU431 : Int → Int → Int → Int → Int → Int → Int → Int → Int → Int → Int → jv_Mem → Prop} {KU1105 : Int → Int → Int → Int → Int → Int → Int → Int → Int → jv_Mem → Prop} (hU431 : ∀ (nw nc np ns tu nn vv wd sv pz so : Int) (g : jv_Mem), KU431 nw nc np ns tu nn vv wd sv pz so g → jv_V p l e room_1 s0 m #[Value.ref b0] below meth c (cb + 0) (sb + 0) (lw_Z below #[Value.ref b0] s0) s0 D ids none jv_SH g 431 [some (.ref b0), some (.ref (s0.heap.size + (0 : Int).toNat)), some (jv_i nw), some (jv_i nc), some (jv_i np), some (jv_i ns), none, some (jv_i tu), some (jv_i nn), some (jv_i vv), some (jv_i wd), some (jv_i sv), some (jv_i pz), some (jv_i so), none, none, none] []) (hU1105 : ∀ (nw nc np ns ii tu nn sv pz : Int) (g : jv_Mem), KU1105 nw nc np ns ii tu nn sv pz g → jv_V p l e room_1 s0 m #[Value.ref b0] below meth c (cb + 4) (sb + 24) (lw_Z below #[Value.ref b0] s0) s0 D ids none jv_SH g 1105 [some (.ref b0), some (.ref (s0.heap.size + (0 : Int).toNat)), some (jv_i nw), some (jv_i nc), some (jv_i np), some (jv_i ns), some (jv_i ii), some (jv_i tu), some (jv_i nn), none, none, some (jv_i sv), some (jv_i pz), none, none, none, none] []) {nw nc np ns tu nn vv wd sv pz so : Int} {g : jv_Mem} (h : wp_LT_361 KU431 KU1105 nw nc np ns tu nn vv wd sv pz so g) : jv_V p l e room_1 s0 m #[Value.ref b0] below meth c (cb + 0) (sb + 0) (lw_Z below #[Value.ref b0] s0) s0 D ids none jv_SH g 361 [some (.ref b0), some (.ref (s0.heap.size + (0 : Int).toNat)), some (jv_i nw), some (jv_i nc), some (jv_i np), some (jv_i ns), none, some (jv_i tu), some (jv_i nn), some (jv_i vv), some (jv_i wd), some (jv_i sv), some (jv_i pz), some (jv_i so), none, none, none] [] := by
  unfold wp_LT_361 at h
  refine jv_iload C dL_law_361 rfl ?_
  refine jv_bipush C dL_law_363 (by decide +kernel) ?_
  obtain ⟨hr_365, h1_365, h2_365⟩ := h
  refine jv_icmp_ge (tgt := 431) C hr_365 ⟨by decide, by decide⟩ dL_law_365 rfl (fun hc_365 => ?_) (fun hc_365 => ?_)
  · replace h := h1_365 hc_365
    refine jv_wd (k := cb + 0) (n := sb + 0) (Nat.ble_eq_true_of_le (by omega)) (Nat.ble_eq_true_of_le (by omega)) ?_
    exact jv_less (ls' := [some (.ref b0), some (.ref (s0.heap.size + (0 : Int).toNat)), some (jv_i nw), some (jv_i nc), some (jv_i np), some (jv_i ns), none, some (jv_i tu), some (jv_i nn), some (jv_i vv), some (jv_i wd), some (jv_i sv), some (jv_i pz), some (jv_i so), none, none, none]) ⟨rfl, ⟨rfl, ⟨rfl, ⟨rfl, ⟨rfl, ⟨rfl, ⟨rfl, ⟨rfl, ⟨rfl, ⟨rfl, ⟨rfl, ⟨rfl, ⟨rfl, trivial⟩⟩⟩⟩⟩⟩⟩⟩⟩⟩⟩⟩⟩ (hU431 _ _ _ _ _ _ _ _ _ _ _ _ h)
  · replace h := h2_365 hc_365
    refine jv_iload C dL_law_368 rfl ?_
    refine jv_bipush C dL_law_370 (by decide +kernel) ?_
    refine jv_ishr C dL_law_372 ?_
    refine jv_bipush C dL_law_373 (by decide +kernel) ?_
    refine jv_callSi C (M_L_low h) kw_L_52 rfl ⟨rfl, rfl⟩ (st := []) rfl rfl ⟨Nat.ble_eq_true_of_le (by show _ ≤ 600104; omega), Nat.ble_eq_true_of_le (by show _ ≤ 7301314; omega)⟩ dL_law_375 (fun r_375 g_375 h => ?_)
    refine jv_istore (ls' := [some (.ref b0), some (.ref (s0.heap.size + (0 : Int).toNat)), some (jv_i nw), some (jv_i nc), some (jv_i np), some (jv_i ns), none, some (jv_i tu), some (jv_i nn), some (jv_i vv), some (jv_i wd), some (jv_i sv), some (jv_i pz), some (jv_i so), some (jv_i r_375), none, none]) C dL_law_378 (Nat.lt_of_lt_of_eq (Nat.le_of_ble_eq_true rfl) hml) rfl ?_
    refine jv_aload_n C dL_law_380 rfl ?_
    refine jv_iload C dL_law_381 rfl ?_
    refine jv_iload C dL_law_383 rfl ?_
    refine jv_callVi C (M_X8_setWeight h) kw_L_109 sS_0 rfl rfl ⟨rfl, rfl⟩ (st := []) rfl rfl ⟨Nat.ble_eq_true_of_le (by show _ ≤ 600104; omega), Nat.ble_eq_true_of_le (by show _ ≤ 7301314; omega)⟩ dL_law_385 (fun r_385 g_385 h => ?_)
    obtain ⟨gG_385, hG_385, h⟩ := h
    refine jv_gh hG_385 ?_
    refine jv_pop C rfl dL_law_388 ?_
    refine jv_aload_n C dL_law_389 rfl ?_
    refine jv_iload C dL_law_390 rfl ?_
    refine jv_iload C dL_law_392 rfl ?_
    refine jv_callVi C (M_X8_setWeight h) kw_L_109 sS_0 rfl rfl ⟨rfl, rfl⟩ (st := []) rfl rfl ⟨Nat.ble_eq_true_of_le (by show _ ≤ 600104; omega), Nat.ble_eq_true_of_le (by show _ ≤ 7301314; omega)⟩ dL_law_394 (fun r_394 g_394 h => ?_)
    obtain ⟨gG_394, hG_394, h⟩ := h
    refine jv_gh hG_394 ?_
    refine jv_iload C dL_law_397 rfl ?_
    have hJ426 : ∀ (y0_426 : Int) (gj_426 : jv_Mem), wB_LT_361_426 nw nc np ns tu nn sv pz KU1105 y0_426 gj_426 → jv_V p l e room_1 s0 m #[Value.ref b0] below meth c (cb + 0) (sb + 0) (lw_Z below #[Value.ref b0] s0) s0 D ids none jv_SH gj_426 426 [some (.ref b0), some (.ref (s0.heap.size + (0 : Int).toNat)), some (jv_i nw), some (jv_i nc), some (jv_i np), some (jv_i ns), none, some (jv_i tu), some (jv_i nn), none, none, some (jv_i sv), some (jv_i pz), none, none, none, none] [jv_i y0_426] := by
      intro y0_426 gj_426 h
      unfold wB_LT_361_426 at h
      refine jv_istore (ls' := [some (.ref b0), some (.ref (s0.heap.size + (0 : Int).toNat)), some (jv_i nw), some (jv_i nc), some (jv_i np), some (jv_i ns), some (jv_i y0_426), some (jv_i tu), some (jv_i nn), none, none, some (jv_i sv), some (jv_i pz), none, none, none, none]) C dL_law_426 (Nat.lt_of_lt_of_eq (Nat.le_of_ble_eq_true rfl) hml) rfl ?_
      refine jv_goto (tgt := 1105) C dL_law_428 rfl ?_
      refine jv_wd (k := cb + 4) (n := sb + 24) (Nat.ble_eq_true_of_le (by omega)) (Nat.ble_eq_true_of_le (by omega)) ?_
      exact jv_less (ls' := [some (.ref b0), some (.ref (s0.heap.size + (0 : Int).toNat)), some (jv_i nw), some (jv_i nc), some (jv_i np), some (jv_i ns), some (jv_i y0_426), some (jv_i tu), some (jv_i nn), none, none, some (jv_i sv), some (jv_i pz), none, none, none, none]) ⟨rfl, ⟨rfl, ⟨rfl, ⟨rfl, ⟨rfl, ⟨rfl, ⟨rfl, ⟨rfl, ⟨rfl, ⟨rfl, ⟨rfl, trivial⟩⟩⟩⟩⟩⟩⟩⟩⟩⟩⟩ (hU1105 _ _ _ _ _ _ _ _ _ _ h)
    have hJ425 : ∀ (gj_425 : jv_Mem), wB_LT_361_425 nw nc np ns tu nn sv pz KU1105 gj_425 → jv_V p l e room_1 s0 m #[Value.ref b0] below meth c (cb + 0) (sb + 0) (lw_Z below #[Value.ref b0] s0) s0 D ids none jv_SH gj_425 425 [some (.ref b0), some (.ref (s0.heap.size + (0 : Int).toNat)), some (jv_i nw), some (jv_i nc), some (jv_i np), some (jv_i ns), none, some (jv_i tu), some (jv_i nn), none, none, some (jv_i sv), some (jv_i pz), none, none, none, none] [] := by
      intro gj_425 h
      unfold wB_LT_361_425 at h
      refine jv_const C dL_law_425 ?_
      refine jv_wd (k := cb + 0) (n := sb + 0) (Nat.ble_eq_true_of_le (by omega)) (Nat.ble_eq_true_of_le (by omega)) ?_
      exact jv_less (ls' := [some (.ref b0), some (.ref (s0.heap.size + (0 : Int).toNat)), some (jv_i nw), some (jv_i nc), some (jv_i np), some (jv_i ns), none, some (jv_i tu), some (jv_i nn), none, none, some (jv_i sv), some (jv_i pz), none, none, none, none]) ⟨rfl, ⟨rfl, ⟨rfl, ⟨rfl, ⟨rfl, ⟨rfl, ⟨rfl, ⟨rfl, ⟨rfl, ⟨rfl, trivial⟩⟩⟩⟩⟩⟩⟩⟩⟩⟩ (hJ426 _ _ h)
    obtain ⟨hr_399, h1_399, h2_399⟩ := h
    refine jv_icmp_ne (tgt := 425) C hr_399.1 hr_399.2 dL_law_399 rfl (fun hc_399 => ?_) (fun hc_399 => ?_)
    · replace h := h1_399 hc_399
      refine jv_wd (k := cb + 0) (n := sb + 0) (Nat.ble_eq_true_of_le (by omega)) (Nat.ble_eq_true_of_le (by omega)) ?_
      exact jv_less (ls' := [some (.ref b0), some (.ref (s0.heap.size + (0 : Int).toNat)), some (jv_i nw), some (jv_i nc), some (jv_i np), some (jv_i ns), none, some (jv_i tu), some (jv_i nn), none, none, some (jv_i sv), some (jv_i pz), none, none, none, none]) ⟨rfl, ⟨rfl, ⟨rfl, ⟨rfl, ⟨rfl, ⟨rfl, ⟨rfl, ⟨rfl, ⟨rfl, ⟨rfl, trivial⟩⟩⟩⟩⟩⟩⟩⟩⟩⟩ (hJ425 _ h)
    · replace h := h2_399 hc_399
      refine jv_aload_n C dL_law_402 rfl ?_
      refine jv_iload_n C dL_law_403 rfl ?_
      refine jv_callVi C (M_X8_wordAt h) kw_L_91 sS_0 rfl rfl ⟨rfl, rfl⟩ (st := []) rfl rfl ⟨Nat.ble_eq_true_of_le (by show _ ≤ 600104; omega), Nat.ble_eq_true_of_le (by show _ ≤ 7301314; omega)⟩ dL_law_404 (fun r_404 g_404 h => ?_)
      refine jv_const C dL_law_407 ?_
      obtain ⟨hr_408, h1_408, h2_408⟩ := h
      refine jv_icmp_ne (tgt := 425) C hr_408 ⟨by decide, by decide⟩ dL_law_408 rfl (fun hc_408 => ?_) (fun hc_408 => ?_)
      · replace h := h1_408 hc_408
        refine jv_wd (k := cb + 0) (n := sb + 0) (Nat.ble_eq_true_of_le (by omega)) (Nat.ble_eq_true_of_le (by omega)) ?_
        exact jv_less (ls' := [some (.ref b0), some (.ref (s0.heap.size + (0 : Int).toNat)), some (jv_i nw), some (jv_i nc), some (jv_i np), some (jv_i ns), none, some (jv_i tu), some (jv_i nn), none, none, some (jv_i sv), some (jv_i pz), none, none, none, none]) ⟨rfl, ⟨rfl, ⟨rfl, ⟨rfl, ⟨rfl, ⟨rfl, ⟨rfl, ⟨rfl, ⟨rfl, ⟨rfl, trivial⟩⟩⟩⟩⟩⟩⟩⟩⟩⟩ (hJ425 _ h)
      · replace h := h2_408 hc_408
        refine jv_aload_n C dL_law_411 rfl ?_
        refine jv_iload_n C dL_law_412 rfl ?_
        refine jv_const C dL_law_413 ?_
        refine jv_isub C dL_law_414 ?_
        refine jv_callVi C (M_X8_wordAt h) kw_L_91 sS_0 rfl rfl ⟨rfl, rfl⟩ (st := []) rfl rfl ⟨Nat.ble_eq_true_of_le (by show _ ≤ 600104; omega), Nat.ble_eq_true_of_le (by show _ ≤ 7301314; omega)⟩ dL_law_415 (fun r_415 g_415 h => ?_)
        obtain ⟨hr_418, h1_418, h2_418⟩ := h
        refine jv_if_lt (tgt := 425) C hr_418 dL_law_418 rfl (fun hc_418 => ?_) (fun hc_418 => ?_)
        · replace h := h1_418 hc_418
          refine jv_wd (k := cb + 0) (n := sb + 0) (Nat.ble_eq_true_of_le (by omega)) (Nat.ble_eq_true_of_le (by omega)) ?_
          exact jv_less (ls' := [some (.ref b0), some (.ref (s0.heap.size + (0 : Int).toNat)), some (jv_i nw), some (jv_i nc), some (jv_i np), some (jv_i ns), none, some (jv_i tu), some (jv_i nn), none, none, some (jv_i sv), some (jv_i pz), none, none, none, none]) ⟨rfl, ⟨rfl, ⟨rfl, ⟨rfl, ⟨rfl, ⟨rfl, ⟨rfl, ⟨rfl, ⟨rfl, ⟨rfl, trivial⟩⟩⟩⟩⟩⟩⟩⟩⟩⟩ (hJ425 _ h)
        · replace h := h2_418 hc_418
          refine jv_const C dL_law_421 ?_
          refine jv_goto (tgt := 426) C dL_law_422 rfl ?_
          refine jv_wd (k := cb + 0) (n := sb + 0) (Nat.ble_eq_true_of_le (by omega)) (Nat.ble_eq_true_of_le (by omega)) ?_
          exact jv_less (ls' := [some (.ref b0), some (.ref (s0.heap.size + (0 : Int).toNat)), some (jv_i nw), some (jv_i nc), some (jv_i np), some (jv_i ns), none, some (jv_i tu), some (jv_i nn), none, none, some (jv_i sv), some (jv_i pz), none, none, none, none]) ⟨rfl, ⟨rfl, ⟨rfl, ⟨rfl, ⟨rfl, ⟨rfl, ⟨rfl, ⟨rfl, ⟨rfl, ⟨rfl, trivial⟩⟩⟩⟩⟩⟩⟩⟩⟩⟩ (hJ426 _ _ h)
